set_option linter.unusedVariables false
set_option linter.unusedSimpArgs false
/-- one container changed, and moved, where the gaps are known -/
theorem rBelt.updF {N j : Nat} {c m c' m' : fST} (h : rBelt N c m) (jN : j < N) (h11 : ∀ i, f_gI c' 11 0 i = f_gI c 11 0 i) (hr : ∀ i, f_gR c' i = f_gR c i) (hco : ∀ k i f, 13 ≤ k → k ≤ 15 → i ≠ f_gR c j → i ≠ f_gR c j + 16 → f_gI c' k i f = f_gI c k i f) (h4 : f_gI m' 30 0 4 = f_gI m 30 0 4) (h5 : f_gI m' 30 0 5 = f_gI m 30 0 5) (hmo : ∀ x, (x < 20 * j ∨ 20 * j + 20 ≤ x) → f_gI m' 34 0 x = f_gI m 34 0 x) (row : rRow c' m' (f_gR c j) j) (ok : rOk c' (f_gR c j)) (fr : (f_gI c' 13 (f_gR c j) 4).toInt = (f_gI c 13 (f_gR c j) 4).toInt - 1) (ln : f_gI c' 13 (f_gR c j) 3 = f_gI c 13 (f_gR c j) 3) (gp : ∀ i, i + 1 = j → (f_gI c 13 (f_gR c j) 4).toInt + 4 ≤ (f_gI c 13 (f_gR c i) 4).toInt - (f_gI c 13 (f_gR c i) 3).toInt) (gn : j + 1 < N → (f_gI c 13 (f_gR c (j + 1)) 4).toInt + 5 ≤ (f_gI c 13 (f_gR c j) 4).toInt - (f_gI c 13 (f_gR c j) 3).toInt) : rBelt N c' m' := by
  have n13 := h.n13
  have jl := h.rlt j (by omega)
  have ne : ∀ i, i < N → i ≠ j → f_gR c i ≠ f_gR c j ∧ f_gR c i < 16 := fun i hi q => ⟨fun x => q (h.inj i j (by omega) (by omega) x), h.rlt i (by omega)⟩
  have e4 : ∀ i, i < N → i ≠ j → f_gI c' 13 (f_gR c i) 4 = f_gI c 13 (f_gR c i) 4 := fun i hi q => by
    have := ne i hi q; exact hco _ _ _ (by decide) (by decide) this.1 (by omega)
  have e3 : ∀ i, i < N → f_gI c' 13 (f_gR c i) 3 = f_gI c 13 (f_gR c i) 3 := fun i hi => by
    by_cases q : i = j
    · subst q; exact ln
    · have := ne i hi q; exact hco _ _ _ (by decide) (by decide) this.1 (by omega)
  refine rBelt.mk ?_ ?_ ?_ ?_ ?_ ?_ ?_ ?_ ?_
  · exact n13
  · rw [h11]; exact h.cnt
  · rw [h4]; exact h.siz
  · rw [h11, h5]; exact h.ent
  · intro i hi; rw [hr]; exact h.rlt i hi
  · intro i k hi hk e; rw [hr, hr] at e; exact h.inj i k hi hk e
  · intro i hi
    rw [hr]
    by_cases q : i = j
    · subst q; exact row
    · have := ne i hi q
      exact (h.row i hi).to (fun k p f a b x => hco k p f a b (by omega) (by omega)) (fun f hf => hmo _ (by omega)) (h.ok i hi)
  · intro i hi
    rw [hr]
    by_cases q : i = j
    · subst q; exact ok
    · have := ne i hi q
      exact (h.ok i hi).to (fun k p f a b x => hco k p f a b (by omega) (by omega))
  · intro i hi
    rw [hr, hr, e3 _ (by omega)]
    by_cases q : i = j
    · subst q
      rw [e4 _ hi (by omega), fr]
      have := gn hi
      omega
    · by_cases q2 : i + 1 = j
      · rw [e4 i (by omega) q]
        have := gp i q2
        rw [q2, fr]; omega
      · rw [e4 i (by omega) q, e4 _ hi q2]; exact h.gap i hi
theorem rRow.mvx {c m c' m' : fST} {p i j : Nat} (h : rRow c m p j) (hc : ∀ k i f, 13 ≤ k → k ≤ 15 → (i = p ∨ i = p + 16) → f_gI c' k i f = f_gI c k i f) (hm : ∀ f, f < 20 → f_gI m' 34 0 (20 * i + f) = f_gI m 34 0 (20 * j + f)) (ho : rOk c p) : rRow c' m' p i := by
  have e (k f : Nat) (h1 : 13 ≤ k) (h2 : k ≤ 15) : f_gI c' k p f = f_gI c k p f := hc k p f h1 h2 (Or.inl rfl)
  have e' (k f : Nat) (h1 : 13 ≤ k) (h2 : k ≤ 15) : f_gI c' k (p + 16) f = f_gI c k (p + 16) f := hc k _ f h1 h2 (Or.inr rfl)
  have a1 := ho.nc2
  have a2 := ho.nw2
  refine rRow.mk ?_ ?_ ?_ ?_ ?_ ?_ ?_ ?_ ?_ ?_ ?_
  · rw [e _ _ (by decide) (by decide)]; exact h.num.trans (hm 0 (by decide)).symm
  · rw [e _ _ (by decide) (by decide)]; exact h.len.trans (hm 1 (by decide)).symm
  · rw [e _ _ (by decide) (by decide)]; exact h.fro.trans (hm 2 (by decide)).symm
  · rw [e _ _ (by decide) (by decide)]; exact h.jud.trans (hm 3 (by decide)).symm
  · rw [e _ _ (by decide) (by decide)]; exact h.kin.trans (hm 4 (by decide)).symm
  · rw [e _ _ (by decide) (by decide)]; exact h.pai.trans (hm 5 (by decide)).symm
  · rw [e _ _ (by decide) (by decide)]; exact h.wei.trans (hm 6 (by decide)).symm
  · rw [e _ _ (by decide) (by decide)]; exact h.ncd.trans (hm 7 (by decide)).symm
  · rw [e' _ _ (by decide) (by decide)]; exact h.nwd.trans (hm 8 (by decide)).symm
  · intro x hx
    rw [e _ _ (by decide) (by decide)] at hx ⊢
    rw [Nat.add_assoc, hm (9 + x) (by omega), ← Nat.add_assoc]
    exact h.cds x hx
  · intro x hx
    rw [e' _ _ (by decide) (by decide)] at hx ⊢
    rw [Nat.add_assoc, hm (12 + x) (by omega), ← Nat.add_assoc]
    exact h.wds x hx
/-- the belts without the place j, whatever that container has become -/
theorem rBelt.delx {N j : Nat} {c m c' m' : fST} (h : rBelt N c m) (jN : j < N) (hc : ∀ k i f, 13 ≤ k → k ≤ 15 → i ≠ f_gR c j → i ≠ f_gR c j + 16 → f_gI c' k i f = f_gI c k i f) (h1 : f_gI c' 11 0 1 = nI (N - 1)) (h2 : f_gI c' 11 0 2 = f_gI c 11 0 2) (r1 : ∀ a, a < j → f_gR c' a = f_gR c a) (r2 : ∀ a, j ≤ a → a < N - 1 → f_gR c' a = f_gR c (a + 1)) (r3 : f_gR c' (N - 1) = f_gR c j) (r4 : ∀ a, N ≤ a → f_gR c' a = f_gR c a) (m4 : f_gI m' 30 0 4 = nI (N - 1)) (m5 : f_gI m' 30 0 5 = f_gI m 30 0 5) (s1 : ∀ x, x < 20 * j → f_gI m' 34 0 x = f_gI m 34 0 x) (s2 : ∀ x, 20 * j ≤ x → x < 20 * (N - 1) → f_gI m' 34 0 x = f_gI m 34 0 (x + 20)) : rBelt (N - 1) c' m' := by
  have n13 := h.n13
  have jl := h.rlt j (by omega)
  have ne : ∀ i, i < N → i ≠ j → f_gR c i ≠ f_gR c j ∧ f_gR c i < 16 := fun i hi q => ⟨fun x => q (h.inj i j (by omega) (by omega) x), h.rlt i (by omega)⟩
  have hx : ∀ b, b < N → b ≠ j → ∀ k i f, 13 ≤ k → k ≤ 15 → (i = f_gR c b ∨ i = f_gR c b + 16) → f_gI c' k i f = f_gI c k i f := fun b hb q k i f a1 a2 o => by
    have := ne b hb q
    exact hc k i f a1 a2 (by omega) (by omega)
  have sg : ∀ a, ∃ b, f_gR c' a = f_gR c b ∧ ((a < j ∧ b = a) ∨ (j ≤ a ∧ a < N - 1 ∧ b = a + 1) ∨ (a = N - 1 ∧ b = j) ∨ (N ≤ a ∧ b = a)) := by
    intro a
    by_cases x : a < j
    · exact ⟨a, r1 a x, Or.inl ⟨x, rfl⟩⟩
    · by_cases y : a < N - 1
      · exact ⟨a + 1, r2 a (by omega) y, Or.inr (Or.inl ⟨by omega, y, rfl⟩)⟩
      · by_cases z : a = N - 1
        · exact ⟨j, by rw [z]; exact r3, Or.inr (Or.inr (Or.inl ⟨z, rfl⟩))⟩
        · exact ⟨a, r4 a (by omega), Or.inr (Or.inr (Or.inr ⟨by omega, rfl⟩))⟩
  refine rBelt.mk ?_ ?_ ?_ ?_ ?_ ?_ ?_ ?_ ?_
  · omega
  · exact h1
  · exact m4
  · rw [h2, m5]; exact h.ent
  · intro a ha
    obtain ⟨b, e, _⟩ := sg a
    rw [e]; exact h.rlt b (by omega)
  · intro a b ha hb e
    obtain ⟨x, e1, _⟩ := sg a
    obtain ⟨y, e2, _⟩ := sg b
    rw [e1, e2] at e
    have := h.inj x y (by omega) (by omega) e
    omega
  · intro a ha
    by_cases x : a < j
    · rw [r1 a x]
      exact (h.row a (by omega)).mvx (hx a (by omega) (by omega)) (fun f hf => s1 _ (by omega)) (h.ok a (by omega))
    · rw [r2 a (by omega) ha]
      exact (h.row (a + 1) (by omega)).mvx (hx (a + 1) (by omega) (by omega)) (fun f hf => by rw [s2 _ (by omega) (by omega)]; congr 1; omega) (h.ok (a + 1) (by omega))
  · intro a ha
    by_cases x : a < j
    · rw [r1 a x]; exact (h.ok a (by omega)).to (hx a (by omega) (by omega))
    · rw [r2 a (by omega) ha]; exact (h.ok (a + 1) (by omega)).to (hx (a + 1) (by omega) (by omega))
  · intro a ha
    have e (b : Nat) (hb : b < N) (q : b ≠ j) (f : Nat) : f_gI c' 13 (f_gR c b) f = f_gI c 13 (f_gR c b) f := hx b hb q 13 _ f (by decide) (by decide) (Or.inl rfl)
    by_cases x : a + 1 < j
    · rw [r1 _ x, r1 a (by omega), e _ (by omega) (by omega), e _ (by omega) (by omega), e _ (by omega) (by omega)]; exact h.gap a (by omega)
    · rw [r2 (a + 1) (by omega) ha, e _ (by omega) (by omega)]
      by_cases y : a < j
      · rw [r1 a y, e _ (by omega) (by omega), e _ (by omega) (by omega)]
        have := h.gap a (by omega)
        have := h.gap (a + 1) (by omega)
        have := (h.ok (a + 1) (by omega)).ln1
        omega
      · rw [r2 a (by omega) (by omega), e _ (by omega) (by omega), e _ (by omega) (by omega)]; exact h.gap (a + 1) (by omega)
theorem rMon.delx {N j e : Nat} {c c' : fST} (h : rMon N e c) (jN : j < N) (hp : ∀ a, a < N → a ≠ j → f_gI c' 13 (f_gR c a) 8 = f_gI c 13 (f_gR c a) 8) (h0 : ∀ f, f ≠ 11 → f_gI c' 0 0 f = f_gI c 0 0 f) (h2 : f_gI c' 11 0 2 = f_gI c 11 0 2) (r1 : ∀ a, a < j → f_gR c' a = f_gR c a) (r2 : ∀ a, j ≤ a → a < N - 1 → f_gR c' a = f_gR c (a + 1)) : rMon (N - 1) e c' := by
  have u := q_sm_del (f := rU c) (h := rU c') (i := j) (N - 1) (by omega) (fun a ha => by unfold rU; rw [r1 a ha, hp a (by omega) (by omega)]) (fun a x y => by unfold rU; rw [r2 a x y, hp (a + 1) (by omega) (by omega)])
  rw [show N - 1 + 1 = N by omega] at u
  have pe := h.pe
  refine rMon.mk ?_ ?_ ?_ ?_ ?_
  · rw [h0 _ (by decide)]; exact h.p0
  · rw [h0 _ (by decide), h2]; omega
  · rw [h2]; exact h.en
  · rw [h0 _ (by decide)]; exact h.c0
  · rw [h0 _ (by decide), h0 _ (by decide)]; exact h.cp
/-- the reference forgets a row -/
theorem m_forget {j : Nat} (hj : j < 60) (m : fST) : F_m_forget (nI j) m = some ((), f_pI (f_pI (f_pI (f_pI (f_pI m 34 0 (20 * j + 3) 0) 34 0 (20 * j + 4) (-1)) 34 0 (20 * j + 6) (-1)) 34 0 (20 * j + 7) 0) 34 0 (20 * j + 8) 0) := by
  have p3 (v : Int32) (z : fST) : F_m_put (nI j) 3 v z = some ((), f_pI z 34 0 (20 * j + 3) v) := m_put (f := 3) (by omega)
  have p4 (v : Int32) (z : fST) : F_m_put (nI j) 4 v z = some ((), f_pI z 34 0 (20 * j + 4) v) := m_put (f := 4) (by omega)
  have p6 (v : Int32) (z : fST) : F_m_put (nI j) 6 v z = some ((), f_pI z 34 0 (20 * j + 6) v) := m_put (f := 6) (by omega)
  have p7 (v : Int32) (z : fST) : F_m_put (nI j) 7 v z = some ((), f_pI z 34 0 (20 * j + 7) v) := m_put (f := 7) (by omega)
  have p8 (v : Int32) (z : fST) : F_m_put (nI j) 8 v z = some ((), f_pI z 34 0 (20 * j + 8) v) := m_put (f := 8) (by omega)
  simp only [F_m_forget, p3, q_bd, p4, p6, p7, p8]
/-- the place j, one back, in both -/
theorem s_downAt {e K N : Nat} {c m : fST} (h : rRel e K N c m) (hon : f_gI c 23 0 2 = 1) {j : Nat} (jN : j < N) (fr : (f_gI c 13 (f_gR c j) 4).toInt < 105) (gn : j + 1 < N → (f_gI c 13 (f_gR c (j + 1)) 4).toInt + 5 ≤ (f_gI c 13 (f_gR c j) 4).toInt - (f_gI c 13 (f_gR c j) 3).toInt) : ∃ c' m' N' r, F_be_moveDownAt (nI j) c = some ((), c') ∧ (∀ k42 k58 x1 x2 x3 x4, b_m_back_58 k42 k58 (x1, x2, x3, x4, nI j, m) = k58 (x1, x2 + nI r, x3, 1, nI j + (-1), m')) ∧ rRel e K N' c' m' ∧ f_gI c' 23 0 2 = 1 ∧ N' + r = N ∧ (∀ a, a < j → f_gR c' a = f_gR c a ∧ ∀ f, f_gI c' 13 (f_gR c a) f = f_gI c 13 (f_gR c a) f) ∧ ((N' = N ∧ f_gR c' j = f_gR c j ∧ (f_gI c' 13 (f_gR c j) 4).toInt = (f_gI c 13 (f_gR c j) 4).toInt - 1) ∨ N' = j) ∧ fC c c' ∧ fM m m' ∧ f_gI m' 30 0 25 = f_gI m 30 0 25 := by
  obtain ⟨e5, K9, cat, belt, bins, ⟨V, vou⟩, jou, ⟨t, a, lat⟩, tot, mon⟩ := h.all
  have n13 := belt.n13
  have j60 : j < 60 := by omega
  have lt := belt.rlt j (by omega)
  have row := belt.row j jN
  have ok := belt.ok j jN
  have f0 := ok.fr0
  have f1 := ok.fr1
  have a1 := ok.ln1
  have a2 := ok.ln2
  have nc := ok.nc2
  have nw := ok.nw2
  have un := h.unp j jN fr
  have rr := h.r110 hon
  have gp : ∀ i, i + 1 = j → (f_gI c 13 (f_gR c j) 4).toInt + 4 ≤ (f_gI c 13 (f_gR c i) 4).toInt - (f_gI c 13 (f_gR c i) 3).toInt := fun i hi => by
    have := belt.gap i (by omega)
    rw [hi] at this; exact this
  have ne : ∀ i, i < N → i ≠ j → f_gR c i ≠ f_gR c j ∧ f_gR c i < 16 := fun i hi q => ⟨fun x => q (belt.inj i j (by omega) (by omega) x), belt.rlt i (by omega)⟩
  have sf : (f_gI c 13 (f_gR c j) 4 - 1).toInt = (f_gI c 13 (f_gR c j) 4).toInt - 1 := by rw [q_sub, l1] <;> rw [l1] <;> omega
  have sr : (f_gI c 13 (f_gR c j) 4 - 1 - f_gI c 13 (f_gR c j) 3).toInt = (f_gI c 13 (f_gR c j) 4).toInt - 1 - (f_gI c 13 (f_gR c j) 3).toInt := by rw [q_sub, sf] <;> rw [sf] <;> omega
  have le4 : f_gI c 13 (f_gR c j) 4 ≤ 104 := by rw [Int32.le_iff_toInt_le, show (104 : Int32).toInt = 104 from rfl]; omega
  have nj : ¬ nI j < 0 := by rw [show (0 : Int32) = nI 0 from rfl, q_lt (by omega) (by omega)]; omega
  have p2 (v : Int32) (z : fST) : F_m_put (nI j) 2 v z = some ((), f_pI z 34 0 (20 * j + 2) v) := m_put (f := 2) (by omega)
  have row' := row
  have lt' := lt
  -- both up to the question of 59
  have cD : F_be_moveDownAt (nI j) c = if f_gI c 13 (f_gR c j) 4 - 1 - f_gI c 13 (f_gR c j) 3 = 59 then f_bd (F_co_forget (f_gR c j) (f_pI c 13 (f_gR c j) 4 (f_gI c 13 (f_gR c j) 4 - 1))) (fun v5 z5 => b_be_moveDownAt_30 (nI j) (f_gR c j) z5) else b_be_moveDownAt_30 (nI j) (f_gR c j) (f_pI c 13 (f_gR c j) 4 (f_gI c 13 (f_gR c j) 4 - 1)) := by
    simp only [F_be_moveDownAt, q_gd (q_ib (show j < 16 by omega) (by decide)), q_ix (show j < 2147483648 by omega), q_gd' lt, F_co_rear, q_bd]
    (try simp (disch := omega) only [g_eq, g_ne, g_R, g_O, g_IR, g_IO, g_RO, g_OO, g_OR, g_RRe, g_RRn])
  have mD : ∀ k42 k58 x1 x2 x3 x4, b_m_back_58 k42 k58 (x1, x2, x3, x4, nI j, m) = if f_gI c 13 (f_gR c j) 4 - 1 - f_gI c 13 (f_gR c j) 3 = 59 then f_bd (F_m_forget (nI j) (f_pI m 34 0 (20 * j + 2) (f_gI c 13 (f_gR c j) 4 - 1))) (fun v16 z16 => b_m_back_114 k42 k58 x1 x2 x3 1 (nI j) z16) else b_m_back_114 k42 k58 x1 x2 x3 1 (nI j) (f_pI m 34 0 (20 * j + 2) (f_gI c 13 (f_gR c j) 4 - 1)) := by
    intro k42 k58 x1 x2 x3 x4
    simp only [b_m_back_58, nj, if_false, m_g2 j60, q_bd, ← row.fro, le4, if_true, p2, m_rear j60]
    (try simp (disch := omega) only [g_eq, g_ne, g_R, g_O, g_IR, g_IO, g_RO, g_OO, g_OR, g_RRe, g_RRn])
    rw [← row.len]
  generalize hp : f_gR c j = p at *
  by_cases c59 : f_gI c 13 p 4 - 1 - f_gI c 13 p 3 = 59
  · have r59 : (f_gI c 13 p 4).toInt - 1 - (f_gI c 13 p 3).toInt = 59 := by rw [← sr, c59]; rfl
    refine ⟨f_pI (f_pI (f_pI (f_pI (f_pI (f_pI c 13 p 4 (f_gI c 13 p 4 - 1)) 14 p 1 0) 14 (p + 16) 1 0) 13 p 5 (-1)) 13 p 6 0) 13 p 7 (-1), f_pI (f_pI (f_pI (f_pI (f_pI (f_pI m 34 0 (20 * j + 2) (f_gI c 13 p 4 - 1)) 34 0 (20 * j + 3) 0) 34 0 (20 * j + 4) (-1)) 34 0 (20 * j + 6) (-1)) 34 0 (20 * j + 7) 0) 34 0 (20 * j + 8) 0, N, 0, ?_, ?_, ?_, by (try simp (disch := omega) only [g_eq, g_ne, g_R, g_O, g_IR, g_IO, g_RO, g_OO, g_OR, g_RRe, g_RRn]); exact hon, by omega, ?_, Or.inl ⟨rfl, ?_, ?_⟩, ?_, ?_, ?_⟩
    · rw [cD, if_pos c59]
      unfold F_co_forget
      rw [q_bd]
      unfold b_be_moveDownAt_30
      rw [if_pos (by (try simp (disch := omega) only [g_eq, g_ne, g_R, g_O, g_IR, g_IO, g_RO, g_OO, g_OR, g_RRe, g_RRn]); rw [Int32.le_iff_toInt_le, sf, l0]; omega)]
    · intro k42 k58 x1 x2 x3 x4
      rw [mD, if_pos c59, m_forget j60, q_bd]
      unfold b_m_back_114 b_m_back_136
      rw [m_g2 j60, q_bd, if_neg (by (try simp (disch := omega) only [g_eq, g_ne, g_R, g_O, g_IR, g_IO, g_RO, g_OO, g_OR, g_RRe, g_RRn]); rw [Int32.lt_iff_toInt_lt, sf, l0]; omega), show nI 0 = 0 from rfl, Int32.add_zero]
    · refine rRel.mk (rAll.mk e5 K9 ?_ ?_ ?_ ?_ ?_ ?_ ?_ ?_) ?_ ?_
      any_goals (first | exact rCat.to ‹_› (by (intros; first | rfl | ((try simp (disch := omega) only [g_eq, g_ne, g_R, g_O, g_IR, g_IO, g_RO, g_OO, g_OR, g_RRe, g_RRn]); done) | fail)) (by (intros; first | rfl | ((try simp (disch := omega) only [g_eq, g_ne, g_R, g_O, g_IR, g_IO, g_RO, g_OO, g_OR, g_RRe, g_RRn]); done) | fail)) | exact rBelt.to ‹_› (by (intros; first | rfl | ((try simp (disch := omega) only [g_eq, g_ne, g_R, g_O, g_IR, g_IO, g_RO, g_OO, g_OR, g_RRe, g_RRn]); done) | fail)) (by (intros; first | rfl | ((try simp (disch := omega) only [g_eq, g_ne, g_R, g_O, g_IR, g_IO, g_RO, g_OO, g_OR, g_RRe, g_RRn]); done) | fail)) (by (intros; first | rfl | ((try simp (disch := omega) only [g_eq, g_ne, g_R, g_O, g_IR, g_IO, g_RO, g_OO, g_OR, g_RRe, g_RRn]); done) | fail)) (by (intros; first | rfl | ((try simp (disch := omega) only [g_eq, g_ne, g_R, g_O, g_IR, g_IO, g_RO, g_OO, g_OR, g_RRe, g_RRn]); done) | fail)) (by (intros; first | rfl | ((try simp (disch := omega) only [g_eq, g_ne, g_R, g_O, g_IR, g_IO, g_RO, g_OO, g_OR, g_RRe, g_RRn]); done) | fail)) | exact rBins.to ‹_› (by (intros; first | rfl | ((try simp (disch := omega) only [g_eq, g_ne, g_R, g_O, g_IR, g_IO, g_RO, g_OO, g_OR, g_RRe, g_RRn]); done) | fail)) (by (intros; first | rfl | ((try simp (disch := omega) only [g_eq, g_ne, g_R, g_O, g_IR, g_IO, g_RO, g_OO, g_OR, g_RRe, g_RRn]); done) | fail)) | exact ⟨_, rVou.to ‹_› (by (intros; first | rfl | ((try simp (disch := omega) only [g_eq, g_ne, g_R, g_O, g_IR, g_IO, g_RO, g_OO, g_OR, g_RRe, g_RRn]); done) | fail)) (by (intros; first | rfl | ((try simp (disch := omega) only [g_eq, g_ne, g_R, g_O, g_IR, g_IO, g_RO, g_OO, g_OR, g_RRe, g_RRn]); done) | fail)) (by (intros; first | rfl | ((try simp (disch := omega) only [g_eq, g_ne, g_R, g_O, g_IR, g_IO, g_RO, g_OO, g_OR, g_RRe, g_RRn]); done) | fail)) (by (intros; first | rfl | ((try simp (disch := omega) only [g_eq, g_ne, g_R, g_O, g_IR, g_IO, g_RO, g_OO, g_OR, g_RRe, g_RRn]); done) | fail)) (by (intros; first | rfl | ((try simp (disch := omega) only [g_eq, g_ne, g_R, g_O, g_IR, g_IO, g_RO, g_OO, g_OR, g_RRe, g_RRn]); done) | fail))⟩ | exact rJou.to ‹_› (by (intros; first | rfl | ((try simp (disch := omega) only [g_eq, g_ne, g_R, g_O, g_IR, g_IO, g_RO, g_OO, g_OR, g_RRe, g_RRn]); done) | fail)) (by (intros; first | rfl | ((try simp (disch := omega) only [g_eq, g_ne, g_R, g_O, g_IR, g_IO, g_RO, g_OO, g_OR, g_RRe, g_RRn]); done) | fail)) (by (intros; first | rfl | ((try simp (disch := omega) only [g_eq, g_ne, g_R, g_O, g_IR, g_IO, g_RO, g_OO, g_OR, g_RRe, g_RRn]); done) | fail)) (by (intros; first | rfl | ((try simp (disch := omega) only [g_eq, g_ne, g_R, g_O, g_IR, g_IO, g_RO, g_OO, g_OR, g_RRe, g_RRn]); done) | fail)) | exact ⟨_, _, rLat.to ‹_› (Nat.le_refl _) (by (intros; first | rfl | ((try simp (disch := omega) only [g_eq, g_ne, g_R, g_O, g_IR, g_IO, g_RO, g_OO, g_OR, g_RRe, g_RRn]); done) | fail)) (by (intros; first | rfl | ((try simp (disch := omega) only [g_eq, g_ne, g_R, g_O, g_IR, g_IO, g_RO, g_OO, g_OR, g_RRe, g_RRn]); done) | fail)) (by (intros; first | rfl | ((try simp (disch := omega) only [g_eq, g_ne, g_R, g_O, g_IR, g_IO, g_RO, g_OO, g_OR, g_RRe, g_RRn]); done) | fail))⟩ | exact rTot.to ‹_› (by (intros; first | rfl | ((try simp (disch := omega) only [g_eq, g_ne, g_R, g_O, g_IR, g_IO, g_RO, g_OO, g_OR, g_RRe, g_RRn]); done) | fail)) (by (intros; first | rfl | ((try simp (disch := omega) only [g_eq, g_ne, g_R, g_O, g_IR, g_IO, g_RO, g_OO, g_OR, g_RRe, g_RRn]); done) | fail)) (by (intros; first | rfl | ((try simp (disch := omega) only [g_eq, g_ne, g_R, g_O, g_IR, g_IO, g_RO, g_OO, g_OR, g_RRe, g_RRn]); done) | fail)) (by (intros; first | rfl | ((try simp (disch := omega) only [g_eq, g_ne, g_R, g_O, g_IR, g_IO, g_RO, g_OO, g_OR, g_RRe, g_RRn]); done) | fail)) (by (intros; first | rfl | ((try simp (disch := omega) only [g_eq, g_ne, g_R, g_O, g_IR, g_IO, g_RO, g_OO, g_OR, g_RRe, g_RRn]); done) | fail)) (by (intros; first | rfl | ((try simp (disch := omega) only [g_eq, g_ne, g_R, g_O, g_IR, g_IO, g_RO, g_OO, g_OR, g_RRe, g_RRn]); done) | fail)) (by (intros; first | rfl | ((try simp (disch := omega) only [g_eq, g_ne, g_R, g_O, g_IR, g_IO, g_RO, g_OO, g_OR, g_RRe, g_RRn]); done) | fail)) (by (intros; first | rfl | ((try simp (disch := omega) only [g_eq, g_ne, g_R, g_O, g_IR, g_IO, g_RO, g_OO, g_OR, g_RRe, g_RRn]); done) | fail)) | exact rMon.to ‹_› (Nat.le_refl _) (by (intros; first | rfl | ((try simp (disch := omega) only [g_eq, g_ne, g_R, g_O, g_IR, g_IO, g_RO, g_OO, g_OR, g_RRe, g_RRn]); done) | fail)) (by (intros; first | rfl | ((try simp (disch := omega) only [g_eq, g_ne, g_R, g_O, g_IR, g_IO, g_RO, g_OO, g_OR, g_RRe, g_RRn]); done) | fail)) (by (intros; first | rfl | ((try simp (disch := omega) only [g_eq, g_ne, g_R, g_O, g_IR, g_IO, g_RO, g_OO, g_OR, g_RRe, g_RRn]); done) | fail)) | fail)
      · refine belt.updF jN (by (intros; first | rfl | ((try simp (disch := omega) only [g_eq, g_ne, g_R, g_O, g_IR, g_IO, g_RO, g_OO, g_OR, g_RRe, g_RRn]); done) | fail)) (by (intros; first | rfl | ((try simp (disch := omega) only [g_eq, g_ne, g_R, g_O, g_IR, g_IO, g_RO, g_OO, g_OR, g_RRe, g_RRn]); done) | fail)) ?_ (by (intros; first | rfl | ((try simp (disch := omega) only [g_eq, g_ne, g_R, g_O, g_IR, g_IO, g_RO, g_OO, g_OR, g_RRe, g_RRn]); done) | fail)) (by (intros; first | rfl | ((try simp (disch := omega) only [g_eq, g_ne, g_R, g_O, g_IR, g_IO, g_RO, g_OO, g_OR, g_RRe, g_RRn]); done) | fail)) (by (intros; first | rfl | ((try simp (disch := omega) only [g_eq, g_ne, g_R, g_O, g_IR, g_IO, g_RO, g_OO, g_OR, g_RRe, g_RRn]); done) | fail)) ?_ ?_ ?_ ?_ ?_ ?_
        · rw [hp]; (intros; first | rfl | ((try simp (disch := omega) only [g_eq, g_ne, g_R, g_O, g_IR, g_IO, g_RO, g_OO, g_OR, g_RRe, g_RRn]); done) | fail)
        · rw [hp]
          refine rRow.mk ?_ ?_ ?_ ?_ ?_ ?_ ?_ ?_ ?_ ?_ ?_
          · (try simp (disch := omega) only [g_eq, g_ne, g_R, g_O, g_IR, g_IO, g_RO, g_OO, g_OR, g_RRe, g_RRn]); exact row.num
          · (try simp (disch := omega) only [g_eq, g_ne, g_R, g_O, g_IR, g_IO, g_RO, g_OO, g_OR, g_RRe, g_RRn]); exact row.len
          · (try simp (disch := omega) only [g_eq, g_ne, g_R, g_O, g_IR, g_IO, g_RO, g_OO, g_OR, g_RRe, g_RRn])
          · (try simp (disch := omega) only [g_eq, g_ne, g_R, g_O, g_IR, g_IO, g_RO, g_OO, g_OR, g_RRe, g_RRn])
          · (try simp (disch := omega) only [g_eq, g_ne, g_R, g_O, g_IR, g_IO, g_RO, g_OO, g_OR, g_RRe, g_RRn])
          · (try simp (disch := omega) only [g_eq, g_ne, g_R, g_O, g_IR, g_IO, g_RO, g_OO, g_OR, g_RRe, g_RRn]); exact row.pai
          · (try simp (disch := omega) only [g_eq, g_ne, g_R, g_O, g_IR, g_IO, g_RO, g_OO, g_OR, g_RRe, g_RRn])
          · (try simp (disch := omega) only [g_eq, g_ne, g_R, g_O, g_IR, g_IO, g_RO, g_OO, g_OR, g_RRe, g_RRn])
          · (try simp (disch := omega) only [g_eq, g_ne, g_R, g_O, g_IR, g_IO, g_RO, g_OO, g_OR, g_RRe, g_RRn])
          · intro i; (try simp (disch := omega) only [g_eq, g_ne, g_R, g_O, g_IR, g_IO, g_RO, g_OO, g_OR, g_RRe, g_RRn]); rw [l0]; intro x; omega
          · intro i; (try simp (disch := omega) only [g_eq, g_ne, g_R, g_O, g_IR, g_IO, g_RO, g_OO, g_OR, g_RRe, g_RRn]); rw [l0]; intro x; omega
        · rw [hp]
          refine rOk.mk ?_ ?_ ?_ ?_ ?_ ?_ ?_ ?_ ?_ ?_ ?_ ?_
          · (try simp (disch := omega) only [g_eq, g_ne, g_R, g_O, g_IR, g_IO, g_RO, g_OO, g_OR, g_RRe, g_RRn]); exact ok.ln1
          · (try simp (disch := omega) only [g_eq, g_ne, g_R, g_O, g_IR, g_IO, g_RO, g_OO, g_OR, g_RRe, g_RRn]); exact ok.ln2
          · (try simp (disch := omega) only [g_eq, g_ne, g_R, g_O, g_IR, g_IO, g_RO, g_OO, g_OR, g_RRe, g_RRn]); decide
          · (try simp (disch := omega) only [g_eq, g_ne, g_R, g_O, g_IR, g_IO, g_RO, g_OO, g_OR, g_RRe, g_RRn]); decide
          · (try simp (disch := omega) only [g_eq, g_ne, g_R, g_O, g_IR, g_IO, g_RO, g_OO, g_OR, g_RRe, g_RRn]); decide
          · (try simp (disch := omega) only [g_eq, g_ne, g_R, g_O, g_IR, g_IO, g_RO, g_OO, g_OR, g_RRe, g_RRn]); decide
          · (try simp (disch := omega) only [g_eq, g_ne, g_R, g_O, g_IR, g_IO, g_RO, g_OO, g_OR, g_RRe, g_RRn]); left; exact ⟨trivial, by decide⟩
          · (try simp (disch := omega) only [g_eq, g_ne, g_R, g_O, g_IR, g_IO, g_RO, g_OO, g_OR, g_RRe, g_RRn]); exact ok.p01
          · (try simp (disch := omega) only [g_eq, g_ne, g_R, g_O, g_IR, g_IO, g_RO, g_OO, g_OR, g_RRe, g_RRn]); omega
          · (try simp (disch := omega) only [g_eq, g_ne, g_R, g_O, g_IR, g_IO, g_RO, g_OO, g_OR, g_RRe, g_RRn]); omega
          · (try simp (disch := omega) only [g_eq, g_ne, g_R, g_O, g_IR, g_IO, g_RO, g_OO, g_OR, g_RRe, g_RRn]); rw [sf]; intro x; omega
          · (try simp (disch := omega) only [g_eq, g_ne, g_R, g_O, g_IR, g_IO, g_RO, g_OO, g_OR, g_RRe, g_RRn]); intro _; trivial
        · rw [hp]; (try simp (disch := omega) only [g_eq, g_ne, g_R, g_O, g_IR, g_IO, g_RO, g_OO, g_OR, g_RRe, g_RRn]); exact sf
        · rw [hp]; (try simp (disch := omega) only [g_eq, g_ne, g_R, g_O, g_IR, g_IO, g_RO, g_OO, g_OR, g_RRe, g_RRn])
        · rw [hp]; exact gp
        · rw [hp]; exact gn
      · exact mon.upd (Nat.le_refl _) (by (intros; first | rfl | ((try simp (disch := omega) only [g_eq, g_ne, g_R, g_O, g_IR, g_IO, g_RO, g_OO, g_OR, g_RRe, g_RRn]); done) | fail)) (by (intros; first | rfl | ((try simp (disch := omega) only [g_eq, g_ne, g_R, g_O, g_IR, g_IO, g_RO, g_OO, g_OR, g_RRe, g_RRn]); done) | fail)) (by (intros; first | rfl | ((try simp (disch := omega) only [g_eq, g_ne, g_R, g_O, g_IR, g_IO, g_RO, g_OO, g_OR, g_RRe, g_RRn]); done) | fail)) (by (intros; first | rfl | ((try simp (disch := omega) only [g_eq, g_ne, g_R, g_O, g_IR, g_IO, g_RO, g_OO, g_OR, g_RRe, g_RRn]); done) | fail))
      · intro _ i hi
        (try simp (disch := omega) only [g_eq, g_ne, g_R, g_O, g_IR, g_IO, g_RO, g_OO, g_OR, g_RRe, g_RRn])
        by_cases q : i = j
        · subst q; rw [hp]; (try simp (disch := omega) only [g_eq, g_ne, g_R, g_O, g_IR, g_IO, g_RO, g_OO, g_OR, g_RRe, g_RRn]); omega
        · have := ne i hi q; (try simp (disch := omega) only [g_eq, g_ne, g_R, g_O, g_IR, g_IO, g_RO, g_OO, g_OR, g_RRe, g_RRn]); exact rr i hi
      · intro i hi
        (try simp (disch := omega) only [g_eq, g_ne, g_R, g_O, g_IR, g_IO, g_RO, g_OO, g_OR, g_RRe, g_RRn])
        by_cases q : i = j
        · subst q; rw [hp]; (try simp (disch := omega) only [g_eq, g_ne, g_R, g_O, g_IR, g_IO, g_RO, g_OO, g_OR, g_RRe, g_RRn]); intro _; exact un
        · have := ne i hi q; (try simp (disch := omega) only [g_eq, g_ne, g_R, g_O, g_IR, g_IO, g_RO, g_OO, g_OR, g_RRe, g_RRn]); exact h.unp i hi
    · intro b hb
      have := ne b (by omega) (by omega)
      exact ⟨rfl, fun f => by (try simp (disch := omega) only [g_eq, g_ne, g_R, g_O, g_IR, g_IO, g_RO, g_OO, g_OR, g_RRe, g_RRn])⟩
    · exact hp
    · (try simp (disch := omega) only [g_eq, g_ne, g_R, g_O, g_IR, g_IO, g_RO, g_OO, g_OR, g_RRe, g_RRn]); exact sf
    · exact (((((fC.rfl.put (by decide)).put (by decide)).put (by decide)).put (by decide)).put (by decide)).put (by decide)
    · exact (((((fM.rfl.put (by decide)).put (by decide)).put (by decide)).put (by decide)).put (by decide)).put (by decide)
    · (try simp (disch := omega) only [g_eq, g_ne, g_R, g_O, g_IR, g_IO, g_RO, g_OO, g_OR, g_RRe, g_RRn])
  have r59 : (f_gI c 13 p 4).toInt - 1 - (f_gI c 13 p 3).toInt ≠ 59 := fun x => c59 (i_eq (by rw [sr]; exact x))
  by_cases z0 : (f_gI c 13 p 4).toInt = 0
  · -- it leaves the belt
    have jl : j + 1 = N := by
      apply Classical.byContradiction
      intro x
      have := gn (by omega)
      have := (belt.ok (j + 1) (by omega)).fr0
      omega
    obtain ⟨s, t1, t2, t3, t4, t5, t6, t7, t8⟩ := c_takeOff (z := f_pI c 13 p 4 (f_gI c 13 p 4 - 1)) (N := N) (j := j) (by (try simp (disch := omega) only [g_eq, g_ne, g_R, g_O, g_IR, g_IO, g_RO, g_OO, g_OR, g_RRe, g_RRn]); exact belt.cnt) jN n13 (by intro i hi; (try simp (disch := omega) only [g_eq, g_ne, g_R, g_O, g_IR, g_IO, g_RO, g_OO, g_OR, g_RRe, g_RRn]); exact belt.rlt i hi)
    obtain ⟨r, u1, u2, u3, u4, u5, u6⟩ := m_remove (m := f_pI m 34 0 (20 * j + 2) (f_gI c 13 p 4 - 1)) (N := N) (j := j) (by (try simp (disch := omega) only [g_eq, g_ne, g_R, g_O, g_IR, g_IO, g_RO, g_OO, g_OR, g_RRe, g_RRn]); exact belt.siz) jN n13
    have hc : ∀ k i f, (k ≠ 11 ∨ f ≠ 1) → (k ≠ 13 ∨ i ≠ p) → f_gI s k i f = f_gI c k i f := fun k i f x y => by rw [t2 k i f x]; (try simp (disch := omega) only [g_eq, g_ne, g_R, g_O, g_IR, g_IO, g_RO, g_OO, g_OR, g_RRe, g_RRn])
    have hm : ∀ k i f, k ≠ 34 → (k ≠ 30 ∨ f ≠ 4) → f_gI r k i f = f_gI m k i f := fun k i f x y => by rw [u3 k i f x y]; (try simp (disch := omega) only [g_eq, g_ne, g_R, g_O, g_IR, g_IO, g_RO, g_OO, g_OR, g_RRe, g_RRn])
    refine ⟨s, r, N - 1, 1, ?_, ?_, ?_, by rw [hc _ _ _ (by omega) (by omega)]; exact hon, by omega, ?_, Or.inr (by omega), ?_, ?_, ?_⟩
    · rw [cD, if_neg c59]
      unfold b_be_moveDownAt_30
      rw [if_neg (by (try simp (disch := omega) only [g_eq, g_ne, g_R, g_O, g_IR, g_IO, g_RO, g_OO, g_OR, g_RRe, g_RRn]); rw [Int32.le_iff_toInt_le, sf, l0]; omega), t1, q_bd]
    · intro k42 k58 x1 x2 x3 x4
      rw [mD, if_neg c59]
      unfold b_m_back_114 b_m_back_136
      rw [m_g2 j60, q_bd, if_pos (by (try simp (disch := omega) only [g_eq, g_ne, g_R, g_O, g_IR, g_IO, g_RO, g_OO, g_OR, g_RRe, g_RRn]); rw [Int32.lt_iff_toInt_lt, sf, l0]; omega), u1, q_bd]
      rfl
    · refine rRel.mk (rAll.mk e5 K9 ?_ ?_ ?_ (⟨V, ?_⟩) ?_ (⟨t, a, ?_⟩) ?_ ?_) ?_ ?_
      · exact cat.to (fun k i f _ _ => hc _ _ _ (by omega) (by omega)) (fun k i f _ _ => hm _ _ _ (by omega) (by omega))
      · refine belt.delx jN (fun k i f _ _ x y => hc _ _ _ (by omega) (by rw [hp] at x; omega)) t3 (hc _ _ _ (by omega) (by omega)) (fun b hb => t4 b hb) (fun b x y => t5 b x y) t6 (fun b hb => t7 b hb) u2 (hm _ _ _ (by omega) (by omega)) (fun x hx => by rw [u4 x hx]; (try simp (disch := omega) only [g_eq, g_ne, g_R, g_O, g_IR, g_IO, g_RO, g_OO, g_OR, g_RRe, g_RRn])) (fun x y z => by omega)
      · exact bins.to (fun k i f _ _ => hc _ _ _ (by omega) (by omega)) (fun k i f _ _ => hm _ _ _ (by omega) (by omega))
      · exact vou.to (fun k i f _ _ => hc _ _ _ (by omega) (by omega)) (fun k i f _ _ => hm _ _ _ (by omega) (by omega)) (hm _ _ _ (by omega) (by omega)) (hm _ _ _ (by omega) (by omega)) (hm _ _ _ (by omega) (by omega))
      · exact jou.to (fun f => hc _ _ _ (by omega) (by omega)) (hm _ _ _ (by omega) (by omega)) (hm _ _ _ (by omega) (by omega)) (hm _ _ _ (by omega) (by omega))
      · exact lat.to (Nat.le_refl _) (fun k i f _ _ => hc _ _ _ (by omega) (by omega)) (fun f => hm _ _ _ (by omega) (by omega)) (hm _ _ _ (by omega) (by omega))
      · exact tot.to (fun f _ _ => hc _ _ _ (by omega) (by omega)) (fun f => hc _ _ _ (by omega) (by omega)) (fun f => hm _ _ _ (by omega) (by omega)) (hm _ _ _ (by omega) (by omega)) (hm _ _ _ (by omega) (by omega)) (hm _ _ _ (by omega) (by omega)) (hm _ _ _ (by omega) (by omega)) (hm _ _ _ (by omega) (by omega))
      · exact mon.delx jN (fun b hb q => hc _ _ _ (by omega) (Or.inr (ne b hb q).1)) (fun f _ => hc _ _ _ (by omega) (by omega)) (hc _ _ _ (by omega) (by omega)) (fun b hb => t4 b hb) (fun b x y => t5 b x y)
      · intro _ i hi
        have e : f_gR s i = f_gR c i := t4 i (by omega)
        have := ne i (by omega) (by omega)
        rw [e, hc _ _ _ (by omega) (Or.inr this.1), hc _ _ _ (by omega) (Or.inr this.1)]; exact rr i (by omega)
      · intro i hi
        have e : f_gR s i = f_gR c i := t4 i (by omega)
        have := ne i (by omega) (by omega)
        rw [e, hc _ _ _ (by omega) (Or.inr this.1), hc _ _ _ (by omega) (Or.inr this.1)]; exact h.unp i (by omega)
    · intro b hb
      have := ne b (by omega) (by omega)
      exact ⟨t4 b hb, fun f => hc _ _ _ (by omega) (Or.inr this.1)⟩
    · exact (fC.rfl.put (by decide)).trans t8
    · exact (fM.rfl.put (by decide)).trans u6
    · exact hm _ _ _ (by omega) (by omega)
  · refine ⟨f_pI c 13 p 4 (f_gI c 13 p 4 - 1), f_pI m 34 0 (20 * j + 2) (f_gI c 13 p 4 - 1), N, 0, ?_, ?_, ?_, by (try simp (disch := omega) only [g_eq, g_ne, g_R, g_O, g_IR, g_IO, g_RO, g_OO, g_OR, g_RRe, g_RRn]); exact hon, by omega, ?_, Or.inl ⟨rfl, ?_, ?_⟩, ?_, ?_, ?_⟩
    · rw [cD, if_neg c59]
      unfold b_be_moveDownAt_30
      rw [if_pos (by (try simp (disch := omega) only [g_eq, g_ne, g_R, g_O, g_IR, g_IO, g_RO, g_OO, g_OR, g_RRe, g_RRn]); rw [Int32.le_iff_toInt_le, sf, l0]; omega)]
    · intro k42 k58 x1 x2 x3 x4
      rw [mD, if_neg c59]
      unfold b_m_back_114 b_m_back_136
      rw [m_g2 j60, q_bd, if_neg (by (try simp (disch := omega) only [g_eq, g_ne, g_R, g_O, g_IR, g_IO, g_RO, g_OO, g_OR, g_RRe, g_RRn]); rw [Int32.lt_iff_toInt_lt, sf, l0]; omega), show nI 0 = 0 from rfl, Int32.add_zero]
    · refine rRel.mk (rAll.mk e5 K9 ?_ ?_ ?_ ?_ ?_ ?_ ?_ ?_) ?_ ?_
      any_goals (first | exact rCat.to ‹_› (by (intros; first | rfl | ((try simp (disch := omega) only [g_eq, g_ne, g_R, g_O, g_IR, g_IO, g_RO, g_OO, g_OR, g_RRe, g_RRn]); done) | fail)) (by (intros; first | rfl | ((try simp (disch := omega) only [g_eq, g_ne, g_R, g_O, g_IR, g_IO, g_RO, g_OO, g_OR, g_RRe, g_RRn]); done) | fail)) | exact rBelt.to ‹_› (by (intros; first | rfl | ((try simp (disch := omega) only [g_eq, g_ne, g_R, g_O, g_IR, g_IO, g_RO, g_OO, g_OR, g_RRe, g_RRn]); done) | fail)) (by (intros; first | rfl | ((try simp (disch := omega) only [g_eq, g_ne, g_R, g_O, g_IR, g_IO, g_RO, g_OO, g_OR, g_RRe, g_RRn]); done) | fail)) (by (intros; first | rfl | ((try simp (disch := omega) only [g_eq, g_ne, g_R, g_O, g_IR, g_IO, g_RO, g_OO, g_OR, g_RRe, g_RRn]); done) | fail)) (by (intros; first | rfl | ((try simp (disch := omega) only [g_eq, g_ne, g_R, g_O, g_IR, g_IO, g_RO, g_OO, g_OR, g_RRe, g_RRn]); done) | fail)) (by (intros; first | rfl | ((try simp (disch := omega) only [g_eq, g_ne, g_R, g_O, g_IR, g_IO, g_RO, g_OO, g_OR, g_RRe, g_RRn]); done) | fail)) | exact rBins.to ‹_› (by (intros; first | rfl | ((try simp (disch := omega) only [g_eq, g_ne, g_R, g_O, g_IR, g_IO, g_RO, g_OO, g_OR, g_RRe, g_RRn]); done) | fail)) (by (intros; first | rfl | ((try simp (disch := omega) only [g_eq, g_ne, g_R, g_O, g_IR, g_IO, g_RO, g_OO, g_OR, g_RRe, g_RRn]); done) | fail)) | exact ⟨_, rVou.to ‹_› (by (intros; first | rfl | ((try simp (disch := omega) only [g_eq, g_ne, g_R, g_O, g_IR, g_IO, g_RO, g_OO, g_OR, g_RRe, g_RRn]); done) | fail)) (by (intros; first | rfl | ((try simp (disch := omega) only [g_eq, g_ne, g_R, g_O, g_IR, g_IO, g_RO, g_OO, g_OR, g_RRe, g_RRn]); done) | fail)) (by (intros; first | rfl | ((try simp (disch := omega) only [g_eq, g_ne, g_R, g_O, g_IR, g_IO, g_RO, g_OO, g_OR, g_RRe, g_RRn]); done) | fail)) (by (intros; first | rfl | ((try simp (disch := omega) only [g_eq, g_ne, g_R, g_O, g_IR, g_IO, g_RO, g_OO, g_OR, g_RRe, g_RRn]); done) | fail)) (by (intros; first | rfl | ((try simp (disch := omega) only [g_eq, g_ne, g_R, g_O, g_IR, g_IO, g_RO, g_OO, g_OR, g_RRe, g_RRn]); done) | fail))⟩ | exact rJou.to ‹_› (by (intros; first | rfl | ((try simp (disch := omega) only [g_eq, g_ne, g_R, g_O, g_IR, g_IO, g_RO, g_OO, g_OR, g_RRe, g_RRn]); done) | fail)) (by (intros; first | rfl | ((try simp (disch := omega) only [g_eq, g_ne, g_R, g_O, g_IR, g_IO, g_RO, g_OO, g_OR, g_RRe, g_RRn]); done) | fail)) (by (intros; first | rfl | ((try simp (disch := omega) only [g_eq, g_ne, g_R, g_O, g_IR, g_IO, g_RO, g_OO, g_OR, g_RRe, g_RRn]); done) | fail)) (by (intros; first | rfl | ((try simp (disch := omega) only [g_eq, g_ne, g_R, g_O, g_IR, g_IO, g_RO, g_OO, g_OR, g_RRe, g_RRn]); done) | fail)) | exact ⟨_, _, rLat.to ‹_› (Nat.le_refl _) (by (intros; first | rfl | ((try simp (disch := omega) only [g_eq, g_ne, g_R, g_O, g_IR, g_IO, g_RO, g_OO, g_OR, g_RRe, g_RRn]); done) | fail)) (by (intros; first | rfl | ((try simp (disch := omega) only [g_eq, g_ne, g_R, g_O, g_IR, g_IO, g_RO, g_OO, g_OR, g_RRe, g_RRn]); done) | fail)) (by (intros; first | rfl | ((try simp (disch := omega) only [g_eq, g_ne, g_R, g_O, g_IR, g_IO, g_RO, g_OO, g_OR, g_RRe, g_RRn]); done) | fail))⟩ | exact rTot.to ‹_› (by (intros; first | rfl | ((try simp (disch := omega) only [g_eq, g_ne, g_R, g_O, g_IR, g_IO, g_RO, g_OO, g_OR, g_RRe, g_RRn]); done) | fail)) (by (intros; first | rfl | ((try simp (disch := omega) only [g_eq, g_ne, g_R, g_O, g_IR, g_IO, g_RO, g_OO, g_OR, g_RRe, g_RRn]); done) | fail)) (by (intros; first | rfl | ((try simp (disch := omega) only [g_eq, g_ne, g_R, g_O, g_IR, g_IO, g_RO, g_OO, g_OR, g_RRe, g_RRn]); done) | fail)) (by (intros; first | rfl | ((try simp (disch := omega) only [g_eq, g_ne, g_R, g_O, g_IR, g_IO, g_RO, g_OO, g_OR, g_RRe, g_RRn]); done) | fail)) (by (intros; first | rfl | ((try simp (disch := omega) only [g_eq, g_ne, g_R, g_O, g_IR, g_IO, g_RO, g_OO, g_OR, g_RRe, g_RRn]); done) | fail)) (by (intros; first | rfl | ((try simp (disch := omega) only [g_eq, g_ne, g_R, g_O, g_IR, g_IO, g_RO, g_OO, g_OR, g_RRe, g_RRn]); done) | fail)) (by (intros; first | rfl | ((try simp (disch := omega) only [g_eq, g_ne, g_R, g_O, g_IR, g_IO, g_RO, g_OO, g_OR, g_RRe, g_RRn]); done) | fail)) (by (intros; first | rfl | ((try simp (disch := omega) only [g_eq, g_ne, g_R, g_O, g_IR, g_IO, g_RO, g_OO, g_OR, g_RRe, g_RRn]); done) | fail)) | exact rMon.to ‹_› (Nat.le_refl _) (by (intros; first | rfl | ((try simp (disch := omega) only [g_eq, g_ne, g_R, g_O, g_IR, g_IO, g_RO, g_OO, g_OR, g_RRe, g_RRn]); done) | fail)) (by (intros; first | rfl | ((try simp (disch := omega) only [g_eq, g_ne, g_R, g_O, g_IR, g_IO, g_RO, g_OO, g_OR, g_RRe, g_RRn]); done) | fail)) (by (intros; first | rfl | ((try simp (disch := omega) only [g_eq, g_ne, g_R, g_O, g_IR, g_IO, g_RO, g_OO, g_OR, g_RRe, g_RRn]); done) | fail)) | fail)
      · refine belt.updF jN (by (intros; first | rfl | ((try simp (disch := omega) only [g_eq, g_ne, g_R, g_O, g_IR, g_IO, g_RO, g_OO, g_OR, g_RRe, g_RRn]); done) | fail)) (by (intros; first | rfl | ((try simp (disch := omega) only [g_eq, g_ne, g_R, g_O, g_IR, g_IO, g_RO, g_OO, g_OR, g_RRe, g_RRn]); done) | fail)) ?_ (by (intros; first | rfl | ((try simp (disch := omega) only [g_eq, g_ne, g_R, g_O, g_IR, g_IO, g_RO, g_OO, g_OR, g_RRe, g_RRn]); done) | fail)) (by (intros; first | rfl | ((try simp (disch := omega) only [g_eq, g_ne, g_R, g_O, g_IR, g_IO, g_RO, g_OO, g_OR, g_RRe, g_RRn]); done) | fail)) (by (intros; first | rfl | ((try simp (disch := omega) only [g_eq, g_ne, g_R, g_O, g_IR, g_IO, g_RO, g_OO, g_OR, g_RRe, g_RRn]); done) | fail)) ?_ ?_ ?_ ?_ ?_ ?_
        · rw [hp]; (intros; first | rfl | ((try simp (disch := omega) only [g_eq, g_ne, g_R, g_O, g_IR, g_IO, g_RO, g_OO, g_OR, g_RRe, g_RRn]); done) | fail)
        · rw [hp]
          refine rRow.mk ?_ ?_ ?_ ?_ ?_ ?_ ?_ ?_ ?_ ?_ ?_
          · (try simp (disch := omega) only [g_eq, g_ne, g_R, g_O, g_IR, g_IO, g_RO, g_OO, g_OR, g_RRe, g_RRn]); exact row.num
          · (try simp (disch := omega) only [g_eq, g_ne, g_R, g_O, g_IR, g_IO, g_RO, g_OO, g_OR, g_RRe, g_RRn]); exact row.len
          · (try simp (disch := omega) only [g_eq, g_ne, g_R, g_O, g_IR, g_IO, g_RO, g_OO, g_OR, g_RRe, g_RRn])
          · (try simp (disch := omega) only [g_eq, g_ne, g_R, g_O, g_IR, g_IO, g_RO, g_OO, g_OR, g_RRe, g_RRn]); exact row.jud
          · (try simp (disch := omega) only [g_eq, g_ne, g_R, g_O, g_IR, g_IO, g_RO, g_OO, g_OR, g_RRe, g_RRn]); exact row.kin
          · (try simp (disch := omega) only [g_eq, g_ne, g_R, g_O, g_IR, g_IO, g_RO, g_OO, g_OR, g_RRe, g_RRn]); exact row.pai
          · (try simp (disch := omega) only [g_eq, g_ne, g_R, g_O, g_IR, g_IO, g_RO, g_OO, g_OR, g_RRe, g_RRn]); exact row.wei
          · (try simp (disch := omega) only [g_eq, g_ne, g_R, g_O, g_IR, g_IO, g_RO, g_OO, g_OR, g_RRe, g_RRn]); exact row.ncd
          · (try simp (disch := omega) only [g_eq, g_ne, g_R, g_O, g_IR, g_IO, g_RO, g_OO, g_OR, g_RRe, g_RRn]); exact row.nwd
          · intro i hi
            have hi : (i : Int) < (f_gI c 14 p 1).toInt := by revert hi; (try simp (disch := omega) only [g_eq, g_ne, g_R, g_O, g_IR, g_IO, g_RO, g_OO, g_OR, g_RRe, g_RRn]); exact id
            (try simp (disch := omega) only [g_eq, g_ne, g_R, g_O, g_IR, g_IO, g_RO, g_OO, g_OR, g_RRe, g_RRn]); exact row.cds i hi
          · intro i hi
            have hi : (i : Int) < (f_gI c 14 (p + 16) 1).toInt := by revert hi; (try simp (disch := omega) only [g_eq, g_ne, g_R, g_O, g_IR, g_IO, g_RO, g_OO, g_OR, g_RRe, g_RRn]); exact id
            (try simp (disch := omega) only [g_eq, g_ne, g_R, g_O, g_IR, g_IO, g_RO, g_OO, g_OR, g_RRe, g_RRn]); exact row.wds i hi
        · rw [hp]
          refine rOk.mk ?_ ?_ ?_ ?_ ?_ ?_ ?_ ?_ ?_ ?_ ?_ ?_
          · (try simp (disch := omega) only [g_eq, g_ne, g_R, g_O, g_IR, g_IO, g_RO, g_OO, g_OR, g_RRe, g_RRn]); exact ok.ln1
          · (try simp (disch := omega) only [g_eq, g_ne, g_R, g_O, g_IR, g_IO, g_RO, g_OO, g_OR, g_RRe, g_RRn]); exact ok.ln2
          · (try simp (disch := omega) only [g_eq, g_ne, g_R, g_O, g_IR, g_IO, g_RO, g_OO, g_OR, g_RRe, g_RRn]); exact ok.nc1
          · (try simp (disch := omega) only [g_eq, g_ne, g_R, g_O, g_IR, g_IO, g_RO, g_OO, g_OR, g_RRe, g_RRn]); exact ok.nc2
          · (try simp (disch := omega) only [g_eq, g_ne, g_R, g_O, g_IR, g_IO, g_RO, g_OO, g_OR, g_RRe, g_RRn]); exact ok.nw1
          · (try simp (disch := omega) only [g_eq, g_ne, g_R, g_O, g_IR, g_IO, g_RO, g_OO, g_OR, g_RRe, g_RRn]); exact ok.nw2
          · (try simp (disch := omega) only [g_eq, g_ne, g_R, g_O, g_IR, g_IO, g_RO, g_OO, g_OR, g_RRe, g_RRn]); exact ok.kj
          · (try simp (disch := omega) only [g_eq, g_ne, g_R, g_O, g_IR, g_IO, g_RO, g_OO, g_OR, g_RRe, g_RRn]); exact ok.p01
          · (try simp (disch := omega) only [g_eq, g_ne, g_R, g_O, g_IR, g_IO, g_RO, g_OO, g_OR, g_RRe, g_RRn]); omega
          · (try simp (disch := omega) only [g_eq, g_ne, g_R, g_O, g_IR, g_IO, g_RO, g_OO, g_OR, g_RRe, g_RRn]); omega
          · (try simp (disch := omega) only [g_eq, g_ne, g_R, g_O, g_IR, g_IO, g_RO, g_OO, g_OR, g_RRe, g_RRn]); rw [sf]; intro x; omega
          · (try simp (disch := omega) only [g_eq, g_ne, g_R, g_O, g_IR, g_IO, g_RO, g_OO, g_OR, g_RRe, g_RRn]); rw [sf]; intro x; exact ok.k60 (by omega)
        · rw [hp]; (try simp (disch := omega) only [g_eq, g_ne, g_R, g_O, g_IR, g_IO, g_RO, g_OO, g_OR, g_RRe, g_RRn]); exact sf
        · rw [hp]; (try simp (disch := omega) only [g_eq, g_ne, g_R, g_O, g_IR, g_IO, g_RO, g_OO, g_OR, g_RRe, g_RRn])
        · rw [hp]; exact gp
        · rw [hp]; exact gn
      · exact mon.upd (Nat.le_refl _) (by (intros; first | rfl | ((try simp (disch := omega) only [g_eq, g_ne, g_R, g_O, g_IR, g_IO, g_RO, g_OO, g_OR, g_RRe, g_RRn]); done) | fail)) (by (intros; first | rfl | ((try simp (disch := omega) only [g_eq, g_ne, g_R, g_O, g_IR, g_IO, g_RO, g_OO, g_OR, g_RRe, g_RRn]); done) | fail)) (by (intros; first | rfl | ((try simp (disch := omega) only [g_eq, g_ne, g_R, g_O, g_IR, g_IO, g_RO, g_OO, g_OR, g_RRe, g_RRn]); done) | fail)) (by (intros; first | rfl | ((try simp (disch := omega) only [g_eq, g_ne, g_R, g_O, g_IR, g_IO, g_RO, g_OO, g_OR, g_RRe, g_RRn]); done) | fail))
      · intro _ i hi
        (try simp (disch := omega) only [g_eq, g_ne, g_R, g_O, g_IR, g_IO, g_RO, g_OO, g_OR, g_RRe, g_RRn])
        by_cases q : i = j
        · subst q
          have := rr i hi
          rw [hp] at this ⊢; (try simp (disch := omega) only [g_eq, g_ne, g_R, g_O, g_IR, g_IO, g_RO, g_OO, g_OR, g_RRe, g_RRn]); omega
        · have := ne i hi q; (try simp (disch := omega) only [g_eq, g_ne, g_R, g_O, g_IR, g_IO, g_RO, g_OO, g_OR, g_RRe, g_RRn]); exact rr i hi
      · intro i hi
        (try simp (disch := omega) only [g_eq, g_ne, g_R, g_O, g_IR, g_IO, g_RO, g_OO, g_OR, g_RRe, g_RRn])
        by_cases q : i = j
        · subst q; rw [hp]; (try simp (disch := omega) only [g_eq, g_ne, g_R, g_O, g_IR, g_IO, g_RO, g_OO, g_OR, g_RRe, g_RRn]); intro _; exact un
        · have := ne i hi q; (try simp (disch := omega) only [g_eq, g_ne, g_R, g_O, g_IR, g_IO, g_RO, g_OO, g_OR, g_RRe, g_RRn]); exact h.unp i hi
    · intro b hb
      have := ne b (by omega) (by omega)
      exact ⟨rfl, fun f => by (try simp (disch := omega) only [g_eq, g_ne, g_R, g_O, g_IR, g_IO, g_RO, g_OO, g_OR, g_RRe, g_RRn])⟩
    · exact hp
    · (try simp (disch := omega) only [g_eq, g_ne, g_R, g_O, g_IR, g_IO, g_RO, g_OO, g_OR, g_RRe, g_RRn]); exact sf
    · exact fC.rfl.put (by decide)
    · exact fM.rfl.put (by decide)
    · (try simp (disch := omega) only [g_eq, g_ne, g_R, g_O, g_IR, g_IO, g_RO, g_OO, g_OR, g_RRe, g_RRn])
