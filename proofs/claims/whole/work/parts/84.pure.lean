set_option linter.unusedVariables false
set_option linter.unusedSimpArgs false
theorem rRow.mv {c m c' m' : fST} {p i j : Nat} (h : rRow c m p j) (hc : ∀ k i f, 13 ≤ k → k ≤ 15 → f_gI c' k i f = f_gI c k i f) (hm : ∀ f, f < 20 → f_gI m' 34 0 (20 * i + f) = f_gI m 34 0 (20 * j + f)) (ho : rOk c p) : rRow c' m' p i := by
  have a1 := ho.nc2
  have a2 := ho.nw2
  refine rRow.mk ?_ ?_ ?_ ?_ ?_ ?_ ?_ ?_ ?_ ?_ ?_
  · rw [hc _ _ _ (by decide) (by decide)]; exact h.num.trans (hm 0 (by decide)).symm
  · rw [hc _ _ _ (by decide) (by decide)]; exact h.len.trans (hm 1 (by decide)).symm
  · rw [hc _ _ _ (by decide) (by decide)]; exact h.fro.trans (hm 2 (by decide)).symm
  · rw [hc _ _ _ (by decide) (by decide)]; exact h.jud.trans (hm 3 (by decide)).symm
  · rw [hc _ _ _ (by decide) (by decide)]; exact h.kin.trans (hm 4 (by decide)).symm
  · rw [hc _ _ _ (by decide) (by decide)]; exact h.pai.trans (hm 5 (by decide)).symm
  · rw [hc _ _ _ (by decide) (by decide)]; exact h.wei.trans (hm 6 (by decide)).symm
  · rw [hc _ _ _ (by decide) (by decide)]; exact h.ncd.trans (hm 7 (by decide)).symm
  · rw [hc _ _ _ (by decide) (by decide)]; exact h.nwd.trans (hm 8 (by decide)).symm
  · intro x hx
    rw [hc _ _ _ (by decide) (by decide)] at hx ⊢
    rw [Nat.add_assoc, hm (9 + x) (by omega), ← Nat.add_assoc]
    exact h.cds x hx
  · intro x hx
    rw [hc _ _ _ (by decide) (by decide)] at hx ⊢
    rw [Nat.add_assoc, hm (12 + x) (by omega), ← Nat.add_assoc]
    exact h.wds x hx
/-- the belts without the place j -/
theorem rBelt.del {N j : Nat} {c m c' m' : fST} (h : rBelt N c m) (jN : j < N) (hc : ∀ k i f, 13 ≤ k → k ≤ 15 → f_gI c' k i f = f_gI c k i f) (h1 : f_gI c' 11 0 1 = nI (N - 1)) (h2 : f_gI c' 11 0 2 = f_gI c 11 0 2) (r1 : ∀ a, a < j → f_gR c' a = f_gR c a) (r2 : ∀ a, j ≤ a → a < N - 1 → f_gR c' a = f_gR c (a + 1)) (r3 : f_gR c' (N - 1) = f_gR c j) (r4 : ∀ a, N ≤ a → f_gR c' a = f_gR c a) (m4 : f_gI m' 30 0 4 = nI (N - 1)) (m5 : f_gI m' 30 0 5 = f_gI m 30 0 5) (s1 : ∀ x, x < 20 * j → f_gI m' 34 0 x = f_gI m 34 0 x) (s2 : ∀ x, 20 * j ≤ x → x < 20 * (N - 1) → f_gI m' 34 0 x = f_gI m 34 0 (x + 20)) : rBelt (N - 1) c' m' := by
  have n13 := h.n13
  have sg : ∀ a, ∃ b, f_gR c' a = f_gR c b ∧ ((a < j ∧ b = a) ∨ (j ≤ a ∧ a < N - 1 ∧ b = a + 1) ∨ (a = N - 1 ∧ b = j) ∨ (N ≤ a ∧ b = a)) := by
    intro a
    by_cases x : a < j
    · exact ⟨a, r1 a x, Or.inl ⟨x, rfl⟩⟩
    · by_cases y : a < N - 1
      · exact ⟨a + 1, r2 a (by omega) y, Or.inr (Or.inl ⟨by omega, y, rfl⟩)⟩
      · by_cases z : a = N - 1
        · exact ⟨j, by rw [z]; exact r3, Or.inr (Or.inr (Or.inl ⟨z, rfl⟩))⟩
        · exact ⟨a, r4 a (by omega), Or.inr (Or.inr (Or.inr ⟨by omega, rfl⟩))⟩
  refine rBelt.mk ?_ ?_ ?_ ?_ ?_ ?_ ?_ ?_ ?_
  · omega
  · exact h1
  · exact m4
  · rw [h2, m5]; exact h.ent
  · intro a ha
    obtain ⟨b, e, _⟩ := sg a
    rw [e]; exact h.rlt b (by omega)
  · intro a b ha hb e
    obtain ⟨x, e1, _⟩ := sg a
    obtain ⟨y, e2, _⟩ := sg b
    rw [e1, e2] at e
    have := h.inj x y (by omega) (by omega) e
    omega
  · intro a ha
    by_cases x : a < j
    · rw [r1 a x]
      exact (h.row a (by omega)).mv hc (fun f hf => s1 _ (by omega)) (h.ok a (by omega))
    · rw [r2 a (by omega) ha]
      exact (h.row (a + 1) (by omega)).mv hc (fun f hf => by rw [s2 _ (by omega) (by omega)]; congr 1; omega) (h.ok (a + 1) (by omega))
  · intro a ha
    by_cases x : a < j
    · rw [r1 a x]; exact (h.ok a (by omega)).to (fun k i f a b _ => hc k i f a b)
    · rw [r2 a (by omega) ha]; exact (h.ok (a + 1) (by omega)).to (fun k i f a b _ => hc k i f a b)
  · intro a ha
    rw [hc _ _ _ (by decide) (by decide), hc _ _ _ (by decide) (by decide), hc _ _ _ (by decide) (by decide)]
    by_cases x : a + 1 < j
    · rw [r1 _ x, r1 a (by omega)]; exact h.gap a (by omega)
    · rw [r2 (a + 1) (by omega) ha]
      by_cases y : a < j
      · rw [r1 a y]
        have := h.gap a (by omega)
        have := h.gap (a + 1) (by omega)
        have := (h.ok (a + 1) (by omega)).ln1
        omega
      · rw [r2 a (by omega) (by omega)]; exact h.gap (a + 1) (by omega)
theorem rMon.del {N j e : Nat} {c c' : fST} (h : rMon N e c) (jN : j < N) (hp : ∀ i, f_gI c' 13 i 8 = f_gI c 13 i 8) (h0 : ∀ f, f ≠ 11 → f_gI c' 0 0 f = f_gI c 0 0 f) (h2 : f_gI c' 11 0 2 = f_gI c 11 0 2) (r1 : ∀ a, a < j → f_gR c' a = f_gR c a) (r2 : ∀ a, j ≤ a → a < N - 1 → f_gR c' a = f_gR c (a + 1)) : rMon (N - 1) e c' := by
  have u := q_sm_del (f := rU c) (h := rU c') (i := j) (N - 1) (by omega) (fun a ha => by unfold rU; rw [r1 a ha, hp]) (fun a x y => by unfold rU; rw [r2 a x y, hp])
  rw [show N - 1 + 1 = N by omega] at u
  have pe := h.pe
  refine rMon.mk ?_ ?_ ?_ ?_ ?_
  · rw [h0 _ (by decide)]; exact h.p0
  · rw [h0 _ (by decide), h2]; omega
  · rw [h2]; exact h.en
  · rw [h0 _ (by decide)]; exact h.c0
  · rw [h0 _ (by decide), h0 _ (by decide)]; exact h.cp
theorem s_drop {e K N : Nat} {c m : fST} (h : rAll e K N c m) (hon : f_gI c 23 0 2 = 1) {j : Nat} (jN : j < N) (jd : f_gI c 13 (f_gR c j) 6 = 10) :
    (∃ c' m', F_b_intoBin (nI j) c = some (0, c') ∧ F_m_drop (nI j) m = some (0, m') ∧ rAll e K N c' m' ∧ f_gI c' 23 0 2 = 0 ∧ (∀ k i f, k ≠ 23 → f_gI c' k i f = f_gI c k i f) ∧ (∀ i, f_gR c' i = f_gR c i) ∧ fC c c' ∧ fM m m' ∧ f_gI m' 30 0 25 = f_gI m 30 0 25) ∨
    (∃ c' m', F_b_intoBin (nI j) c = some (1, c') ∧ F_m_drop (nI j) m = some (1, m') ∧ rAll e K (N - 1) c' m' ∧ f_gI c' 23 0 2 = 1 ∧ (∀ i f, f_gI c' 13 i f = f_gI c 13 i f) ∧ (∀ a, a < j → f_gR c' a = f_gR c a) ∧ (∀ a, j ≤ a → a < N - 1 → f_gR c' a = f_gR c (a + 1)) ∧ fC c c' ∧ fM m m' ∧ f_gI m' 30 0 25 = f_gI m 30 0 25) := by
  have n13 := h.belt.n13
  have j60 : j < 60 := by omega
  have kv : 0 ≤ (f_gI c 13 (f_gR c j) 7).toInt ∧ (f_gI c 13 (f_gR c j) 7).toInt < 40 := by
    rcases (h.belt.ok j jN).kj with ⟨_, x⟩ | ⟨x, y, _⟩
    · exact absurd jd x
    · exact ⟨x, y⟩
  have hk := q_ex kv.1
  have k40 : (f_gI c 13 (f_gR c j) 7).toInt.toNat < 40 := by omega
  generalize (f_gI c 13 (f_gR c j) 7).toInt.toNat = k at hk k40
  have km := nI_m1 (show k < 2147483648 by omega)
  have lt := h.belt.rlt j (by omega)
  rcases s_write h hon with ⟨c1, m1, h1, h2, h3, h4, h5, h6, h7, h8, h9⟩ | ⟨c1, m1, h1, h2, h3, h4, h5, h6, h7, h8, h9⟩
  · refine Or.inl ⟨c1, m1, ?_, ?_, h3, h4, h5, h6, h7, h8, h9⟩
    · unfold F_b_intoBin
      rw [q_gd (q_ib (show j < 16 by omega) (by decide)), q_ix (by omega), q_gd' lt, hk, if_neg km, h1, q_bd, if_pos rfl]
    · unfold F_m_drop; rw [h2, q_bd, if_pos rfl]
  · right
    obtain ⟨e5, K9, cat, belt, bins, ⟨V, vou⟩, jou, ⟨t, a, lat⟩, tot, mon⟩ := h3
    have er : f_gR c1 j = f_gR c j := h6 j
    have row := belt.row j jN
    have hk1 : f_gI c1 13 (f_gR c1 j) 7 = nI k := by rw [er, h5 _ _ _ (by decide)]; exact hk
    have mk : f_gI m1 34 0 (20 * j + 4) = nI k := by rw [← row.kin]; exact hk1
    have hB := q_ex (cat.bok k k40).1
    have B3 : (f_gI c1 4 0 k).toInt.toNat < 3 := by have := cat.bok k k40; omega
    generalize (f_gI c1 4 0 k).toInt.toNat = B at hB B3
    have mB : f_gI m1 33 0 (6 * k + 2) = nI B := by rw [← cat.bin k k40]; exact hB
    obtain ⟨s, t1, t2, t3, t4, t5, t6, t7, t8⟩ := c_takeOff (z := f_pI c1 17 0 B (f_gI c1 17 0 B + 1)) (N := N) (j := j) (by (try simp (disch := omega) only [g_eq, g_ne, g_R, g_O, g_IR, g_IO, g_RO, g_OO, g_OR, g_RRe, g_RRn]); exact belt.cnt) jN n13 (by intro i hi; (try simp (disch := omega) only [g_eq, g_ne, g_R, g_O, g_IR, g_IO, g_RO, g_OO, g_OR, g_RRe, g_RRn]); exact belt.rlt i hi)
    obtain ⟨r, u1, u2, u3, u4, u5, u6⟩ := m_remove (m := f_pI (f_pI m1 35 0 B (f_gI m1 35 0 B + 1)) 30 0 16 0) (N := N) (j := j) (by (try simp (disch := omega) only [g_eq, g_ne, g_R, g_O, g_IR, g_IO, g_RO, g_OO, g_OR, g_RRe, g_RRn]); exact belt.siz) jN n13
    have hc : ∀ k i f, (k ≠ 11 ∨ f ≠ 1) → k ≠ 17 → f_gI s k i f = f_gI c1 k i f := fun k i f x y => by rw [t2 k i f x]; (try simp (disch := omega) only [g_eq, g_ne, g_R, g_O, g_IR, g_IO, g_RO, g_OO, g_OR, g_RRe, g_RRn])
    have hm : ∀ k i f, k ≠ 34 → k ≠ 35 → (k ≠ 30 ∨ (f ≠ 4 ∧ f ≠ 16)) → f_gI r k i f = f_gI m1 k i f := fun k i f x y w => by rw [u3 k i f x (by omega)]; (try simp (disch := omega) only [g_eq, g_ne, g_R, g_O, g_IR, g_IO, g_RO, g_OO, g_OR, g_RRe, g_RRn])
    refine ⟨f_pI s 0 0 11 0, r, ?_, ?_, ?_, ?_, ?_, ?_, ?_, ?_, ?_, ?_⟩
    · unfold F_b_intoBin
      rw [q_gd (q_ib (show j < 16 by omega) (by decide)), q_ix (by omega), q_gd' lt, hk, if_neg km, h1, q_bd, if_neg one_ne, q_gd (q_ib k40 (by decide)), q_ix (by omega), hB, q_gd (q_ib B3 (by decide)), q_gd (q_ib B3 (by decide)), q_ix (by omega), t1, q_bd]
    · have b6 : (6 : Int32) * nI k + 2 = nI (6 * k + 2) := by rw [show (6 : Int32) = nI 6 from rfl, q_nm, show (2 : Int32) = nI 2 from rfl, q_na]
      unfold F_m_drop
      rw [h2, q_bd, if_neg one_ne, m_g4 j60, q_bd, mk, b6, q_ix (by omega), mB, q_gd (q_ib (show 6 * k + 2 < 240 by omega) (by decide)), q_gd (q_ib B3 (by decide)), q_gd (q_ib B3 (by decide)), q_ix (by omega), u1, q_bd]
    · refine rAll.mk e5 K9 ?_ ?_ ?_ (⟨V, ?_⟩) ?_ (⟨t, a, ?_⟩) ?_ ?_
      · exact cat.to (fun k i f _ _ => by (try simp (disch := omega) only [g_eq, g_ne, g_R, g_O, g_IR, g_IO, g_RO, g_OO, g_OR, g_RRe, g_RRn]); exact hc _ _ _ (by omega) (by omega)) (fun k i f _ _ => hm _ _ _ (by omega) (by omega) (by omega))
      · refine belt.del jN (fun k i f _ _ => by (try simp (disch := omega) only [g_eq, g_ne, g_R, g_O, g_IR, g_IO, g_RO, g_OO, g_OR, g_RRe, g_RRn]); exact hc _ _ _ (by omega) (by omega)) (by (try simp (disch := omega) only [g_eq, g_ne, g_R, g_O, g_IR, g_IO, g_RO, g_OO, g_OR, g_RRe, g_RRn]); exact t3) (by (try simp (disch := omega) only [g_eq, g_ne, g_R, g_O, g_IR, g_IO, g_RO, g_OO, g_OR, g_RRe, g_RRn]); exact hc _ _ _ (by omega) (by omega)) (fun a ha => by (try simp (disch := omega) only [g_eq, g_ne, g_R, g_O, g_IR, g_IO, g_RO, g_OO, g_OR, g_RRe, g_RRn]); rw [t4 a ha]; rfl) (fun a x y => by (try simp (disch := omega) only [g_eq, g_ne, g_R, g_O, g_IR, g_IO, g_RO, g_OO, g_OR, g_RRe, g_RRn]); rw [t5 a x y]; rfl) (by (try simp (disch := omega) only [g_eq, g_ne, g_R, g_O, g_IR, g_IO, g_RO, g_OO, g_OR, g_RRe, g_RRn]); rw [t6]; rfl) (fun a ha => by (try simp (disch := omega) only [g_eq, g_ne, g_R, g_O, g_IR, g_IO, g_RO, g_OO, g_OR, g_RRe, g_RRn]); rw [t7 a ha]; rfl) u2 (hm _ _ _ (by omega) (by omega) (by omega)) (fun x hx => by rw [u4 x hx]; (try simp (disch := omega) only [g_eq, g_ne, g_R, g_O, g_IR, g_IO, g_RO, g_OO, g_OR, g_RRe, g_RRn])) (fun x y z => by rw [u5 x y z]; (try simp (disch := omega) only [g_eq, g_ne, g_R, g_O, g_IR, g_IO, g_RO, g_OO, g_OR, g_RRe, g_RRn]))
      · refine rBins.mk ?_ ?_
        · intro i hi
          (try simp (disch := omega) only [g_eq, g_ne, g_R, g_O, g_IR, g_IO, g_RO, g_OO, g_OR, g_RRe, g_RRn])
          rw [t2 _ _ _ (by omega), u3 _ _ _ (by omega) (by omega)]
          by_cases q : i = B
          · subst q; (try simp (disch := omega) only [g_eq, g_ne, g_R, g_O, g_IR, g_IO, g_RO, g_OO, g_OR, g_RRe, g_RRn]); rw [bins.hel i hi]
          · (try simp (disch := omega) only [g_eq, g_ne, g_R, g_O, g_IR, g_IO, g_RO, g_OO, g_OR, g_RRe, g_RRn]); exact bins.hel i hi
        · intro i hi
          (try simp (disch := omega) only [g_eq, g_ne, g_R, g_O, g_IR, g_IO, g_RO, g_OO, g_OR, g_RRe, g_RRn])
          rw [hc _ _ _ (by omega) (by omega), u3 _ _ _ (by omega) (by omega)]
          (try simp (disch := omega) only [g_eq, g_ne, g_R, g_O, g_IR, g_IO, g_RO, g_OO, g_OR, g_RRe, g_RRn]); exact bins.roo i hi
      · exact vou.to (fun k i f _ _ => by (try simp (disch := omega) only [g_eq, g_ne, g_R, g_O, g_IR, g_IO, g_RO, g_OO, g_OR, g_RRe, g_RRn]); exact hc _ _ _ (by omega) (by omega)) (fun k i f _ _ => hm _ _ _ (by omega) (by omega) (by omega)) (hm _ _ _ (by omega) (by omega) (by omega)) (hm _ _ _ (by omega) (by omega) (by omega)) (hm _ _ _ (by omega) (by omega) (by omega))
      · exact jou.to (fun f => by (try simp (disch := omega) only [g_eq, g_ne, g_R, g_O, g_IR, g_IO, g_RO, g_OO, g_OR, g_RRe, g_RRn]); exact hc _ _ _ (by omega) (by omega)) (hm _ _ _ (by omega) (by omega) (by omega)) (hm _ _ _ (by omega) (by omega) (by omega)) (hm _ _ _ (by omega) (by omega) (by omega))
      · exact lat.to (Nat.le_refl _) (fun k i f _ _ => by (try simp (disch := omega) only [g_eq, g_ne, g_R, g_O, g_IR, g_IO, g_RO, g_OO, g_OR, g_RRe, g_RRn]); exact hc _ _ _ (by omega) (by omega)) (fun f => hm _ _ _ (by omega) (by omega) (by omega)) (hm _ _ _ (by omega) (by omega) (by omega))
      · refine rTot.mk ?_ ?_ ?_ ?_ ?_ ?_
        · (try simp (disch := omega) only [g_eq, g_ne, g_R, g_O, g_IR, g_IO, g_RO, g_OO, g_OR, g_RRe, g_RRn]); rw [hc _ _ _ (by omega) (by omega), hm _ _ _ (by omega) (by omega) (by omega)]; exact tot.cre
        · (try simp (disch := omega) only [g_eq, g_ne, g_R, g_O, g_IR, g_IO, g_RO, g_OO, g_OR, g_RRe, g_RRn]); rw [hc _ _ _ (by omega) (by omega), hm _ _ _ (by omega) (by omega) (by omega)]; exact tot.pad
        · (try simp (disch := omega) only [g_eq, g_ne, g_R, g_O, g_IR, g_IO, g_RO, g_OO, g_OR, g_RRe, g_RRn]); rw [hc _ _ _ (by omega) (by omega), hm _ _ _ (by omega) (by omega) (by omega)]; exact tot.sum
        · (try simp (disch := omega) only [g_eq, g_ne, g_R, g_O, g_IR, g_IO, g_RO, g_OO, g_OR, g_RRe, g_RRn]); rw [hc _ _ _ (by omega) (by omega), hm _ _ _ (by omega) (by omega) (by omega)]; exact tot.giv
        · (try simp (disch := omega) only [g_eq, g_ne, g_R, g_O, g_IR, g_IO, g_RO, g_OO, g_OR, g_RRe, g_RRn]); rw [u3 _ _ _ (by omega) (by omega)]; (try simp (disch := omega) only [g_eq, g_ne, g_R, g_O, g_IR, g_IO, g_RO, g_OO, g_OR, g_RRe, g_RRn])
        · intro i hi; (try simp (disch := omega) only [g_eq, g_ne, g_R, g_O, g_IR, g_IO, g_RO, g_OO, g_OR, g_RRe, g_RRn]); rw [hc _ _ _ (by omega) (by omega), hm _ _ _ (by omega) (by omega) (by omega)]; exact tot.ref i hi
      · exact mon.del jN (fun i => by (try simp (disch := omega) only [g_eq, g_ne, g_R, g_O, g_IR, g_IO, g_RO, g_OO, g_OR, g_RRe, g_RRn]); exact hc _ _ _ (by omega) (by omega)) (fun f hf => by (try simp (disch := omega) only [g_eq, g_ne, g_R, g_O, g_IR, g_IO, g_RO, g_OO, g_OR, g_RRe, g_RRn]); exact hc _ _ _ (by omega) (by omega)) (by (try simp (disch := omega) only [g_eq, g_ne, g_R, g_O, g_IR, g_IO, g_RO, g_OO, g_OR, g_RRe, g_RRn]); exact hc _ _ _ (by omega) (by omega)) (fun a ha => by (try simp (disch := omega) only [g_eq, g_ne, g_R, g_O, g_IR, g_IO, g_RO, g_OO, g_OR, g_RRe, g_RRn]); rw [t4 a ha]; rfl) (fun a x y => by (try simp (disch := omega) only [g_eq, g_ne, g_R, g_O, g_IR, g_IO, g_RO, g_OO, g_OR, g_RRe, g_RRn]); rw [t5 a x y]; rfl)
    · (try simp (disch := omega) only [g_eq, g_ne, g_R, g_O, g_IR, g_IO, g_RO, g_OO, g_OR, g_RRe, g_RRn]); rw [hc _ _ _ (by omega) (by omega)]; exact h4
    · intro i f; (try simp (disch := omega) only [g_eq, g_ne, g_R, g_O, g_IR, g_IO, g_RO, g_OO, g_OR, g_RRe, g_RRn]); rw [hc _ _ _ (by omega) (by omega)]; exact h5 _ _ _ (by decide)
    · intro a ha; (try simp (disch := omega) only [g_eq, g_ne, g_R, g_O, g_IR, g_IO, g_RO, g_OO, g_OR, g_RRe, g_RRn]); rw [t4 a ha]; exact h6 a
    · intro a x y; (try simp (disch := omega) only [g_eq, g_ne, g_R, g_O, g_IR, g_IO, g_RO, g_OO, g_OR, g_RRe, g_RRn]); rw [t5 a x y]; exact h6 _
    · exact ((h7.put (by decide)).trans t8).put (by decide)
    · exact ((h8.put (by decide)).put (by decide)).trans u6
    · rw [hm _ _ _ (by omega) (by omega) (by omega)]; exact h9 _ _ _ (by omega)
/-- every container of the class one on -/
theorem c_moveUp {N : Nat} {c m : fST} (h : rBelt N c m) : ∃ s, F_be_moveUp c = some ((), s) ∧ (∀ a, a < N → f_gI s 13 (f_gR c a) 4 = f_gI c 13 (f_gR c a) 4 + 1) ∧ (∀ k i f, (k ≠ 13 ∨ f ≠ 4) → f_gI s k i f = f_gI c k i f) ∧ (∀ a, f_gR s a = f_gR c a) ∧ fC c s := by
  have n13 := h.n13
  refine Exists.elim (q_loop0 (body := b_be_moveUp_2) (fun i s => (nI i, s)) N (fun i s => (∀ a, a < i → f_gI s 13 (f_gR c a) 4 = f_gI c 13 (f_gR c a) 4 + 1) ∧ (∀ a, i ≤ a → a < N → f_gI s 13 (f_gR c a) 4 = f_gI c 13 (f_gR c a) 4) ∧ (∀ k i f, (k ≠ 13 ∨ f ≠ 4) → f_gI s k i f = f_gI c k i f) ∧ (∀ a, f_gR s a = f_gR c a) ∧ fC c s) (fun s => some ((), s)) (by omega) ?_ ?_ c ⟨by omega, by (intros; first | rfl | ((try simp (disch := omega) only [g_eq, g_ne, g_R, g_O, g_IR, g_IO, g_RO, g_OO, g_OR, g_RRe, g_RRn]); done) | fail), by (intros; first | rfl | ((try simp (disch := omega) only [g_eq, g_ne, g_R, g_O, g_IR, g_IO, g_RO, g_OO, g_OR, g_RRe, g_RRn]); done) | fail), by (intros; first | rfl | ((try simp (disch := omega) only [g_eq, g_ne, g_R, g_O, g_IR, g_IO, g_RO, g_OO, g_OR, g_RRe, g_RRn]); done) | fail), fC.rfl⟩) ?_
  · rintro k s ⟨h1, h2, h3, h4, h5⟩
    simp only [b_be_moveUp_2, h3 11 0 1 (by omega), h.cnt, Int32.le_refl, if_true]
  · rintro i s hi ⟨h1, h2, h3, h4, h5⟩
    refine ⟨f_pI s 13 (f_gR c i) 4 (f_gI c 13 (f_gR c i) 4 + 1), ?_, ?_, ?_, ?_, h4, h5.put (by decide)⟩
    · intro k
      simp only [b_be_moveUp_2, h3 11 0 1 (by omega), h.cnt, q_ix (show i < 2147483648 by omega), q_gd (q_ib (show i < 16 by omega) (by decide)), h4, q_gd' (h.rlt i (by omega)), h2 i (Nat.le_refl _) hi, q_n1]
      rw [if_neg (by rw [q_le (by omega) (by omega)]; omega)]
    · intro a ha
      by_cases q : a = i
      · subst q; (try simp (disch := omega) only [g_eq, g_ne, g_R, g_O, g_IR, g_IO, g_RO, g_OO, g_OR, g_RRe, g_RRn])
      · have : f_gR c a ≠ f_gR c i := fun x => q (h.inj a i (by omega) (by omega) x)
        (try simp (disch := omega) only [g_eq, g_ne, g_R, g_O, g_IR, g_IO, g_RO, g_OO, g_OR, g_RRe, g_RRn]); exact h1 a (by omega)
    · intro a x y
      have : f_gR c a ≠ f_gR c i := fun z => by have := h.inj a i (by omega) (by omega) z; omega
      (try simp (disch := omega) only [g_eq, g_ne, g_R, g_O, g_IR, g_IO, g_RO, g_OO, g_OR, g_RRe, g_RRn]); exact h2 a (by omega) y
    · intro k b f x; (try simp (disch := omega) only [g_eq, g_ne, g_R, g_O, g_IR, g_IO, g_RO, g_OO, g_OR, g_RRe, g_RRn]); exact h3 k b f x
  · rintro s ⟨⟨h1, h2, h3, h4, h5⟩, h6⟩
    exact ⟨s, h6, h1, h3, h4, h5⟩
/-- every row of the reference one on -/
theorem m_moveUp {N : Nat} {m : fST} (n13 : N ≤ 13) (siz : f_gI m 30 0 4 = nI N) (k40 : Int32 × Int32 × fST → Option (Int32 × fST)) (x1 x2 : Int32) : ∃ s, f_it (b_m_forward_61 k40) 2000 (x1, x2, 0, m) = f_it (b_m_forward_94 k40) 2000 (x1, x2 + 1, 0, s) ∧ (∀ a, a < N → f_gI s 34 0 (20 * a + 2) = f_gI m 34 0 (20 * a + 2) + 1) ∧ (∀ k i f, (k ≠ 34 ∨ f % 20 ≠ 2) → f_gI s k i f = f_gI m k i f) ∧ fM m s := by
  refine Exists.elim (q_loop0 (body := b_m_forward_61 k40) (fun i s => (x1, x2, nI i, s)) N (fun i s => (∀ a, a < i → f_gI s 34 0 (20 * a + 2) = f_gI m 34 0 (20 * a + 2) + 1) ∧ (∀ a, i ≤ a → f_gI s 34 0 (20 * a + 2) = f_gI m 34 0 (20 * a + 2)) ∧ (∀ k i f, (k ≠ 34 ∨ f % 20 ≠ 2) → f_gI s k i f = f_gI m k i f) ∧ fM m s) (fun s => f_it (b_m_forward_94 k40) 2000 (x1, x2 + 1, 0, s)) (by omega) ?_ ?_ m ⟨by omega, by (intros; first | rfl | ((try simp (disch := omega) only [g_eq, g_ne, g_R, g_O, g_IR, g_IO, g_RO, g_OO, g_OR, g_RRe, g_RRn]); done) | fail), by (intros; first | rfl | ((try simp (disch := omega) only [g_eq, g_ne, g_R, g_O, g_IR, g_IO, g_RO, g_OO, g_OR, g_RRe, g_RRn]); done) | fail), fM.rfl⟩) ?_
  · rintro k s ⟨h1, h2, h3, h4⟩
    simp only [b_m_forward_61, h3 30 0 4 (by omega), siz, Int32.le_refl, if_true]
  · rintro i s hi ⟨h1, h2, h3, h4⟩
    refine ⟨f_pI s 34 0 (20 * i + 2) (f_gI m 34 0 (20 * i + 2) + 1), ?_, ?_, ?_, ?_, h4.put (by decide)⟩
    · intro k
      have p2 (v : Int32) (z : fST) : F_m_put (nI i) 2 v z = some ((), f_pI z 34 0 (20 * i + 2) v) := m_put (f := 2) (by omega)
      simp only [b_m_forward_61, h3 30 0 4 (by omega), siz, m_g2 (show i < 60 by omega), q_bd, p2, h2 i (Nat.le_refl _), q_n1]
      rw [if_neg (by rw [q_le (by omega) (by omega)]; omega)]
    · intro a ha
      by_cases q : a = i
      · subst q; (try simp (disch := omega) only [g_eq, g_ne, g_R, g_O, g_IR, g_IO, g_RO, g_OO, g_OR, g_RRe, g_RRn])
      · (try simp (disch := omega) only [g_eq, g_ne, g_R, g_O, g_IR, g_IO, g_RO, g_OO, g_OR, g_RRe, g_RRn]); exact h1 a (by omega)
    · intro a x; (try simp (disch := omega) only [g_eq, g_ne, g_R, g_O, g_IR, g_IO, g_RO, g_OO, g_OR, g_RRe, g_RRn]); exact h2 a (by omega)
    · intro k b f x; (try simp (disch := omega) only [g_eq, g_ne, g_R, g_O, g_IR, g_IO, g_RO, g_OO, g_OR, g_RRe, g_RRn]); exact h3 k b f x
  · rintro s ⟨⟨h1, h2, h3, h4⟩, h5⟩
    exact ⟨s, h5, h1, h3, h4⟩
