set_option linter.unusedVariables false
set_option linter.unusedSimpArgs false
theorem l104 : (104 : Int32).toInt = 104 := rfl
theorem l105 : (105 : Int32).toInt = 105 := rfl
theorem l110 : (110 : Int32).toInt = 110 := rfl
theorem l60 : (60 : Int32).toInt = 60 := rfl
/-- what holds, between the moving and the arrivals, of the places from j on -/
def rMid (N j : Nat) (c : fST) : Prop := (∀ i, i < N → (f_gI c 13 (f_gR c i) 4).toInt < 105 → f_gI c 13 (f_gR c i) 8 = 0) ∧ (∀ i, i < j → i < N → (f_gI c 13 (f_gR c i) 4).toInt - (f_gI c 13 (f_gR c i) 3).toInt < 110) ∧ (∀ i, j ≤ i → i < N → (f_gI c 13 (f_gR c i) 4).toInt = 105 → f_gI c 13 (f_gR c i) 8 = 0) ∧ (∀ i, j ≤ i → i < N → (f_gI c 13 (f_gR c i) 4).toInt - (f_gI c 13 (f_gR c i) 3).toInt = 60 → f_gI c 13 (f_gR c i) 7 = -1)
theorem rMid.unp {N j : Nat} {c : fST} (h : rMid N j c) : ∀ i, i < N → (f_gI c 13 (f_gR c i) 4).toInt < 105 → f_gI c 13 (f_gR c i) 8 = 0 := by unfold rMid at h; exact h.1
theorem rMid.r110 {N j : Nat} {c : fST} (h : rMid N j c) : ∀ i, i < j → i < N → (f_gI c 13 (f_gR c i) 4).toInt - (f_gI c 13 (f_gR c i) 3).toInt < 110 := by unfold rMid at h; exact h.2.1
theorem rMid.p105 {N j : Nat} {c : fST} (h : rMid N j c) : ∀ i, j ≤ i → i < N → (f_gI c 13 (f_gR c i) 4).toInt = 105 → f_gI c 13 (f_gR c i) 8 = 0 := by unfold rMid at h; exact h.2.2.1
theorem rMid.k60 {N j : Nat} {c : fST} (h : rMid N j c) : ∀ i, j ≤ i → i < N → (f_gI c 13 (f_gR c i) 4).toInt - (f_gI c 13 (f_gR c i) 3).toInt = 60 → f_gI c 13 (f_gR c i) 7 = -1 := by unfold rMid at h; exact h.2.2.2
theorem rMid.mk {N j : Nat} {c : fST} (h0 : ∀ i, i < N → (f_gI c 13 (f_gR c i) 4).toInt < 105 → f_gI c 13 (f_gR c i) 8 = 0) (h1 : ∀ i, i < j → i < N → (f_gI c 13 (f_gR c i) 4).toInt - (f_gI c 13 (f_gR c i) 3).toInt < 110) (h2 : ∀ i, j ≤ i → i < N → (f_gI c 13 (f_gR c i) 4).toInt = 105 → f_gI c 13 (f_gR c i) 8 = 0) (h3 : ∀ i, j ≤ i → i < N → (f_gI c 13 (f_gR c i) 4).toInt - (f_gI c 13 (f_gR c i) 3).toInt = 60 → f_gI c 13 (f_gR c i) 7 = -1) : rMid N j c := by unfold rMid; exact ⟨h0, h1, h2, h3⟩
theorem s_moved {e K N : Nat} {c m s r : fST} (h : rRel e K N c m) (hon : f_gI c 23 0 2 = 1) (nb : ∀ j, j < N → f_gI c 13 (f_gR c j) 4 = 104 → f_gI c 13 (f_gR c j) 6 = 10) (u1 : ∀ a, a < N → f_gI s 13 (f_gR c a) 4 = f_gI c 13 (f_gR c a) 4 + 1) (u2 : ∀ k i f, (k ≠ 13 ∨ f ≠ 4) → f_gI s k i f = f_gI c k i f) (u3 : ∀ a, f_gR s a = f_gR c a) (w1 : ∀ a, a < N → f_gI r 34 0 (20 * a + 2) = f_gI m 34 0 (20 * a + 2) + 1) (w2 : ∀ k i f, (k ≠ 34 ∨ f % 20 ≠ 2) → f_gI r k i f = f_gI m k i f) : rAll e K N s r ∧ rMid N 0 s := by
  obtain ⟨e5, K9, cat, belt, bins, ⟨V, vou⟩, jou, ⟨t, a, lat⟩, tot, mon⟩ := h.all
  have ft : ∀ a, a < N → (f_gI s 13 (f_gR c a) 4).toInt = (f_gI c 13 (f_gR c a) 4).toInt + 1 := fun a ha => by
    have := (belt.ok a ha).fr0
    have := (belt.ok a ha).fr2
    rw [u1 a ha, q_add, l1] <;> rw [l1] <;> omega
  have r1 := h.r110 hon
  refine ⟨rAll.mk e5 K9 ?_ ?_ ?_ (⟨V, ?_⟩) ?_ (⟨t, a, ?_⟩) ?_ ?_, ?_⟩
  · exact cat.to (fun k i f _ _ => u2 _ _ _ (by omega)) (fun k i f _ _ => w2 _ _ _ (by omega))
  · refine rBelt.mk ?_ ?_ ?_ ?_ ?_ ?_ ?_ ?_ ?_
    · exact belt.n13
    · rw [u2 _ _ _ (by omega)]; exact belt.cnt
    · rw [w2 _ _ _ (by omega)]; exact belt.siz
    · rw [u2 _ _ _ (by omega), w2 _ _ _ (by omega)]; exact belt.ent
    · intro j hj; rw [u3]; exact belt.rlt j hj
    · intro i j hi hj e; rw [u3, u3] at e; exact belt.inj i j hi hj e
    · intro j hj
      rw [u3]
      have row := belt.row j hj
      have := (belt.ok j hj).nc2
      have := (belt.ok j hj).nw2
      refine rRow.mk ?_ ?_ ?_ ?_ ?_ ?_ ?_ ?_ ?_ ?_ ?_
      · rw [u2 _ _ _ (by omega), w2 _ _ _ (by omega)]; exact row.num
      · rw [u2 _ _ _ (by omega), w2 _ _ _ (by omega)]; exact row.len
      · rw [u1 j hj, w1 j hj, row.fro]
      · rw [u2 _ _ _ (by omega), w2 _ _ _ (by omega)]; exact row.jud
      · rw [u2 _ _ _ (by omega), w2 _ _ _ (by omega)]; exact row.kin
      · rw [u2 _ _ _ (by omega), w2 _ _ _ (by omega)]; exact row.pai
      · rw [u2 _ _ _ (by omega), w2 _ _ _ (by omega)]; exact row.wei
      · rw [u2 _ _ _ (by omega), w2 _ _ _ (by omega)]; exact row.ncd
      · rw [u2 _ _ _ (by omega), w2 _ _ _ (by omega)]; exact row.nwd
      · intro i hi; rw [u2 _ _ _ (by omega)] at hi ⊢; rw [w2 _ _ _ (by omega)]; exact row.cds i hi
      · intro i hi; rw [u2 _ _ _ (by omega)] at hi ⊢; rw [w2 _ _ _ (by omega)]; exact row.wds i hi
    · intro j hj
      rw [u3]
      have ok := belt.ok j hj
      have f0 := ok.fr0
      have rj := r1 j hj
      have fj := ft j hj
      refine rOk.mk ?_ ?_ ?_ ?_ ?_ ?_ ?_ ?_ ?_ ?_ ?_ ?_
      · rw [u2 _ _ _ (by omega)]; exact ok.ln1
      · rw [u2 _ _ _ (by omega)]; exact ok.ln2
      · rw [u2 _ _ _ (by omega)]; exact ok.nc1
      · rw [u2 _ _ _ (by omega)]; exact ok.nc2
      · rw [u2 _ _ _ (by omega)]; exact ok.nw1
      · rw [u2 _ _ _ (by omega)]; exact ok.nw2
      · rw [u2 _ _ _ (by omega), u2 _ _ _ (by omega)]; exact ok.kj
      · rw [u2 _ _ _ (by omega)]; exact ok.p01
      · omega
      · rw [u2 _ _ 3 (by omega)]; omega
      · intro x
        rw [u2 _ _ _ (by omega)]
        by_cases y : 105 ≤ (f_gI c 13 (f_gR c j) 4).toInt
        · exact ok.f105 y
        · exact nb j hj (i_eq (by rw [l104]; omega))
      · rw [u2 _ _ 3 (by omega), u2 _ _ 7 (by omega)]; intro x; exact ok.k60 (by omega)
    · intro j hj
      rw [u3, u3, ft _ hj, ft j (by omega), u2 _ _ _ (by omega)]
      have := belt.gap j hj
      omega
  · exact bins.to (fun k i f _ _ => u2 _ _ _ (by omega)) (fun k i f _ _ => w2 _ _ _ (by omega))
  · exact vou.to (fun k i f _ _ => u2 _ _ _ (by omega)) (fun k i f _ _ => w2 _ _ _ (by omega)) (w2 _ _ _ (by omega)) (w2 _ _ _ (by omega)) (w2 _ _ _ (by omega))
  · exact jou.to (fun f => u2 _ _ _ (by omega)) (w2 _ _ _ (by omega)) (w2 _ _ _ (by omega)) (w2 _ _ _ (by omega))
  · exact lat.to (Nat.le_refl _) (fun k i f _ _ => u2 _ _ _ (by omega)) (fun f => w2 _ _ _ (by omega)) (w2 _ _ _ (by omega))
  · exact tot.to (fun f _ _ => u2 _ _ _ (by omega)) (fun f => u2 _ _ _ (by omega)) (fun f => w2 _ _ _ (by omega)) (w2 _ _ _ (by omega)) (w2 _ _ _ (by omega)) (w2 _ _ _ (by omega)) (w2 _ _ _ (by omega)) (w2 _ _ _ (by omega))
  · exact mon.upd (Nat.le_refl _) (fun f => u2 _ _ _ (by omega)) (fun f => u2 _ _ _ (by omega)) u3 (fun j hj => u2 _ _ _ (by omega))
  · refine rMid.mk ?_ ?_ ?_ ?_
    · intro i hi; rw [u3, ft i hi, u2 _ _ _ (by omega)]; intro x; exact h.unp i hi (by omega)
    · intro i hi; omega
    · intro i _ hi; rw [u3, ft i hi, u2 _ _ _ (by omega)]; intro x; exact h.unp i hi (by omega)
    · intro i _ hi; rw [u3, ft i hi, u2 _ _ 3 (by omega), u2 _ _ 7 (by omega)]; intro x; exact (belt.ok i hi).k60 (by omega)
/-- the relation, once off -/
theorem rMid.off {e K N j : Nat} {c m : fST} (h : rAll e K N c m) (hm : rMid N j c) (ho : f_gI c 23 0 2 = 0) : rRel e K N c m :=
  (rRel.mk h (fun q => (by rw [ho] at q; cases q)) hm.unp)
theorem rMid.fin {e K N : Nat} {c m : fST} (h : rAll e K N c m) (hm : rMid N N c) : rRel e K N c m :=
  (rRel.mk h (fun q j hj => hm.r110 j hj hj) hm.unp)
/-- the arrivals of both, from the place j on -/
theorem s_arrive {e : Nat} : ∀ d j N K c m n1 n2, j + d = N → d < n1 → d < n2 → K + d ≤ 1000000000 → rAll e K N c m → rMid N j c → ∃ c' m' N', f_it b_b_stepForward_17 n1 (nI j, nI d, c) = some ((), c') ∧ (∀ k40 x1 x2, f_it (b_m_forward_94 k40) n2 (x1, x2, nI j, m) = k40 (x1, x2, m')) ∧ rRel e (K + d) N' c' m' ∧ fC c c' ∧ fM m m' ∧ f_gI m' 30 0 25 = f_gI m 30 0 25 := by
  intro d
  induction d with
  | zero =>
    intro j N K c m n1 n2 hj h1 h2 hK h hm
    obtain ⟨n1, rfl⟩ : ∃ q, n1 = q + 1 := ⟨n1 - 1, by omega⟩
    obtain ⟨n2, rfl⟩ : ∃ q, n2 = q + 1 := ⟨n2 - 1, by omega⟩
    obtain rfl : j = N := by omega
    refine ⟨c, m, j, ?_, ?_, rMid.fin h hm, fC.rfl, fM.rfl, rfl⟩
    · show b_b_stepForward_17 _ _ = _
      simp only [b_b_stepForward_17, show nI 0 ≤ 0 from Int32.le_refl _, if_true]
    · intro k40 x1 x2
      show b_m_forward_94 _ _ _ = _
      simp only [b_m_forward_94, h.belt.siz, Int32.le_refl, if_true, b_m_forward_190]
  | succ d ih =>
    intro j N K c m n1 n2 hj h1 h2 hK h hm
    obtain ⟨n1, rfl⟩ : ∃ q, n1 = q + 1 := ⟨n1 - 1, by omega⟩
    obtain ⟨n2, rfl⟩ : ∃ q, n2 = q + 1 := ⟨n2 - 1, by omega⟩
    have n13 := h.belt.n13
    have jN : j < N := by omega
    have j60 : j < 60 := by omega
    have up : ∀ {K K' N c m}, K ≤ K' → K' ≤ 1000000000 → rRel e K N c m → rRel e K' N c m := fun a b x => x.to (Nat.le_refl _) x.all.e5 a b (by (intros; first | rfl | ((try simp (disch := omega) only [g_eq, g_ne, g_R, g_O, g_IR, g_IO, g_RO, g_OO, g_OR, g_RRe, g_RRn]); done) | fail)) (by (intros; first | rfl | ((try simp (disch := omega) only [g_eq, g_ne, g_R, g_O, g_IR, g_IO, g_RO, g_OO, g_OR, g_RRe, g_RRn]); done) | fail)) (by (intros; first | rfl | ((try simp (disch := omega) only [g_eq, g_ne, g_R, g_O, g_IR, g_IO, g_RO, g_OO, g_OR, g_RRe, g_RRn]); done) | fail))
    have upA : ∀ {K K' N c m}, K ≤ K' → K' ≤ 1000000000 → rAll e K N c m → rAll e K' N c m := fun a b x => x.to (Nat.le_refl _) x.e5 a b (by (intros; first | rfl | ((try simp (disch := omega) only [g_eq, g_ne, g_R, g_O, g_IR, g_IO, g_RO, g_OO, g_OR, g_RRe, g_RRn]); done) | fail)) (by (intros; first | rfl | ((try simp (disch := omega) only [g_eq, g_ne, g_R, g_O, g_IR, g_IO, g_RO, g_OO, g_OR, g_RRe, g_RRn]); done) | fail)) (by (intros; first | rfl | ((try simp (disch := omega) only [g_eq, g_ne, g_R, g_O, g_IR, g_IO, g_RO, g_OO, g_OR, g_RRe, g_RRn]); done) | fail))
    have dle : ¬ nI (d + 1) ≤ 0 := by rw [show (0 : Int32) = nI 0 from rfl, q_le (by omega) (by omega)]; omega
    have nle : ¬ nI N ≤ nI j := by rw [q_le (by omega) (by omega)]; omega
    have dm : nI (d + 1) + (-1) = nI d := q_np' (by omega)
    have lt := h.belt.rlt j (by omega)
    have row := h.belt.row j jN
    have ok := h.belt.ok j jN
    have rr := ok.rear
    have l1' := ok.ln1
    have l2' := ok.ln2
    have gC : f_gd (f_ib (nI j) 16) = (fun (x : Option (Int32 × fST)) => x) := by funext x; exact q_gd (q_ib (by omega) (by decide))
    rcases h.jou.on with ⟨q1, q2⟩ | ⟨q1, q2⟩
    · -- the class's step and the reference's, as they stand
      have cS : f_it b_b_stepForward_17 (n1 + 1) (nI j, nI (d + 1), c) = f_bd (F_b_leavesOnArrival (nI j) c) (fun v4 z4 => if v4 = 0 then f_it b_b_stepForward_17 n1 (nI (j + 1), nI d, z4) else f_it b_b_stepForward_17 n1 (nI j, nI d, z4)) := by
        show b_b_stepForward_17 _ _ = _
        simp only [b_b_stepForward_17, b_b_stepForward_42, dle, if_false, q1, one_ne, q_n1, dm]
      have cL : F_b_leavesOnArrival (nI j) c = if f_gI c 13 (f_gR c j) 4 - f_gI c 13 (f_gR c j) 3 = 60 then f_bd (F_b_judge (f_gR c j) c) (fun v11 z11 => some (0, z11)) else if f_gI c 13 (f_gR c j) 4 = 105 then f_bd (F_b_pay (f_gR c j) c) (fun v10 z10 => some (0, z10)) else if f_gI c 13 (f_gR c j) 4 - f_gI c 13 (f_gR c j) 3 = 110 then f_bd (F_b_intoBin (nI j) c) (fun v8 z8 => f_gd (f_bz v8) (some (v8, z8))) else some (0, c) := by
        simp only [F_b_leavesOnArrival, q_gd (q_ib (show j < 16 by omega) (by decide)), q_ix (show j < 2147483648 by omega), q_gd' lt, F_co_rear, q_bd]
      have mS : ∀ k40 x1 x2, f_it (b_m_forward_94 k40) (n2 + 1) (x1, x2, nI j, m) = if f_gI c 13 (f_gR c j) 4 - f_gI c 13 (f_gR c j) 3 = 60 then f_bd (F_m_judge (nI j) m) (fun v18 z18 => b_m_forward_127 k40 (f_it (b_m_forward_94 k40) n2) x1 x2 (nI j) 0 z18) else b_m_forward_127 k40 (f_it (b_m_forward_94 k40) n2) x1 x2 (nI j) 0 m := by
        intro k40 x1 x2
        show b_m_forward_94 _ _ _ = _
        simp only [b_m_forward_94, h.belt.siz, nle, if_false, q2, if_true, m_rear j60, q_bd, ← row.fro, ← row.len]
      -- the reference's next, where nothing of the row is at 105 or at 110, or the power is off
      have mN : ∀ {c1 m1 : fST}, rAll e (K + 1) N c1 m1 → (f_gI c1 13 (f_gR c1 j) 4).toInt ≠ 105 → (f_gI c1 13 (f_gR c1 j) 4).toInt - (f_gI c1 13 (f_gR c1 j) 3).toInt ≠ 110 → ∀ k40 k94 x1 x2, b_m_forward_127 k40 k94 x1 x2 (nI j) 0 m1 = k94 (x1, x2, nI (j + 1), m1) := by
        intro c1 m1 h' n5 n10 k40 k94 x1 x2
        have row' := h'.belt.row j jN
        have rr' := (h'.belt.ok j jN).rear
        have a1 : ¬ f_gI c1 13 (f_gR c1 j) 4 = 105 := fun x => n5 (by rw [x]; rfl)
        have a2 : ¬ f_gI c1 13 (f_gR c1 j) 4 - f_gI c1 13 (f_gR c1 j) 3 = 110 := fun x => n10 (by rw [← rr', x]; rfl)
        unfold b_m_forward_127 b_m_forward_150 b_m_forward_174 b_m_forward_185
        by_cases o : f_gI m1 30 0 17 = 0
        · simp only [o, if_true, m_g2 j60, q_bd, ← row'.fro, ← row'.len, a1, if_false, m_rear j60, a2, q_n1]
        · simp only [o, if_false, if_true, q_n1]
      by_cases c60 : f_gI c 13 (f_gR c j) 4 - f_gI c 13 (f_gR c j) 3 = 60
      · have r60 : (f_gI c 13 (f_gR c j) 4).toInt - (f_gI c 13 (f_gR c j) 3).toInt = 60 := by rw [← rr, c60]; rfl
        obtain ⟨c1, m1, j1, j2, j3, j4, j5, j6, j7, j8⟩ := s_judge h q1 (by omega) jN (by omega) (by omega) (hm.k60 j (Nat.le_refl _) jN r60)
        have mid : rMid N (j + 1) c1 := by
          refine rMid.mk ?_ ?_ ?_ ?_
          · intro i hi; rw [j5, j4 _ _ (by decide) (by decide), j4 _ _ (by decide) (by decide)]; exact hm.unp i hi
          · intro i hi hN; rw [j5, j4 _ _ (by decide) (by decide), j4 _ _ (by decide) (by decide)]
            by_cases x : i = j
            · subst x; omega
            · exact hm.r110 i (by omega) hN
          · intro i hi hN; rw [j5, j4 _ _ (by decide) (by decide), j4 _ _ (by decide) (by decide)]; exact hm.p105 i (by omega) hN
          · intro i hi hN
            rw [j5, j4 _ 4 (by decide) (by decide), j4 _ 3 (by decide) (by decide)]
            intro x
            have g1 := h.belt.geo
            exfalso
            -- two rears cannot be the same
            have two : ∀ b, j + b + 1 < N → (f_gI c 13 (f_gR c (j + b + 1)) 4).toInt - (f_gI c 13 (f_gR c (j + b + 1)) 3).toInt < 60 := by
              intro b
              induction b with
              | zero => intro hb; have := h.belt.gap j (by omega); have := (h.belt.ok (j + 1) (by omega)).ln1; simp only [Nat.add_zero]; omega
              | succ b ihb => intro hb; have := ihb (by omega); have := h.belt.gap (j + b + 1) (by omega); have := (h.belt.ok (j + b + 1 + 1) (by omega)).ln1; rw [show j + (b + 1) + 1 = j + b + 1 + 1 by omega]; omega
            have := two (i - (j + 1)) (by omega)
            rw [show j + (i - (j + 1)) + 1 = i by omega] at this
            omega
        obtain ⟨c2, m2, N', i1, i2, i3, i4, i5, i6⟩ := ih (j + 1) N (K + 1) c1 m1 n1 n2 (by omega) (by omega) (by omega) (by omega) j3 mid
        refine ⟨c2, m2, N', ?_, ?_, by rw [show K + (d + 1) = K + 1 + d by omega]; exact i3, j6.trans i4, j7.trans i5, i6.trans j8⟩
        · rw [cS, cL, if_pos c60, j1, q_bd, q_bd, if_pos rfl]; exact i1
        · intro k40 x1 x2
          rw [mS, if_pos c60, j2, q_bd, mN j3 (by rw [j5, j4 _ _ (by decide) (by decide)]; omega) (by rw [j5, j4 _ _ (by decide) (by decide), j4 _ _ (by decide) (by decide)]; omega)]
          exact i2 k40 x1 x2
      have r60 : (f_gI c 13 (f_gR c j) 4).toInt - (f_gI c 13 (f_gR c j) 3).toInt ≠ 60 := fun x => c60 (i_eq (by rw [rr, l60]; exact x))
      by_cases c105 : f_gI c 13 (f_gR c j) 4 = 105
      · have f5 : (f_gI c 13 (f_gR c j) 4).toInt = 105 := by rw [c105]; rfl
        obtain ⟨c1, m1, j1, j2, j3, j4, j5, j6, j7, j8⟩ := s_pay h q1 jN (ok.f105 (by omega)) (hm.p105 j (Nat.le_refl _) jN f5)
        have ne : ∀ i, i < N → i ≠ j → f_gR c i ≠ f_gR c j := fun i hi x y => x (h.belt.inj i j (by omega) (by omega) y)
        have mid : rMid N (j + 1) c1 := by
          refine rMid.mk ?_ ?_ ?_ ?_
          · intro i hi
            rw [j5, j4 _ 4 (by omega)]
            intro x
            by_cases y : i = j
            · subst y; omega
            · rw [j4 _ _ (Or.inr (ne i hi y))]; exact hm.unp i hi x
          · intro i hi hN; rw [j5, j4 _ 4 (by omega), j4 _ 3 (by omega)]
            by_cases x : i = j
            · subst x; omega
            · exact hm.r110 i (by omega) hN
          · intro i hi hN; rw [j5, j4 _ 4 (by omega), j4 _ _ (Or.inr (ne i hN (by omega)))]; exact hm.p105 i (by omega) hN
          · intro i hi hN; rw [j5, j4 _ 4 (by omega), j4 _ 3 (by omega), j4 _ 7 (by omega)]; exact hm.k60 i (by omega) hN
        obtain ⟨c2, m2, N', i1, i2, i3, i4, i5, i6⟩ := ih (j + 1) N K c1 m1 n1 n2 (by omega) (by omega) (by omega) (by omega) j3 mid
        refine ⟨c2, m2, N', ?_, ?_, up (by omega) hK i3, j6.trans i4, j7.trans i5, i6.trans j8⟩
        · rw [cS, cL, if_neg c60, if_pos c105, j1, q_bd, q_bd, if_pos rfl]; exact i1
        · intro k40 x1 x2
          have row1 := j3.belt.row j jN
          have e1 : f_gI m1 34 0 (20 * j + 2) - f_gI m1 34 0 (20 * j + 1) = f_gI c 13 (f_gR c j) 4 - f_gI c 13 (f_gR c j) 3 := by
            rw [← row1.fro, ← row1.len, j5, j4 _ 4 (by omega), j4 _ 3 (by omega)]
          have n110 : ¬ f_gI c 13 (f_gR c j) 4 - f_gI c 13 (f_gR c j) 3 = 110 := fun x => by rw [x, l110] at rr; omega
          rw [mS, if_neg c60]
          unfold b_m_forward_127
          rw [if_pos q2, m_g2 j60, q_bd, ← row.fro, if_pos c105, j2, q_bd]
          unfold b_m_forward_150 b_m_forward_174 b_m_forward_185
          by_cases o : f_gI m1 30 0 17 = 0
          · simp only [o, if_true, m_rear j60, q_bd, e1, n110, if_false, q_n1]; exact i2 k40 x1 x2
          · simp only [o, if_false, if_true, q_n1]; exact i2 k40 x1 x2
      have f5 : (f_gI c 13 (f_gR c j) 4).toInt ≠ 105 := fun x => c105 (i_eq (by rw [l105]; exact x))
      by_cases c110 : f_gI c 13 (f_gR c j) 4 - f_gI c 13 (f_gR c j) 3 = 110
      · have r110 : (f_gI c 13 (f_gR c j) 4).toInt - (f_gI c 13 (f_gR c j) 3).toInt = 110 := by rw [← rr, c110]; rfl
        have mD : ∀ k40 x1 x2, f_it (b_m_forward_94 k40) (n2 + 1) (x1, x2, nI j, m) = f_bd (F_m_drop (nI j) m) (fun v26 z26 => b_m_forward_174 k40 (f_it (b_m_forward_94 k40) n2) x1 x2 (nI j) v26 z26) := by
          intro k40 x1 x2
          rw [mS, if_neg c60]
          unfold b_m_forward_127 b_m_forward_150
          rw [if_pos q2, m_g2 j60, q_bd, ← row.fro, if_neg c105, if_pos q2, m_rear j60, q_bd, ← row.fro, ← row.len, if_pos c110]
        rcases s_drop h q1 jN (ok.f105 (by omega)) with ⟨c1, m1, j1, j2, j3, j4, j5, j6, j7, j8, j9⟩ | ⟨c1, m1, j1, j2, j3, j4, j5, j6, j7, j8, j9, j10⟩
        · have mid : rMid N (j + 1) c1 ∨ True := Or.inr trivial
          have rel : rRel e K N c1 m1 := (rRel.mk j3 (fun q => (by rw [j4] at q; cases q)) (fun i hi => by rw [j6, j5 _ _ _ (by decide), j5 _ _ _ (by decide)]; exact hm.unp i hi))
          have off1 : f_gI m1 30 0 17 = 1 := by
            rcases j3.jou.on with ⟨x, _⟩ | ⟨_, y⟩
            · rw [j4] at x; cases x
            · exact y
          refine ⟨c1, m1, N, ?_, ?_, up (by omega) hK rel, j7, j8, j9⟩
          · obtain ⟨n1, rfl⟩ : ∃ q, n1 = q + 1 := ⟨n1 - 1, by omega⟩
            rw [cS, cL, if_neg c60, if_neg c105, if_pos c110, j1, q_bd, q_gd (show f_bz 0 = true from rfl), q_bd, if_pos rfl]
            show b_b_stepForward_17 _ _ = _
            simp only [b_b_stepForward_17, j4, if_true]
            split <;> rfl
          · intro k40 x1 x2
            obtain ⟨n2, rfl⟩ : ∃ q, n2 = q + 1 := ⟨n2 - 1, by omega⟩
            rw [mD, j2, q_bd]
            unfold b_m_forward_174 b_m_forward_185
            rw [if_pos rfl, q_n1]
            show b_m_forward_94 _ _ _ = _
            simp only [b_m_forward_94, off1, one_ne, if_false, b_m_forward_190]
            split <;> rfl
        · have mid : rMid (N - 1) j c1 := by
            have sg : ∀ i, i < N - 1 → ∃ b, b < N ∧ f_gR c1 i = f_gR c b ∧ ((i < j ∧ b = i) ∨ (j ≤ i ∧ b = i + 1)) := by
              intro i hi
              by_cases x : i < j
              · exact ⟨i, by omega, j6 i x, Or.inl ⟨x, rfl⟩⟩
              · exact ⟨i + 1, by omega, j7 i (by omega) hi, Or.inr ⟨by omega, rfl⟩⟩
            refine rMid.mk ?_ ?_ ?_ ?_
            · intro i hi; obtain ⟨b, bN, e, _⟩ := sg i hi; rw [e, j5, j5]; exact hm.unp b bN
            · intro i hi hN; rw [j6 i hi, j5, j5]; exact hm.r110 i hi (by omega)
            · intro i hi hN; rw [j7 i hi hN, j5, j5]; exact hm.p105 (i + 1) (by omega) (by omega)
            · intro i hi hN; rw [j7 i hi hN, j5, j5, j5]; exact hm.k60 (i + 1) (by omega) (by omega)
          obtain ⟨c2, m2, N', i1, i2, i3, i4, i5, i6⟩ := ih j (N - 1) K c1 m1 n1 n2 (by omega) (by omega) (by omega) (by omega) j3 mid
          refine ⟨c2, m2, N', ?_, ?_, up (by omega) hK i3, j8.trans i4, j9.trans i5, i6.trans j10⟩
          · rw [cS, cL, if_neg c60, if_neg c105, if_pos c110, j1, q_bd, q_gd (show f_bz 1 = true from rfl), q_bd, if_neg one_ne]; exact i1
          · intro k40 x1 x2
            rw [mD, j2, q_bd]
            unfold b_m_forward_174 b_m_forward_185
            rw [if_neg one_ne, Int32.add_zero]
            exact i2 k40 x1 x2
      · have r110 : (f_gI c 13 (f_gR c j) 4).toInt - (f_gI c 13 (f_gR c j) 3).toInt ≠ 110 := fun x => c110 (i_eq (by rw [rr, l110]; exact x))
        have mid : rMid N (j + 1) c := by
          refine rMid.mk ?_ ?_ ?_ ?_
          · exact hm.unp
          · intro i hi hN
            by_cases x : i = j
            · subst x; have := ok.fr1; omega
            · exact hm.r110 i (by omega) hN
          · intro i hi hN; exact hm.p105 i (by omega) hN
          · intro i hi hN; exact hm.k60 i (by omega) hN
        obtain ⟨c2, m2, N', i1, i2, i3, i4, i5, i6⟩ := ih (j + 1) N K c m n1 n2 (by omega) (by omega) (by omega) (by omega) h mid
        refine ⟨c2, m2, N', ?_, ?_, up (by omega) hK i3, i4, i5, i6⟩
        · rw [cS, cL, if_neg c60, if_neg c105, if_neg c110, q_bd, if_pos rfl]; exact i1
        · intro k40 x1 x2
          rw [mS, if_neg c60, mN (upA (by omega) (by omega) h) f5 r110]
          exact i2 k40 x1 x2
    · refine ⟨c, m, N, ?_, ?_, up (by omega) hK (rMid.off h hm q1), fC.rfl, fM.rfl, rfl⟩
      · show b_b_stepForward_17 _ _ = _
        simp only [b_b_stepForward_17, q1, if_true]
        split <;> rfl
      · intro k40 x1 x2
        show b_m_forward_94 _ _ _ = _
        simp only [b_m_forward_94, q2, one_ne, if_false, b_m_forward_190]
        split <;> rfl
