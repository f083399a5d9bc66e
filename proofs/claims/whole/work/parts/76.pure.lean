set_option linter.unusedVariables false
set_option linter.unusedSimpArgs false
/-- both loops of clear, in step -/
theorem s_clear {V : Nat} (V60 : V ≤ 60) : ∀ d j k n c m, j + d = V → k ≤ j → d < n → f_gI c 19 0 3 = nI k → f_gI m 30 0 12 = nI V → (∀ i, i < V → (i < k ∨ j ≤ i) → f_gI c 20 0 i = f_gI m 37 0 i ∧ f_gI c 21 0 i = f_gI m 38 0 i ∧ f_gI c 22 0 i = f_gI m 39 0 i ∧ (0 ≤ (f_gI c 20 0 i).toInt ∧ (f_gI c 20 0 i).toInt < 1000000) ∧ (0 ≤ (f_gI c 21 0 i).toInt ∧ (f_gI c 21 0 i).toInt < 1000000) ∧ (f_gI c 22 0 i = 0 ∨ f_gI c 22 0 i = 1)) →
    ∃ k' c' m', k' ≤ V ∧ f_it b_vo_forgetRedeemed_12 n (nI V, nI j, c) = some (nI V - nI k', c') ∧ f_it b_m_clear_18 n (nI k, nI j, m) = some (nI V - nI k', f_pI m' 30 0 12 (nI k')) ∧ f_gI c' 19 0 3 = nI k' ∧ (∀ i, i < k' → f_gI c' 20 0 i = f_gI m' 37 0 i ∧ f_gI c' 21 0 i = f_gI m' 38 0 i ∧ f_gI c' 22 0 i = f_gI m' 39 0 i ∧ (0 ≤ (f_gI c' 20 0 i).toInt ∧ (f_gI c' 20 0 i).toInt < 1000000) ∧ (0 ≤ (f_gI c' 21 0 i).toInt ∧ (f_gI c' 21 0 i).toInt < 1000000) ∧ (f_gI c' 22 0 i = 0 ∨ f_gI c' 22 0 i = 1)) ∧ (∀ k i j, k ≠ 20 → k ≠ 21 → k ≠ 22 → (k ≠ 19 ∨ j ≠ 3) → f_gI c' k i j = f_gI c k i j) ∧ (∀ j, f_gR c' j = f_gR c j) ∧ fC c c' ∧ (∀ k i j, k ≠ 37 → k ≠ 38 → k ≠ 39 → f_gI m' k i j = f_gI m k i j) ∧ fM m m' := by
  intro d
  induction d with
  | zero =>
    intro j k n c m hj kj hn hc hm hp
    obtain rfl : j = V := by omega
    obtain ⟨n, rfl⟩ : ∃ q, n = q + 1 := ⟨n - 1, by omega⟩
    refine ⟨k, c, m, kj, ?_, ?_, hc, fun i hi => hp i (by omega) (Or.inl hi), by (intros; first | rfl | ((try simp (disch := omega) only [g_eq, g_ne, g_R, g_O, g_IR, g_IO, g_RO, g_OO, g_OR, g_RRe, g_RRn]); done) | fail), by (intros; first | rfl | ((try simp (disch := omega) only [g_eq, g_ne, g_R, g_O, g_IR, g_IO, g_RO, g_OO, g_OR, g_RRe, g_RRn]); done) | fail), fC.rfl, by (intros; first | rfl | ((try simp (disch := omega) only [g_eq, g_ne, g_R, g_O, g_IR, g_IO, g_RO, g_OO, g_OR, g_RRe, g_RRn]); done) | fail), fM.rfl⟩
    · show b_vo_forgetRedeemed_12 _ _ = _
      simp only [b_vo_forgetRedeemed_12, Int32.le_refl, if_true, hc]
    · show b_m_clear_18 _ _ = _
      simp only [b_m_clear_18, hm, Int32.le_refl, if_true]
  | succ d ih =>
    intro j k n c m hj kj hn hc hm hp
    obtain ⟨n, rfl⟩ : ∃ q, n = q + 1 := ⟨n - 1, by omega⟩
    obtain ⟨p1, p2, p3, p4, p5, p6⟩ := hp j (by omega) (Or.inr (Nat.le_refl _))
    have nle : ¬ nI V ≤ nI j := by rw [q_le (by omega) (by omega)]; omega
    by_cases r : f_gI c 22 0 j = 0
    · have r' : f_gI m 39 0 j = 0 := by rw [← p3]; exact r
      obtain ⟨k', c', m', i1, i2, i3, i4, i5, i6, i7, i8, i9, i10⟩ := ih (j + 1) (k + 1) n (f_pI (f_pI (f_pI (f_pI c 20 0 k (f_gI c 20 0 j)) 21 0 k (f_gI c 21 0 j)) 22 0 k 0) 19 0 3 (nI (k + 1))) (f_pI (f_pI (f_pI m 37 0 k (f_gI m 37 0 j)) 38 0 k (f_gI m 38 0 j)) 39 0 k 0) (by omega) (by omega) (by omega) (by (try simp (disch := omega) only [g_eq, g_ne, g_R, g_O, g_IR, g_IO, g_RO, g_OO, g_OR, g_RRe, g_RRn])) (by (try simp (disch := omega) only [g_eq, g_ne, g_R, g_O, g_IR, g_IO, g_RO, g_OO, g_OR, g_RRe, g_RRn]); exact hm) (by
        intro i hi hh
        by_cases q : i = k
        · subst q
          (try simp (disch := omega) only [g_eq, g_ne, g_R, g_O, g_IR, g_IO, g_RO, g_OO, g_OR, g_RRe, g_RRn])
          exact ⟨p1, p2, trivial, p4, p5, Or.inl trivial⟩
        · (try simp (disch := omega) only [g_eq, g_ne, g_R, g_O, g_IR, g_IO, g_RO, g_OO, g_OR, g_RRe, g_RRn])
          exact hp i hi (by omega))
      refine ⟨k', c', m', i1, ?_, ?_, i4, i5, ?_, ?_, ?_, ?_, ?_⟩
      · show b_vo_forgetRedeemed_12 _ _ = _
        simp only [b_vo_forgetRedeemed_12, if_neg nle, q_gd (q_ib (show j < 60 by omega) (by decide)), q_ix (show j < 2147483648 by omega), r, if_true, F_vo_keep, hc]
        (try simp (disch := omega) only [g_eq, g_ne, g_R, g_O, g_IR, g_IO, g_RO, g_OO, g_OR, g_RRe, g_RRn])
        simp only [hc, q_gd (q_ib (show k < 60 by omega) (by decide)), q_ix (show k < 2147483648 by omega), q_gd (show f_bz 0 = true from rfl), q_bd, b_vo_forgetRedeemed_43, q_n1]
        exact i2
      · show b_m_clear_18 _ _ = _
        simp only [b_m_clear_18, hm, if_neg nle, q_gd (q_ib (show j < 60 by omega) (by decide)), q_gd (q_ib (show k < 60 by omega) (by decide)), q_ix (show j < 2147483648 by omega), q_ix (show k < 2147483648 by omega), r', if_true, b_m_clear_72, q_n1]
        (try simp (disch := omega) only [g_eq, g_ne, g_R, g_O, g_IR, g_IO, g_RO, g_OO, g_OR, g_RRe, g_RRn])
        exact i3
      · intro a b f x1 x2 x3 x4; rw [i6 a b f x1 x2 x3 x4]; (try simp (disch := omega) only [g_eq, g_ne, g_R, g_O, g_IR, g_IO, g_RO, g_OO, g_OR, g_RRe, g_RRn])
      · intro a; rw [i7]; rfl
      · exact ((((fC.rfl.put (by decide)).put (by decide)).put (by decide)).put (by decide)).trans i8
      · intro a b f x1 x2 x3; rw [i9 a b f x1 x2 x3]; (try simp (disch := omega) only [g_eq, g_ne, g_R, g_O, g_IR, g_IO, g_RO, g_OO, g_OR, g_RRe, g_RRn])
      · exact (((fM.rfl.put (by decide)).put (by decide)).put (by decide)).trans i10
    · have r' : ¬ f_gI m 39 0 j = 0 := by rw [← p3]; exact r
      obtain ⟨k', c', m', i1, i2, i3, i4, i5, i6, i7, i8, i9, i10⟩ := ih (j + 1) k n c m (by omega) (by omega) (by omega) hc hm (fun i hi hh => hp i hi (by omega))
      refine ⟨k', c', m', i1, ?_, ?_, i4, i5, i6, i7, i8, i9, i10⟩
      · show b_vo_forgetRedeemed_12 _ _ = _
        simp only [b_vo_forgetRedeemed_12, if_neg nle, q_gd (q_ib (show j < 60 by omega) (by decide)), q_ix (show j < 2147483648 by omega), r, if_false, b_vo_forgetRedeemed_43, q_n1]
        exact i2
      · show b_m_clear_18 _ _ = _
        simp only [b_m_clear_18, hm, if_neg nle, q_gd (q_ib (show j < 60 by omega) (by decide)), q_ix (show j < 2147483648 by omega), r', if_false, b_m_clear_72, q_n1]
        exact i3
theorem o_clear : qOk aI F_l_clear F_m_clear := by
  apply qOk.mk
  intro e K N c m he hK h
  rcases h.all.jou.on with ⟨q1, q2⟩ | ⟨q1, q2⟩
  · have ht := h.thr (v := 0)
    obtain ⟨e5, K9, cat, belt, bins, ⟨V, vou⟩, jou, ⟨t, r, lat⟩, tot, mon⟩ := ht.all
    have v60 := vou.v60
    obtain ⟨k', c', m', i1, i2, i3, i4, i5, i6, i7, i8, i9, i10⟩ := s_clear v60 V 0 0 2000 (f_pI c 19 0 3 0) (f_pI m 30 0 25 0) (by omega) (by omega) (by omega) (by (try simp (disch := omega) only [g_eq, g_ne, g_R, g_O, g_IR, g_IO, g_RO, g_OO, g_OR, g_RRe, g_RRn]); rfl) vou.siz (by
      intro i hi _
      have a1 := vou.num i hi
      have a2 := vou.sum i hi
      have a3 := vou.red i hi
      revert a1 a2 a3
      (try simp (disch := omega) only [g_eq, g_ne, g_R, g_O, g_IR, g_IO, g_RO, g_OO, g_OR, g_RRe, g_RRn])
      intro a1 a2 a3
      exact ⟨a1, a2, a3, vou.nok i hi, vou.sok i hi, vou.rok i hi⟩)
    have hc : ∀ k i j, k ≠ 20 → k ≠ 21 → k ≠ 22 → (k ≠ 19 ∨ j ≠ 3) → f_gI c' k i j = f_gI c k i j := fun k i j x1 x2 x3 x4 => by rw [i6 k i j x1 x2 x3 x4]; (try simp (disch := omega) only [g_eq, g_ne, g_R, g_O, g_IR, g_IO, g_RO, g_OO, g_OR, g_RRe, g_RRn])
    have hm : ∀ k i j, k ≠ 37 → k ≠ 38 → k ≠ 39 → f_gI m' k i j = f_gI (f_pI m 30 0 25 0) k i j := i9
    refine qI_yes (c' := c') (m' := f_pI m' 30 0 12 (nI k')) (N' := N) (e' := e) (K' := K) (v := nI V - nI k') (x := (nI V - nI k').toInt64) ?_ ?_ rfl ?_ (by omega) (by omega) ?_ ((fC.rfl.put (by decide)).trans i8) (((fM.rfl.put (by decide)).trans i10).put (by decide))
    · simp only [F_l_clear, F_b_clear, c_on q1, q_bl, F_vo_forgetRedeemed, vou.cnt]
      rw [show (0 : Int32) = nI 0 from rfl] at i2
      rw [show f_it b_vo_forgetRedeemed_12 2000 (nI V, 0, f_pI c 19 0 3 0) = _ from i2]; rfl
    · simp only [F_m_clear, q2, m_f0, q_bd, if_true]
      exact i3
    · (try simp (disch := omega) only [g_eq, g_ne, g_R, g_O, g_IR, g_IO, g_RO, g_OO, g_OR, g_RRe, g_RRn]); rw [hm _ _ _ (by omega) (by omega) (by omega)]; (try simp (disch := omega) only [g_eq, g_ne, g_R, g_O, g_IR, g_IO, g_RO, g_OO, g_OR, g_RRe, g_RRn])
    · have belt : rBelt N c' m' := belt.to (fun k i j _ _ => hc _ _ _ (by omega) (by omega) (by omega) (by omega)) i7 (fun j => hm _ _ _ (by omega) (by omega) (by omega)) (hm _ _ _ (by omega) (by omega) (by omega)) (hm _ _ _ (by omega) (by omega) (by omega))
      have cat : rCat c' m' := cat.to (fun k i j _ _ => hc _ _ _ (by omega) (by omega) (by omega) (by omega)) (fun k i j _ _ => hm _ _ _ (by omega) (by omega) (by omega))
      have bins : rBins c' m' := bins.to (fun k i j _ _ => hc _ _ _ (by omega) (by omega) (by omega) (by omega)) (fun k i j _ _ => hm _ _ _ (by omega) (by omega) (by omega))
      have jou : rJou c' m' := jou.to (fun j => hc _ _ _ (by omega) (by omega) (by omega) (by omega)) (hm _ _ _ (by omega) (by omega) (by omega)) (hm _ _ _ (by omega) (by omega) (by omega)) (hm _ _ _ (by omega) (by omega) (by omega))
      have lat : rLat t r K c' m' := lat.to (Nat.le_refl _) (fun k i j _ _ => hc _ _ _ (by omega) (by omega) (by omega) (by omega)) (fun j => hm _ _ _ (by omega) (by omega) (by omega)) (hm _ _ _ (by omega) (by omega) (by omega))
      have tot : rTot c' m' := tot.to (fun j _ _ => hc _ _ _ (by omega) (by omega) (by omega) (by omega)) (fun j => hc _ _ _ (by omega) (by omega) (by omega) (by omega)) (fun j => hm _ _ _ (by omega) (by omega) (by omega)) (hm _ _ _ (by omega) (by omega) (by omega)) (hm _ _ _ (by omega) (by omega) (by omega)) (hm _ _ _ (by omega) (by omega) (by omega)) (hm _ _ _ (by omega) (by omega) (by omega)) (hm _ _ _ (by omega) (by omega) (by omega))
      have mon : rMon N e c' := mon.to (Nat.le_refl _) (fun j => hc _ _ _ (by omega) (by omega) (by omega) (by omega)) (fun k i j _ _ => hc _ _ _ (by omega) (by omega) (by omega) (by omega)) i7
      refine rRel.mk (rAll.mk e5 K9 ?_ ?_ ?_ (⟨k', ?_⟩) ?_ ?_ ?_ ?_) ?_ ?_
      any_goals (first | exact rCat.to ‹_› (by (intros; first | rfl | ((try simp (disch := omega) only [g_eq, g_ne, g_R, g_O, g_IR, g_IO, g_RO, g_OO, g_OR, g_RRe, g_RRn]); done) | fail)) (by (intros; first | rfl | ((try simp (disch := omega) only [g_eq, g_ne, g_R, g_O, g_IR, g_IO, g_RO, g_OO, g_OR, g_RRe, g_RRn]); done) | fail)) | exact rBelt.to ‹_› (by (intros; first | rfl | ((try simp (disch := omega) only [g_eq, g_ne, g_R, g_O, g_IR, g_IO, g_RO, g_OO, g_OR, g_RRe, g_RRn]); done) | fail)) (by (intros; first | rfl | ((try simp (disch := omega) only [g_eq, g_ne, g_R, g_O, g_IR, g_IO, g_RO, g_OO, g_OR, g_RRe, g_RRn]); done) | fail)) (by (intros; first | rfl | ((try simp (disch := omega) only [g_eq, g_ne, g_R, g_O, g_IR, g_IO, g_RO, g_OO, g_OR, g_RRe, g_RRn]); done) | fail)) (by (intros; first | rfl | ((try simp (disch := omega) only [g_eq, g_ne, g_R, g_O, g_IR, g_IO, g_RO, g_OO, g_OR, g_RRe, g_RRn]); done) | fail)) (by (intros; first | rfl | ((try simp (disch := omega) only [g_eq, g_ne, g_R, g_O, g_IR, g_IO, g_RO, g_OO, g_OR, g_RRe, g_RRn]); done) | fail)) | exact rBins.to ‹_› (by (intros; first | rfl | ((try simp (disch := omega) only [g_eq, g_ne, g_R, g_O, g_IR, g_IO, g_RO, g_OO, g_OR, g_RRe, g_RRn]); done) | fail)) (by (intros; first | rfl | ((try simp (disch := omega) only [g_eq, g_ne, g_R, g_O, g_IR, g_IO, g_RO, g_OO, g_OR, g_RRe, g_RRn]); done) | fail)) | exact ⟨_, rVou.to ‹_› (by (intros; first | rfl | ((try simp (disch := omega) only [g_eq, g_ne, g_R, g_O, g_IR, g_IO, g_RO, g_OO, g_OR, g_RRe, g_RRn]); done) | fail)) (by (intros; first | rfl | ((try simp (disch := omega) only [g_eq, g_ne, g_R, g_O, g_IR, g_IO, g_RO, g_OO, g_OR, g_RRe, g_RRn]); done) | fail)) (by (intros; first | rfl | ((try simp (disch := omega) only [g_eq, g_ne, g_R, g_O, g_IR, g_IO, g_RO, g_OO, g_OR, g_RRe, g_RRn]); done) | fail)) (by (intros; first | rfl | ((try simp (disch := omega) only [g_eq, g_ne, g_R, g_O, g_IR, g_IO, g_RO, g_OO, g_OR, g_RRe, g_RRn]); done) | fail)) (by (intros; first | rfl | ((try simp (disch := omega) only [g_eq, g_ne, g_R, g_O, g_IR, g_IO, g_RO, g_OO, g_OR, g_RRe, g_RRn]); done) | fail))⟩ | exact rJou.to ‹_› (by (intros; first | rfl | ((try simp (disch := omega) only [g_eq, g_ne, g_R, g_O, g_IR, g_IO, g_RO, g_OO, g_OR, g_RRe, g_RRn]); done) | fail)) (by (intros; first | rfl | ((try simp (disch := omega) only [g_eq, g_ne, g_R, g_O, g_IR, g_IO, g_RO, g_OO, g_OR, g_RRe, g_RRn]); done) | fail)) (by (intros; first | rfl | ((try simp (disch := omega) only [g_eq, g_ne, g_R, g_O, g_IR, g_IO, g_RO, g_OO, g_OR, g_RRe, g_RRn]); done) | fail)) (by (intros; first | rfl | ((try simp (disch := omega) only [g_eq, g_ne, g_R, g_O, g_IR, g_IO, g_RO, g_OO, g_OR, g_RRe, g_RRn]); done) | fail)) | exact ⟨_, _, rLat.to ‹_› (Nat.le_refl _) (by (intros; first | rfl | ((try simp (disch := omega) only [g_eq, g_ne, g_R, g_O, g_IR, g_IO, g_RO, g_OO, g_OR, g_RRe, g_RRn]); done) | fail)) (by (intros; first | rfl | ((try simp (disch := omega) only [g_eq, g_ne, g_R, g_O, g_IR, g_IO, g_RO, g_OO, g_OR, g_RRe, g_RRn]); done) | fail)) (by (intros; first | rfl | ((try simp (disch := omega) only [g_eq, g_ne, g_R, g_O, g_IR, g_IO, g_RO, g_OO, g_OR, g_RRe, g_RRn]); done) | fail))⟩ | exact rTot.to ‹_› (by (intros; first | rfl | ((try simp (disch := omega) only [g_eq, g_ne, g_R, g_O, g_IR, g_IO, g_RO, g_OO, g_OR, g_RRe, g_RRn]); done) | fail)) (by (intros; first | rfl | ((try simp (disch := omega) only [g_eq, g_ne, g_R, g_O, g_IR, g_IO, g_RO, g_OO, g_OR, g_RRe, g_RRn]); done) | fail)) (by (intros; first | rfl | ((try simp (disch := omega) only [g_eq, g_ne, g_R, g_O, g_IR, g_IO, g_RO, g_OO, g_OR, g_RRe, g_RRn]); done) | fail)) (by (intros; first | rfl | ((try simp (disch := omega) only [g_eq, g_ne, g_R, g_O, g_IR, g_IO, g_RO, g_OO, g_OR, g_RRe, g_RRn]); done) | fail)) (by (intros; first | rfl | ((try simp (disch := omega) only [g_eq, g_ne, g_R, g_O, g_IR, g_IO, g_RO, g_OO, g_OR, g_RRe, g_RRn]); done) | fail)) (by (intros; first | rfl | ((try simp (disch := omega) only [g_eq, g_ne, g_R, g_O, g_IR, g_IO, g_RO, g_OO, g_OR, g_RRe, g_RRn]); done) | fail)) (by (intros; first | rfl | ((try simp (disch := omega) only [g_eq, g_ne, g_R, g_O, g_IR, g_IO, g_RO, g_OO, g_OR, g_RRe, g_RRn]); done) | fail)) (by (intros; first | rfl | ((try simp (disch := omega) only [g_eq, g_ne, g_R, g_O, g_IR, g_IO, g_RO, g_OO, g_OR, g_RRe, g_RRn]); done) | fail)) | exact rMon.to ‹_› (Nat.le_refl _) (by (intros; first | rfl | ((try simp (disch := omega) only [g_eq, g_ne, g_R, g_O, g_IR, g_IO, g_RO, g_OO, g_OR, g_RRe, g_RRn]); done) | fail)) (by (intros; first | rfl | ((try simp (disch := omega) only [g_eq, g_ne, g_R, g_O, g_IR, g_IO, g_RO, g_OO, g_OR, g_RRe, g_RRn]); done) | fail)) (by (intros; first | rfl | ((try simp (disch := omega) only [g_eq, g_ne, g_R, g_O, g_IR, g_IO, g_RO, g_OO, g_OR, g_RRe, g_RRn]); done) | fail)) | fail)
      · refine rVou.mk ?_ ?_ ?_ ?_ ?_ ?_ ?_ ?_ ?_ ?_ ?_ ?_ ?_
        · omega
        · exact i4
        · (try simp (disch := omega) only [g_eq, g_ne, g_R, g_O, g_IR, g_IO, g_RO, g_OO, g_OR, g_RRe, g_RRn])
        · (try simp (disch := omega) only [g_eq, g_ne, g_R, g_O, g_IR, g_IO, g_RO, g_OO, g_OR, g_RRe, g_RRn]); rw [hc _ _ _ (by omega) (by omega) (by omega) (by omega), hm _ _ _ (by omega) (by omega) (by omega)]; exact vou.ser
        · (try simp (disch := omega) only [g_eq, g_ne, g_R, g_O, g_IR, g_IO, g_RO, g_OO, g_OR, g_RRe, g_RRn]); rw [hc _ _ _ (by omega) (by omega) (by omega) (by omega), hm _ _ _ (by omega) (by omega) (by omega)]; exact vou.iss
        · rw [hc _ _ _ (by omega) (by omega) (by omega) (by omega)]; exact vou.se0
        · rw [hc _ _ _ (by omega) (by omega) (by omega) (by omega)]; exact vou.se1
        · intro i hi; (try simp (disch := omega) only [g_eq, g_ne, g_R, g_O, g_IR, g_IO, g_RO, g_OO, g_OR, g_RRe, g_RRn]); exact (i5 i hi).1
        · intro i hi; (try simp (disch := omega) only [g_eq, g_ne, g_R, g_O, g_IR, g_IO, g_RO, g_OO, g_OR, g_RRe, g_RRn]); exact (i5 i hi).2.1
        · intro i hi; (try simp (disch := omega) only [g_eq, g_ne, g_R, g_O, g_IR, g_IO, g_RO, g_OO, g_OR, g_RRe, g_RRn]); exact (i5 i hi).2.2.1
        · intro i hi; exact (i5 i hi).2.2.2.1
        · intro i hi; exact (i5 i hi).2.2.2.2.1
        · intro i hi; exact (i5 i hi).2.2.2.2.2
      · intro _ j hj
        rw [i7, hc _ _ _ (by omega) (by omega) (by omega) (by omega), hc _ _ _ (by omega) (by omega) (by omega) (by omega)]; exact ht.r110 q1 j hj
      · intro j hj
        rw [i7, hc _ _ _ (by omega) (by omega) (by omega) (by omega), hc _ _ _ (by omega) (by omega) (by omega) (by omega)]; exact ht.unp j hj
  · refine qI_no h (t := 1) (by decide) ?_ ?_
    · simp only [F_l_clear, F_b_clear, c_off q1, q_br]; rfl
    · simp only [F_m_clear, q2, m_f1, q_bd, one_ne, if_false]
