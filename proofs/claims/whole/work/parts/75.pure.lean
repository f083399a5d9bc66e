set_option linter.unusedVariables false
set_option linter.unusedSimpArgs false
theorem o_kind (a b x y l u k : Int32) : qOk aI (F_l_kind a b x y l u k) (F_m_kind a b x y l u k) := by
  apply qOk.mk
  intro e K N c m he hK h
  have n13 := h.all.belt.n13
  -- the reference's own words, in one
  have mw : F_m_kind a b x y l u k m = b_m_kind_88 a b x y l u k (if q_w a 0 39 = 1 ∧ q_w b 1 999999 = 1 ∧ q_w x 1 500 = 1 ∧ q_w y 0 2 = 1 ∧ q_w l 0 5000 = 1 ∧ q_w u 0 5000 = 1 ∧ ¬ u < l ∧ q_w k 0 7 = 1 then 1 else 0) m := by
    simp only [F_m_kind, m_wi, q_bd, b_m_kind_87]
    rcases q_w01 a 0 39 with e1 | ⟨e1, _⟩
    · simp [e1]
    rcases q_w01 b 1 999999 with e2 | ⟨e2, _⟩
    · simp [e1, e2]
    rcases q_w01 x 1 500 with e3 | ⟨e3, _⟩
    · simp [e1, e2, e3]
    rcases q_w01 y 0 2 with e4 | ⟨e4, _⟩
    · simp [e1, e2, e3, e4]
    rcases q_w01 l 0 5000 with e5 | ⟨e5, _⟩
    · simp [e1, e2, e3, e4, e5]
    rcases q_w01 u 0 5000 with e6 | ⟨e6, _⟩
    · simp [e1, e2, e3, e4, e5, e6]
    by_cases e7 : u < l
    · simp [e1, e2, e3, e4, e5, e6, e7]
    rcases q_w01 k 0 7 with e8 | ⟨e8, _⟩
    · simp [e1, e2, e3, e4, e5, e6, e7, e8]
    · simp [e1, e2, e3, e4, e5, e6, e7, e8]
  rcases h.all.jou.on with ⟨q1, q2⟩ | ⟨q1, q2⟩
  · by_cases N0 : N = 0
    · subst N0
      have w1 : f_gI c 11 0 1 ≤ 0 := by rw [h.all.belt.cnt]; exact Int32.le_refl _
      have w2 : f_gI m 30 0 4 ≤ 0 := by rw [h.all.belt.siz]; exact Int32.le_refl _
      have i1 : F_b_isIndex a 40 c = some (q_w a 0 39, c) := c_ii rfl
      have i2 : F_b_isIndex y 3 c = some (q_w y 0 2, c) := c_ii rfl
      have i3 : F_b_isIndex k 8 c = some (q_w k 0 7, c) := c_ii rfl
      by_cases ok : q_w a 0 39 = 1 ∧ q_w b 1 999999 = 1 ∧ q_w x 1 500 = 1 ∧ q_w y 0 2 = 1 ∧ q_w l 0 5000 = 1 ∧ q_w u 0 5000 = 1 ∧ ¬ u < l ∧ q_w k 0 7 = 1
      · rw [if_pos ok] at mw
        obtain ⟨e1, e2, e3, e4, e5, e6, e7, e8⟩ := ok
        have g1 : 0 ≤ a.toInt ∧ a.toInt ≤ 39 := by rcases q_w01 a 0 39 with z | ⟨_, z⟩; rw [z] at e1; cases e1; exact z
        have g3 : 1 ≤ x.toInt ∧ x.toInt ≤ 500 := by rcases q_w01 x 1 500 with z | ⟨_, z⟩; rw [z] at e3; cases e3; exact z
        have g4 : 0 ≤ y.toInt ∧ y.toInt ≤ 2 := by rcases q_w01 y 0 2 with z | ⟨_, z⟩; rw [z] at e4; cases e4; exact z
        have g5 : 0 ≤ l.toInt ∧ l.toInt ≤ 5000 := by rcases q_w01 l 0 5000 with z | ⟨_, z⟩; rw [z] at e5; cases e5; exact z
        have g8 : 0 ≤ k.toInt ∧ k.toInt ≤ 7 := by rcases q_w01 k 0 7 with z | ⟨_, z⟩; rw [z] at e8; cases e8; exact z
        have e5' : q_w l 0 u = 1 := q_w1 g5.1 (by rw [Int32.lt_iff_toInt_lt] at e7; omega)
        have aA := q_ex g1.1
        have A8 : a.toInt.toNat < 40 := by omega
        generalize a.toInt.toNat = A at aA A8
        subst aA
        have ht := h.thr (v := 0)
        have key : ∀ (v : Int32) (c1 m1 : fST), rCat c1 m1 → F_ca_kindWith b c = some (v, c) → F_ca_dropCode v c = some ((), c1) → F_m_kind (nI A) b x y l u k m = b_m_kind_161 (nI A) b x y l u k v m1 → (∀ k i j, k ≠ 2 → f_gI c1 k i j = f_gI c k i j) → (∀ j, f_gR c1 j = f_gR c j) → fC c c1 → (∀ k i j, k ≠ 33 → f_gI m1 k i j = f_gI (f_pI m 30 0 25 0) k i j) → fM (f_pI m 30 0 25 0) m1 → qG aI (F_l_kind (nI A) b x y l u k) (F_m_kind (nI A) b x y l u k) e K c m := by
          intro v c1 m1 hcat hk hd hm hc hr hC hmm hM
          refine qI_yes (c' := f_pI (f_pI (f_pI (f_pI (f_pI (f_pI c1 2 0 A b) 3 0 A x) 4 0 A y) 5 0 A l) 6 0 A u) 7 0 A k) (m' := f_pI (f_pI (f_pI (f_pI (f_pI (f_pI m1 33 0 (6 * A) b) 33 0 (6 * A + 1) x) 33 0 (6 * A + 2) y) 33 0 (6 * A + 3) l) 33 0 (6 * A + 4) u) 33 0 (6 * A + 5) k) (N' := 0) (e' := e) (K' := K) (v := v) (x := v.toInt64) ?_ ?_ rfl ?_ (by omega) (by omega) ?_ ?_ ?_
          · simp only [F_l_kind, F_b_kind, c_on q1, q_bl, F_b_requireEmptyBelt, w1, if_true, i1, q_bd, e1, c_rq1, c_wi, e2, e3, i2, e4, e6, e5', i3, e8, hk, hd, F_ca_setKind, q_gd (q_ib A8 (by decide)), q_ix (show A < 2147483648 by omega)]
          · have f0 : (6 : Int32) * nI A = nI (6 * A) := by rw [show (6 : Int32) = nI 6 from rfl, q_nm]
            have f1 (j : Nat) : nI (6 * A) + nI j = nI (6 * A + j) := q_na _ _
            rw [hm]
            unfold b_m_kind_161
            rw [f0, show (1 : Int32) = nI 1 from rfl, show (2 : Int32) = nI 2 from rfl, show (3 : Int32) = nI 3 from rfl, show (4 : Int32) = nI 4 from rfl, show (5 : Int32) = nI 5 from rfl, f1, f1, f1, f1, f1]
            rw [q_gd (q_ib (by omega) (by decide)), q_gd (q_ib (by omega) (by decide)), q_gd (q_ib (by omega) (by decide)), q_gd (q_ib (by omega) (by decide)), q_gd (q_ib (by omega) (by decide)), q_gd (q_ib (by omega) (by decide)), q_ix (by omega), q_ix (by omega), q_ix (by omega), q_ix (by omega), q_ix (by omega), q_ix (by omega)]
          · (try simp (disch := omega) only [g_eq, g_ne, g_R, g_O, g_IR, g_IO, g_RO, g_OO, g_OR, g_RRe, g_RRn]); rw [hmm _ _ _ (by omega)]; (try simp (disch := omega) only [g_eq, g_ne, g_R, g_O, g_IR, g_IO, g_RO, g_OO, g_OR, g_RRe, g_RRn])
          · obtain ⟨e5, K9, cat, belt, bins, ⟨V, vou⟩, jou, ⟨t, r, lat⟩, tot, mon⟩ := ht.all
            have belt : rBelt 0 c1 m1 := belt.to (fun k i j _ _ => hc _ _ _ (by omega)) hr (fun j => hmm _ _ _ (by omega)) (hmm _ _ _ (by omega)) (hmm _ _ _ (by omega))
            have bins : rBins c1 m1 := bins.to (fun k i j _ _ => hc _ _ _ (by omega)) (fun k i j _ _ => hmm _ _ _ (by omega))
            have vou : rVou V e c1 m1 := vou.to (fun k i j _ _ => hc _ _ _ (by omega)) (fun k i j _ _ => hmm _ _ _ (by omega)) (hmm _ _ _ (by omega)) (hmm _ _ _ (by omega)) (hmm _ _ _ (by omega))
            have jou : rJou c1 m1 := jou.to (fun j => hc _ _ _ (by omega)) (hmm _ _ _ (by omega)) (hmm _ _ _ (by omega)) (hmm _ _ _ (by omega))
            have lat : rLat t r K c1 m1 := lat.to (Nat.le_refl _) (fun k i j _ _ => hc _ _ _ (by omega)) (fun j => hmm _ _ _ (by omega)) (hmm _ _ _ (by omega))
            have tot : rTot c1 m1 := tot.to (fun j _ _ => hc _ _ _ (by omega)) (fun j => hc _ _ _ (by omega)) (fun j => hmm _ _ _ (by omega)) (hmm _ _ _ (by omega)) (hmm _ _ _ (by omega)) (hmm _ _ _ (by omega)) (hmm _ _ _ (by omega)) (hmm _ _ _ (by omega))
            have mon : rMon 0 e c1 := mon.to (Nat.le_refl _) (fun j => hc _ _ _ (by omega)) (fun k i j _ _ => hc _ _ _ (by omega)) hr
            refine rRel.mk (rAll.mk e5 K9 ?_ ?_ ?_ ?_ ?_ ?_ ?_ ?_) (by omega) (by omega)
            any_goals (first | exact rCat.to ‹_› (by (intros; first | rfl | ((try simp (disch := omega) only [g_eq, g_ne, g_R, g_O, g_IR, g_IO, g_RO, g_OO, g_OR, g_RRe, g_RRn]); done) | fail)) (by (intros; first | rfl | ((try simp (disch := omega) only [g_eq, g_ne, g_R, g_O, g_IR, g_IO, g_RO, g_OO, g_OR, g_RRe, g_RRn]); done) | fail)) | exact rBelt.to ‹_› (by (intros; first | rfl | ((try simp (disch := omega) only [g_eq, g_ne, g_R, g_O, g_IR, g_IO, g_RO, g_OO, g_OR, g_RRe, g_RRn]); done) | fail)) (by (intros; first | rfl | ((try simp (disch := omega) only [g_eq, g_ne, g_R, g_O, g_IR, g_IO, g_RO, g_OO, g_OR, g_RRe, g_RRn]); done) | fail)) (by (intros; first | rfl | ((try simp (disch := omega) only [g_eq, g_ne, g_R, g_O, g_IR, g_IO, g_RO, g_OO, g_OR, g_RRe, g_RRn]); done) | fail)) (by (intros; first | rfl | ((try simp (disch := omega) only [g_eq, g_ne, g_R, g_O, g_IR, g_IO, g_RO, g_OO, g_OR, g_RRe, g_RRn]); done) | fail)) (by (intros; first | rfl | ((try simp (disch := omega) only [g_eq, g_ne, g_R, g_O, g_IR, g_IO, g_RO, g_OO, g_OR, g_RRe, g_RRn]); done) | fail)) | exact rBins.to ‹_› (by (intros; first | rfl | ((try simp (disch := omega) only [g_eq, g_ne, g_R, g_O, g_IR, g_IO, g_RO, g_OO, g_OR, g_RRe, g_RRn]); done) | fail)) (by (intros; first | rfl | ((try simp (disch := omega) only [g_eq, g_ne, g_R, g_O, g_IR, g_IO, g_RO, g_OO, g_OR, g_RRe, g_RRn]); done) | fail)) | exact ⟨_, rVou.to ‹_› (by (intros; first | rfl | ((try simp (disch := omega) only [g_eq, g_ne, g_R, g_O, g_IR, g_IO, g_RO, g_OO, g_OR, g_RRe, g_RRn]); done) | fail)) (by (intros; first | rfl | ((try simp (disch := omega) only [g_eq, g_ne, g_R, g_O, g_IR, g_IO, g_RO, g_OO, g_OR, g_RRe, g_RRn]); done) | fail)) (by (intros; first | rfl | ((try simp (disch := omega) only [g_eq, g_ne, g_R, g_O, g_IR, g_IO, g_RO, g_OO, g_OR, g_RRe, g_RRn]); done) | fail)) (by (intros; first | rfl | ((try simp (disch := omega) only [g_eq, g_ne, g_R, g_O, g_IR, g_IO, g_RO, g_OO, g_OR, g_RRe, g_RRn]); done) | fail)) (by (intros; first | rfl | ((try simp (disch := omega) only [g_eq, g_ne, g_R, g_O, g_IR, g_IO, g_RO, g_OO, g_OR, g_RRe, g_RRn]); done) | fail))⟩ | exact rJou.to ‹_› (by (intros; first | rfl | ((try simp (disch := omega) only [g_eq, g_ne, g_R, g_O, g_IR, g_IO, g_RO, g_OO, g_OR, g_RRe, g_RRn]); done) | fail)) (by (intros; first | rfl | ((try simp (disch := omega) only [g_eq, g_ne, g_R, g_O, g_IR, g_IO, g_RO, g_OO, g_OR, g_RRe, g_RRn]); done) | fail)) (by (intros; first | rfl | ((try simp (disch := omega) only [g_eq, g_ne, g_R, g_O, g_IR, g_IO, g_RO, g_OO, g_OR, g_RRe, g_RRn]); done) | fail)) (by (intros; first | rfl | ((try simp (disch := omega) only [g_eq, g_ne, g_R, g_O, g_IR, g_IO, g_RO, g_OO, g_OR, g_RRe, g_RRn]); done) | fail)) | exact ⟨_, _, rLat.to ‹_› (Nat.le_refl _) (by (intros; first | rfl | ((try simp (disch := omega) only [g_eq, g_ne, g_R, g_O, g_IR, g_IO, g_RO, g_OO, g_OR, g_RRe, g_RRn]); done) | fail)) (by (intros; first | rfl | ((try simp (disch := omega) only [g_eq, g_ne, g_R, g_O, g_IR, g_IO, g_RO, g_OO, g_OR, g_RRe, g_RRn]); done) | fail)) (by (intros; first | rfl | ((try simp (disch := omega) only [g_eq, g_ne, g_R, g_O, g_IR, g_IO, g_RO, g_OO, g_OR, g_RRe, g_RRn]); done) | fail))⟩ | exact rTot.to ‹_› (by (intros; first | rfl | ((try simp (disch := omega) only [g_eq, g_ne, g_R, g_O, g_IR, g_IO, g_RO, g_OO, g_OR, g_RRe, g_RRn]); done) | fail)) (by (intros; first | rfl | ((try simp (disch := omega) only [g_eq, g_ne, g_R, g_O, g_IR, g_IO, g_RO, g_OO, g_OR, g_RRe, g_RRn]); done) | fail)) (by (intros; first | rfl | ((try simp (disch := omega) only [g_eq, g_ne, g_R, g_O, g_IR, g_IO, g_RO, g_OO, g_OR, g_RRe, g_RRn]); done) | fail)) (by (intros; first | rfl | ((try simp (disch := omega) only [g_eq, g_ne, g_R, g_O, g_IR, g_IO, g_RO, g_OO, g_OR, g_RRe, g_RRn]); done) | fail)) (by (intros; first | rfl | ((try simp (disch := omega) only [g_eq, g_ne, g_R, g_O, g_IR, g_IO, g_RO, g_OO, g_OR, g_RRe, g_RRn]); done) | fail)) (by (intros; first | rfl | ((try simp (disch := omega) only [g_eq, g_ne, g_R, g_O, g_IR, g_IO, g_RO, g_OO, g_OR, g_RRe, g_RRn]); done) | fail)) (by (intros; first | rfl | ((try simp (disch := omega) only [g_eq, g_ne, g_R, g_O, g_IR, g_IO, g_RO, g_OO, g_OR, g_RRe, g_RRn]); done) | fail)) (by (intros; first | rfl | ((try simp (disch := omega) only [g_eq, g_ne, g_R, g_O, g_IR, g_IO, g_RO, g_OO, g_OR, g_RRe, g_RRn]); done) | fail)) | exact rMon.to ‹_› (Nat.le_refl _) (by (intros; first | rfl | ((try simp (disch := omega) only [g_eq, g_ne, g_R, g_O, g_IR, g_IO, g_RO, g_OO, g_OR, g_RRe, g_RRn]); done) | fail)) (by (intros; first | rfl | ((try simp (disch := omega) only [g_eq, g_ne, g_R, g_O, g_IR, g_IO, g_RO, g_OO, g_OR, g_RRe, g_RRn]); done) | fail)) (by (intros; first | rfl | ((try simp (disch := omega) only [g_eq, g_ne, g_R, g_O, g_IR, g_IO, g_RO, g_OO, g_OR, g_RRe, g_RRn]); done) | fail)) | fail)
            refine rCat.mk ?_ ?_ ?_ ?_ ?_ ?_ ?_ ?_ ?_ ?_ ?_
            · intro i hi
              by_cases q : i = A
              · subst q; (try simp (disch := omega) only [g_eq, g_ne, g_R, g_O, g_IR, g_IO, g_RO, g_OO, g_OR, g_RRe, g_RRn])
              · (try simp (disch := omega) only [g_eq, g_ne, g_R, g_O, g_IR, g_IO, g_RO, g_OO, g_OR, g_RRe, g_RRn]); exact hcat.cod i hi
            · intro i hi
              by_cases q : i = A
              · subst q; (try simp (disch := omega) only [g_eq, g_ne, g_R, g_O, g_IR, g_IO, g_RO, g_OO, g_OR, g_RRe, g_RRn])
              · (try simp (disch := omega) only [g_eq, g_ne, g_R, g_O, g_IR, g_IO, g_RO, g_OO, g_OR, g_RRe, g_RRn]); exact hcat.dep i hi
            · intro i hi
              by_cases q : i = A
              · subst q; (try simp (disch := omega) only [g_eq, g_ne, g_R, g_O, g_IR, g_IO, g_RO, g_OO, g_OR, g_RRe, g_RRn])
              · (try simp (disch := omega) only [g_eq, g_ne, g_R, g_O, g_IR, g_IO, g_RO, g_OO, g_OR, g_RRe, g_RRn]); exact hcat.bin i hi
            · intro i hi
              by_cases q : i = A
              · subst q; (try simp (disch := omega) only [g_eq, g_ne, g_R, g_O, g_IR, g_IO, g_RO, g_OO, g_OR, g_RRe, g_RRn])
              · (try simp (disch := omega) only [g_eq, g_ne, g_R, g_O, g_IR, g_IO, g_RO, g_OO, g_OR, g_RRe, g_RRn]); exact hcat.low i hi
            · intro i hi
              by_cases q : i = A
              · subst q; (try simp (disch := omega) only [g_eq, g_ne, g_R, g_O, g_IR, g_IO, g_RO, g_OO, g_OR, g_RRe, g_RRn])
              · (try simp (disch := omega) only [g_eq, g_ne, g_R, g_O, g_IR, g_IO, g_RO, g_OO, g_OR, g_RRe, g_RRn]); exact hcat.hig i hi
            · intro i hi
              by_cases q : i = A
              · subst q; (try simp (disch := omega) only [g_eq, g_ne, g_R, g_O, g_IR, g_IO, g_RO, g_OO, g_OR, g_RRe, g_RRn])
              · (try simp (disch := omega) only [g_eq, g_ne, g_R, g_O, g_IR, g_IO, g_RO, g_OO, g_OR, g_RRe, g_RRn]); exact hcat.con i hi
            · intro i j hi hj; (try simp (disch := omega) only [g_eq, g_ne, g_R, g_O, g_IR, g_IO, g_RO, g_OO, g_OR, g_RRe, g_RRn]); exact hcat.wid i j hi hj
            · intro i hi; (try simp (disch := omega) only [g_eq, g_ne, g_R, g_O, g_IR, g_IO, g_RO, g_OO, g_OR, g_RRe, g_RRn]); exact hcat.lim i hi
            · intro i hi
              by_cases q : i = A
              · subst q; (try simp (disch := omega) only [g_eq, g_ne, g_R, g_O, g_IR, g_IO, g_RO, g_OO, g_OR, g_RRe, g_RRn]); omega
              · (try simp (disch := omega) only [g_eq, g_ne, g_R, g_O, g_IR, g_IO, g_RO, g_OO, g_OR, g_RRe, g_RRn]); exact hcat.dok i hi
            · intro i hi
              by_cases q : i = A
              · subst q; (try simp (disch := omega) only [g_eq, g_ne, g_R, g_O, g_IR, g_IO, g_RO, g_OO, g_OR, g_RRe, g_RRn]); omega
              · (try simp (disch := omega) only [g_eq, g_ne, g_R, g_O, g_IR, g_IO, g_RO, g_OO, g_OR, g_RRe, g_RRn]); exact hcat.bok i hi
            · intro i hi
              by_cases q : i = A
              · subst q; (try simp (disch := omega) only [g_eq, g_ne, g_R, g_O, g_IR, g_IO, g_RO, g_OO, g_OR, g_RRe, g_RRn]); omega
              · (try simp (disch := omega) only [g_eq, g_ne, g_R, g_O, g_IR, g_IO, g_RO, g_OO, g_OR, g_RRe, g_RRn]); exact hcat.cok i hi
          · exact (((((hC.put (by decide)).put (by decide)).put (by decide)).put (by decide)).put (by decide)).put (by decide)
          · exact (((((((fM.rfl.put (by decide)).trans hM).put (by decide)).put (by decide)).put (by decide)).put (by decide)).put (by decide)).put (by decide)
        have mw : F_m_kind (nI A) b x y l u k m = b_m_kind_128 (nI A) b x y l u k 0 (f_pI m 30 0 25 0) := by
          rw [mw]
          simp only [b_m_kind_88, q2, w2, if_true, b_m_kind_110, m_f0, q_bd, one_ne, if_false]
        have cat := ht.all.cat
        rcases s_kind cat b with ⟨p1, p2⟩ | ⟨j, j40, p1, p2⟩
        · refine key (-1) c (f_pI m 30 0 25 0) cat p1 rfl ?_ (by (intros; first | rfl | ((try simp (disch := omega) only [g_eq, g_ne, g_R, g_O, g_IR, g_IO, g_RO, g_OO, g_OR, g_RRe, g_RRn]); done) | fail)) (by (intros; first | rfl | ((try simp (disch := omega) only [g_eq, g_ne, g_R, g_O, g_IR, g_IO, g_RO, g_OO, g_OR, g_RRe, g_RRn]); done) | fail)) fC.rfl (by (intros; first | rfl | ((try simp (disch := omega) only [g_eq, g_ne, g_R, g_O, g_IR, g_IO, g_RO, g_OO, g_OR, g_RRe, g_RRn]); done) | fail)) fM.rfl
          rw [mw]
          simp only [b_m_kind_128, m_f0, q_bd, if_true, g_pp, p2]
        · have jm : ¬ nI j = -1 := by rw [← Int32.toInt_inj, q_tn (by omega), show (-1 : Int32).toInt = -1 from rfl]; omega
          have f0 : (6 : Int32) * nI j = nI (6 * j) := by rw [show (6 : Int32) = nI 6 from rfl, q_nm]
          refine key (nI j) (f_pI c 2 0 j 0) (f_pI (f_pI m 30 0 25 0) 33 0 (6 * j) 0) ?_ p1 ?_ ?_ (by (intros; first | rfl | ((try simp (disch := omega) only [g_eq, g_ne, g_R, g_O, g_IR, g_IO, g_RO, g_OO, g_OR, g_RRe, g_RRn]); done) | fail)) (by (intros; first | rfl | ((try simp (disch := omega) only [g_eq, g_ne, g_R, g_O, g_IR, g_IO, g_RO, g_OO, g_OR, g_RRe, g_RRn]); done) | fail)) (fC.rfl.put (by decide)) (by (intros; first | rfl | ((try simp (disch := omega) only [g_eq, g_ne, g_R, g_O, g_IR, g_IO, g_RO, g_OO, g_OR, g_RRe, g_RRn]); done) | fail)) (fM.rfl.put (by decide))
          · refine rCat.mk ?_ ?_ ?_ ?_ ?_ ?_ ?_ ?_ ?_ ?_ ?_
            · intro i hi
              by_cases q : i = j
              · subst q; (try simp (disch := omega) only [g_eq, g_ne, g_R, g_O, g_IR, g_IO, g_RO, g_OO, g_OR, g_RRe, g_RRn])
              · have := cat.cod i hi; (try simp (disch := omega) only [g_eq, g_ne, g_R, g_O, g_IR, g_IO, g_RO, g_OO, g_OR, g_RRe, g_RRn]); revert this; (try simp (disch := omega) only [g_eq, g_ne, g_R, g_O, g_IR, g_IO, g_RO, g_OO, g_OR, g_RRe, g_RRn]); exact id
            · intro i hi; have := cat.dep i hi; (try simp (disch := omega) only [g_eq, g_ne, g_R, g_O, g_IR, g_IO, g_RO, g_OO, g_OR, g_RRe, g_RRn]); revert this; (try simp (disch := omega) only [g_eq, g_ne, g_R, g_O, g_IR, g_IO, g_RO, g_OO, g_OR, g_RRe, g_RRn]); exact id
            · intro i hi; have := cat.bin i hi; (try simp (disch := omega) only [g_eq, g_ne, g_R, g_O, g_IR, g_IO, g_RO, g_OO, g_OR, g_RRe, g_RRn]); revert this; (try simp (disch := omega) only [g_eq, g_ne, g_R, g_O, g_IR, g_IO, g_RO, g_OO, g_OR, g_RRe, g_RRn]); exact id
            · intro i hi; have := cat.low i hi; (try simp (disch := omega) only [g_eq, g_ne, g_R, g_O, g_IR, g_IO, g_RO, g_OO, g_OR, g_RRe, g_RRn]); revert this; (try simp (disch := omega) only [g_eq, g_ne, g_R, g_O, g_IR, g_IO, g_RO, g_OO, g_OR, g_RRe, g_RRn]); exact id
            · intro i hi; have := cat.hig i hi; (try simp (disch := omega) only [g_eq, g_ne, g_R, g_O, g_IR, g_IO, g_RO, g_OO, g_OR, g_RRe, g_RRn]); revert this; (try simp (disch := omega) only [g_eq, g_ne, g_R, g_O, g_IR, g_IO, g_RO, g_OO, g_OR, g_RRe, g_RRn]); exact id
            · intro i hi; have := cat.con i hi; (try simp (disch := omega) only [g_eq, g_ne, g_R, g_O, g_IR, g_IO, g_RO, g_OO, g_OR, g_RRe, g_RRn]); revert this; (try simp (disch := omega) only [g_eq, g_ne, g_R, g_O, g_IR, g_IO, g_RO, g_OO, g_OR, g_RRe, g_RRn]); exact id
            · intro i f hi hf; have := cat.wid i f hi hf; (try simp (disch := omega) only [g_eq, g_ne, g_R, g_O, g_IR, g_IO, g_RO, g_OO, g_OR, g_RRe, g_RRn]); revert this; (try simp (disch := omega) only [g_eq, g_ne, g_R, g_O, g_IR, g_IO, g_RO, g_OO, g_OR, g_RRe, g_RRn]); exact id
            · intro i hi; have := cat.lim i hi; (try simp (disch := omega) only [g_eq, g_ne, g_R, g_O, g_IR, g_IO, g_RO, g_OO, g_OR, g_RRe, g_RRn]); revert this; (try simp (disch := omega) only [g_eq, g_ne, g_R, g_O, g_IR, g_IO, g_RO, g_OO, g_OR, g_RRe, g_RRn]); exact id
            · intro i hi; (try simp (disch := omega) only [g_eq, g_ne, g_R, g_O, g_IR, g_IO, g_RO, g_OO, g_OR, g_RRe, g_RRn]); exact cat.dok i hi
            · intro i hi; (try simp (disch := omega) only [g_eq, g_ne, g_R, g_O, g_IR, g_IO, g_RO, g_OO, g_OR, g_RRe, g_RRn]); exact cat.bok i hi
            · intro i hi; (try simp (disch := omega) only [g_eq, g_ne, g_R, g_O, g_IR, g_IO, g_RO, g_OO, g_OR, g_RRe, g_RRn]); exact cat.cok i hi
          · unfold F_ca_dropCode
            rw [if_neg jm, q_gd (q_ib j40 (by decide)), q_ix (by omega)]
          · rw [mw]
            simp only [b_m_kind_128, m_f0, q_bd, if_true, g_pp, p2, jm, if_false, f0, q_gd (q_ib (show 6 * j < 240 by omega) (by decide)), q_ix (show 6 * j < 2147483648 by omega)]
      · rw [if_neg ok] at mw
        refine qI_no h (t := 2) (by decide) ?_ ?_
        · simp only [F_l_kind, F_b_kind, c_on q1, q_bl, F_b_requireEmptyBelt, w1, if_true, i1, q_bd]
          rcases q_w01 a 0 39 with e1 | ⟨e1, _⟩
          · simp only [e1, c_rq0, q_br]; rfl
          simp only [e1, c_rq1, q_bl, c_wi, q_bd]
          rcases q_w01 b 1 999999 with e2 | ⟨e2, _⟩
          · simp only [e2, c_rq0, q_br]; rfl
          simp only [e2, c_rq1, q_bl, c_wi, q_bd]
          rcases q_w01 x 1 500 with e3 | ⟨e3, _⟩
          · simp only [e3, c_rq0, q_br]; rfl
          simp only [e3, c_rq1, q_bl, c_wi, q_bd, i2]
          rcases q_w01 y 0 2 with e4 | ⟨e4, _⟩
          · simp only [e4, c_rq0, q_br]; rfl
          simp only [e4, c_rq1, q_bl, c_wi, q_bd]
          rcases q_w01 u 0 5000 with e6 | ⟨e6, u1, u2⟩
          · simp only [e6, c_rq0, q_br]; rfl
          simp only [e6, c_rq1, q_bl, c_wi, q_bd]
          rcases q_w01 l 0 u with e5 | ⟨e5, u3, u4⟩
          · simp only [e5, c_rq0, q_br]; rfl
          simp only [e5, c_rq1, q_bl, c_wi, q_bd, i3]
          rcases q_w01 k 0 7 with e8 | ⟨e8, _⟩
          · simp only [e8, c_rq0, q_br]; rfl
          exfalso
          apply ok
          refine ⟨e1, e2, e3, e4, q_w1 u3 (by omega), e6, ?_, e8⟩
          rw [Int32.lt_iff_toInt_lt]; omega
        · rw [mw]
          simp only [b_m_kind_88, q2, w2, if_true, b_m_kind_110, m_f0, q_bd, b_m_kind_128, m_f1, one_ne, if_false, g_pp]
    · have w1 : ¬ f_gI c 11 0 1 ≤ 0 := by rw [h.all.belt.cnt, show (0 : Int32) = nI 0 from rfl, q_le (by omega) (by omega)]; omega
      have w2 : ¬ f_gI m 30 0 4 ≤ 0 := by rw [h.all.belt.siz, show (0 : Int32) = nI 0 from rfl, q_le (by omega) (by omega)]; omega
      refine qI_no h (t := 1) (by decide) ?_ ?_
      · simp only [F_l_kind, F_b_kind, c_on q1, q_bl, F_b_requireEmptyBelt, w1, if_false, q_br]; rfl
      · rw [mw]; simp only [b_m_kind_88, q2, w2, if_true, if_false, b_m_kind_105, b_m_kind_110, m_f1, q_bd, one_ne]
  · refine qI_no h (t := 1) (by decide) ?_ ?_
    · simp only [F_l_kind, F_b_kind, c_off q1, q_br]; rfl
    · rw [mw]; simp only [b_m_kind_88, q2, one_ne, if_false, b_m_kind_105, b_m_kind_110, m_f1, q_bd]
