set_option linter.unusedVariables false
set_option linter.unusedSimpArgs false
/-! frames, refusals, and the calls without loops -/
def fC (c c' : fST) : Prop := ∀ k i j, 30 ≤ k → f_gI c' k i j = f_gI c k i j
def fM (m m' : fST) : Prop := (∀ k i j, k < 30 → f_gI m' k i j = f_gI m k i j) ∧ (∀ j, f_gR m' j = f_gR m j) ∧ f_gO m' = f_gO m
theorem fC.rfl {c : fST} : fC c c := fun _ _ _ _ => Eq.refl _
theorem fM.rfl {m : fST} : fM m m := ⟨fun _ _ _ _ => Eq.refl _, fun _ => Eq.refl _, Eq.refl _⟩
theorem fC.trans {a b c : fST} (h : fC a b) (h' : fC b c) : fC a c := fun k i j q => (h' k i j q).trans (h k i j q)
theorem fM.trans {a b c : fST} (h : fM a b) (h' : fM b c) : fM a c := ⟨fun k i j q => (h'.1 k i j q).trans (h.1 k i j q), fun j => (h'.2.1 j).trans (h.2.1 j), h'.2.2.trans h.2.2⟩
theorem fM.put {m m' : fST} (h : fM m m') {k i j : Nat} {v : Int32} (hk : 30 ≤ k) : fM m (f_pI m' k i j v) := ⟨fun a b d q => by rw [g_ne (Or.inl (by omega))]; exact h.1 a b d q, h.2.1, h.2.2⟩
theorem fC.put {m m' : fST} (h : fC m m') {k i j : Nat} {v : Int32} (hk : k < 30) : fC m (f_pI m' k i j v) := fun a b d q => by rw [g_ne (Or.inl (by omega))]; exact h a b d q
theorem fC.out {m m' : fST} (h : fC m m') {v : Int64} : fC m (f_pO m' v) := h
theorem fC.putR {m m' : fST} (h : fC m m') {j n : Nat} : fC m (f_pR m' j n) := h
theorem rAll.to {e K e' K' N : Nat} {c m c' m' : fST} (h : rAll e K N c m) (he : e ≤ e') (he' : e' ≤ 1000) (hK : K ≤ K') (hK' : K' ≤ 1000000000) (hc : ∀ k i j, k < 30 → f_gI c' k i j = f_gI c k i j) (hr : ∀ j, f_gR c' j = f_gR c j) (hm : ∀ k i j, 30 ≤ k → (k ≠ 30 ∨ j ≠ 25) → f_gI m' k i j = f_gI m k i j) : rAll e' K' N c' m' := by
  refine rAll.mk ?_ ?_ ?_ ?_ ?_ ?_ ?_ ?_ ?_ ?_
  · exact he'
  · exact hK'
  · exact h.cat.to (fun k i j _ _ => hc _ _ _ (by omega)) (fun k i j _ _ => hm _ _ _ (by omega) (by omega))
  · exact h.belt.to (fun k i j _ _ => hc _ _ _ (by omega)) hr (fun j => hm _ _ _ (by omega) (by omega)) (hm _ _ _ (by omega) (by omega)) (hm _ _ _ (by omega) (by omega))
  · exact h.bins.to (fun k i j _ _ => hc _ _ _ (by omega)) (fun k i j _ _ => hm _ _ _ (by omega) (by omega))
  · obtain ⟨V, hv⟩ := h.vou
    have := hv.to (fun k i j _ _ => hc k i j (by omega)) (fun k i j _ _ => hm k i j (by omega) (by omega)) (hm _ _ _ (by omega) (by omega)) (hm _ _ _ (by omega) (by omega)) (hm _ _ _ (by omega) (by omega))
    have q := this.se1
    exact ⟨V, (this.up (by omega))⟩
  · exact h.jou.to (fun j => hc _ _ _ (by omega)) (hm _ _ _ (by omega) (by omega)) (hm _ _ _ (by omega) (by omega)) (hm _ _ _ (by omega) (by omega))
  · obtain ⟨t, a, hv⟩ := h.lat
    exact ⟨t, a, hv.to hK (fun k i j _ _ => hc k i j (by omega)) (fun j => hm _ _ _ (by omega) (by omega)) (hm _ _ _ (by omega) (by omega))⟩
  · exact h.tot.to (fun j _ _ => hc _ _ _ (by omega)) (fun j => hc _ _ _ (by omega)) (fun j => hm _ _ _ (by omega) (by omega)) (hm _ _ _ (by omega) (by omega)) (hm _ _ _ (by omega) (by omega)) (hm _ _ _ (by omega) (by omega)) (hm _ _ _ (by omega) (by omega)) (hm _ _ _ (by omega) (by omega))
  · exact h.mon.to he (fun j => hc _ _ _ (by omega)) (fun k i j _ _ => hc _ _ _ (by omega)) hr
theorem rRel.to {e K e' K' N : Nat} {c m c' m' : fST} (h : rRel e K N c m) (he : e ≤ e') (he' : e' ≤ 1000) (hK : K ≤ K') (hK' : K' ≤ 1000000000) (hc : ∀ k i j, k < 30 → f_gI c' k i j = f_gI c k i j) (hr : ∀ j, f_gR c' j = f_gR c j) (hm : ∀ k i j, 30 ≤ k → (k ≠ 30 ∨ j ≠ 25) → f_gI m' k i j = f_gI m k i j) : rRel e' K' N c' m' := by
  refine rRel.mk ?_ ?_ ?_
  · exact h.all.to he he' hK hK' hc hr hm
  · rw [hc _ _ _ (by omega)]; intro q j hj; rw [hr, hc _ _ _ (by omega), hc _ _ _ (by omega)]; exact h.r110 q j hj
  · intro j hj; rw [hr, hc _ _ _ (by omega), hc _ _ _ (by omega)]; exact h.unp j hj
theorem rRel.thr {e K N : Nat} {c m : fST} {v : Int32} (h : rRel e K N c m) : rRel e K N c (f_pI m 30 0 25 v) :=
  h.to (Nat.le_refl _) h.all.e5 (Nat.le_refl _) h.all.K9 (fun _ _ _ _ => rfl) (fun _ => rfl) (fun k i j _ _ => by (try simp (disch := omega) only [g_eq, g_ne, g_R, g_O, g_IR, g_IO, g_RO, g_OO, g_OR, g_RRe, g_RRn]))
theorem rRel.out {e K N : Nat} {c m : fST} {v : Int64} (h : rRel e K N c m) : rRel e K N (f_pO c v) m :=
  h.to (Nat.le_refl _) h.all.e5 (Nat.le_refl _) h.all.K9 (fun _ _ _ _ => rfl) (fun _ => rfl) (fun k i j _ _ => rfl)
/-- a call of both: what A says of the answers, and the relation again -/
def qOk {α β : Type} (A : α → fST → β → fST → Prop) (Fl : fST → Option (α × fST)) (Fm : fST → Option (β × fST)) : Prop := ∀ e K N c m, e + 1 ≤ 1000 → K + 4800 ≤ 1000000000 → rRel e K N c m → ∃ t c' v m' N', Fl c = some (t, c') ∧ Fm m = some (v, m') ∧ A t c' v m' ∧ rRel (e + 1) (K + 4800) N' c' m' ∧ fC c c' ∧ fM m m'
def qG {α β : Type} (A : α → fST → β → fST → Prop) (Fl : fST → Option (α × fST)) (Fm : fST → Option (β × fST)) (e K : Nat) (c m : fST) : Prop := ∃ t c' v m' N' e' K', Fl c = some (t, c') ∧ Fm m = some (v, m') ∧ A t c' v m' ∧ e' ≤ e + 1 ∧ K' ≤ K + 4800 ∧ rRel e' K' N' c' m' ∧ fC c c' ∧ fM m m'
theorem qOk.mk {α β : Type} {A : α → fST → β → fST → Prop} {Fl : fST → Option (α × fST)} {Fm : fST → Option (β × fST)} (h : ∀ e K N c m, e + 1 ≤ 1000 → K + 4800 ≤ 1000000000 → rRel e K N c m → qG A Fl Fm e K c m) : qOk A Fl Fm := by
  intro e K N c m he hK hr
  obtain ⟨t, c', v, m', N', e', K', h1, h2, h3, h5, h6, h7, h8, h9⟩ := h e K N c m he hK hr
  exact ⟨t, c', v, m', N', h1, h2, h3, h7.to h5 he h6 hK (fun _ _ _ _ => rfl) (fun _ => rfl) (fun _ _ _ _ _ => rfl), h8, h9⟩
/-- both on one memory -/
theorem qOk.use {α β : Type} {A : α → fST → β → fST → Prop} {Fl : fST → Option (α × fST)} {Fm : fST → Option (β × fST)} (h : qOk A Fl Fm) {e K N : Nat} {z : fST} (he : e + 1 ≤ 1000) (hK : K + 4800 ≤ 1000000000) (hr : rRel e K N z z) : ∃ t z1 v z2 N', Fl z = some (t, z1) ∧ Fm z1 = some (v, z2) ∧ A t z1 v z2 ∧ f_gO z2 = f_gO z1 ∧ rRel (e + 1) (K + 4800) N' z2 z2 := by
  obtain ⟨t, z1, _, _, _, h1, _, _, _, hc, _⟩ := h e K N z z he hK hr
  have hr1 : rRel e K N z z1 := hr.to (Nat.le_refl _) hr.all.e5 (Nat.le_refl _) hr.all.K9 (fun _ _ _ _ => rfl) (fun _ => rfl) (fun k i j q _ => hc k i j q)
  obtain ⟨t', z1', v, z2, N', h1', h2, h3, h5, _, hm⟩ := h e K N z z1 he hK hr1
  rw [h1] at h1'
  cases h1'
  refine ⟨t, z1, v, z2, N', h1, h2, h3, hm.2.2, ?_⟩
  exact h5.to (Nat.le_refl _) h5.all.e5 (Nat.le_refl _) h5.all.K9 (fun k i j q => hm.1 k i j q) hm.2.1 (fun _ _ _ _ _ => rfl)
def aI (t : Int32) (c : fST) (v : Int32) (m : fST) : Prop := f_gI m 30 0 25 = t ∧ (t = 0 → f_gO c = v.toInt64)
def aB (t : Int32) (c : fST) (v : Int32) (m : fST) : Prop := f_gI m 30 0 25 = t ∧ (t = 0 → (v = 0 ∧ f_gO c = 0) ∨ (v = 1 ∧ f_gO c = 1))
def aU (t : Int32) (_ : fST) (_ : Unit) (m : fST) : Prop := f_gI m 30 0 25 = t
def aV (t : Int32) (_ : fST) (v : Int32) (_ : fST) : Prop := t = v
theorem c_on {c : fST} (h : f_gI c 23 0 2 = 1) : F_b_requireOn c = some (.inl (), c) := by unfold F_b_requireOn; rw [h, if_neg (by decide)]
theorem c_off {c : fST} (h : f_gI c 23 0 2 = 0) : F_b_requireOn c = some (.inr 1, c) := by unfold F_b_requireOn; rw [h, if_pos rfl]
theorem m_f0 {m : fST} {t : Int32} : F_m_fails 0 t m = some (0, f_pI m 30 0 25 0) := rfl
theorem m_f1 {m : fST} {t : Int32} : F_m_fails 1 t m = some (1, f_pI m 30 0 25 t) := rfl
def q_w (a lo hi : Int32) : Int32 := if a < lo then 0 else if hi < a then 0 else 1
theorem c_wi {a lo hi : Int32} {z : fST} : F_b_isWithin a lo hi z = some (q_w a lo hi, z) := by unfold F_b_isWithin q_w; split <;> (try split) <;> rfl
theorem m_wi {a lo hi : Int32} {z : fST} : F_m_within a lo hi z = some (q_w a lo hi, z) := by unfold F_m_within q_w; split <;> (try split) <;> rfl
theorem q_w01 (a lo hi : Int32) : (q_w a lo hi = 0) ∨ (q_w a lo hi = 1 ∧ lo.toInt ≤ a.toInt ∧ a.toInt ≤ hi.toInt) := by
  unfold q_w
  simp only [Int32.lt_iff_toInt_lt]
  split
  · exact Or.inl rfl
  · split
    · exact Or.inl rfl
    · exact Or.inr ⟨rfl, by omega, by omega⟩
theorem q_w1 {a lo hi : Int32} (h : lo.toInt ≤ a.toInt) (h' : a.toInt ≤ hi.toInt) : q_w a lo hi = 1 := by
  unfold q_w
  simp only [Int32.lt_iff_toInt_lt]
  rw [if_neg (by omega), if_neg (by omega)]
/-- an index below n is one within 0 and n - 1 -/
theorem c_ii {a n : Int32} {z : fST} (hn : n.toInt - 1 = (n - 1).toInt) : F_b_isIndex a n z = some (q_w a 0 (n - 1), z) := by
  have h0 : (0 : Int32).toInt = 0 := rfl
  unfold F_b_isIndex q_w
  simp only [Int32.lt_iff_toInt_lt, Int32.le_iff_toInt_le, ← hn, h0]
  split
  · rfl
  · by_cases q : n.toInt ≤ a.toInt
    · rw [if_pos q, if_pos (by omega)]
    · rw [if_neg q, if_neg (by omega)]
theorem c_rq0 {z : fST} : F_b_require 0 z = some (.inr 2, z) := rfl
theorem c_rq1 {z : fST} : F_b_require 1 z = some (.inl (), z) := rfl
theorem one_ne : ¬ ((1 : Int32) = 0) := by decide

theorem g_pp {z : fST} {k i j : Nat} {v w : Int32} : f_pI (f_pI z k i j v) k i j w = f_pI z k i j w := by
  unfold f_pI
  congr 1
  funext a b c
  dsimp only
  split <;> rfl
theorem q_no {A : Int32 → fST → Int32 → fST → Prop} {Fl Fm : fST → Option (Int32 × fST)} {e K N : Nat} {c m : fST} (h : rRel e K N c m) {t : Int32} (ht : t ≠ 0) (hl : Fl c = some (t, c)) (hm : Fm m = some (0, f_pI m 30 0 25 t)) (hA : ∀ c v m, f_gI m 30 0 25 = t → A t c v m) : qG A Fl Fm e K c m :=
  ⟨t, c, 0, _, N, e, K, hl, hm, hA _ _ _ g_eq, by omega, by omega, h.thr, fC.rfl, fM.rfl.put (by decide)⟩
theorem aI_no {t : Int32} (ht : t ≠ 0) : ∀ c v m, f_gI m 30 0 25 = t → aI t c v m := fun _ _ _ h => ⟨h, fun q => absurd q ht⟩
theorem aB_no {t : Int32} (ht : t ≠ 0) : ∀ c v m, f_gI m 30 0 25 = t → aB t c v m := fun _ _ _ h => ⟨h, fun q => absurd q ht⟩
theorem qI_no {Fl Fm : fST → Option (Int32 × fST)} {e K N : Nat} {c m : fST} (h : rRel e K N c m) {t : Int32} (ht : t ≠ 0) (hl : Fl c = some (t, c)) (hm : Fm m = some (0, f_pI m 30 0 25 t)) : qG aI Fl Fm e K c m := q_no h ht hl hm (aI_no ht)
theorem qB_no {Fl Fm : fST → Option (Int32 × fST)} {e K N : Nat} {c m : fST} (h : rRel e K N c m) {t : Int32} (ht : t ≠ 0) (hl : Fl c = some (t, c)) (hm : Fm m = some (0, f_pI m 30 0 25 t)) : qG aB Fl Fm e K c m := q_no h ht hl hm (aB_no ht)
theorem qU_no {Fl : fST → Option (Int32 × fST)} {Fm : fST → Option (Unit × fST)} {e K N : Nat} {c m : fST} (h : rRel e K N c m) {t : Int32} (hl : Fl c = some (t, c)) (hm : Fm m = some ((), f_pI m 30 0 25 t)) : qG aU Fl Fm e K c m :=
  ⟨t, c, (), _, N, e, K, hl, hm, g_eq, by omega, by omega, h.thr, fC.rfl, fM.rfl.put (by decide)⟩
/-- the answer v of both, and what became of both -/
theorem qI_yes {Fl Fm : fST → Option (Int32 × fST)} {e K N' e' K' : Nat} {c m c' m' : fST} {v : Int32} {x : Int64} (hl : Fl c = some (0, f_pO c' x)) (hm : Fm m = some (v, m')) (hx : x = v.toInt64) (ht : f_gI m' 30 0 25 = 0) (he : e' ≤ e + 1) (hK : K' ≤ K + 4800) (h : rRel e' K' N' c' m') (h1 : fC c c') (h2 : fM m m') : qG aI Fl Fm e K c m :=
  ⟨0, _, v, m', N', e', K', hl, hm, ⟨ht, fun _ => hx⟩, he, hK, h.out, h1.out, h2⟩
theorem qB_yes {Fl Fm : fST → Option (Int32 × fST)} {e K N' e' K' : Nat} {c m c' m' : fST} {v : Int32} {x : Int64} (hl : Fl c = some (0, f_pO c' x)) (hm : Fm m = some (v, m')) (hx : (v = 0 ∧ x = 0) ∨ (v = 1 ∧ x = 1)) (ht : f_gI m' 30 0 25 = 0) (he : e' ≤ e + 1) (hK : K' ≤ K + 4800) (h : rRel e' K' N' c' m') (h1 : fC c c') (h2 : fM m m') : qG aB Fl Fm e K c m :=
  ⟨0, _, v, m', N', e', K', hl, hm, ⟨ht, fun _ => hx⟩, he, hK, h.out, h1.out, h2⟩
theorem qU_yes {Fl : fST → Option (Int32 × fST)} {Fm : fST → Option (Unit × fST)} {e K N' e' K' : Nat} {c m c' m' : fST} (hl : Fl c = some (0, c')) (hm : Fm m = some ((), m')) (ht : f_gI m' 30 0 25 = 0) (he : e' ≤ e + 1) (hK : K' ≤ K + 4800) (h : rRel e' K' N' c' m') (h1 : fC c c') (h2 : fM m m') : qG aU Fl Fm e K c m :=
  ⟨0, _, (), m', N', e', K', hl, hm, ht, he, hK, h, h1, h2⟩
