set_option linter.unusedVariables false
set_option linter.unusedSimpArgs false
theorem nI_m1 {n : Nat} (h : n < 2147483648) : ¬ nI n = -1 := by rw [← Int32.toInt_inj, q_tn h, show (-1 : Int32).toInt = -1 from rfl]; omega
theorem c_widths {c : fST} {q k w T : Nat} (ln : f_ln q = 8) (k40 : k < 40) (w8 : w ≤ 8) (T8 : T < 8) (hw : f_gI c 14 q 1 = nI w) (hT : f_gI c 7 0 k = nI T) : F_ca_allowsWidths (nI k) q c = some (if w < 8 then 0 else if f_gI c 10 0 T < q_dist c q T 8 then 0 else 1, c) := by
  unfold F_ca_allowsWidths F_ro_isFull
  rw [hw, ln]
  by_cases l : w < 8
  · rw [if_pos (by rw [q_lt (by omega) (by omega)]; exact l), q_bd, if_pos rfl, if_pos l]
  · obtain rfl : w = 8 := by omega
    rw [if_neg (by rw [q_lt (by omega) (by omega)]; omega), q_bd, if_neg one_ne, if_neg l, q_gd (q_ib k40 (by decide)), q_ix (by omega), hT]
    refine Exists.elim (q_loop0 (body := b_ca_allowsWidths_22) (fun j (_ : Unit) => (q, nI T, q_dist c q T j, nI j, c)) 8 (fun _ _ => True) (fun _ => some (if f_gI c 10 0 T < q_dist c q T 8 then 0 else 1, c)) (by omega) ?_ ?_ () trivial) ?_
    · intro k _ _
      simp only [b_ca_allowsWidths_22, show (8 : Int32) ≤ nI 8 from Int32.le_refl _, if_true, q_gd (q_ib T8 (by decide)), q_ix (show T < 2147483648 by omega)]
      split <;> rfl
    · intro j _ hj _
      refine ⟨(), fun k => ?_, trivial⟩
      simp only [b_ca_allowsWidths_22, ln, q_gd (q_ib T8 (by decide)), q_gd (q_ib hj (by decide)), q_ix (show T < 2147483648 by omega), q_ix (show j < 2147483648 by omega), q_n1]
      rw [if_neg (by rw [show (8 : Int32) = nI 8 from rfl, q_le (by omega) (by omega)]; omega)]
      rfl
    · rintro _ ⟨_, e⟩; exact e
theorem m_widths {N : Nat} {c m : fST} (hb : rBelt N c m) (hc : rCat c m) {j k w T B : Nat} (jN : j < N) (k40 : k < 40) (w8 : w ≤ 8) (T8 : T < 8) (B3 : B < 3) (hw : f_gI c 14 (f_gR c j + 16) 1 = nI w) (hB : f_gI c 4 0 k = nI B) : f_it b_m_against_137 2000 (nI j, nI k, nI T, 0, 0, m) = if w < 8 then some (5, m) else if f_gI c 10 0 T < q_dist c (f_gR c j + 16) T 8 then some (5, m) else q_state (nI j) (nI B) m := by
  have n13 := hb.n13
  have row := hb.row j jN
  have j60 : j < 60 := by omega
  have hw' : f_gI m 34 0 (20 * j + 8) = nI w := by rw [← row.nwd, hw]
  refine Exists.elim (q_loop0 (body := b_m_against_137) (fun i (_ : Unit) => (nI j, nI k, nI T, q_dist c (f_gR c j + 16) T i, nI i, m)) w (fun _ _ => True) (fun _ => if w < 8 then some (5, m) else if f_gI c 10 0 T < q_dist c (f_gR c j + 16) T 8 then some (5, m) else q_state (nI j) (nI B) m) (by omega) ?_ ?_ () trivial) ?_
  · intro q _ _
    simp only [b_m_against_137, m_g8 j60, q_bd, hw', Int32.le_refl, if_true]
    by_cases l : w < 8
    · rw [if_pos l, if_pos (by rw [show (8 : Int32) = nI 8 from rfl, q_lt (by omega) (by omega)]; exact l)]
    · obtain rfl : w = 8 := by omega
      have e : (6 : Int32) * nI k + 2 = nI (6 * k + 2) := by rw [show (6 : Int32) = nI 6 from rfl, q_nm, show (2 : Int32) = nI 2 from rfl, q_na]
      rw [if_neg l, if_neg (by rw [show (8 : Int32) = nI 8 from rfl, q_lt (by omega) (by omega)]; omega), q_gd (q_ib T8 (by decide)), q_ix (by omega), ← hc.lim T T8, e, q_ix (by omega), ← hc.bin k k40, hB, q_gd (q_ib (show 6 * k + 2 < 240 by omega) (by decide)), q_gd (q_ib B3 (by decide))]
      by_cases d : f_gI c 10 0 T < q_dist c (f_gR c j + 16) T 8
      · rw [if_pos d, if_neg (by rw [Int32.le_iff_toInt_le]; rw [Int32.lt_iff_toInt_lt] at d; omega)]
      · rw [if_neg d, if_pos (by rw [Int32.le_iff_toInt_le]; rw [Int32.lt_iff_toInt_lt] at d; omega)]
        rfl
  · intro i _ hi _
    refine ⟨(), fun q => ?_, trivial⟩
    have e1 : (12 : Int32) + nI i = nI (12 + i) := q_na 12 i
    have e2 : (8 : Int32) * nI T + nI i = nI (8 * T + i) := by rw [show (8 : Int32) = nI 8 from rfl, q_nm, q_na]
    have wd : f_gI c 15 (f_gR c j + 16) i = f_gI m 34 0 (20 * j + (12 + i)) := by
      rw [← Nat.add_assoc]; exact row.wds i (by rw [hw, q_tn (by omega)]; omega)
    simp only [b_m_against_137, b_m_against_189, m_g8 j60, q_bd, hw', e1, m_get (show 20 * j + (12 + i) < 1200 by omega), e2, q_gd (q_ib (show 8 * T + i < 64 by omega) (by decide)), q_ix (show 8 * T + i < 2147483648 by omega), q_n1, ← wd, ← hc.wid T i T8 (show i < 8 by omega)]
    rw [if_neg (by rw [q_le (by omega) (by omega)]; omega)]
    rw [show q_dist c (f_gR c j + 16) T (i + 1) = q_dist c (f_gR c j + 16) T i + f_ab (f_gI c 15 (f_gR c j + 16) i - f_gI c 9 T i) from rfl]
    unfold f_ab
    by_cases d : 0 ≤ f_gI c 15 (f_gR c j + 16) i - f_gI c 9 T i
    · simp only [if_pos d]
    · simp only [if_neg d]
  · rintro _ ⟨_, e⟩; exact e
/-- what the class finds against a container, in one -/
def q_cv (p : Nat) (kd : Int32) (c : fST) : Option (Int32 × fST) := f_bd (F_b_judgementByReadings p kd c) (fun v2 z2 => if v2 = 10 then F_b_judgementByState p kd z2 else some (v2, z2))
theorem s_against {e K N : Nat} {c m : fST} (h : rAll e K N c m) {j : Nat} (jN : j < N) : ∃ kd v v', F_ca_kindOf (f_gR c j) c = some (kd, c) ∧ q_cv (f_gR c j) kd c = some (v, c) ∧ F_m_against (nI j) m = some (v', m) ∧ ((v = 10 ∧ v' = 0 ∧ (∃ k, k < 40 ∧ kd = nI k) ∧ F_m_kindOf (f_gI m 34 0 (20 * j + 9)) m = some (kd, m) ∧ f_gI c 14 (f_gR c j + 16) 1 = nI 8) ∨ ∃ q, 1 ≤ q ∧ q ≤ 9 ∧ v = nI q ∧ v' = nI q) := by
  obtain ⟨e5, K9, cat, belt, bins, ⟨V, vou⟩, jou, ⟨t, a, lat⟩, tot, mon⟩ := h
  have n13 := belt.n13
  have j60 : j < 60 := by omega
  have row := belt.row j jN
  have ok := belt.ok j jN
  have lt : f_gR c j < 16 := belt.rlt j (by omega)
  have ln : f_ln (f_gR c j) = 3 := if_pos lt
  have ln8 : f_ln (f_gR c j + 16) = 8 := if_neg (by omega)
  have hn := q_ex ok.nc1
  have n3 : (f_gI c 14 (f_gR c j) 1).toInt.toNat ≤ 3 := by have := ok.nc2; omega
  have hw := q_ex ok.nw1
  have w8 : (f_gI c 14 (f_gR c j + 16) 1).toInt.toNat ≤ 8 := by have := ok.nw2; omega
  generalize (f_gI c 14 (f_gR c j) 1).toInt.toNat = n at hn n3
  generalize (f_gI c 14 (f_gR c j + 16) 1).toInt.toNat = w at hw w8
  have hn' : f_gI m 34 0 (20 * j + 7) = nI n := by rw [← row.ncd, hn]
  by_cases n0 : n = 0
  · subst n0
    refine ⟨-1, 1, 1, ?_, ?_, ?_, Or.inr ⟨1, by omega, by omega, rfl, rfl⟩⟩
    · unfold F_ca_kindOf; rw [hn]; rfl
    · unfold q_cv F_b_judgementByReadings; rw [hn]; rfl
    · unfold F_m_against; rw [m_g7 j60, q_bd, hn']; rfl
  have nn : ¬ nI n = 0 := by rw [show (0 : Int32) = nI 0 from rfl, q_eq (by omega) (by omega)]; exact n0
  have cd : ∀ i, i < n → f_gI c 15 (f_gR c j) i = f_gI m 34 0 (20 * j + 9 + i) := fun i hi => row.cds i (by rw [hn, q_tn (by omega)]; omega)
  have ko : ∀ kd, F_ca_kindWith (f_gI c 15 (f_gR c j) 0) c = some (kd, c) → F_ca_kindOf (f_gR c j) c = some (kd, c) := by
    intro kd hk
    unfold F_ca_kindOf
    rw [hn, if_neg nn, ln, q_gd (show f_ib 0 3 = true from rfl), show f_ix 0 = 0 from rfl, hk, q_bd]
  have uni : F_ro_isUniform (f_gR c j) c = match q_first (fun i => decide (¬ f_gI c 15 (f_gR c j) i = f_gI c 15 (f_gR c j) 0)) 1 (n - 1) with | none => some ((1 : Int32), c) | some i => some ((0 : Int32), c) := by
    refine q_srchO (fun i => (f_gR c j, nI i, c)) n _ _ (fun _ => some ((0 : Int32), c)) ?_ ?_ (n - 1) 1 2000 (by omega) (by omega)
    · intro k
      simp only [b_ro_isUniform_2, hn, Int32.le_refl, if_true]
    · intro k i hi
      simp only [b_ro_isUniform_2, hn, ln, q_ix (show i < 2147483648 by omega), q_gd (q_ib (show i < 3 by omega) (by decide)), q_gd (show f_ib 0 3 = true from rfl), show f_ix 0 = 0 from rfl, q_n1]
      rw [if_neg (by rw [q_le (by omega) (by omega)]; omega)]
      by_cases a : f_gI c 15 (f_gR c j) i = f_gI c 15 (f_gR c j) 0 <;> simp [a]
  have mun : ∀ no : Option (Int32 × fST), (∀ k, b_m_against_14 k (nI j, nI n, m) = no) → F_m_against (nI j) m = match q_first (fun i => decide (¬ f_gI c 15 (f_gR c j) i = f_gI c 15 (f_gR c j) 0)) 1 (n - 1) with | none => no | some i => some ((2 : Int32), m) := by
    intro no hno
    unfold F_m_against
    rw [m_g7 j60, q_bd, hn', if_neg nn]
    refine q_srchO (fun i => (nI j, nI i, m)) n _ _ (fun _ => some ((2 : Int32), m)) hno ?_ (n - 1) 1 2000 (by omega) (by omega)
    intro k i hi
    have e9 : (9 : Int32) + nI i = nI (9 + i) := q_na 9 i
    have c0 := cd 0 (by omega)
    have ci := cd i (by omega)
    rw [Nat.add_assoc] at ci
    simp only [b_m_against_14, m_g7 j60, q_bd, hn', e9, m_get (show 20 * j + (9 + i) < 1200 by omega), m_g9 j60, q_n1]
    rw [if_neg (by rw [q_le (by omega) (by omega)]; omega), ← ci]
    have c0' : f_gI m 34 0 (20 * j + 9) = f_gI c 15 (f_gR c j) 0 := c0.symm
    rw [c0']
    by_cases a : f_gI c 15 (f_gR c j) i = f_gI c 15 (f_gR c j) 0 <;> simp [a]
  have c0 : f_gI c 15 (f_gR c j) 0 = f_gI m 34 0 (20 * j + 9) := cd 0 (by omega)
  -- what follows when the codes are alike
  have go : ∀ kd v no, F_ca_kindWith (f_gI c 15 (f_gR c j) 0) c = some (kd, c) → (∀ k, b_m_against_14 k (nI j, nI n, m) = no) → (F_ro_isUniform (f_gR c j) c = some (1, c) → q_cv (f_gR c j) kd c = some (v, c)) → (∀ v', no = some (v', m) → ((v = 10 ∧ v' = 0 ∧ (∃ k, k < 40 ∧ kd = nI k) ∧ F_m_kindOf (f_gI m 34 0 (20 * j + 9)) m = some (kd, m) ∧ f_gI c 14 (f_gR c j + 16) 1 = nI 8) ∨ ∃ q, 1 ≤ q ∧ q ≤ 9 ∧ v = nI q ∧ v' = nI q) → ∃ kd v v', F_ca_kindOf (f_gR c j) c = some (kd, c) ∧ q_cv (f_gR c j) kd c = some (v, c) ∧ F_m_against (nI j) m = some (v', m) ∧ ((v = 10 ∧ v' = 0 ∧ (∃ k, k < 40 ∧ kd = nI k) ∧ F_m_kindOf (f_gI m 34 0 (20 * j + 9)) m = some (kd, m) ∧ f_gI c 14 (f_gR c j + 16) 1 = nI 8) ∨ ∃ q, 1 ≤ q ∧ q ≤ 9 ∧ v = nI q ∧ v' = nI q)) := by
    intro kd v no hk hno hcv v' hv' fin
    have mm := mun no hno
    cases f : q_first (fun i => decide (¬ f_gI c 15 (f_gR c j) i = f_gI c 15 (f_gR c j) 0)) 1 (n - 1) with
    | none =>
      rw [f] at uni mm
      exact ⟨kd, v, v', ko kd hk, hcv uni, mm.trans hv', fin⟩
    | some i =>
      rw [f] at uni mm
      refine ⟨kd, 2, 2, ko kd hk, ?_, mm, Or.inr ⟨2, by omega, by omega, rfl, rfl⟩⟩
      unfold q_cv F_b_judgementByReadings
      rw [hn, if_neg nn, uni]; rfl
  rcases s_kind cat (f_gI c 15 (f_gR c j) 0) with ⟨p1, p2⟩ | ⟨k, k40, p1, p2⟩
  · rw [c0] at p2
    refine go (-1) 3 (some (3, m)) p1 ?_ ?_ 3 rfl (Or.inr ⟨3, by omega, by omega, rfl, rfl⟩)
    · intro q
      simp only [b_m_against_14, m_g7 j60, q_bd, hn', Int32.le_refl, if_true, m_g9 j60, p2]
    · intro u
      unfold q_cv F_b_judgementByReadings
      rw [hn, if_neg nn, u]; rfl
  · have p2' := p2
    rw [c0] at p2
    have km := nI_m1 (show k < 2147483648 by omega)
    have b6 (f : Nat) : (6 : Int32) * nI k + nI f = nI (6 * k + f) := by rw [show (6 : Int32) = nI 6 from rfl, q_nm, q_na]
    -- the reference after the kind
    have m3 : ∀ q, b_m_against_14 q (nI j, nI n, m) = if f_gI c 13 (f_gR c j) 5 = -1 then some (4, m) else if q_w (f_gI c 13 (f_gR c j) 5) (f_gI c 5 0 k) (f_gI c 6 0 k) = 0 then some (4, m) else f_it b_m_against_137 2000 (nI j, nI k, f_gI c 7 0 k, 0, 0, m) := by
      intro q
      simp only [b_m_against_14, m_g7 j60, q_bd, hn', Int32.le_refl, if_true, m_g9 j60, p2, if_neg km, m_g6 j60, ← row.wei, show (3 : Int32) = nI 3 from rfl, show (4 : Int32) = nI 4 from rfl, show (5 : Int32) = nI 5 from rfl, b6, q_gd (q_ib (show 6 * k + 3 < 240 by omega) (by decide)), q_gd (q_ib (show 6 * k + 4 < 240 by omega) (by decide)), q_gd (q_ib (show 6 * k + 5 < 240 by omega) (by decide)), q_ix (show 6 * k + 3 < 2147483648 by omega), q_ix (show 6 * k + 4 < 2147483648 by omega), q_ix (show 6 * k + 5 < 2147483648 by omega), m_wi, ← cat.low k k40, ← cat.hig k k40, ← cat.con k k40]
    have cw : ∀ x, f_gI c 13 (f_gR c j) 5 = x → F_ca_allowsWeight (nI k) x c = some (if x = -1 then 0 else q_w x (f_gI c 5 0 k) (f_gI c 6 0 k), c) := by
      intro x hx
      unfold F_ca_allowsWeight
      by_cases x1 : x = -1
      · rw [if_pos x1, if_pos x1]
      · rw [if_neg x1, if_neg x1, q_gd (q_ib k40 (by decide)), q_gd (q_ib k40 (by decide)), q_ix (by omega), c_wi, q_bd]
        rcases q_w01 x (f_gI c 5 0 k) (f_gI c 6 0 k) with y | ⟨y, _⟩ <;> rw [y] <;> rfl
    have cw := cw _ rfl
    have bad : ∀ v : Int32, (F_ca_allowsWeight (nI k) (f_gI c 13 (f_gR c j) 5) c = some (0, c) → F_ro_isUniform (f_gR c j) c = some (1, c) → q_cv (f_gR c j) (nI k) c = some (4, c)) := by
      intro _ hwt u
      unfold q_cv F_b_judgementByReadings
      rw [hn, if_neg nn, u, q_bd, if_neg one_ne, if_neg km, hwt]; rfl
    by_cases x1 : f_gI c 13 (f_gR c j) 5 = -1
    · refine go (nI k) 4 (some (4, m)) p1 (fun q => by rw [m3, if_pos x1]) (bad 0 (by rw [cw, if_pos x1])) 4 rfl (Or.inr ⟨4, by omega, by omega, rfl, rfl⟩)
    rcases q_w01 (f_gI c 13 (f_gR c j) 5) (f_gI c 5 0 k) (f_gI c 6 0 k) with y | ⟨y, _⟩
    · refine go (nI k) 4 (some (4, m)) p1 (fun q => by rw [m3, if_neg x1, if_pos y]) (bad 0 (by rw [cw, if_neg x1, y])) 4 rfl (Or.inr ⟨4, by omega, by omega, rfl, rfl⟩)
    have hT := q_ex (cat.cok k k40).1
    have T8 : (f_gI c 7 0 k).toInt.toNat < 8 := by have := cat.cok k k40; omega
    generalize (f_gI c 7 0 k).toInt.toNat = T at hT T8
    have hB := q_ex (cat.bok k k40).1
    have B3 : (f_gI c 4 0 k).toInt.toNat < 3 := by have := cat.bok k k40; omega
    generalize (f_gI c 4 0 k).toInt.toNat = B at hB B3
    have m4 : ∀ q, b_m_against_14 q (nI j, nI n, m) = if w < 8 then some (5, m) else if f_gI c 10 0 T < q_dist c (f_gR c j + 16) T 8 then some (5, m) else q_state (nI j) (nI B) m := by
      intro q
      rw [m3, if_neg x1, if_neg (by rw [y]; exact one_ne), hT, m_widths belt cat jN k40 w8 T8 B3 hw hB]
    have cr : F_ro_isUniform (f_gR c j) c = some (1, c) → F_b_judgementByReadings (f_gR c j) (nI k) c = some (if w < 8 then 5 else if f_gI c 10 0 T < q_dist c (f_gR c j + 16) T 8 then 5 else 10, c) := by
      intro u
      unfold F_b_judgementByReadings
      rw [hn, if_neg nn, u, q_bd, if_neg one_ne, if_neg km, cw, if_neg x1, y, q_bd, if_neg one_ne, c_widths ln8 k40 w8 T8 hw hT, q_bd]
      by_cases l : w < 8
      · rw [if_pos l, if_pos l]; rfl
      · rw [if_neg l, if_neg l]
        by_cases d : f_gI c 10 0 T < q_dist c (f_gR c j + 16) T 8
        · rw [if_pos d, if_pos d]; rfl
        · rw [if_neg d, if_neg d]; rfl
    by_cases l : w < 8
    · refine go (nI k) 5 (some (5, m)) p1 (fun q => by rw [m4, if_pos l]) (fun u => by unfold q_cv; rw [cr u, if_pos l]; rfl) 5 rfl (Or.inr ⟨5, by omega, by omega, rfl, rfl⟩)
    by_cases d : f_gI c 10 0 T < q_dist c (f_gR c j + 16) T 8
    · refine go (nI k) 5 (some (5, m)) p1 (fun q => by rw [m4, if_neg l, if_pos d]) (fun u => by unfold q_cv; rw [cr u, if_neg l, if_pos d]; rfl) 5 rfl (Or.inr ⟨5, by omega, by omega, rfl, rfl⟩)
    obtain rfl : w = 8 := by omega
    have tB : (nI B).toInt = B := q_tn (by omega)
    have ms := m_state belt cat bins vou jN (b := nI B) (by omega) (by omega)
    rw [q_ix (show B < 2147483648 by omega)] at ms
    have cs : F_ro_isUniform (f_gR c j) c = some (1, c) → q_cv (f_gR c j) (nI k) c = if f_gI c 17 0 B + q_acc c (nI B) N < f_gI c 18 0 B then f_bd (F_vo_isFull c) (fun v6 z6 => if v6 = 0 then (f_bd (F_b_isSuspicious z6) (fun v8 z8 => if v8 = 0 then (f_bd (F_la_areAllLike (f_gR c j + 16) z8) (fun v10 z10 => if v10 = 0 then (some (10, z10)) else (some (9, z10)))) else (some (8, z8)))) else (some (7, z6))) else some (6, c) := by
      intro u
      unfold q_cv
      rw [cr u, if_neg l, if_neg d, q_bd, if_pos rfl]
      unfold F_b_judgementByState
      rw [q_ix (show k < 2147483648 by omega), hB, q_gd (q_ib k40 (by decide)), q_gd (q_ib B3 (by decide)), c_acc belt, q_bd, q_gd (q_ib B3 (by decide)), q_ix (show B < 2147483648 by omega)]
    by_cases r : f_gI c 17 0 B + q_acc c (nI B) N < f_gI c 18 0 B
    rotate_left
    · refine go (nI k) 6 (some (6, m)) p1 (fun q => by rw [m4, if_neg l, if_neg d, ms, if_neg r]) (fun u => by rw [cs u, if_neg r]) 6 rfl (Or.inr ⟨6, by omega, by omega, rfl, rfl⟩)
    have v60 := vou.v60
    by_cases V60 : V = 60
    · refine go (nI k) 7 (some (7, m)) p1 (fun q => by rw [m4, if_neg l, if_neg d, ms, if_pos r, if_pos V60]) (fun u => ?_) 7 rfl (Or.inr ⟨7, by omega, by omega, rfl, rfl⟩)
      rw [cs u, if_pos r]
      unfold F_vo_isFull
      rw [vou.cnt, V60]; rfl
    have fu : F_vo_isFull c = some (0, c) := by
      unfold F_vo_isFull; rw [vou.cnt, if_pos (by rw [show (60 : Int32) = nI 60 from rfl, q_lt (by omega) (by omega)]; omega)]
    obtain ⟨sv, s1, s2, s3⟩ := s_susp tot
    rcases s3 with rfl | rfl
    rotate_left
    · refine go (nI k) 8 (some (8, m)) p1 (fun q => by rw [m4, if_neg l, if_neg d, ms, if_pos r, if_neg V60, s2, q_bd, if_neg one_ne]) (fun u => ?_) 8 rfl (Or.inr ⟨8, by omega, by omega, rfl, rfl⟩)
      rw [cs u, if_pos r, fu, q_bd, if_pos rfl, s1, q_bd, if_neg one_ne]
    rcases s_like belt lat K9 jN hw with ⟨a1, a2⟩ | ⟨a1, a2⟩
    · refine go (nI k) 10 (some (0, m)) p1 (fun q => by rw [m4, if_neg l, if_neg d, ms, if_pos r, if_neg V60, s2, q_bd, if_pos rfl, a2]) (fun u => ?_) 0 rfl (Or.inl ⟨rfl, rfl, ⟨k, k40, rfl⟩, p2, hw⟩)
      rw [cs u, if_pos r, fu, q_bd, if_pos rfl, s1, q_bd, if_pos rfl, a1, q_bd, if_pos rfl]
    · refine go (nI k) 9 (some (9, m)) p1 (fun q => by rw [m4, if_neg l, if_neg d, ms, if_pos r, if_neg V60, s2, q_bd, if_pos rfl, a2]) (fun u => ?_) 9 rfl (Or.inr ⟨9, by omega, by omega, rfl, rfl⟩)
      rw [cs u, if_pos r, fu, q_bd, if_pos rfl, s1, q_bd, if_pos rfl, a1, q_bd, if_neg one_ne]
