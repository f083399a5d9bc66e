set_option linter.unusedVariables false
set_option linter.unusedSimpArgs false
/-! judging -/
theorem q_srchO {α β : Type} {body : (α → Option β) → α → Option β} (mk : Nat → α) (N : Nat) (P : Nat → Bool) (no : Option β) (yes : Nat → Option β) (hn : ∀ k, body k (mk N) = no) (hs : ∀ k j, j < N → body k (mk j) = if P j = true then yes j else k (mk (j + 1))) : ∀ d j n, j + d = N → d < n → f_it body n (mk j) = match q_first P j d with | none => no | some i => yes i := by
  intro d
  induction d with
  | zero =>
    intro j n hj hn'
    obtain ⟨n, rfl⟩ : ∃ m, n = m + 1 := ⟨n - 1, by omega⟩
    obtain rfl : j = N := by omega
    show body (f_it body n) (mk j) = _
    rw [hn]; rfl
  | succ d ih =>
    intro j n hj hn'
    obtain ⟨n, rfl⟩ : ∃ m, n = m + 1 := ⟨n - 1, by omega⟩
    show body (f_it body n) (mk j) = _
    rw [hs _ _ (by omega)]
    unfold q_first
    split
    · rfl
    · exact ih (j + 1) n (by omega) (by omega)
noncomputable def q_if {α : Type} (p : Prop) (a b : α) : α := @ite α p (Classical.propDecidable p) a b
theorem q_if_pos {α : Type} {p : Prop} {a b : α} (h : p) : q_if p a b = a := @if_pos p (Classical.propDecidable p) h α a b
theorem q_if_neg {α : Type} {p : Prop} {a b : α} (h : ¬ p) : q_if p a b = b := @if_neg p (Classical.propDecidable p) h α a b
/-- the distance of the first j widths -/
def q_dist (c : fST) (q t : Nat) : Nat → Int32
  | 0 => 0
  | j + 1 => q_dist c q t j + f_ab (f_gI c 15 q j - f_gI c 9 t j)
/-- how many of the first j containers are accepted for the bin b -/
def q_acc (c : fST) (b : Int32) : Nat → Int32
  | 0 => 0
  | j + 1 => q_acc c b j + (if ¬ f_gI c 13 (f_gR c j) 7 = -1 ∧ f_gI c 4 0 (f_ix (f_gI c 13 (f_gR c j) 7)) = b then 1 else 0)
theorem c_acc {N : Nat} {c m : fST} (h : rBelt N c m) (b : Int32) : F_b_acceptedFor b c = some (q_acc c b N, c) := by
  have n13 := h.n13
  refine Exists.elim (q_loop0 (body := b_b_acceptedFor_4) (fun j (_ : Unit) => (b, q_acc c b j, nI j, c)) N (fun _ _ => True) (fun _ => some (q_acc c b N, c)) (by omega) ?_ ?_ () trivial) ?_
  · intro k _ _
    simp only [b_b_acceptedFor_4, h.cnt, Int32.le_refl, if_true]
  · intro j _ hj _
    refine ⟨(), fun k => ?_, trivial⟩
    simp only [b_b_acceptedFor_4, b_b_acceptedFor_52, h.cnt, q_ix (show j < 2147483648 by omega), q_gd (q_ib (show j < 16 by omega) (by decide)), q_gd' (h.rlt j (by omega)), q_n1]
    rw [if_neg (by rw [q_le (by omega) (by omega)]; omega)]
    rcases (h.ok j hj).kj with ⟨k1, _⟩ | ⟨k1, k2, k3⟩
    · simp [q_acc, k1]
    · have km : ¬ f_gI c 13 (f_gR c j) 7 = -1 := by rw [← Int32.toInt_inj, show (-1 : Int32).toInt = -1 from rfl]; omega
      rw [if_neg km, q_gd (q_ibz k1 (by omega))]
      by_cases q : f_gI c 4 0 (f_ix (f_gI c 13 (f_gR c j) 7)) = b
      · simp [q_acc, km, q]
      · simp [q_acc, km, q]
  · rintro _ ⟨_, e⟩; exact e
/-- what the reference asks after the widths: bins, vouchers, suspicion, likeness -/
def q_state (j b : Int32) (m : fST) : Option (Int32 × fST) := f_it b_m_against_248 2000 (j, b, f_gI m 35 0 (f_ix b), 0, m)
/-- and its last question -/
def q_like (j : Int32) (m : fST) : Option (Int32 × fST) := if (f_gI m 30 0 15) < 3 then (b_m_against_357 j 0 m) else (b_m_against_357 j 1 m)
theorem m_state {N : Nat} {c m : fST} (hb : rBelt N c m) (hc : rCat c m) (hi : rBins c m) {V e : Nat} (hv : rVou V e c m) {j : Nat} (jN : j < N) {b : Int32} (b0 : 0 ≤ b.toInt) (b3 : b.toInt < 3) : q_state (nI j) b m = if f_gI c 17 0 (f_ix b) + q_acc c b N < f_gI c 18 0 (f_ix b) then (if V = 60 then some (7, m) else f_bd (F_m_isSuspicious m) (fun v z => if v = 0 then q_like (nI j) z else some (8, z))) else some (6, m) := by
  have n13 := hb.n13
  have bx : f_ix b < 3 := by rw [q_ixz]; omega
  have v60 := hv.v60
  unfold q_state
  refine Exists.elim (q_loop0 (body := b_m_against_248) (fun i (_ : Unit) => (nI j, b, f_gI m 35 0 (f_ix b) + q_acc c b i, nI i, m)) N (fun _ _ => True) (fun _ => if f_gI c 17 0 (f_ix b) + q_acc c b N < f_gI c 18 0 (f_ix b) then (if V = 60 then some (7, m) else f_bd (F_m_isSuspicious m) (fun v z => if v = 0 then q_like (nI j) z else some (8, z))) else some (6, m)) (by omega) ?_ ?_ () trivial) ?_
  · intro k _ _
    simp only [b_m_against_248, hb.siz, Int32.le_refl, if_true, q_gd (q_ibz b0 (show b.toInt < (3 : Nat) by omega)), ← hi.hel _ bx, ← hi.roo _ bx, hv.siz]
    by_cases V60 : V = 60
    · subst V60
      simp only [show nI 60 = 60 from rfl, if_true]
    · have : ¬ nI V = 60 := by rw [show (60 : Int32) = nI 60 from rfl, q_eq (by omega) (by omega)]; exact V60
      simp only [this, V60, if_false]
      rfl
  · intro i _ hi' _
    refine ⟨(), fun k => ?_, trivial⟩
    have row := hb.row i hi'
    simp only [b_m_against_248, b_m_against_298, b_m_against_297, hb.siz, m_g3 (show i < 60 by omega), m_g4 (show i < 60 by omega), q_bd, q_n1, ← row.jud, ← row.kin]
    rw [if_neg (by rw [q_le (by omega) (by omega)]; omega)]
    rcases (hb.ok i hi').kj with ⟨k1, k2⟩ | ⟨k1, k2, k3⟩
    · rw [if_neg k2]
      simp [q_acc, k1]
    · have km : ¬ f_gI c 13 (f_gR c i) 7 = -1 := by rw [← Int32.toInt_inj, show (-1 : Int32).toInt = -1 from rfl]; omega
      rw [if_pos k3]
      have kx := q_ex k1
      have k40 : (f_gI c 13 (f_gR c i) 7).toInt.toNat < 40 := by omega
      have kk : f_ix (f_gI c 13 (f_gR c i) 7) = (f_gI c 13 (f_gR c i) 7).toInt.toNat := q_ixz _
      have key : f_gI c 4 0 (f_ix (f_gI c 13 (f_gR c i) 7)) = f_gI m 33 0 (f_ix (6 * f_gI c 13 (f_gR c i) 7 + 2)) ∧ f_ib (6 * f_gI c 13 (f_gR c i) 7 + 2) 240 = true := by
        rw [kx]
        generalize (f_gI c 13 (f_gR c i) 7).toInt.toNat = q at k40
        have e : (6 : Int32) * nI q + 2 = nI (6 * q + 2) := by rw [show (6 : Int32) = nI 6 from rfl, q_nm, show (2 : Int32) = nI 2 from rfl, q_na]
        rw [e, q_ix (by omega), q_ix (by omega)]
        exact ⟨hc.bin q k40, q_ib (by omega) (by decide)⟩
      rw [q_gd key.2, ← key.1]
      by_cases q : f_gI c 4 0 (f_ix (f_gI c 13 (f_gR c i) 7)) = b
      · simp [q_acc, km, q, Int32.add_assoc]
      · simp [q_acc, km, q]
  · rintro _ ⟨_, e⟩
    have e' : f_it b_m_against_248 2000 (nI j, b, f_gI m 35 0 (f_ix b) + q_acc c b 0, nI 0, m) = _ := e
    rw [show f_gI m 35 0 (f_ix b) + q_acc c b 0 = f_gI m 35 0 (f_ix b) from Int32.add_zero _] at e'
    exact e'
/-- whether the last eight widths are those of the container -/
theorem c_like {c : fST} {q : Nat} (hq : f_ln q = 8) : F_la_isLike q c = some (q_if (∀ k, k < 8 → f_gI c 15 q k = f_gI c 25 0 k) 1 0, c) := by
  have e1 : F_la_isLike q c = some (match q_first (fun j => decide (¬ f_gI c 15 q j = f_gI c 25 0 j)) 0 8 with | none => ((1 : Int32), c) | some i => ((0 : Int32), c)) := by
    refine q_srch0 (fun j => (q, nI j, c)) 8 _ _ (fun _ => ((0 : Int32), c)) (by omega) ?_ ?_
    · intro k
      simp only [b_la_isLike_2, show (8 : Int32) ≤ nI 8 from Int32.le_refl _, if_true]
    · intro k j hj
      simp only [b_la_isLike_2, hq, q_ix (show j < 2147483648 by omega), q_gd (q_ib (show j < 8 by omega) (by decide)), q_n1]
      rw [if_neg (by rw [show (8 : Int32) = nI 8 from rfl, q_le (by omega) (by omega)]; omega)]
      by_cases a : f_gI c 15 q j = f_gI c 25 0 j <;> simp [a]
  cases f : q_first (fun j => decide (¬ f_gI c 15 q j = f_gI c 25 0 j)) 0 8 with
  | none =>
    rw [f] at e1
    rw [e1, q_if_pos]
    intro k hk
    have := q_first_none 8 0 f k (by omega) (by omega)
    simpa using this
  | some i =>
    rw [f] at e1
    rw [e1, q_if_neg]
    intro x
    obtain ⟨_, i8, ne⟩ := q_first_some 8 0 i f
    have := x i (by omega)
    simp [this] at ne
theorem m_like {m : fST} {j : Nat} (hj : j < 60) : b_m_against_357 (nI j) 1 m = some (q_if (∀ x, x < 24 → f_gI m 40 0 x = f_gI m 34 0 (20 * j + 12 + x % 8)) 9 0, m) := by
  have key : ∀ d x n, x + d = 24 → d + 1 < n → f_it b_m_against_362 n (nI j, 1, nI x, m) = some (q_if (∀ y, x ≤ y → y < 24 → f_gI m 40 0 y = f_gI m 34 0 (20 * j + 12 + y % 8)) 9 0, m) := by
    intro d
    induction d with
    | zero =>
      intro x n hx hn
      obtain ⟨n, rfl⟩ : ∃ k, n = k + 1 := ⟨n - 1, by omega⟩
      obtain rfl : x = 24 := by omega
      rw [q_if_pos (by omega)]
      show b_m_against_362 _ _ = _
      simp only [b_m_against_362, show (24 : Int32) ≤ nI 24 from Int32.le_refl _, if_true, b_m_against_410, one_ne, if_false]
    | succ d ih =>
      intro x n hx hn
      obtain ⟨n, rfl⟩ : ∃ k, n = k + 2 := ⟨n - 2, by omega⟩
      have e : (12 : Int32) + (nI x - nI x / 8 * 8) = nI (12 + x % 8) := by
        have : nI x - nI x / 8 * 8 = nI (x % 8) := by
          have : x = 0 ∨ x = 1 ∨ x = 2 ∨ x = 3 ∨ x = 4 ∨ x = 5 ∨ x = 6 ∨ x = 7 ∨ x = 8 ∨ x = 9 ∨ x = 10 ∨ x = 11 ∨ x = 12 ∨ x = 13 ∨ x = 14 ∨ x = 15 ∨ x = 16 ∨ x = 17 ∨ x = 18 ∨ x = 19 ∨ x = 20 ∨ x = 21 ∨ x = 22 ∨ x = 23 := by omega
          rcases this with rfl | rfl | rfl | rfl | rfl | rfl | rfl | rfl | rfl | rfl | rfl | rfl | rfl | rfl | rfl | rfl | rfl | rfl | rfl | rfl | rfl | rfl | rfl | rfl <;> rfl
        rw [this, show (12 : Int32) = nI 12 from rfl, q_na]
      have hm : x % 8 < 8 := Nat.mod_lt _ (by decide)
      show b_m_against_362 (f_it b_m_against_362 (n + 1)) _ = _
      simp only [b_m_against_362, one_ne, if_false, q_ix (show x < 2147483648 by omega), q_gd (q_ib (show x < 24 by omega) (by decide)), e, m_get (show 20 * j + (12 + x % 8) < 1200 by omega), q_bd, b_m_against_402, q_n1]
      rw [if_neg (by rw [show (24 : Int32) = nI 24 from rfl, q_le (by omega) (by omega)]; omega)]
      by_cases q : f_gI m 40 0 x = f_gI m 34 0 (20 * j + (12 + x % 8))
      · rw [if_pos q, ih (x + 1) (n + 1) (by omega) (by omega)]
        congr 2
        by_cases w : ∀ y, x + 1 ≤ y → y < 24 → f_gI m 40 0 y = f_gI m 34 0 (20 * j + 12 + y % 8)
        · rw [q_if_pos w, q_if_pos]
          intro y h1 h2
          by_cases z : y = x
          · subst z; rw [Nat.add_assoc]; exact q
          · exact w y (by omega) h2
        · rw [q_if_neg w, q_if_neg]
          intro z; exact w fun y h1 h2 => z y (by omega) h2
      · rw [if_neg q, q_if_neg]
        · show b_m_against_362 (f_it b_m_against_362 n) _ = _
          simp only [b_m_against_362, if_true, b_m_against_410]
          split <;> rfl
        · intro z; apply q; have := z x (by omega) (by omega); rw [Nat.add_assoc] at this; exact this
  have := key 24 0 2000 (by omega) (by omega)
  unfold b_m_against_357
  rw [show (0 : Int32) = nI 0 from rfl, this]
  congr 2
  by_cases w : ∀ x, x < 24 → f_gI m 40 0 x = f_gI m 34 0 (20 * j + 12 + x % 8)
  · rw [q_if_pos w, q_if_pos (fun y _ h => w y h)]
  · rw [q_if_neg w, q_if_neg (fun z => w fun y h => z y (by omega) h)]; rfl
/-- likeness, in both -/
theorem s_like {N : Nat} {c m : fST} (hb : rBelt N c m) {t a K : Nat} (hl : rLat t a K c m) (hK : K ≤ 1000000000) {j : Nat} (jN : j < N) (w8 : f_gI c 14 (f_gR c j + 16) 1 = nI 8) : (F_la_areAllLike (f_gR c j + 16) c = some (0, c) ∧ q_like (nI j) m = some (0, m)) ∨ (F_la_areAllLike (f_gR c j + 16) c = some (1, c) ∧ q_like (nI j) m = some (9, m)) := by
  have n13 := hb.n13
  have ta := hl.ta
  have aK := hl.aK
  have lt : f_gR c j < 16 := hb.rlt j (by omega)
  have ln : f_ln (f_gR c j + 16) = 8 := if_neg (by omega)
  have row := hb.row j jN
  have wd : ∀ k, k < 8 → f_gI c 15 (f_gR c j + 16) k = f_gI m 34 0 (20 * j + 12 + k) := fun k hk => row.wds k (by rw [w8, q_tn (by omega)]; omega)
  have tlt : (f_gI c 24 0 1 < 3) ↔ t < 3 := by rw [hl.tim, show (3 : Int32) = nI 3 from rfl, q_lt (by omega) (by omega)]
  have alt : (f_gI m 30 0 15 < 3) ↔ a < 3 := by rw [hl.acc, show (3 : Int32) = nI 3 from rfl, q_lt (by omega) (by omega)]
  have z0 : b_m_against_357 (nI j) 0 m = some (0, m) := by
    show b_m_against_362 (f_it b_m_against_362 1999) (nI j, 0, 0, m) = _
    simp only [b_m_against_362, if_true, b_m_against_410]
    split <;> rfl
  unfold F_la_areAllLike q_like
  simp only [tlt, alt, c_like ln, m_like (show j < 60 by omega), z0, q_bd]
  by_cases t3 : t < 3
  · left
    rw [if_pos t3]
    refine ⟨rfl, ?_⟩
    by_cases a3 : a < 3
    · rw [if_pos a3]
    · rw [if_neg a3, q_if_neg]
      intro w
      have t0 := hl.a0 (by omega)
      have a8 : a % 3 < 3 := Nat.mod_lt _ (by decide)
      have a8' : (a + 1) % 3 < 3 := Nat.mod_lt _ (by decide)
      have a8'' : (a + 2) % 3 < 3 := Nat.mod_lt _ (by decide)
      have nw : ∀ q k, q < 3 → k < 8 → f_gI m 40 0 (8 * q + k) = f_gI m 34 0 (20 * j + 12 + k) := fun q k hq hk => by
        have := w (8 * q + k) (by omega)
        rw [show (8 * q + k) % 8 = k by omega] at this
        exact this
      have t12 : t = 1 ∨ t = 2 := by omega
      rcases t12 with t1 | t2
      · obtain ⟨k, k8, ne⟩ := hl.d2 t1 (by omega)
        apply ne
        rw [nw _ k a8' k8, ← hl.r1 (by omega) k k8, nw _ k a8'' k8]
      · obtain ⟨k, k8, ne⟩ := hl.d3 t2 (by omega)
        apply ne
        rw [nw _ k a8 k8, ← hl.r1 (by omega) k k8, nw _ k a8'' k8]
  · rw [if_neg t3, if_neg (show ¬ a < 3 by omega)]
    by_cases w : ∀ k, k < 8 → f_gI c 15 (f_gR c j + 16) k = f_gI c 25 0 k
    · right
      rw [q_if_pos w]
      refine ⟨rfl, ?_⟩
      rw [q_if_pos]
      intro x hx
      have k8 : x % 8 < 8 := Nat.mod_lt _ (by decide)
      rw [← wd _ k8, w _ k8]
      have xq : x = 8 * (x / 8) + x % 8 := by omega
      have q3 : x / 8 = (a + 2) % 3 ∨ x / 8 = (a + 1) % 3 ∨ x / 8 = a % 3 := by omega
      rcases q3 with q | q | q
      · rw [q] at xq; rw [xq] ; rw [← xq]; have := hl.r1 (by omega) _ k8; rw [← xq] at this; exact this
      · have := hl.r2 (by omega) _ k8; rw [← q, ← xq] at this; exact this
      · have := hl.r3 (by omega) _ k8; rw [← q, ← xq] at this; exact this
    · left
      rw [q_if_neg w]
      refine ⟨rfl, ?_⟩
      rw [q_if_neg]
      intro z
      apply w
      intro k hk
      have a8 : (a + 2) % 3 < 3 := Nat.mod_lt _ (by decide)
      rw [wd k hk, ← hl.r1 (by omega) k hk]
      have := z (8 * ((a + 2) % 3) + k) (by omega)
      rw [show (8 * ((a + 2) % 3) + k) % 8 = k by omega] at this
      exact this.symm
