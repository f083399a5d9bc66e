set_option linter.unusedVariables false
set_option linter.unusedSimpArgs false
/-! what the class's part of one memory (c) and the reference's part of another (m) have to do with each other -/
/-- where both part keep the catalogue -/
def rCat (c m : fST) : Prop := (∀ i, i < 40 → f_gI c 2 0 i = f_gI m 33 0 (6 * i)) ∧ (∀ i, i < 40 → f_gI c 3 0 i = f_gI m 33 0 (6 * i + 1)) ∧ (∀ i, i < 40 → f_gI c 4 0 i = f_gI m 33 0 (6 * i + 2)) ∧ (∀ i, i < 40 → f_gI c 5 0 i = f_gI m 33 0 (6 * i + 3)) ∧ (∀ i, i < 40 → f_gI c 6 0 i = f_gI m 33 0 (6 * i + 4)) ∧ (∀ i, i < 40 → f_gI c 7 0 i = f_gI m 33 0 (6 * i + 5)) ∧ (∀ i j, i < 8 → j < 8 → f_gI c 9 i j = f_gI m 31 0 (8 * i + j)) ∧ (∀ i, i < 8 → f_gI c 10 0 i = f_gI m 32 0 i) ∧ (∀ i, i < 40 → 0 ≤ (f_gI c 3 0 i).toInt ∧ (f_gI c 3 0 i).toInt ≤ 500) ∧ (∀ i, i < 40 → 0 ≤ (f_gI c 4 0 i).toInt ∧ (f_gI c 4 0 i).toInt < 3) ∧ (∀ i, i < 40 → 0 ≤ (f_gI c 7 0 i).toInt ∧ (f_gI c 7 0 i).toInt < 8)
theorem rCat.cod {c m : fST} (h : rCat c m) : ∀ i, i < 40 → f_gI c 2 0 i = f_gI m 33 0 (6 * i) := by unfold rCat at h; exact h.1
theorem rCat.dep {c m : fST} (h : rCat c m) : ∀ i, i < 40 → f_gI c 3 0 i = f_gI m 33 0 (6 * i + 1) := by unfold rCat at h; exact h.2.1
theorem rCat.bin {c m : fST} (h : rCat c m) : ∀ i, i < 40 → f_gI c 4 0 i = f_gI m 33 0 (6 * i + 2) := by unfold rCat at h; exact h.2.2.1
theorem rCat.low {c m : fST} (h : rCat c m) : ∀ i, i < 40 → f_gI c 5 0 i = f_gI m 33 0 (6 * i + 3) := by unfold rCat at h; exact h.2.2.2.1
theorem rCat.hig {c m : fST} (h : rCat c m) : ∀ i, i < 40 → f_gI c 6 0 i = f_gI m 33 0 (6 * i + 4) := by unfold rCat at h; exact h.2.2.2.2.1
theorem rCat.con {c m : fST} (h : rCat c m) : ∀ i, i < 40 → f_gI c 7 0 i = f_gI m 33 0 (6 * i + 5) := by unfold rCat at h; exact h.2.2.2.2.2.1
theorem rCat.wid {c m : fST} (h : rCat c m) : ∀ i j, i < 8 → j < 8 → f_gI c 9 i j = f_gI m 31 0 (8 * i + j) := by unfold rCat at h; exact h.2.2.2.2.2.2.1
theorem rCat.lim {c m : fST} (h : rCat c m) : ∀ i, i < 8 → f_gI c 10 0 i = f_gI m 32 0 i := by unfold rCat at h; exact h.2.2.2.2.2.2.2.1
theorem rCat.dok {c m : fST} (h : rCat c m) : ∀ i, i < 40 → 0 ≤ (f_gI c 3 0 i).toInt ∧ (f_gI c 3 0 i).toInt ≤ 500 := by unfold rCat at h; exact h.2.2.2.2.2.2.2.2.1
theorem rCat.bok {c m : fST} (h : rCat c m) : ∀ i, i < 40 → 0 ≤ (f_gI c 4 0 i).toInt ∧ (f_gI c 4 0 i).toInt < 3 := by unfold rCat at h; exact h.2.2.2.2.2.2.2.2.2.1
theorem rCat.cok {c m : fST} (h : rCat c m) : ∀ i, i < 40 → 0 ≤ (f_gI c 7 0 i).toInt ∧ (f_gI c 7 0 i).toInt < 8 := by unfold rCat at h; exact h.2.2.2.2.2.2.2.2.2.2
theorem rCat.mk {c m : fST} (h0 : ∀ i, i < 40 → f_gI c 2 0 i = f_gI m 33 0 (6 * i)) (h1 : ∀ i, i < 40 → f_gI c 3 0 i = f_gI m 33 0 (6 * i + 1)) (h2 : ∀ i, i < 40 → f_gI c 4 0 i = f_gI m 33 0 (6 * i + 2)) (h3 : ∀ i, i < 40 → f_gI c 5 0 i = f_gI m 33 0 (6 * i + 3)) (h4 : ∀ i, i < 40 → f_gI c 6 0 i = f_gI m 33 0 (6 * i + 4)) (h5 : ∀ i, i < 40 → f_gI c 7 0 i = f_gI m 33 0 (6 * i + 5)) (h6 : ∀ i j, i < 8 → j < 8 → f_gI c 9 i j = f_gI m 31 0 (8 * i + j)) (h7 : ∀ i, i < 8 → f_gI c 10 0 i = f_gI m 32 0 i) (h8 : ∀ i, i < 40 → 0 ≤ (f_gI c 3 0 i).toInt ∧ (f_gI c 3 0 i).toInt ≤ 500) (h9 : ∀ i, i < 40 → 0 ≤ (f_gI c 4 0 i).toInt ∧ (f_gI c 4 0 i).toInt < 3) (h10 : ∀ i, i < 40 → 0 ≤ (f_gI c 7 0 i).toInt ∧ (f_gI c 7 0 i).toInt < 8) : rCat c m := by unfold rCat; exact ⟨h0, h1, h2, h3, h4, h5, h6, h7, h8, h9, h10⟩
/-- a container p of the class against the row j of the reference -/
def rRow (c m : fST) (p j : Nat) : Prop := (f_gI c 13 p 2 = f_gI m 34 0 (20 * j)) ∧ (f_gI c 13 p 3 = f_gI m 34 0 (20 * j + 1)) ∧ (f_gI c 13 p 4 = f_gI m 34 0 (20 * j + 2)) ∧ (f_gI c 13 p 6 = f_gI m 34 0 (20 * j + 3)) ∧ (f_gI c 13 p 7 = f_gI m 34 0 (20 * j + 4)) ∧ (f_gI c 13 p 8 = f_gI m 34 0 (20 * j + 5)) ∧ (f_gI c 13 p 5 = f_gI m 34 0 (20 * j + 6)) ∧ (f_gI c 14 p 1 = f_gI m 34 0 (20 * j + 7)) ∧ (f_gI c 14 (p + 16) 1 = f_gI m 34 0 (20 * j + 8)) ∧ (∀ i : Nat, (i : Int) < (f_gI c 14 p 1).toInt → f_gI c 15 p i = f_gI m 34 0 (20 * j + 9 + i)) ∧ (∀ i : Nat, (i : Int) < (f_gI c 14 (p + 16) 1).toInt → f_gI c 15 (p + 16) i = f_gI m 34 0 (20 * j + 12 + i))
theorem rRow.num {c m : fST} {p j : Nat} (h : rRow c m p j) : f_gI c 13 p 2 = f_gI m 34 0 (20 * j) := by unfold rRow at h; exact h.1
theorem rRow.len {c m : fST} {p j : Nat} (h : rRow c m p j) : f_gI c 13 p 3 = f_gI m 34 0 (20 * j + 1) := by unfold rRow at h; exact h.2.1
theorem rRow.fro {c m : fST} {p j : Nat} (h : rRow c m p j) : f_gI c 13 p 4 = f_gI m 34 0 (20 * j + 2) := by unfold rRow at h; exact h.2.2.1
theorem rRow.jud {c m : fST} {p j : Nat} (h : rRow c m p j) : f_gI c 13 p 6 = f_gI m 34 0 (20 * j + 3) := by unfold rRow at h; exact h.2.2.2.1
theorem rRow.kin {c m : fST} {p j : Nat} (h : rRow c m p j) : f_gI c 13 p 7 = f_gI m 34 0 (20 * j + 4) := by unfold rRow at h; exact h.2.2.2.2.1
theorem rRow.pai {c m : fST} {p j : Nat} (h : rRow c m p j) : f_gI c 13 p 8 = f_gI m 34 0 (20 * j + 5) := by unfold rRow at h; exact h.2.2.2.2.2.1
theorem rRow.wei {c m : fST} {p j : Nat} (h : rRow c m p j) : f_gI c 13 p 5 = f_gI m 34 0 (20 * j + 6) := by unfold rRow at h; exact h.2.2.2.2.2.2.1
theorem rRow.ncd {c m : fST} {p j : Nat} (h : rRow c m p j) : f_gI c 14 p 1 = f_gI m 34 0 (20 * j + 7) := by unfold rRow at h; exact h.2.2.2.2.2.2.2.1
theorem rRow.nwd {c m : fST} {p j : Nat} (h : rRow c m p j) : f_gI c 14 (p + 16) 1 = f_gI m 34 0 (20 * j + 8) := by unfold rRow at h; exact h.2.2.2.2.2.2.2.2.1
theorem rRow.cds {c m : fST} {p j : Nat} (h : rRow c m p j) : ∀ i : Nat, (i : Int) < (f_gI c 14 p 1).toInt → f_gI c 15 p i = f_gI m 34 0 (20 * j + 9 + i) := by unfold rRow at h; exact h.2.2.2.2.2.2.2.2.2.1
theorem rRow.wds {c m : fST} {p j : Nat} (h : rRow c m p j) : ∀ i : Nat, (i : Int) < (f_gI c 14 (p + 16) 1).toInt → f_gI c 15 (p + 16) i = f_gI m 34 0 (20 * j + 12 + i) := by unfold rRow at h; exact h.2.2.2.2.2.2.2.2.2.2
theorem rRow.mk {c m : fST} {p j : Nat} (h0 : f_gI c 13 p 2 = f_gI m 34 0 (20 * j)) (h1 : f_gI c 13 p 3 = f_gI m 34 0 (20 * j + 1)) (h2 : f_gI c 13 p 4 = f_gI m 34 0 (20 * j + 2)) (h3 : f_gI c 13 p 6 = f_gI m 34 0 (20 * j + 3)) (h4 : f_gI c 13 p 7 = f_gI m 34 0 (20 * j + 4)) (h5 : f_gI c 13 p 8 = f_gI m 34 0 (20 * j + 5)) (h6 : f_gI c 13 p 5 = f_gI m 34 0 (20 * j + 6)) (h7 : f_gI c 14 p 1 = f_gI m 34 0 (20 * j + 7)) (h8 : f_gI c 14 (p + 16) 1 = f_gI m 34 0 (20 * j + 8)) (h9 : ∀ i : Nat, (i : Int) < (f_gI c 14 p 1).toInt → f_gI c 15 p i = f_gI m 34 0 (20 * j + 9 + i)) (h10 : ∀ i : Nat, (i : Int) < (f_gI c 14 (p + 16) 1).toInt → f_gI c 15 (p + 16) i = f_gI m 34 0 (20 * j + 12 + i)) : rRow c m p j := by unfold rRow; exact ⟨h0, h1, h2, h3, h4, h5, h6, h7, h8, h9, h10⟩
/-- what always holds of a container on the belt -/
def rOk (c : fST) (p : Nat) : Prop := (5 ≤ (f_gI c 13 p 3).toInt) ∧ ((f_gI c 13 p 3).toInt ≤ 40) ∧ (0 ≤ (f_gI c 14 p 1).toInt) ∧ ((f_gI c 14 p 1).toInt ≤ 3) ∧ (0 ≤ (f_gI c 14 (p + 16) 1).toInt) ∧ ((f_gI c 14 (p + 16) 1).toInt ≤ 8) ∧ ((f_gI c 13 p 7 = -1 ∧ f_gI c 13 p 6 ≠ 10) ∨ (0 ≤ (f_gI c 13 p 7).toInt ∧ (f_gI c 13 p 7).toInt < 40 ∧ f_gI c 13 p 6 = 10)) ∧ (f_gI c 13 p 8 = 0 ∨ f_gI c 13 p 8 = 1) ∧ (0 ≤ (f_gI c 13 p 4).toInt) ∧ ((f_gI c 13 p 4).toInt - (f_gI c 13 p 3).toInt ≤ 110) ∧ (105 ≤ (f_gI c 13 p 4).toInt → f_gI c 13 p 6 = 10) ∧ ((f_gI c 13 p 4).toInt - (f_gI c 13 p 3).toInt < 60 → f_gI c 13 p 7 = -1)
theorem rOk.ln1 {c : fST} {p : Nat} (h : rOk c p) : 5 ≤ (f_gI c 13 p 3).toInt := by unfold rOk at h; exact h.1
theorem rOk.ln2 {c : fST} {p : Nat} (h : rOk c p) : (f_gI c 13 p 3).toInt ≤ 40 := by unfold rOk at h; exact h.2.1
theorem rOk.nc1 {c : fST} {p : Nat} (h : rOk c p) : 0 ≤ (f_gI c 14 p 1).toInt := by unfold rOk at h; exact h.2.2.1
theorem rOk.nc2 {c : fST} {p : Nat} (h : rOk c p) : (f_gI c 14 p 1).toInt ≤ 3 := by unfold rOk at h; exact h.2.2.2.1
theorem rOk.nw1 {c : fST} {p : Nat} (h : rOk c p) : 0 ≤ (f_gI c 14 (p + 16) 1).toInt := by unfold rOk at h; exact h.2.2.2.2.1
theorem rOk.nw2 {c : fST} {p : Nat} (h : rOk c p) : (f_gI c 14 (p + 16) 1).toInt ≤ 8 := by unfold rOk at h; exact h.2.2.2.2.2.1
theorem rOk.kj {c : fST} {p : Nat} (h : rOk c p) : (f_gI c 13 p 7 = -1 ∧ f_gI c 13 p 6 ≠ 10) ∨ (0 ≤ (f_gI c 13 p 7).toInt ∧ (f_gI c 13 p 7).toInt < 40 ∧ f_gI c 13 p 6 = 10) := by unfold rOk at h; exact h.2.2.2.2.2.2.1
theorem rOk.p01 {c : fST} {p : Nat} (h : rOk c p) : f_gI c 13 p 8 = 0 ∨ f_gI c 13 p 8 = 1 := by unfold rOk at h; exact h.2.2.2.2.2.2.2.1
theorem rOk.fr0 {c : fST} {p : Nat} (h : rOk c p) : 0 ≤ (f_gI c 13 p 4).toInt := by unfold rOk at h; exact h.2.2.2.2.2.2.2.2.1
theorem rOk.fr1 {c : fST} {p : Nat} (h : rOk c p) : (f_gI c 13 p 4).toInt - (f_gI c 13 p 3).toInt ≤ 110 := by unfold rOk at h; exact h.2.2.2.2.2.2.2.2.2.1
theorem rOk.f105 {c : fST} {p : Nat} (h : rOk c p) : 105 ≤ (f_gI c 13 p 4).toInt → f_gI c 13 p 6 = 10 := by unfold rOk at h; exact h.2.2.2.2.2.2.2.2.2.2.1
theorem rOk.k60 {c : fST} {p : Nat} (h : rOk c p) : (f_gI c 13 p 4).toInt - (f_gI c 13 p 3).toInt < 60 → f_gI c 13 p 7 = -1 := by unfold rOk at h; exact h.2.2.2.2.2.2.2.2.2.2.2
theorem rOk.mk {c : fST} {p : Nat} (h0 : 5 ≤ (f_gI c 13 p 3).toInt) (h1 : (f_gI c 13 p 3).toInt ≤ 40) (h2 : 0 ≤ (f_gI c 14 p 1).toInt) (h3 : (f_gI c 14 p 1).toInt ≤ 3) (h4 : 0 ≤ (f_gI c 14 (p + 16) 1).toInt) (h5 : (f_gI c 14 (p + 16) 1).toInt ≤ 8) (h6 : (f_gI c 13 p 7 = -1 ∧ f_gI c 13 p 6 ≠ 10) ∨ (0 ≤ (f_gI c 13 p 7).toInt ∧ (f_gI c 13 p 7).toInt < 40 ∧ f_gI c 13 p 6 = 10)) (h7 : f_gI c 13 p 8 = 0 ∨ f_gI c 13 p 8 = 1) (h8 : 0 ≤ (f_gI c 13 p 4).toInt) (h9 : (f_gI c 13 p 4).toInt - (f_gI c 13 p 3).toInt ≤ 110) (h10 : 105 ≤ (f_gI c 13 p 4).toInt → f_gI c 13 p 6 = 10) (h11 : (f_gI c 13 p 4).toInt - (f_gI c 13 p 3).toInt < 60 → f_gI c 13 p 7 = -1) : rOk c p := by unfold rOk; exact ⟨h0, h1, h2, h3, h4, h5, h6, h7, h8, h9, h10, h11⟩
/-- how many of the first N containers are unpaid -/
def rU (c : fST) (j : Nat) : Nat := if f_gI c 13 (f_gR c j) 8 = 0 then 1 else 0
/-- the belts, of N containers -/
def rBelt (N : Nat) (c m : fST) : Prop := (N ≤ 13) ∧ (f_gI c 11 0 1 = nI N) ∧ (f_gI m 30 0 4 = nI N) ∧ (f_gI c 11 0 2 = f_gI m 30 0 5) ∧ (∀ j, j < 16 → f_gR c j < 16) ∧ (∀ i j, i < 16 → j < 16 → f_gR c i = f_gR c j → i = j) ∧ (∀ j, j < N → rRow c m (f_gR c j) j) ∧ (∀ j, j < N → rOk c (f_gR c j)) ∧ (∀ j, j + 1 < N → (f_gI c 13 (f_gR c (j + 1)) 4).toInt + 4 ≤ (f_gI c 13 (f_gR c j) 4).toInt - (f_gI c 13 (f_gR c j) 3).toInt)
theorem rBelt.n13 {N : Nat} {c m : fST} (h : rBelt N c m) : N ≤ 13 := by unfold rBelt at h; exact h.1
theorem rBelt.cnt {N : Nat} {c m : fST} (h : rBelt N c m) : f_gI c 11 0 1 = nI N := by unfold rBelt at h; exact h.2.1
theorem rBelt.siz {N : Nat} {c m : fST} (h : rBelt N c m) : f_gI m 30 0 4 = nI N := by unfold rBelt at h; exact h.2.2.1
theorem rBelt.ent {N : Nat} {c m : fST} (h : rBelt N c m) : f_gI c 11 0 2 = f_gI m 30 0 5 := by unfold rBelt at h; exact h.2.2.2.1
theorem rBelt.rlt {N : Nat} {c m : fST} (h : rBelt N c m) : ∀ j, j < 16 → f_gR c j < 16 := by unfold rBelt at h; exact h.2.2.2.2.1
theorem rBelt.inj {N : Nat} {c m : fST} (h : rBelt N c m) : ∀ i j, i < 16 → j < 16 → f_gR c i = f_gR c j → i = j := by unfold rBelt at h; exact h.2.2.2.2.2.1
theorem rBelt.row {N : Nat} {c m : fST} (h : rBelt N c m) : ∀ j, j < N → rRow c m (f_gR c j) j := by unfold rBelt at h; exact h.2.2.2.2.2.2.1
theorem rBelt.ok {N : Nat} {c m : fST} (h : rBelt N c m) : ∀ j, j < N → rOk c (f_gR c j) := by unfold rBelt at h; exact h.2.2.2.2.2.2.2.1
theorem rBelt.gap {N : Nat} {c m : fST} (h : rBelt N c m) : ∀ j, j + 1 < N → (f_gI c 13 (f_gR c (j + 1)) 4).toInt + 4 ≤ (f_gI c 13 (f_gR c j) 4).toInt - (f_gI c 13 (f_gR c j) 3).toInt := by unfold rBelt at h; exact h.2.2.2.2.2.2.2.2
theorem rBelt.mk {N : Nat} {c m : fST} (h0 : N ≤ 13) (h1 : f_gI c 11 0 1 = nI N) (h2 : f_gI m 30 0 4 = nI N) (h3 : f_gI c 11 0 2 = f_gI m 30 0 5) (h4 : ∀ j, j < 16 → f_gR c j < 16) (h5 : ∀ i j, i < 16 → j < 16 → f_gR c i = f_gR c j → i = j) (h6 : ∀ j, j < N → rRow c m (f_gR c j) j) (h7 : ∀ j, j < N → rOk c (f_gR c j)) (h8 : ∀ j, j + 1 < N → (f_gI c 13 (f_gR c (j + 1)) 4).toInt + 4 ≤ (f_gI c 13 (f_gR c j) 4).toInt - (f_gI c 13 (f_gR c j) 3).toInt) : rBelt N c m := by unfold rBelt; exact ⟨h0, h1, h2, h3, h4, h5, h6, h7, h8⟩
def rBins (c m : fST) : Prop := (∀ i, i < 3 → f_gI c 17 0 i = f_gI m 35 0 i) ∧ (∀ i, i < 3 → f_gI c 18 0 i = f_gI m 36 0 i)
theorem rBins.hel {c m : fST} (h : rBins c m) : ∀ i, i < 3 → f_gI c 17 0 i = f_gI m 35 0 i := by unfold rBins at h; exact h.1
theorem rBins.roo {c m : fST} (h : rBins c m) : ∀ i, i < 3 → f_gI c 18 0 i = f_gI m 36 0 i := by unfold rBins at h; exact h.2
theorem rBins.mk {c m : fST} (h0 : ∀ i, i < 3 → f_gI c 17 0 i = f_gI m 35 0 i) (h1 : ∀ i, i < 3 → f_gI c 18 0 i = f_gI m 36 0 i) : rBins c m := by unfold rBins; exact ⟨h0, h1⟩
/-- the vouchers, V of them, with numbers up to e -/
def rVou (V e : Nat) (c m : fST) : Prop := (V ≤ 60) ∧ (f_gI c 19 0 3 = nI V) ∧ (f_gI m 30 0 12 = nI V) ∧ (f_gI c 19 0 4 = f_gI m 30 0 13) ∧ (f_gI c 19 0 5 = f_gI m 30 0 23) ∧ (0 ≤ (f_gI c 19 0 4).toInt) ∧ ((f_gI c 19 0 4).toInt ≤ e) ∧ (∀ i, i < V → f_gI c 20 0 i = f_gI m 37 0 i) ∧ (∀ i, i < V → f_gI c 21 0 i = f_gI m 38 0 i) ∧ (∀ i, i < V → f_gI c 22 0 i = f_gI m 39 0 i) ∧ (∀ i, i < V → 0 ≤ (f_gI c 20 0 i).toInt ∧ (f_gI c 20 0 i).toInt < 1000000) ∧ (∀ i, i < V → 0 ≤ (f_gI c 21 0 i).toInt ∧ (f_gI c 21 0 i).toInt < 1000000) ∧ (∀ i, i < V → f_gI c 22 0 i = 0 ∨ f_gI c 22 0 i = 1)
theorem rVou.v60 {V e : Nat} {c m : fST} (h : rVou V e c m) : V ≤ 60 := by unfold rVou at h; exact h.1
theorem rVou.cnt {V e : Nat} {c m : fST} (h : rVou V e c m) : f_gI c 19 0 3 = nI V := by unfold rVou at h; exact h.2.1
theorem rVou.siz {V e : Nat} {c m : fST} (h : rVou V e c m) : f_gI m 30 0 12 = nI V := by unfold rVou at h; exact h.2.2.1
theorem rVou.ser {V e : Nat} {c m : fST} (h : rVou V e c m) : f_gI c 19 0 4 = f_gI m 30 0 13 := by unfold rVou at h; exact h.2.2.2.1
theorem rVou.iss {V e : Nat} {c m : fST} (h : rVou V e c m) : f_gI c 19 0 5 = f_gI m 30 0 23 := by unfold rVou at h; exact h.2.2.2.2.1
theorem rVou.se0 {V e : Nat} {c m : fST} (h : rVou V e c m) : 0 ≤ (f_gI c 19 0 4).toInt := by unfold rVou at h; exact h.2.2.2.2.2.1
theorem rVou.se1 {V e : Nat} {c m : fST} (h : rVou V e c m) : (f_gI c 19 0 4).toInt ≤ e := by unfold rVou at h; exact h.2.2.2.2.2.2.1
theorem rVou.num {V e : Nat} {c m : fST} (h : rVou V e c m) : ∀ i, i < V → f_gI c 20 0 i = f_gI m 37 0 i := by unfold rVou at h; exact h.2.2.2.2.2.2.2.1
theorem rVou.sum {V e : Nat} {c m : fST} (h : rVou V e c m) : ∀ i, i < V → f_gI c 21 0 i = f_gI m 38 0 i := by unfold rVou at h; exact h.2.2.2.2.2.2.2.2.1
theorem rVou.red {V e : Nat} {c m : fST} (h : rVou V e c m) : ∀ i, i < V → f_gI c 22 0 i = f_gI m 39 0 i := by unfold rVou at h; exact h.2.2.2.2.2.2.2.2.2.1
theorem rVou.nok {V e : Nat} {c m : fST} (h : rVou V e c m) : ∀ i, i < V → 0 ≤ (f_gI c 20 0 i).toInt ∧ (f_gI c 20 0 i).toInt < 1000000 := by unfold rVou at h; exact h.2.2.2.2.2.2.2.2.2.2.1
theorem rVou.sok {V e : Nat} {c m : fST} (h : rVou V e c m) : ∀ i, i < V → 0 ≤ (f_gI c 21 0 i).toInt ∧ (f_gI c 21 0 i).toInt < 1000000 := by unfold rVou at h; exact h.2.2.2.2.2.2.2.2.2.2.2.1
theorem rVou.rok {V e : Nat} {c m : fST} (h : rVou V e c m) : ∀ i, i < V → f_gI c 22 0 i = 0 ∨ f_gI c 22 0 i = 1 := by unfold rVou at h; exact h.2.2.2.2.2.2.2.2.2.2.2.2
theorem rVou.mk {V e : Nat} {c m : fST} (h0 : V ≤ 60) (h1 : f_gI c 19 0 3 = nI V) (h2 : f_gI m 30 0 12 = nI V) (h3 : f_gI c 19 0 4 = f_gI m 30 0 13) (h4 : f_gI c 19 0 5 = f_gI m 30 0 23) (h5 : 0 ≤ (f_gI c 19 0 4).toInt) (h6 : (f_gI c 19 0 4).toInt ≤ e) (h7 : ∀ i, i < V → f_gI c 20 0 i = f_gI m 37 0 i) (h8 : ∀ i, i < V → f_gI c 21 0 i = f_gI m 38 0 i) (h9 : ∀ i, i < V → f_gI c 22 0 i = f_gI m 39 0 i) (h10 : ∀ i, i < V → 0 ≤ (f_gI c 20 0 i).toInt ∧ (f_gI c 20 0 i).toInt < 1000000) (h11 : ∀ i, i < V → 0 ≤ (f_gI c 21 0 i).toInt ∧ (f_gI c 21 0 i).toInt < 1000000) (h12 : ∀ i, i < V → f_gI c 22 0 i = 0 ∨ f_gI c 22 0 i = 1) : rVou V e c m := by unfold rVou; exact ⟨h0, h1, h2, h3, h4, h5, h6, h7, h8, h9, h10, h11, h12⟩
/-- the journal; on is 1 or 0 -/
def rJou (c m : fST) : Prop := (f_gI c 23 0 0 = f_gI m 30 0 19) ∧ (f_gI c 23 0 1 = f_gI m 30 0 18) ∧ ((f_gI c 23 0 2 = 1 ∧ f_gI m 30 0 17 = 0) ∨ (f_gI c 23 0 2 = 0 ∧ f_gI m 30 0 17 = 1))
theorem rJou.rcd {c m : fST} (h : rJou c m) : f_gI c 23 0 0 = f_gI m 30 0 19 := by unfold rJou at h; exact h.1
theorem rJou.cut {c m : fST} (h : rJou c m) : f_gI c 23 0 1 = f_gI m 30 0 18 := by unfold rJou at h; exact h.2.1
theorem rJou.on {c m : fST} (h : rJou c m) : (f_gI c 23 0 2 = 1 ∧ f_gI m 30 0 17 = 0) ∨ (f_gI c 23 0 2 = 0 ∧ f_gI m 30 0 17 = 1) := by unfold rJou at h; exact h.2.2
theorem rJou.mk {c m : fST} (h0 : f_gI c 23 0 0 = f_gI m 30 0 19) (h1 : f_gI c 23 0 1 = f_gI m 30 0 18) (h2 : (f_gI c 23 0 2 = 1 ∧ f_gI m 30 0 17 = 0) ∨ (f_gI c 23 0 2 = 0 ∧ f_gI m 30 0 17 = 1)) : rJou c m := by unfold rJou; exact ⟨h0, h1, h2⟩
/-- the latest accepted: t like the last in a row, of a in all, a up to K -/
def rLat (t a K : Nat) (c m : fST) : Prop := (f_gI c 24 0 1 = nI t) ∧ (f_gI m 30 0 15 = nI a) ∧ (t ≤ a) ∧ (a ≤ K) ∧ (0 < a → 0 < t) ∧ (1 ≤ t → ∀ k, k < 8 → f_gI m 40 0 (8 * ((a + 2) % 3) + k) = f_gI c 25 0 k) ∧ (2 ≤ t → ∀ k, k < 8 → f_gI m 40 0 (8 * ((a + 1) % 3) + k) = f_gI c 25 0 k) ∧ (3 ≤ t → ∀ k, k < 8 → f_gI m 40 0 (8 * (a % 3) + k) = f_gI c 25 0 k) ∧ (t = 1 → 2 ≤ a → ∃ k, k < 8 ∧ f_gI m 40 0 (8 * ((a + 1) % 3) + k) ≠ f_gI c 25 0 k) ∧ (t = 2 → 3 ≤ a → ∃ k, k < 8 ∧ f_gI m 40 0 (8 * (a % 3) + k) ≠ f_gI c 25 0 k)
theorem rLat.tim {t a K : Nat} {c m : fST} (h : rLat t a K c m) : f_gI c 24 0 1 = nI t := by unfold rLat at h; exact h.1
theorem rLat.acc {t a K : Nat} {c m : fST} (h : rLat t a K c m) : f_gI m 30 0 15 = nI a := by unfold rLat at h; exact h.2.1
theorem rLat.ta {t a K : Nat} {c m : fST} (h : rLat t a K c m) : t ≤ a := by unfold rLat at h; exact h.2.2.1
theorem rLat.aK {t a K : Nat} {c m : fST} (h : rLat t a K c m) : a ≤ K := by unfold rLat at h; exact h.2.2.2.1
theorem rLat.a0 {t a K : Nat} {c m : fST} (h : rLat t a K c m) : 0 < a → 0 < t := by unfold rLat at h; exact h.2.2.2.2.1
theorem rLat.r1 {t a K : Nat} {c m : fST} (h : rLat t a K c m) : 1 ≤ t → ∀ k, k < 8 → f_gI m 40 0 (8 * ((a + 2) % 3) + k) = f_gI c 25 0 k := by unfold rLat at h; exact h.2.2.2.2.2.1
theorem rLat.r2 {t a K : Nat} {c m : fST} (h : rLat t a K c m) : 2 ≤ t → ∀ k, k < 8 → f_gI m 40 0 (8 * ((a + 1) % 3) + k) = f_gI c 25 0 k := by unfold rLat at h; exact h.2.2.2.2.2.2.1
theorem rLat.r3 {t a K : Nat} {c m : fST} (h : rLat t a K c m) : 3 ≤ t → ∀ k, k < 8 → f_gI m 40 0 (8 * (a % 3) + k) = f_gI c 25 0 k := by unfold rLat at h; exact h.2.2.2.2.2.2.2.1
theorem rLat.d2 {t a K : Nat} {c m : fST} (h : rLat t a K c m) : t = 1 → 2 ≤ a → ∃ k, k < 8 ∧ f_gI m 40 0 (8 * ((a + 1) % 3) + k) ≠ f_gI c 25 0 k := by unfold rLat at h; exact h.2.2.2.2.2.2.2.2.1
theorem rLat.d3 {t a K : Nat} {c m : fST} (h : rLat t a K c m) : t = 2 → 3 ≤ a → ∃ k, k < 8 ∧ f_gI m 40 0 (8 * (a % 3) + k) ≠ f_gI c 25 0 k := by unfold rLat at h; exact h.2.2.2.2.2.2.2.2.2
theorem rLat.mk {t a K : Nat} {c m : fST} (h0 : f_gI c 24 0 1 = nI t) (h1 : f_gI m 30 0 15 = nI a) (h2 : t ≤ a) (h3 : a ≤ K) (h4 : 0 < a → 0 < t) (h5 : 1 ≤ t → ∀ k, k < 8 → f_gI m 40 0 (8 * ((a + 2) % 3) + k) = f_gI c 25 0 k) (h6 : 2 ≤ t → ∀ k, k < 8 → f_gI m 40 0 (8 * ((a + 1) % 3) + k) = f_gI c 25 0 k) (h7 : 3 ≤ t → ∀ k, k < 8 → f_gI m 40 0 (8 * (a % 3) + k) = f_gI c 25 0 k) (h8 : t = 1 → 2 ≤ a → ∃ k, k < 8 ∧ f_gI m 40 0 (8 * ((a + 1) % 3) + k) ≠ f_gI c 25 0 k) (h9 : t = 2 → 3 ≤ a → ∃ k, k < 8 ∧ f_gI m 40 0 (8 * (a % 3) + k) ≠ f_gI c 25 0 k) : rLat t a K c m := by unfold rLat; exact ⟨h0, h1, h2, h3, h4, h5, h6, h7, h8, h9⟩
def rTot (c m : fST) : Prop := (f_gI c 0 0 7 = f_gI m 30 0 8) ∧ (f_gI c 0 0 8 = f_gI m 30 0 21) ∧ (f_gI c 0 0 9 = f_gI m 30 0 22) ∧ (f_gI c 0 0 10 = f_gI m 30 0 24) ∧ (f_gI c 0 0 11 = f_gI m 30 0 16) ∧ (∀ i, i < 10 → f_gI c 26 0 i = f_gI m 41 0 i)
theorem rTot.cre {c m : fST} (h : rTot c m) : f_gI c 0 0 7 = f_gI m 30 0 8 := by unfold rTot at h; exact h.1
theorem rTot.pad {c m : fST} (h : rTot c m) : f_gI c 0 0 8 = f_gI m 30 0 21 := by unfold rTot at h; exact h.2.1
theorem rTot.sum {c m : fST} (h : rTot c m) : f_gI c 0 0 9 = f_gI m 30 0 22 := by unfold rTot at h; exact h.2.2.1
theorem rTot.giv {c m : fST} (h : rTot c m) : f_gI c 0 0 10 = f_gI m 30 0 24 := by unfold rTot at h; exact h.2.2.2.1
theorem rTot.sus {c m : fST} (h : rTot c m) : f_gI c 0 0 11 = f_gI m 30 0 16 := by unfold rTot at h; exact h.2.2.2.2.1
theorem rTot.ref {c m : fST} (h : rTot c m) : ∀ i, i < 10 → f_gI c 26 0 i = f_gI m 41 0 i := by unfold rTot at h; exact h.2.2.2.2.2
theorem rTot.mk {c m : fST} (h0 : f_gI c 0 0 7 = f_gI m 30 0 8) (h1 : f_gI c 0 0 8 = f_gI m 30 0 21) (h2 : f_gI c 0 0 9 = f_gI m 30 0 22) (h3 : f_gI c 0 0 10 = f_gI m 30 0 24) (h4 : f_gI c 0 0 11 = f_gI m 30 0 16) (h5 : ∀ i, i < 10 → f_gI c 26 0 i = f_gI m 41 0 i) : rTot c m := by unfold rTot; exact ⟨h0, h1, h2, h3, h4, h5⟩
/-- the money: what is paid for, what is not yet, and what was let in -/
def rMon (N e : Nat) (c : fST) : Prop := (0 ≤ (f_gI c 0 0 8).toInt) ∧ ((f_gI c 0 0 8).toInt + q_sm (rU c) N ≤ (f_gI c 11 0 2).toInt) ∧ ((f_gI c 11 0 2).toInt ≤ e) ∧ (0 ≤ (f_gI c 0 0 7).toInt) ∧ ((f_gI c 0 0 7).toInt ≤ 500 * (f_gI c 0 0 8).toInt)
theorem rMon.p0 {N e : Nat} {c : fST} (h : rMon N e c) : 0 ≤ (f_gI c 0 0 8).toInt := by unfold rMon at h; exact h.1
theorem rMon.pe {N e : Nat} {c : fST} (h : rMon N e c) : (f_gI c 0 0 8).toInt + q_sm (rU c) N ≤ (f_gI c 11 0 2).toInt := by unfold rMon at h; exact h.2.1
theorem rMon.en {N e : Nat} {c : fST} (h : rMon N e c) : (f_gI c 11 0 2).toInt ≤ e := by unfold rMon at h; exact h.2.2.1
theorem rMon.c0 {N e : Nat} {c : fST} (h : rMon N e c) : 0 ≤ (f_gI c 0 0 7).toInt := by unfold rMon at h; exact h.2.2.2.1
theorem rMon.cp {N e : Nat} {c : fST} (h : rMon N e c) : (f_gI c 0 0 7).toInt ≤ 500 * (f_gI c 0 0 8).toInt := by unfold rMon at h; exact h.2.2.2.2
theorem rMon.mk {N e : Nat} {c : fST} (h0 : 0 ≤ (f_gI c 0 0 8).toInt) (h1 : (f_gI c 0 0 8).toInt + q_sm (rU c) N ≤ (f_gI c 11 0 2).toInt) (h2 : (f_gI c 11 0 2).toInt ≤ e) (h3 : 0 ≤ (f_gI c 0 0 7).toInt) (h4 : (f_gI c 0 0 7).toInt ≤ 500 * (f_gI c 0 0 8).toInt) : rMon N e c := by unfold rMon; exact ⟨h0, h1, h2, h3, h4⟩
/-- all of it; e calls at most, a up to K -/
def rAll (e K N : Nat) (c m : fST) : Prop := (e ≤ 1000) ∧ (K ≤ 1000000000) ∧ (rCat c m) ∧ (rBelt N c m) ∧ (rBins c m) ∧ (∃ V, rVou V e c m) ∧ (rJou c m) ∧ (∃ t a, rLat t a K c m) ∧ (rTot c m) ∧ (rMon N e c)
theorem rAll.e5 {e K N : Nat} {c m : fST} (h : rAll e K N c m) : e ≤ 1000 := by unfold rAll at h; exact h.1
theorem rAll.K9 {e K N : Nat} {c m : fST} (h : rAll e K N c m) : K ≤ 1000000000 := by unfold rAll at h; exact h.2.1
theorem rAll.cat {e K N : Nat} {c m : fST} (h : rAll e K N c m) : rCat c m := by unfold rAll at h; exact h.2.2.1
theorem rAll.belt {e K N : Nat} {c m : fST} (h : rAll e K N c m) : rBelt N c m := by unfold rAll at h; exact h.2.2.2.1
theorem rAll.bins {e K N : Nat} {c m : fST} (h : rAll e K N c m) : rBins c m := by unfold rAll at h; exact h.2.2.2.2.1
theorem rAll.vou {e K N : Nat} {c m : fST} (h : rAll e K N c m) : ∃ V, rVou V e c m := by unfold rAll at h; exact h.2.2.2.2.2.1
theorem rAll.jou {e K N : Nat} {c m : fST} (h : rAll e K N c m) : rJou c m := by unfold rAll at h; exact h.2.2.2.2.2.2.1
theorem rAll.lat {e K N : Nat} {c m : fST} (h : rAll e K N c m) : ∃ t a, rLat t a K c m := by unfold rAll at h; exact h.2.2.2.2.2.2.2.1
theorem rAll.tot {e K N : Nat} {c m : fST} (h : rAll e K N c m) : rTot c m := by unfold rAll at h; exact h.2.2.2.2.2.2.2.2.1
theorem rAll.mon {e K N : Nat} {c m : fST} (h : rAll e K N c m) : rMon N e c := by unfold rAll at h; exact h.2.2.2.2.2.2.2.2.2
theorem rAll.mk {e K N : Nat} {c m : fST} (h0 : e ≤ 1000) (h1 : K ≤ 1000000000) (h2 : rCat c m) (h3 : rBelt N c m) (h4 : rBins c m) (h5 : ∃ V, rVou V e c m) (h6 : rJou c m) (h7 : ∃ t a, rLat t a K c m) (h8 : rTot c m) (h9 : rMon N e c) : rAll e K N c m := by unfold rAll; exact ⟨h0, h1, h2, h3, h4, h5, h6, h7, h8, h9⟩
/-- between two calls -/
def rRel (e K N : Nat) (c m : fST) : Prop := (rAll e K N c m) ∧ (f_gI c 23 0 2 = 1 → ∀ j, j < N → (f_gI c 13 (f_gR c j) 4).toInt - (f_gI c 13 (f_gR c j) 3).toInt < 110) ∧ (∀ j, j < N → (f_gI c 13 (f_gR c j) 4).toInt < 105 → f_gI c 13 (f_gR c j) 8 = 0)
theorem rRel.all {e K N : Nat} {c m : fST} (h : rRel e K N c m) : rAll e K N c m := by unfold rRel at h; exact h.1
theorem rRel.r110 {e K N : Nat} {c m : fST} (h : rRel e K N c m) : f_gI c 23 0 2 = 1 → ∀ j, j < N → (f_gI c 13 (f_gR c j) 4).toInt - (f_gI c 13 (f_gR c j) 3).toInt < 110 := by unfold rRel at h; exact h.2.1
theorem rRel.unp {e K N : Nat} {c m : fST} (h : rRel e K N c m) : ∀ j, j < N → (f_gI c 13 (f_gR c j) 4).toInt < 105 → f_gI c 13 (f_gR c j) 8 = 0 := by unfold rRel at h; exact h.2.2
theorem rRel.mk {e K N : Nat} {c m : fST} (h0 : rAll e K N c m) (h1 : f_gI c 23 0 2 = 1 → ∀ j, j < N → (f_gI c 13 (f_gR c j) 4).toInt - (f_gI c 13 (f_gR c j) 3).toInt < 110) (h2 : ∀ j, j < N → (f_gI c 13 (f_gR c j) 4).toInt < 105 → f_gI c 13 (f_gR c j) 8 = 0) : rRel e K N c m := by unfold rRel; exact ⟨h0, h1, h2⟩
/-- the same memory at the kinds that S names -/
def fSame (S : Nat → Bool) (z z' : fST) : Prop := ∀ k i j, S k = true → f_gI z' k i j = f_gI z k i j
theorem rCat.to {c m c' m' : fST} (h : rCat c m) (hc : ∀ k i j, 2 ≤ k → k ≤ 10 → f_gI c' k i j = f_gI c k i j) (hm : ∀ k i j, 31 ≤ k → k ≤ 33 → f_gI m' k i j = f_gI m k i j) : rCat c' m' := by
  refine rCat.mk ?_ ?_ ?_ ?_ ?_ ?_ ?_ ?_ ?_ ?_ ?_
  all_goals intros
  · rw [hc _ _ _ (by decide) (by decide), hm _ _ _ (by decide) (by decide)]; exact h.cod _ ‹_›
  · rw [hc _ _ _ (by decide) (by decide), hm _ _ _ (by decide) (by decide)]; exact h.dep _ ‹_›
  · rw [hc _ _ _ (by decide) (by decide), hm _ _ _ (by decide) (by decide)]; exact h.bin _ ‹_›
  · rw [hc _ _ _ (by decide) (by decide), hm _ _ _ (by decide) (by decide)]; exact h.low _ ‹_›
  · rw [hc _ _ _ (by decide) (by decide), hm _ _ _ (by decide) (by decide)]; exact h.hig _ ‹_›
  · rw [hc _ _ _ (by decide) (by decide), hm _ _ _ (by decide) (by decide)]; exact h.con _ ‹_›
  · rw [hc _ _ _ (by decide) (by decide), hm _ _ _ (by decide) (by decide)]; exact h.wid _ _ ‹_› ‹_›
  · rw [hc _ _ _ (by decide) (by decide), hm _ _ _ (by decide) (by decide)]; exact h.lim _ ‹_›
  · rw [hc _ _ _ (by decide) (by decide)]; exact h.dok _ ‹_›
  · rw [hc _ _ _ (by decide) (by decide)]; exact h.bok _ ‹_›
  · rw [hc _ _ _ (by decide) (by decide)]; exact h.cok _ ‹_›
theorem rBins.to {c m c' m' : fST} (h : rBins c m) (hc : ∀ k i j, 17 ≤ k → k ≤ 18 → f_gI c' k i j = f_gI c k i j) (hm : ∀ k i j, 35 ≤ k → k ≤ 36 → f_gI m' k i j = f_gI m k i j) : rBins c' m' := by
  refine rBins.mk ?_ ?_
  all_goals intros
  · rw [hc _ _ _ (by decide) (by decide), hm _ _ _ (by decide) (by decide)]; exact h.hel _ ‹_›
  · rw [hc _ _ _ (by decide) (by decide), hm _ _ _ (by decide) (by decide)]; exact h.roo _ ‹_›
theorem rVou.to {V e : Nat} {c m c' m' : fST} (h : rVou V e c m) (hc : ∀ k i j, 19 ≤ k → k ≤ 22 → f_gI c' k i j = f_gI c k i j) (hm : ∀ k i j, 37 ≤ k → k ≤ 39 → f_gI m' k i j = f_gI m k i j) (h1 : f_gI m' 30 0 12 = f_gI m 30 0 12) (h2 : f_gI m' 30 0 13 = f_gI m 30 0 13) (h3 : f_gI m' 30 0 23 = f_gI m 30 0 23) : rVou V e c' m' := by
  refine rVou.mk ?_ ?_ ?_ ?_ ?_ ?_ ?_ ?_ ?_ ?_ ?_ ?_ ?_
  · exact h.v60
  · rw [hc _ _ _ (by decide) (by decide)]; exact h.cnt
  · rw [h1]; exact h.siz
  · rw [hc _ _ _ (by decide) (by decide), h2]; exact h.ser
  · rw [hc _ _ _ (by decide) (by decide), h3]; exact h.iss
  · rw [hc _ _ _ (by decide) (by decide)]; exact h.se0
  · rw [hc _ _ _ (by decide) (by decide)]; exact h.se1
  all_goals intros
  · rw [hc _ _ _ (by decide) (by decide), hm _ _ _ (by decide) (by decide)]; exact h.num _ ‹_›
  · rw [hc _ _ _ (by decide) (by decide), hm _ _ _ (by decide) (by decide)]; exact h.sum _ ‹_›
  · rw [hc _ _ _ (by decide) (by decide), hm _ _ _ (by decide) (by decide)]; exact h.red _ ‹_›
  · rw [hc _ _ _ (by decide) (by decide)]; exact h.nok _ ‹_›
  · rw [hc _ _ _ (by decide) (by decide)]; exact h.sok _ ‹_›
  · rw [hc _ _ _ (by decide) (by decide)]; exact h.rok _ ‹_›
theorem rJou.to {c m c' m' : fST} (h : rJou c m) (hc : ∀ j, f_gI c' 23 0 j = f_gI c 23 0 j) (h1 : f_gI m' 30 0 17 = f_gI m 30 0 17) (h2 : f_gI m' 30 0 18 = f_gI m 30 0 18) (h3 : f_gI m' 30 0 19 = f_gI m 30 0 19) : rJou c' m' := by
  refine rJou.mk ?_ ?_ ?_
  · rw [hc, h3]; exact h.rcd
  · rw [hc, h2]; exact h.cut
  · rw [hc, h1]; exact h.on
theorem rLat.to {t a K K' : Nat} {c m c' m' : fST} (h : rLat t a K c m) (hK : K ≤ K') (hc : ∀ k i j, 24 ≤ k → k ≤ 25 → f_gI c' k i j = f_gI c k i j) (hm : ∀ j, f_gI m' 40 0 j = f_gI m 40 0 j) (h1 : f_gI m' 30 0 15 = f_gI m 30 0 15) : rLat t a K' c' m' := by
  refine rLat.mk ?_ ?_ ?_ ?_ ?_ ?_ ?_ ?_ ?_ ?_
  · rw [hc _ _ _ (by decide) (by decide)]; exact h.tim
  · rw [h1]; exact h.acc
  · exact h.ta
  · exact Nat.le_trans h.aK hK
  · exact h.a0
  · intro q k hk; rw [hc _ _ _ (by decide) (by decide), hm]; exact h.r1 q k hk
  · intro q k hk; rw [hc _ _ _ (by decide) (by decide), hm]; exact h.r2 q k hk
  · intro q k hk; rw [hc _ _ _ (by decide) (by decide), hm]; exact h.r3 q k hk
  · intro q r; obtain ⟨k, a, b⟩ := h.d2 q r; exact ⟨k, a, by rw [hc _ _ _ (by decide) (by decide), hm]; exact b⟩
  · intro q r; obtain ⟨k, a, b⟩ := h.d3 q r; exact ⟨k, a, by rw [hc _ _ _ (by decide) (by decide), hm]; exact b⟩
theorem rTot.to {c m c' m' : fST} (h : rTot c m) (hc : ∀ j, 7 ≤ j → j ≤ 11 → f_gI c' 0 0 j = f_gI c 0 0 j) (hd : ∀ j, f_gI c' 26 0 j = f_gI c 26 0 j) (hm : ∀ j, f_gI m' 41 0 j = f_gI m 41 0 j) (h1 : f_gI m' 30 0 8 = f_gI m 30 0 8) (h2 : f_gI m' 30 0 21 = f_gI m 30 0 21) (h3 : f_gI m' 30 0 22 = f_gI m 30 0 22) (h4 : f_gI m' 30 0 24 = f_gI m 30 0 24) (h5 : f_gI m' 30 0 16 = f_gI m 30 0 16) : rTot c' m' := by
  refine rTot.mk ?_ ?_ ?_ ?_ ?_ ?_
  · rw [hc _ (by decide) (by decide), h1]; exact h.cre
  · rw [hc _ (by decide) (by decide), h2]; exact h.pad
  · rw [hc _ (by decide) (by decide), h3]; exact h.sum
  · rw [hc _ (by decide) (by decide), h4]; exact h.giv
  · rw [hc _ (by decide) (by decide), h5]; exact h.sus
  · intro i hi; rw [hd, hm]; exact h.ref i hi
theorem rRow.to {c m c' m' : fST} {p j : Nat} (h : rRow c m p j) (hc : ∀ k i f, 13 ≤ k → k ≤ 15 → (i = p ∨ i = p + 16) → f_gI c' k i f = f_gI c k i f) (hm : ∀ f, f < 20 → f_gI m' 34 0 (20 * j + f) = f_gI m 34 0 (20 * j + f)) (ho : rOk c p) : rRow c' m' p j := by
  have e (k f : Nat) (h1 : 13 ≤ k) (h2 : k ≤ 15) : f_gI c' k p f = f_gI c k p f := hc k p f h1 h2 (Or.inl rfl)
  have e' (k f : Nat) (h1 : 13 ≤ k) (h2 : k ≤ 15) : f_gI c' k (p + 16) f = f_gI c k (p + 16) f := hc k _ f h1 h2 (Or.inr rfl)
  have a1 := ho.nc2
  have a2 := ho.nw2
  refine rRow.mk ?_ ?_ ?_ ?_ ?_ ?_ ?_ ?_ ?_ ?_ ?_
  · rw [e _ _ (by decide) (by decide)]; exact h.num.trans (hm 0 (by decide)).symm
  · rw [e _ _ (by decide) (by decide)]; exact h.len.trans (hm 1 (by decide)).symm
  · rw [e _ _ (by decide) (by decide)]; exact h.fro.trans (hm 2 (by decide)).symm
  · rw [e _ _ (by decide) (by decide)]; exact h.jud.trans (hm 3 (by decide)).symm
  · rw [e _ _ (by decide) (by decide)]; exact h.kin.trans (hm 4 (by decide)).symm
  · rw [e _ _ (by decide) (by decide)]; exact h.pai.trans (hm 5 (by decide)).symm
  · rw [e _ _ (by decide) (by decide)]; exact h.wei.trans (hm 6 (by decide)).symm
  · rw [e _ _ (by decide) (by decide)]; exact h.ncd.trans (hm 7 (by decide)).symm
  · rw [e' _ _ (by decide) (by decide)]; exact h.nwd.trans (hm 8 (by decide)).symm
  · intro i hi
    rw [e _ _ (by decide) (by decide)] at hi ⊢
    have := hm (9 + i) (by omega)
    rw [show 20 * j + 9 + i = 20 * j + (9 + i) by omega, this, ← show 20 * j + 9 + i = 20 * j + (9 + i) by omega]
    exact h.cds i hi
  · intro i hi
    rw [e' _ _ (by decide) (by decide)] at hi ⊢
    have := hm (12 + i) (by omega)
    rw [show 20 * j + 12 + i = 20 * j + (12 + i) by omega, this, ← show 20 * j + 12 + i = 20 * j + (12 + i) by omega]
    exact h.wds i hi
theorem rOk.to {c c' : fST} {p : Nat} (h : rOk c p) (hc : ∀ k i f, 13 ≤ k → k ≤ 15 → (i = p ∨ i = p + 16) → f_gI c' k i f = f_gI c k i f) : rOk c' p := by
  have e (k f : Nat) (h1 : 13 ≤ k) (h2 : k ≤ 15) : f_gI c' k p f = f_gI c k p f := hc k p f h1 h2 (Or.inl rfl)
  have e' (k f : Nat) (h1 : 13 ≤ k) (h2 : k ≤ 15) : f_gI c' k (p + 16) f = f_gI c k (p + 16) f := hc k _ f h1 h2 (Or.inr rfl)
  refine rOk.mk ?_ ?_ ?_ ?_ ?_ ?_ ?_ ?_ ?_ ?_ ?_ ?_
  · rw [e _ _ (by decide) (by decide)]; exact h.ln1
  · rw [e _ _ (by decide) (by decide)]; exact h.ln2
  · rw [e _ _ (by decide) (by decide)]; exact h.nc1
  · rw [e _ _ (by decide) (by decide)]; exact h.nc2
  · rw [e' _ _ (by decide) (by decide)]; exact h.nw1
  · rw [e' _ _ (by decide) (by decide)]; exact h.nw2
  · rw [e _ _ (by decide) (by decide), e _ _ (by decide) (by decide)]; exact h.kj
  · rw [e _ _ (by decide) (by decide)]; exact h.p01
  · rw [e _ _ (by decide) (by decide)]; exact h.fr0
  · rw [e _ _ (by decide) (by decide), e _ _ (by decide) (by decide)]; exact h.fr1
  · rw [e _ _ (by decide) (by decide), e _ _ (by decide) (by decide)]; exact h.f105
  · rw [e _ _ (by decide) (by decide), e _ _ (by decide) (by decide), e _ _ (by decide) (by decide)]; exact h.k60
theorem rBelt.to {N : Nat} {c m c' m' : fST} (h : rBelt N c m) (hc : ∀ k i j, 11 ≤ k → k ≤ 15 → f_gI c' k i j = f_gI c k i j) (hr : ∀ j, f_gR c' j = f_gR c j) (hm : ∀ j, f_gI m' 34 0 j = f_gI m 34 0 j) (h1 : f_gI m' 30 0 4 = f_gI m 30 0 4) (h2 : f_gI m' 30 0 5 = f_gI m 30 0 5) : rBelt N c' m' := by
  refine rBelt.mk ?_ ?_ ?_ ?_ ?_ ?_ ?_ ?_ ?_
  · exact h.n13
  · rw [hc _ _ _ (by decide) (by decide)]; exact h.cnt
  · rw [h1]; exact h.siz
  · rw [hc _ _ _ (by decide) (by decide), h2]; exact h.ent
  · intro j hj; rw [hr]; exact h.rlt j hj
  · intro i j hi hj e; rw [hr, hr] at e; exact h.inj i j hi hj e
  · intro j hj; rw [hr]; exact (h.row j hj).to (fun k i f a b _ => hc k i f (by omega) (by omega)) (fun f _ => hm _) (h.ok j hj)
  · intro j hj; rw [hr]; exact (h.ok j hj).to (fun k i f a b _ => hc k i f (by omega) (by omega))
  · intro j hj; rw [hr, hr, hc _ _ _ (by decide) (by decide), hc _ _ _ (by decide) (by decide), hc _ _ _ (by decide) (by decide)]; exact h.gap j hj
theorem rMon.to {N e e' : Nat} {c c' : fST} (h : rMon N e c) (he : e ≤ e') (hc : ∀ j, f_gI c' 0 0 j = f_gI c 0 0 j) (hd : ∀ k i j, 11 ≤ k → k ≤ 15 → f_gI c' k i j = f_gI c k i j) (hr : ∀ j, f_gR c' j = f_gR c j) : rMon N e' c' := by
  have u : ∀ j, rU c' j = rU c j := fun j => by unfold rU; rw [hr, hd _ _ _ (by decide) (by decide)]
  have := h.en
  refine rMon.mk ?_ ?_ ?_ ?_ ?_
  · rw [hc]; exact h.p0
  · rw [hc, hd _ _ _ (by decide) (by decide), q_sm_congr N fun j _ => u j]; exact h.pe
  · rw [hd _ _ _ (by decide) (by decide)]; omega
  · rw [hc]; exact h.c0
  · rw [hc, hc]; exact h.cp

theorem rVou.up {V e e' : Nat} {c m : fST} (h : rVou V e c m) (h' : (f_gI c 19 0 4).toInt ≤ e') : rVou V e' c m := rVou.mk h.v60 h.cnt h.siz h.ser h.iss h.se0 h' h.num h.sum h.red h.nok h.sok h.rok
theorem rMon.up {N e e' : Nat} {c : fST} (h : rMon N e c) (h' : (f_gI c 11 0 2).toInt ≤ e') : rMon N e' c := rMon.mk h.p0 h.pe h' h.c0 h.cp
