/-! worlds as lists: order does not matter, and a callee's world joins its caller's -/
theorem j_sub {D : va_G} {cl : List vw_C} {ws w1 : va_W} {H : Heap} (h : va_P D cl ws H) (hs : ∀ x ∈ w1, x ∈ ws) : va_P D cl w1 H := by
  intro k q hk
  obtain ⟨i, hi⟩ := List.getElem?_of_mem (hs q (List.mem_of_getElem? hk))
  exact h i q hi
/-- the caller's world without the cell h0, and the callee's world, which speaks of h0 and of what it made -/
theorem j_join {D : va_G} {cl : List vw_C} {w0 wc : va_W} {H H1 : Heap} {h0 : Nat} (hP : va_P D cl w0 H) (hne : ∀ x ∈ w0, x.1 ≠ h0) (hk : ∀ q : Nat, q < H.size → q ≠ h0 → H1[q]? = H[q]?) (hC : va_P D cl wc H1) : va_P D cl (w0 ++ wc) H1 :=
  (hP.kept (fun k x hx => hk x.1 ((hP k x hx).lt) (hne x (List.mem_of_getElem? hx)))).app hC
/-- and its addresses stay apart -/
theorem j_apart {D : va_G} {cl : List vw_C} {A : Nat → Prop} {w0 wc : va_W} {H : Heap} {h0 : Nat} (hP : va_P D cl w0 H) (hne : ∀ x ∈ w0, x.1 ≠ h0) (hD : va_D A w0) (hC : va_D (fun q => q = h0 ∨ H.size ≤ q) wc) (hA : ∀ q, (q = h0 ∨ H.size ≤ q) → A q) : va_D A (w0 ++ wc) := by
  refine ⟨fun i j p q hp hq e => ?_, fun k q hq => ?_⟩
  · by_cases a : i < w0.length
    · rw [List.getElem?_append_left a] at hp
      have pl := (hP i p hp).lt
      by_cases b : j < w0.length
      · rw [List.getElem?_append_left b] at hq
        exact hD.1 i j p q hp hq e
      · rw [List.getElem?_append_right (by omega)] at hq
        exfalso
        rcases hC.2 _ q hq with x | x
        · exact hne p (List.mem_of_getElem? hp) (e.trans x)
        · omega
    · rw [List.getElem?_append_right (by omega)] at hp
      by_cases b : j < w0.length
      · rw [List.getElem?_append_left b] at hq
        have ql := (hP j q hq).lt
        exfalso
        rcases hC.2 _ p hp with x | x
        · exact hne q (List.mem_of_getElem? hq) (e.symm.trans x)
        · omega
      · rw [List.getElem?_append_right (by omega)] at hq
        have := hC.1 _ _ p q hp hq e
        omega
  · by_cases a : k < w0.length
    · rw [List.getElem?_append_left a] at hq; exact hD.2 k q hq
    · rw [List.getElem?_append_right (by omega)] at hq; exact hA _ (hC.2 _ q hq)
