/-! the start: both parts empty, the rooms 30, the power on -/
def f_z0 : fST := (fun k _ j => if k = 18 ∨ k = 36 then 30 else if k = 23 ∧ j = 2 then 1 else 0, fun j => j, 0)
theorem q_start : rRel 0 0 0 f_z0 f_z0 := by
  refine rRel.mk (rAll.mk (by decide) (by decide) ?_ ?_ ?_ ⟨0, ?_⟩ ?_ ⟨0, 0, ?_⟩ ?_ ?_) (by omega) (by omega)
  · exact rCat.mk (fun _ _ => rfl) (fun _ _ => rfl) (fun _ _ => rfl) (fun _ _ => rfl) (fun _ _ => rfl) (fun _ _ => rfl) (fun _ _ _ _ => rfl) (fun _ _ => rfl) (fun i _ => by rw [show f_gI f_z0 3 0 i = 0 from rfl]; decide) (fun i _ => by rw [show f_gI f_z0 4 0 i = 0 from rfl]; decide) (fun i _ => by rw [show f_gI f_z0 7 0 i = 0 from rfl]; decide)
  · exact rBelt.mk (by decide) rfl rfl rfl (fun j hj => hj) (fun i j _ _ h => h) (by omega) (by omega) (by omega)
  · exact rBins.mk (fun _ _ => rfl) (fun _ _ => rfl)
  · exact rVou.mk (by decide) rfl rfl rfl rfl (by decide) (by decide) (by omega) (by omega) (by omega) (by omega) (by omega) (by omega)
  · exact rJou.mk rfl rfl (Or.inl ⟨rfl, rfl⟩)
  · exact rLat.mk rfl rfl (by decide) (by decide) (by omega) (by omega) (by omega) (by omega) (by omega) (by omega)
  · exact rTot.mk rfl rfl rfl rfl rfl (fun _ _ => rfl)
  · exact rMon.mk (by decide) (by decide) (by decide) (by decide) (by decide)
/-- every script of at most 4096 ints, from the start -/
theorem q_all {xn : Nat} (hxn : xn ≤ 4096) (xs : Nat → Int32) : ∃ z', f_it (b_l_law_23 xn xs) 513 (0, f_z0) = some (1, z') := q_law hxn xs 512 0 0 f_z0 (by omega) q_start
