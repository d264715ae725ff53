/-- the start -/
theorem rel_start : Rel 99999 0 30 3 1 0 0 no0 (fun _ => 0) (fun _ => 0) (fun _ => 0) (fun _ => 0) (moI 30) := by
  refine ⟨⟨by decide, by decide, by decide, by decide, by decide⟩, by decide, by unfold Bs; decide, by decide, fun g hg => ?_, fun j hj => absurd hj (Nat.not_lt_zero j)⟩
  have e : moI 30 (5 + g) = no0 g := by
    unfold moI
    rw [if_pos (by omega), show 5 + g - 5 = g by omega]
  have e2 : (no0 g).toInt = (4 * g % 7 : Nat) := nI_toInt (by omega)
  exact ⟨e, by rw [e2]; omega, by rw [e2]; omega⟩
