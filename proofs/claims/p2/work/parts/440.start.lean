/-! At the start. -/
theorem kI_start : kInv false kcZ := by
  refine ⟨0, fun _ => 0, ⟨fun b k h1 h2 j => ?_, fun _ _ => rfl⟩, ⟨by omega, rfl, fun i hi => by omega⟩, MI.of0 rfl (fun k => by show -2 ≤ (0 : Int32).toInt ∧ (0 : Int32).toInt ≤ 8; decide) (Or.inl rfl) (fun _ _ _ => rfl)⟩
  show cR k j (0 : Int32).toInt
  rw [lt00]
  unfold cR
  split <;> first | trivial | (intro _; omega) | omega
