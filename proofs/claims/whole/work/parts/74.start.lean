/-! ===== both objects, just made, go with one another ===== -/
theorem R_start : R μC0 μM0 := by
  refine ⟨3, 0, 0, 0, 0, 0, ⟨rfl, Or.inl ⟨rfl, rfl⟩⟩, ?_, ?_, ?_, ?_, ?_, ?_, rfl⟩
  · exact ⟨⟨Or.inl rfl, rfl, by omega⟩, ⟨Or.inl rfl, rfl, by omega⟩, ⟨rfl, by omega⟩, ⟨rfl, by omega⟩, rfl, rfl, rfl, fun k hk => by omega, fun k hk => by omega, fun k hk => by omega, ⟨0, by decide, rfl⟩, fun k hk => by omega, fun k hk => by omega⟩
  · exact rP_to ⟨⟨rfl, rfl, by omega⟩, ⟨rfl, rfl, by omega⟩, fun k hk => by omega, fun k hk => by omega, fun k hk => by omega, fun k hk => by omega, 0, 0, by omega, rfl, rfl, rfl, by omega, fun _ => 0, fun _ => 0, rfl, rfl, fun i hi => by omega⟩
  · exact ⟨rfl, rfl, by omega, fun k hk => by omega, fun v hv => rfl⟩
  · exact ⟨fun _ => 0, 0, ⟨rfl, by omega, fun k hk => by omega⟩, ⟨rfl, by omega, fun k hk => by omega⟩⟩
  · exact Or.inl ⟨rfl, rfl⟩
  · exact Or.inl ⟨rfl, rfl⟩
