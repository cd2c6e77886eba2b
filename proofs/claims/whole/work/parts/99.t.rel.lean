/-! THE LAW, 7: the two new objects are alike -/
theorem rel0 : Rel ic_MX ic_MY := by
  refine ⟨⟨⟨0, by decide, rfl, rfl, fun i hi => absurd hi (by omega), fun i _ hi => ?_⟩, ⟨0, by decide, rfl, rfl, fun k hk => absurd hk (by omega), fun j k _ hk => absurd hk (by omega)⟩, ?_, ⟨0, by decide, rfl, rfl, ?_, fun k hk => absurd hk (by omega)⟩, ⟨rfl, Or.inl rfl⟩, ⟨rfl, rfl⟩, rfl, rfl⟩, ⟨0, by decide, rfl, rfl, fun j hj => absurd hj (by omega)⟩, fun j _ => ⟨rfl, Or.inl rfl⟩, ⟨0, by decide, rfl, rfl, fun k hk => absurd hk (by omega)⟩⟩
  · match i, hi with
    | 0, _ => exact ⟨rfl, rfl, rfl, rfl, rfl, rfl, rfl, rfl⟩
    | 1, _ => exact ⟨rfl, rfl, rfl, rfl, rfl, rfl, rfl, rfl⟩
    | 2, _ => exact ⟨rfl, rfl, rfl, rfl, rfl, rfl, rfl, rfl⟩
    | 3, _ => exact ⟨rfl, rfl, rfl, rfl, rfl, rfl, rfl, rfl⟩
    | i + 4, hi => exact absurd hi (by omega)
  · unfold PS
    decide +kernel
  · show ∀ k, k < 12 → ∀ j, j < 6 → ic_MY.1 1 (87 + 6 * k + j) = vI ic_MX 0 (16 + k) j
    decide +kernel
