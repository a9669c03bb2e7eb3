/-! ===== the relation at the start ===== -/
theorem rel0 : Rel m0 n0 := by
  refine ⟨⟨rfl, rfl, fun f _ => rfl, by decide +kernel, by decide +kernel⟩, fun r hr => Or.inl ?_, fun t ht => Or.inl ?_, fun k hk => Or.inl ?_, fun k hk => Or.inl ?_, ⟨Or.inl ⟨rfl, rfl⟩, fun _ => ⟨rfl, rfl⟩⟩, fun k hk => Or.inl ?_, ⟨0, Nat.zero_le _, rfl, rfl, fun i hi => absurd hi (Nat.not_lt_zero i)⟩, Or.inl rfl⟩
  · exact (by decide +kernel : ∀ r, r < 6 → m0 241 r = -1 ∧ m0 (138 + 2 * r) 1 = -1) r hr
  · exact (by decide +kernel : ∀ t, t < 4 → m0 244 t = -1 ∧ m0 (150 + 2 * t) 1 = -1) t ht
  · exact (by decide +kernel : ∀ k, k < 4 → m0 246 k = 0 ∧ m0 (158 + 2 * k) 1 = 0) k hk
  · exact (by decide +kernel : ∀ k, k < 4 → m0 248 k = 0 ∧ m0 (166 + 4 * k) 4 = 0) k hk
  · exact (by decide +kernel : ∀ k, k < 3 → m0 253 (1 + k) = 0 ∧ m0 (182 + 19 * k) 4 = 0) k hk
