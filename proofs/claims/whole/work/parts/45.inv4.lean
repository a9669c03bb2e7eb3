/-! ===== sums of turns; steps found ===== -/
theorem rsum_Tn {R : Nat → Int32} (hst : stOK R) (hz : zOK R) : ∀ k, k ≤ cOf R → rsum R k = nI (Tn R k) := by
  intro k
  induction k with
  | zero => intro _; exact nI_0.symm
  | succ k ih =>
    intro hk
    have e : R (6 + 3 * k + 2) = nI (tOf R k) := by
      rcases hst k (by omega) with z | z
      · unfold tOf
        rw [hz k (by omega) (once_n z)]
        exact nI_0.symm
      · obtain ⟨t, t1, t2, t3⟩ := z.2.2
        unfold tOf
        rw [t1, nI_clamp (by omega)]
    show rsum R k + R (6 + 3 * k + 2) = nI (Tn R k + tOf R k)
    rw [ih (by omega), e, nI_add]
theorem nI_n9 {i : Nat} (h : i < 100) : ¬ nI i = -9 := fun e => by
  have h2 := nI_pos (n := i) (by omega)
  rw [e] at h2
  exact absurd h2 (by decide)
theorem find_first {kd : Int32} {R : Nat → Int32} : ∀ k, k ≤ 10 → (∃ i, i < k ∧ R (6 + 3 * i + 0) = kd ∧ (∀ j, j < i → ¬ R (6 + 3 * j + 0) = kd) ∧ findS kd 0 R k = nI i) ∨ ((∀ j, j < k → ¬ R (6 + 3 * j + 0) = kd) ∧ findS kd 0 R k = -9) := by
  intro k
  induction k with
  | zero => intro _; exact Or.inr ⟨fun j hj => absurd hj (by omega), rfl⟩
  | succ k ih =>
    intro hk
    rcases ih (by omega) with ⟨i, h1, h2, h3, h4⟩ | ⟨h1, h2⟩
    · refine Or.inl ⟨i, by omega, h2, h3, ?_⟩
      rw [find_n (fun z => z.2.elim (fun q => q rfl) (fun q => nI_n9 (by omega) (h4.symm.trans q)))]
      exact h4
    · by_cases e : R (6 + 3 * k + 0) = kd
      · exact Or.inl ⟨k, by omega, e, h1, find_y ⟨e, Or.inr h2⟩⟩
      · refine Or.inr ⟨fun j hj => ?_, (find_n (fun z => e z.1)).trans h2⟩
        by_cases q : j = k
        · rw [q]; exact e
        · exact h1 j (by omega)
theorem find_last {kd : Int32} {R : Nat → Int32} : ∀ k, (∃ i, i < k ∧ R (6 + 3 * i + 0) = kd ∧ (∀ j, i < j → j < k → ¬ R (6 + 3 * j + 0) = kd) ∧ findS kd 1 R k = nI i) ∨ ((∀ j, j < k → ¬ R (6 + 3 * j + 0) = kd) ∧ findS kd 1 R k = -9) := by
  intro k
  induction k with
  | zero => exact Or.inr ⟨fun j hj => absurd hj (by omega), rfl⟩
  | succ k ih =>
    by_cases e : R (6 + 3 * k + 0) = kd
    · exact Or.inl ⟨k, by omega, e, fun j h1 h2 => absurd h1 (by omega), find_y ⟨e, Or.inl (by decide)⟩⟩
    · have hn : findS kd 1 R (k + 1) = findS kd 1 R k := find_n (fun z => e z.1)
      rcases ih with ⟨i, h1, h2, h3, h4⟩ | ⟨h1, h2⟩
      · refine Or.inl ⟨i, by omega, h2, fun j q1 q2 => ?_, hn.trans h4⟩
        by_cases q : j = k
        · rw [q]; exact e
        · exact h3 j q1 (by omega)
      · refine Or.inr ⟨fun j hj => ?_, hn.trans h2⟩
        by_cases q : j = k
        · rw [q]; exact e
        · exact h1 j (by omega)
