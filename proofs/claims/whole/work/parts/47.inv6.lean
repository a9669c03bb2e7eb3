/-! ===== a doing changed is well formed ===== -/
theorem leave_at {l c i j : Nat} {R : Nat → Int32} (hi : i < c - 1) (hj : j < 3) : leaveR l c R (6 + 3 * i + j) = if l ≤ i then R (6 + 3 * (i + 1) + j) else R (6 + 3 * i + j) := by
  unfold leaveR
  rw [if_neg (by omega)]
  by_cases q : l ≤ i
  · rw [if_pos (by omega), if_pos q, show 6 + 3 * (i + 1) + j = 6 + 3 * i + j + 3 by omega]
  · rw [if_neg (by omega), if_neg q]
theorem Tn_leave {l c : Nat} {R : Nat → Int32} : ∀ k, k ≤ c - 1 → Tn (leaveR l c R) k + (if l < k then tOf R l else 0) = Tn R (if l < k then k + 1 else k) := by
  intro k
  induction k with
  | zero => intro _; rw [if_neg (by omega), if_neg (by omega)]; rfl
  | succ k ih =>
    intro hk
    have i := ih (by omega)
    have e : tOf (leaveR l c R) k = if l ≤ k then tOf R (k + 1) else tOf R k := by
      unfold tOf
      rw [leave_at (j := 2) (by omega) (by omega)]
      split <;> rfl
    have s2 : Tn R (k + 1 + 1) = Tn R (k + 1) + tOf R (k + 1) := rfl
    have s1 : Tn R (k + 1) = Tn R k + tOf R k := rfl
    show Tn (leaveR l c R) k + tOf (leaveR l c R) k + _ = _
    rw [e]
    by_cases q : l < k
    · rw [if_pos q, if_pos q] at i
      rw [if_pos (by omega), if_pos (by omega), if_pos (by omega)]
      omega
    · rw [if_neg q, if_neg q] at i
      by_cases q2 : l = k
      · subst q2
        rw [if_pos (by omega), if_pos (by omega), if_pos (by omega)]
        omega
      · rw [if_neg (by omega), if_neg (by omega), if_neg (by omega)]
        omega
theorem d_leave {l : Nat} {R : Nat → Int32} (h : dOK R) (hl : l < cOf R) : dOK (leaveR l (cOf R) R) := by
  obtain ⟨h1, h2, h3, h4, h5⟩ := h
  have e5 : leaveR l (cOf R) R 5 = nI (cOf R - 1) := if_pos rfl
  have ec : cOf (leaveR l (cOf R) R) = cOf R - 1 := by
    show (leaveR l (cOf R) R 5).toNatClampNeg = _
    rw [e5, nI_clamp (by omega)]
  refine ⟨by rw [ec, e5], by omega, fun i hi => ?_, fun i hi hk => ?_, ?_⟩
  · rw [ec] at hi
    unfold lastsR
    rw [leave_at (j := 0) hi (by omega), leave_at (j := 1) hi (by omega), leave_at (j := 2) hi (by omega)]
    by_cases q : l ≤ i
    · rw [if_pos q, if_pos q, if_pos q]
      exact h3 (i + 1) (by omega)
    · rw [if_neg q, if_neg q, if_neg q]
      exact h3 i (by omega)
  · rw [ec] at hi
    rw [leave_at (j := 0) hi (by omega)] at hk
    rw [leave_at (j := 2) hi (by omega)]
    by_cases q : l ≤ i
    · rw [if_pos q] at hk ⊢
      exact h4 (i + 1) (by omega) hk
    · rw [if_neg q] at hk ⊢
      exact h4 i (by omega) hk
  · rw [ec]
    have t := Tn_leave (R := R) (l := l) (c := cOf R) (cOf R - 1) (Nat.le_refl _)
    have s1 : Tn R (cOf R - 1 + 1) = Tn R (cOf R - 1) + tOf R (cOf R - 1) := rfl
    rw [show cOf R - 1 + 1 = cOf R by omega] at s1
    by_cases q : l < cOf R - 1
    · rw [if_pos q, if_pos q, show cOf R - 1 + 1 = cOf R by omega] at t
      omega
    · rw [if_neg q, if_neg q] at t
      omega
theorem d_warmC {w k : Nat} {R : Nat → Int32} (h : dOK R) (hk : k < cOf R) (hw : w ≤ 9) : dOK (warmC (nI w) k R) := by
  unfold warmC
  split
  · exact d_warm h hk rfl hw
  · exact h
