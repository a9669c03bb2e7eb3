/-! ===== doings stay well formed ===== -/
def dOK (R : Nat → Int32) : Prop := R 5 = nI (cOf R) ∧ cOf R ≤ 10 ∧ stOK R ∧ zOK R ∧ Tn R (cOf R) ≤ 90
theorem clamp09 (x : Int32) : ∃ w : Nat, gtr 0 (lsr 9 x) = nI w ∧ w ≤ 9 := by
  have h1 : lsr 9 x ≤ 9 := by
    unfold lsr
    by_cases h : 9 < x
    · rw [if_pos h]; exact Int32.le_refl _
    · rw [if_neg h]; exact Int32.not_lt.mp h
  by_cases h : lsr 9 x ≤ 0
  · exact ⟨0, by rw [gtr0_neg h]; exact nI_0.symm, by omega⟩
  · rw [gtr0_pos h]
    obtain ⟨j, j1, j2⟩ := nI_of2 (M := 9) (n := 9) (by decide) (Int32.not_lt.mpr (Int32.le_of_lt (Int32.not_le.mp h))) h1
    exact ⟨j, j2, j1⟩
theorem d_warm {R : Nat → Int32} {i w : Nat} {v : Int32} (h : dOK R) (hi : i < cOf R) (hv : v = nI w) (hw : w ≤ 9) : dOK (upd R (6 + 3 * i + 1) v) := by
  obtain ⟨h1, h2, h3, h4, h5⟩ := h
  have ec : cOf (upd R (6 + 3 * i + 1) v) = cOf R := cOf_upd (by omega)
  have eT : ∀ k, Tn (upd R (6 + 3 * i + 1) v) k = Tn R k := by
    intro k
    induction k with
    | zero => rfl
    | succ k ih =>
      unfold Tn tOf
      rw [ih, updN (by omega)]
  refine ⟨by rw [ec, updN (by omega)]; exact h1, by omega, fun j hj => ?_, fun j hj => ?_, by rw [ec, eT]; exact h5⟩
  · rw [ec] at hj
    rw [updN (k := 6 + 3 * i + 1) (j := 6 + 3 * j + 0) (by omega)]
    rcases h3 j hj with z | z
    · exact Or.inl z
    · refine Or.inr ?_
      unfold lastsR at z ⊢
      rw [updN (k := 6 + 3 * i + 1) (j := 6 + 3 * j + 0) (by omega), updN (k := 6 + 3 * i + 1) (j := 6 + 3 * j + 2) (by omega)]
      refine ⟨z.1, ?_, z.2.2⟩
      by_cases e : j = i
      · rw [e, updS]; exact ⟨w, hv, hw⟩
      · rw [updN (by omega)]; exact z.2.1
  · rw [ec] at hj
    rw [updN (by omega), updN (by omega)]
    exact h4 j hj
theorem Tn_upd {R : Nat → Int32} {i t : Nat} (ht : t < 2 ^ 31) : ∀ k, Tn (upd R (6 + 3 * i + 2) (nI t)) k + (if i < k then tOf R i else 0) = Tn R k + (if i < k then t else 0) := by
  intro k
  induction k with
  | zero => rfl
  | succ k ih =>
    have e : tOf (upd R (6 + 3 * i + 2) (nI t)) k = if k = i then t else tOf R k := by
      unfold tOf
      by_cases q : k = i
      · rw [if_pos q, q, updS, nI_clamp ht]
      · rw [if_neg q, updN (by omega)]
    show Tn (upd R (6 + 3 * i + 2) (nI t)) k + tOf (upd R (6 + 3 * i + 2) (nI t)) k + _ = Tn R k + tOf R k + _
    rw [e]
    by_cases q : k = i
    · subst q
      rw [if_pos rfl, if_pos (by omega), if_pos (by omega)]
      rw [if_neg (by omega), if_neg (by omega)] at ih
      omega
    · rw [if_neg q]
      by_cases q2 : i < k
      · rw [if_pos q2, if_pos q2] at ih
        rw [if_pos (by omega), if_pos (by omega)]
        omega
      · rw [if_neg q2, if_neg q2] at ih
        rw [if_neg (by omega), if_neg (by omega)]
        omega
theorem d_turn {R : Nat → Int32} {i t : Nat} {v : Int32} (h : dOK R) (hi : i < cOf R) (hl : lastsR R i) (hv : v = nI t) (ht1 : 1 ≤ t) (ht : t ≤ 30) (hT : Tn R (cOf R) + t ≤ 90 + tOf R i) : dOK (upd R (6 + 3 * i + 2) v) := by
  subst hv
  obtain ⟨h1, h2, h3, h4, h5⟩ := h
  have ec : cOf (upd R (6 + 3 * i + 2) (nI t)) = cOf R := cOf_upd (by omega)
  have eT := Tn_upd (R := R) (i := i) (t := t) (by omega) (cOf R)
  rw [if_pos hi, if_pos hi] at eT
  refine ⟨by rw [ec, updN (by omega)]; exact h1, by omega, fun j hj => ?_, fun j hj hk => ?_, by rw [ec]; omega⟩
  · rw [ec] at hj
    rw [updN (k := 6 + 3 * i + 2) (j := 6 + 3 * j + 0) (by omega)]
    rcases h3 j hj with z | z
    · exact Or.inl z
    · refine Or.inr ?_
      unfold lastsR at z ⊢
      rw [updN (k := 6 + 3 * i + 2) (j := 6 + 3 * j + 0) (by omega), updN (k := 6 + 3 * i + 2) (j := 6 + 3 * j + 1) (by omega)]
      refine ⟨z.1, z.2.1, ?_⟩
      by_cases e : j = i
      · rw [e, updS]; exact ⟨t, rfl, ht1, ht⟩
      · rw [updN (by omega)]; exact z.2.2
  · rw [ec] at hj
    rw [updN (by omega)] at hk
    by_cases e : j = i
    · rw [e] at hk
      exact absurd hk (lasts_n hl)
    · rw [updN (by omega)]
      exact h4 j hj hk
theorem d_shift {v : Int32} {k : Nat} {R : Nat → Int32} (h : dOK R) (hk : k < cOf R) : dOK (shiftC v k R) := by
  unfold shiftC
  split
  · obtain ⟨w, w1, w2⟩ := clamp09 (R (6 + 3 * k + 1) + v)
    exact d_warm h hk w1 w2
  · exact h
