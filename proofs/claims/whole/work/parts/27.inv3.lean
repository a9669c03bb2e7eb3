/-! ===== the steps of a row, and where it is in them ===== -/
def lastsR (R : Nat → Int32) (i : Nat) : Prop := (R (6 + 3 * i + 0) = 1 ∨ R (6 + 3 * i + 0) = 2) ∧ (∃ w : Nat, R (6 + 3 * i + 1) = nI w ∧ w ≤ 9) ∧ (∃ t : Nat, R (6 + 3 * i + 2) = nI t ∧ 1 ≤ t ∧ t ≤ 30)
def stOK (R : Nat → Int32) : Prop := ∀ i, i < cOf R → (R (6 + 3 * i + 0) = 3 ∨ R (6 + 3 * i + 0) = 4 ∨ R (6 + 3 * i + 0) = 5) ∨ lastsR R i
def goneOK (R : Nat → Int32) : Prop := ∃ g : Nat, R 37 = nI g ∧ (g = 0 ∨ (atOf R < cOf R ∧ lastsR R (atOf R) ∧ (∃ t : Nat, R (6 + 3 * atOf R + 2) = nI t ∧ g < t ∧ t ≤ 30)))
def sR (R : Nat → Int32) : Prop := iR R ∧ wfA R ∧ stOK R ∧ goneOK R
theorem lasts_n {R : Nat → Int32} {i : Nat} (h : lastsR R i) : ¬ 2 < R (6 + 3 * i + 0) := by
  rcases h.1 with e | e <;> rw [e] <;> decide
theorem once_n {R : Nat → Int32} {i : Nat} (h : R (6 + 3 * i + 0) = 3 ∨ R (6 + 3 * i + 0) = 4 ∨ R (6 + 3 * i + 0) = 5) : 2 < R (6 + 3 * i + 0) := by
  rcases h with e | e | e <;> rw [e] <;> decide
theorem st_low {R R' : Nat → Int32} (h : stOK R) (hl : ∀ p, p < 36 → R' p = R p) (hc : cOf R ≤ 10) : stOK R' := by
  have ec : cOf R' = cOf R := by unfold cOf; rw [hl 5 (by omega)]
  intro i hi
  rw [ec] at hi
  unfold lastsR
  rw [hl _ (by omega), hl _ (by omega), hl _ (by omega)]
  exact h i hi
theorem skip_i {c : Nat} (hc : c ≤ 10) : ∀ (f a : Nat) (R : Nat → Int32), a + f = c → R 36 = nI a → R 5 = nI c → iR R → stOK R →
    iR (skipF f a R) ∧ (∃ a', a ≤ a' ∧ a' ≤ c ∧ skipF f a R 36 = nI a' ∧ (a' = c ∨ lastsR R a') ∧ (a < a' → 2 < R (6 + 3 * a + 0))) ∧ ∀ p, p < 40 → p ≠ 36 → skipF f a R p = R p := by
  intro f
  induction f with
  | zero =>
    intro a R h1 h2 h3 h4 h5
    exact ⟨h4, ⟨a, Nat.le_refl _, by omega, h2, Or.inl (by omega), fun q => absurd q (by omega)⟩, fun _ _ _ => rfl⟩
  | succ f ih =>
    intro a R h1 h2 h3 h4 h5
    have ec : cOf R = c := by unfold cOf; rw [h3, nI_clamp (by omega)]
    have hs := h5 a (by omega)
    unfold skipF
    split
    · rename_i q
      have hk : R (6 + 3 * a + 0) = 3 ∨ R (6 + 3 * a + 0) = 4 ∨ R (6 + 3 * a + 0) = 5 := by
        rcases hs with e | e
        · exact e
        · exact absurd q (lasts_n e)
      have hi : iR (onceS a R) := by
        unfold onceS
        exact i_set (i_once h4 hk) (by omega) (by omega)
      have hl : ∀ p, p < 36 → onceS a R p = R p := fun p hp => onceS_low (by omega) (by omega)
      obtain ⟨q1, ⟨a', q2, q3, q4, q5, q6⟩, q7⟩ := ih (a + 1) (onceS a R) (by omega) (by rw [onceS_36, h2, nI_1]) (by rw [onceS_low (by omega) (by omega)]; exact h3) hi (st_low h5 hl (by omega))
      refine ⟨q1, ⟨a', by omega, q3, q4, ?_, fun _ => q⟩, fun p hp hp2 => (q7 p hp hp2).trans (onceS_low hp hp2)⟩
      rcases q5 with e | e
      · exact Or.inl e
      · by_cases z : a' = c
        · exact Or.inl z
        · unfold lastsR at e ⊢
          rw [hl _ (by omega), hl _ (by omega), hl _ (by omega)] at e
          exact Or.inr e
    · rename_i q
      refine ⟨h4, ⟨a, Nat.le_refl _, by omega, h2, Or.inr ?_, fun q => absurd q (by omega)⟩, fun _ _ _ => rfl⟩
      rcases hs with e | e
      · exact absurd (once_n e) q
      · exact e
theorem i_last {a : Nat} {R : Nat → Int32} (h : iR R) (hw : ∃ w : Nat, R (6 + 3 * a + 1) = nI w ∧ w ≤ 9) : iR (lastF a R) := by
  obtain ⟨w, w1, w2⟩ := hw
  have h1 : iR (upd (turnF (ovk (R (6 + 3 * a + 0))) (R (6 + 3 * a + 1)) R) 37 (turnF (ovk (R (6 + 3 * a + 0))) (R (6 + 3 * a + 1)) R 37 + 1)) := by
    rw [w1]
    exact i_set (i_turn h w2) (by omega) (by omega)
  unfold lastF lastG
  split
  · exact i_set (i_set h1 (by omega) (by omega)) (by omega) (by omega)
  · exact h1
theorem at_mk {R : Nat → Int32} {a : Nat} (h : R 36 = nI a) (ha : a < 100) : atOf R = a := by unfold atOf; rw [h, nI_clamp (by omega)]
theorem s_next {R : Nat → Int32} (h : sR R) : sR (nextF R) := by
  obtain ⟨h1, h2, h3, g, g1, g2⟩ := h
  obtain ⟨n1, n2, n3, n4⟩ := next_ok h1.wf h2
  obtain ⟨a1, a2, a3, a4⟩ := h2
  obtain ⟨q1, ⟨a', q2, q3, q4, q5, q6⟩, q7⟩ := skip_i a4 (cOf R - atOf R) (atOf R) R (by omega) a1 a2 h1 h3
  have e36 : atOf (skipF (cOf R - atOf R) (atOf R) R) = a' := at_mk q4 (by omega)
  have hg : g = 0 ∨ (a' = atOf R ∧ (∃ t : Nat, R (6 + 3 * a' + 2) = nI t ∧ g < t ∧ t ≤ 30)) := by
    rcases g2 with e | ⟨e1, e2, e3⟩
    · exact Or.inl e
    · by_cases z : atOf R < a'
      · exact absurd (q6 z) (lasts_n e2)
      · have : a' = atOf R := by omega
        rw [this]
        exact Or.inr ⟨rfl, e3⟩
  refine ⟨?_, n2, st_low h3 n4 a4, ?_⟩
  · unfold nextF
    rw [e36]
    unfold stepF
    by_cases e : a' = cOf R
    · rw [if_pos e]
      exact i_turn (w := 2) q1 (by omega)
    · rw [if_neg e]
      rcases q5 with z | z
      · exact absurd z e
      · exact i_last q1 (by rw [q7 _ (by omega) (by omega)]; exact z.2.1)
  · unfold goneOK
    rw [n3]
    have eN : nextF R = stepF a' (cOf R) (skipF (cOf R - atOf R) (atOf R) R) := by unfold nextF; rw [e36]
    rw [eN] at n4 ⊢
    generalize skipF (cOf R - atOf R) (atOf R) R = S at *
    unfold stepF at n4 ⊢
    have s37 : S 37 = nI g := (q7 37 (by omega) (by omega)).trans g1
    by_cases e : a' = cOf R
    · rw [if_pos e, turn_low (by omega)]
      refine ⟨g, s37, Or.inl ?_⟩
      rcases hg with z | ⟨z1, t, z2, z3, z4⟩
      · exact z
      · rcases g2 with z | ⟨z5, -⟩
        · exact z
        · omega
    · rw [if_neg e] at n4 ⊢
      have hL : lastsR R a' := q5.resolve_left e
      obtain ⟨t, t1, t2, t3⟩ := hL.2.2
      have hgt : g < t := by
        rcases hg with z | ⟨-, t', z2, z3, z4⟩
        · omega
        · rw [t1, nI_eq (by omega) (by omega)] at z2
          omega
      have u37 : turnF (ovk (S (6 + 3 * a' + 0))) (S (6 + 3 * a' + 1)) S 37 = nI g := (turn_low (by omega)).trans s37
      have u36 : turnF (ovk (S (6 + 3 * a' + 0))) (S (6 + 3 * a' + 1)) S 36 = nI a' := (turn_low (by omega)).trans q4
      have ut : turnF (ovk (S (6 + 3 * a' + 0))) (S (6 + 3 * a' + 1)) S (6 + 3 * a' + 2) = nI t := by rw [turn_low (by omega), q7 _ (by omega) (by omega), t1]
      unfold lastF at n4 ⊢
      generalize turnF (ovk (S (6 + 3 * a' + 0))) (S (6 + 3 * a' + 1)) S = U at *
      unfold lastG at n4 ⊢
      rw [updS, updN (show 6 + 3 * a' + 2 ≠ 37 by omega), u37, ut, nI_1] at n4 ⊢
      by_cases z : g + 1 = t
      · rw [if_pos (by rw [z])]
        exact ⟨0, by rw [updN (by omega), updS]; exact nI_0.symm, Or.inl rfl⟩
      · rw [if_neg (by rw [nI_eq (by omega) (by omega)]; exact z)] at n4 ⊢
        have eat : atOf (upd U 37 (nI (g + 1))) = a' := at_mk (by rw [updN (by omega)]; exact u36) (by omega)
        refine ⟨g + 1, updS, Or.inr ?_⟩
        rw [eat]
        refine ⟨by omega, ?_, t, by rw [updN (by omega)]; exact ut, by omega, t3⟩
        unfold lastsR at hL ⊢
        rw [n4 _ (by omega), n4 _ (by omega), n4 _ (by omega)]
        exact hL
theorem s_goes {R : Nat → Int32} (h : sR R) : ∀ k, sR (goesF k R) := by
  intro k
  induction k with
  | zero => exact h
  | succ k ih => exact s_next ih
