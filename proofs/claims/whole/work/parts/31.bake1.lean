/-! ===== rows that are alike but for falls and the place in the steps ===== -/
def eqE (R R' : Nat → Int32) : Prop := ∀ p, p < 161 → ¬ (5 ≤ p ∧ p ≤ 36) → p ≠ 37 → R' p = R p
theorem eqE.rf {R : Nat → Int32} : eqE R R := fun _ _ _ _ => rfl
theorem eqE.sy {R R' : Nat → Int32} (h : eqE R R') : eqE R' R := fun p a b c => (h p a b c).symm
theorem eqE.tr {R R' R'' : Nat → Int32} (h : eqE R R') (h' : eqE R' R'') : eqE R R'' := fun p a b c => (h' p a b c).trans (h p a b c)
theorem eqE_mk {R R' : Nat → Int32} (hl : ∀ p, p < 41 → ¬ (5 ≤ p ∧ p ≤ 36) → p ≠ 37 → R' p = R p) (hc : ∀ j i, j < 24 → i < 5 → R' (41 + 5 * j + i) = R (41 + 5 * j + i)) : eqE R R' := by
  intro p h1 h2 h3
  by_cases q : p < 41
  · exact hl p q h2 h3
  · have e : p = 41 + 5 * ((p - 41) / 5) + (p - 41) % 5 := by omega
    rw [e]
    exact hc _ _ (by omega) (by omega)
theorem eqE_fold {f : Nat → (Nat → Int32) → (Nat → Int32)} (hf : ∀ k R R', k < 24 → eqE R R' → eqE (f k R) (f k R')) {R R' : Nat → Int32} (h : eqE R R') : ∀ k, k ≤ 24 → eqE (foldR f k R) (foldR f k R') := by
  intro k
  induction k with
  | zero => intro _; exact h
  | succ k ih => intro hk; exact hf k _ _ (by omega) (ih (by omega))
theorem eqE_warm {w : Int32} {R R' : Nat → Int32} (h : eqE R R') : eqE (warmsF w R) (warmsF w R') := by
  refine eqE_mk (fun p h1 h2 h3 => ?_) (fun j i hj hi => ?_)
  · rw [warms_low (by omega), warms_low (by omega)]; exact h p (by omega) h2 h3
  · by_cases e : i = 2
    · subst e
      rw [warms_2 hj, warms_2 hj]
      unfold heatF
      rw [h (41 + 5 * j + 2) (by omega) (by omega) (by omega)]
      by_cases q : j % 2 = 0 ∨ j / 2 = 0 ∨ j / 2 = 11
      · rw [if_pos q, if_pos q]
      · rw [if_neg q, if_neg q, h (41 + 5 * (j - 2) + 2) (by omega) (by omega) (by omega), h (41 + 5 * (j + 2) + 2) (by omega) (by omega) (by omega), h (41 + 5 * (j - 1) + 2) (by omega) (by omega) (by omega)]
    · rw [warms_o (by omega), warms_o (by omega)]; exact h _ (by omega) (by omega) (by omega)
theorem eqE_growC {k : Nat} {R R' : Nat → Int32} (hk : k < 24) (h : eqE R R') : eqE (growC k R) (growC k R') := by
  obtain ⟨g0, g3, g1⟩ := growC_eq (R := R) (c := k)
  obtain ⟨g0', g3', g1'⟩ := growC_eq (R := R') (c := k)
  have c0 := h (41 + 5 * k + 0) (by omega) (by omega) (by omega)
  have c1 := h (41 + 5 * k + 1) (by omega) (by omega) (by omega)
  have c2 := h (41 + 5 * k + 2) (by omega) (by omega) (by omega)
  have c3 := h (41 + 5 * k + 3) (by omega) (by omega) (by omega)
  have c4 := h (41 + 5 * k + 4) (by omega) (by omega) (by omega)
  have l0 := h 0 (by omega) (by omega) (by omega)
  have l2 := h 2 (by omega) (by omega) (by omega)
  have l4 := h 4 (by omega) (by omega) (by omega)
  have eS : growS R' k = growS R k := by unfold growS; rw [c2, c3, l2]
  intro p h1 h2 h3
  by_cases e0 : p = 41 + 5 * k + 0
  · rw [e0, g0, g0']; unfold growG; rw [c0, c2, c4, l0, l4]
  · by_cases e3 : p = 41 + 5 * k + 3
    · rw [e3, g3, g3', eS]
    · by_cases e1 : p = 41 + 5 * k + 1
      · rw [e1, g1, g1']; unfold growT; rw [eS, c1, c2, l4]
      · rw [grow_o e0 e3 e1, grow_o e0 e3 e1]; exact h p h1 h2 h3
theorem eqE_tear {q q' k : Nat} {kind kind' : Int32} {R R' : Nat → Int32} (hk : k < 24) (h : eqE R R') : eqE (tearF q k kind R) (tearF q' k kind' R') := by
  refine eqE_mk (fun p h1 h2 h3 => ?_) (fun j i hj hi => ?_)
  · by_cases e : p = 40
    · rw [e, tearF_40, tearF_40, h 40 (by omega) (by omega) (by omega)]
    · rw [tearF_low (by omega), tearF_low (by omega)]; exact h p (by omega) h2 h3
  · by_cases e0 : i = 0
    · subst e0
      rw [tearF_gas hj, tearF_gas hj, h (41 + 5 * j + 0) (by omega) (by omega) (by omega), h (41 + 5 * k + 0) (by omega) (by omega) (by omega)]
      by_cases q : j = k
      · rw [if_pos q, if_pos q]
      · rw [if_neg q, if_neg q]
        by_cases q2 : j = k + 2
        · rw [h (41 + 5 * (k + 2) + 4) (by omega) (by omega) (by omega)]
        · rw [if_neg (fun z => q2 z.1), if_neg (fun z => q2 z.1)]
    · by_cases e4 : i = 4
      · subst e4
        by_cases q : j = k
        · rw [q, tearF_t, tearF_t]
        · rw [tearF_to hj q, tearF_to hj q]; exact h _ (by omega) (by omega) (by omega)
      · rw [tearF_mid hj (by omega) (by omega), tearF_mid hj (by omega) (by omega)]; exact h _ (by omega) (by omega) (by omega)
theorem eqE_upd {p : Nat} {v : Int32} {R R' : Nat → Int32} (h : eqE R R') : eqE (upd R p v) (upd R' p v) := by
  intro q h1 h2 h3
  by_cases e : q = p
  · rw [e, updS, updS]
  · rw [updN e, updN e]; exact h q h1 h2 h3
theorem eqE_burstC {ov : Int32} {k : Nat} {R R' : Nat → Int32} (hk : k < 24) (h : eqE R R') : eqE (burstC ov k R) (burstC ov k R') := by
  have c0 := h (41 + 5 * k + 0) (by omega) (by omega) (by omega)
  have c1 := h (41 + 5 * k + 1) (by omega) (by omega) (by omega)
  have c3 := h (41 + 5 * k + 3) (by omega) (by omega) (by omega)
  have c4 := h (41 + 5 * k + 4) (by omega) (by omega) (by omega)
  have l3 := h 3 (by omega) (by omega) (by omega)
  unfold burstC
  rw [c0, c1, c3, c4, l3]
  split
  · exact eqE_tear hk h
  · exact h
theorem eqE_sinkC {k : Nat} {R R' : Nat → Int32} (hk : k < 24) (h : eqE R R') : eqE (sinkC k R) (sinkC k R') := by
  have c0 := h (41 + 5 * k + 0) (by omega) (by omega) (by omega)
  have c2 := h (41 + 5 * k + 2) (by omega) (by omega) (by omega)
  have c3 := h (41 + 5 * k + 3) (by omega) (by omega) (by omega)
  have c4 := h (41 + 5 * k + 4) (by omega) (by omega) (by omega)
  unfold sinkC
  rw [c0, c2, c3, c4]
  split
  · exact eqE_tear hk h
  · exact h
theorem eqE_onceC {kind : Int32} {k : Nat} {R R' : Nat → Int32} (hk : k < 24) (h : eqE R R') : eqE (onceC kind k R) (onceC kind k R') := by
  have c0 := h (41 + 5 * k + 0) (by omega) (by omega) (by omega)
  have c1 := h (41 + 5 * k + 1) (by omega) (by omega) (by omega)
  have c2 := h (41 + 5 * k + 2) (by omega) (by omega) (by omega)
  have c4 := h (41 + 5 * k + 4) (by omega) (by omega) (by omega)
  unfold onceC
  rw [c0, c1, c2, c4]
  split
  · exact eqE_upd (eqE_upd h)
  · split
    · split
      · exact eqE_upd h
      · exact eqE_upd h
    · split
      · exact eqE_tear hk h
      · exact eqE_upd h
theorem eqE_once {kind : Int32} {R R' : Nat → Int32} (h : eqE R R') : eqE (atOnceF kind R) (atOnceF kind R') := eqE_fold (f := onceC kind) (fun k _ _ hk hR => eqE_onceC hk hR) h 24 (Nat.le_refl _)
theorem eqE_end {v : Int32} {R R' : Nat → Int32} (h : eqE R R') : eqE (endF v R) (endF v R') := by
  unfold endF
  rw [updN (by omega), updN (by omega), h 38 (by omega) (by omega) (by omega)]
  exact eqE_upd (eqE_upd h)
theorem eqE_turn {ov w : Int32} {R R' : Nat → Int32} (h : eqE R R') : eqE (turnF ov w R) (turnF ov w R') := by
  have h1 : eqE (burstsF ov (growsF (warmsF w R))) (burstsF ov (growsF (warmsF w R'))) := eqE_fold (f := burstC ov) (fun k _ _ hk hR => eqE_burstC hk hR) (eqE_fold (f := growC) (fun k _ _ hk hR => eqE_growC hk hR) (eqE_warm h) 24 (Nat.le_refl _)) 24 (Nat.le_refl _)
  unfold turnF
  generalize burstsF ov (growsF (warmsF w R)) = S at h1
  generalize burstsF ov (growsF (warmsF w R')) = S' at h1
  have h2 : eqE (sinksF S) (sinksF S') := eqE_fold (f := sinkC) (fun k _ _ hk hR => eqE_sinkC hk hR) h1 24 (Nat.le_refl _)
  rw [h1 39 (by omega) (by omega) (by omega), h2 39 (by omega) (by omega) (by omega)]
  split
  · split
    · exact eqE_end h2
    · exact eqE_end h1
  · exact eqE_end h1
theorem i_eqE {R R' : Nat → Int32} (h : iR R) (e : eqE R R') : iR R' := by
  obtain ⟨h1, h2, h3, h4, h5, h6⟩ := h
  exact ⟨gas_eq h1 (fun j hj => e _ (by omega) (by omega) (by omega)) (fun j hj => e _ (by omega) (by omega) (by omega)), mid_eq h2 (fun j i hj q1 q3 => e _ (by omega) (by omega) (by omega)), tn_eq h3 (fun j hj => e _ (by omega) (by omega) (by omega)), by rw [e 39 (by omega) (by omega) (by omega)]; exact h4, fl_low h5 (fun p hp => e _ (by omega) (by omega) (by omega)), wf_keep h6 (e _ (by omega) (by omega) (by omega)) (fun j hj => e _ (by omega) (by omega) (by omega))⟩
/-! ===== torn cells stay torn ===== -/
def tT (R : Nat → Int32) (k : Nat) : Prop := R (41 + 5 * k + 4) = 1
theorem tT_eq {R R' : Nat → Int32} {k : Nat} (h : tT R k) (e : R' (41 + 5 * k + 4) = R (41 + 5 * k + 4)) : tT R' k := e.trans h
theorem tT_tear {q c k : Nat} {kind : Int32} {R : Nat → Int32} (hk : k < 24) (h : tT R k) : tT (tearF q c kind R) k := by
  unfold tT
  by_cases e : k = c
  · rw [e]; exact tearF_t
  · rw [tearF_to hk e]; exact h
theorem tT_once {kind : Int32} {k : Nat} {R : Nat → Int32} (hk : k < 24) (h : tT R k) : tT (atOnceF kind R) k := fold_P (P := fun R => tT R k) (fun c S hc hS => by
  unfold onceC
  split
  · exact tT_eq hS (by rw [updN (by omega), updN (by omega)])
  · split
    · split
      · exact tT_eq hS (updN (by omega))
      · exact tT_eq hS (updN (by omega))
    · split
      · exact tT_tear hk hS
      · exact tT_eq hS (updN (by omega))) h 24 (Nat.le_refl _)
theorem tT_turn {ov w : Int32} {k : Nat} {R : Nat → Int32} (hk : k < 24) (h : tT R k) : tT (turnF ov w R) k := by
  have h0 : tT (growsF (warmsF w R)) k := fold_P (P := fun R => tT R k) (f := growC) (fun c S hc hS => tT_eq hS (grow_o (by omega) (by omega) (by omega))) (tT_eq h (warms_o (by omega))) 24 (Nat.le_refl _)
  have h1 : tT (burstsF ov (growsF (warmsF w R))) k := fold_P (P := fun R => tT R k) (f := burstC ov) (fun c S hc hS => by
    unfold burstC
    split
    · exact tT_tear hk hS
    · exact hS) h0 24 (Nat.le_refl _)
  unfold turnF
  generalize burstsF ov (growsF (warmsF w R)) = S at h1
  have h2 : tT (sinksF S) k := fold_P (P := fun R => tT R k) (f := sinkC) (fun c S hc hS => by
    unfold sinkC
    split
    · exact tT_tear hk hS
    · exact hS) h1 24 (Nat.le_refl _)
  have he : ∀ v S, tT S k → tT (endF v S) k := fun v S hS => tT_eq hS (by unfold endF; rw [updN (by omega), updN (by omega)])
  split
  · split
    · exact he _ _ h2
    · exact he _ _ h1
  · exact he _ _ h1
def allT (R : Nat → Int32) : Prop := ∀ k, k < 24 → tT R k
theorem tornN_all {R : Nat → Int32} (h : tnR R) : ∀ k, k ≤ 24 → tornN R k = k → ∀ j, j < k → tT R j := by
  intro k
  induction k with
  | zero => intro _ _ j hj; omega
  | succ k ih =>
    intro hk e j hj
    have l := tornN_le R k
    unfold tornN at e
    by_cases z : R (41 + 5 * k + 4) = 0
    · rw [if_pos z] at e
      omega
    · rw [if_neg z] at e
      by_cases q : j = k
      · subst q
        exact (h j (by omega)).resolve_left z
      · exact ih (by omega) (by omega) j (by omega)
theorem i_allT {R : Nat → Int32} (h : iR R) (hq : qOf R = 24) : allT R := by
  have e := h.wf
  have l := tornN_le R 24
  unfold wfR at e
  unfold qOf at hq
  rw [e, nI_clamp (by omega)] at hq
  exact tornN_all h.2.2.1 24 (Nat.le_refl _) hq
theorem tornN_full {R : Nat → Int32} (h : allT R) : ∀ k, k ≤ 24 → tornN R k = k := by
  intro k
  induction k with
  | zero => intro _; rfl
  | succ k ih =>
    intro hk
    unfold tornN
    rw [ih (by omega), if_neg (by rw [h k (by omega)]; decide)]
/-- what can be told of a dough -/
def OB (R R' : Nat → Int32) : Prop := (∀ k, k < 24 → R' (41 + 5 * k + 0) = R (41 + 5 * k + 0) ∧ R' (41 + 5 * k + 4) = R (41 + 5 * k + 4) ∧ (R (41 + 5 * k + 4) = 0 → R' (41 + 5 * k + 3) = R (41 + 5 * k + 3))) ∧ R' 40 = R 40
theorem OB_eqE {R R' : Nat → Int32} (h : eqE R R') : OB R R' := ⟨fun k hk => ⟨h _ (by omega) (by omega) (by omega), h _ (by omega) (by omega) (by omega), fun _ => h _ (by omega) (by omega) (by omega)⟩, h _ (by omega) (by omega) (by omega)⟩
theorem OB_all {R R' : Nat → Int32} (hi : iR R) (hi' : iR R') (h : allT R) (h' : allT R') : OB R R' := by
  have z : ∀ {S : Nat → Int32} {k : Nat}, iR S → allT S → k < 24 → S (41 + 5 * k + 0) = 0 := fun {S k} i a hk => (i.1 k hk).2 (by rw [a k hk]; decide)
  refine ⟨fun k hk => ⟨by rw [z hi h hk, z hi' h' hk], (h' k hk).trans (h k hk).symm, fun q => absurd q (by rw [h k hk]; decide)⟩, ?_⟩
  have e := hi.wf
  have e' := hi'.wf
  unfold wfR at e e'
  rw [e, e', tornN_full h 24 (Nat.le_refl _), tornN_full h' 24 (Nat.le_refl _)]
