/-! ===== step by step is turn by turn ===== -/
def turnsF (ov w : Int32) : Nat → (Nat → Int32) → (Nat → Int32)
  | 0, R => R
  | n + 1, R => turnF ov w (turnsF ov w n R)
def tOf (R : Nat → Int32) (a : Nat) : Nat := (R (6 + 3 * a + 2)).toNatClampNeg
def passF (a : Nat) (R : Nat → Int32) : Nat → Int32 := if 2 < R (6 + 3 * a + 0) then atOnceF (R (6 + 3 * a + 0)) R else turnsF (ovk (R (6 + 3 * a + 0))) (R (6 + 3 * a + 1)) (tOf R a) R
def stepsF : Nat → (Nat → Int32) → (Nat → Int32)
  | 0, R => R
  | i + 1, R => passF i (stepsF i R)
theorem turns_low {ov w : Int32} {p : Nat} {R : Nat → Int32} (h : p < 38) : ∀ n, turnsF ov w n R p = R p := by
  intro n
  induction n with
  | zero => rfl
  | succ n ih => exact (turn_low h).trans ih
theorem pass_low {a p : Nat} {R : Nat → Int32} (h : p < 38) : passF a R p = R p := by
  unfold passF
  split
  · exact once_low (by omega)
  · exact turns_low h _
theorem steps_low {p : Nat} {R : Nat → Int32} (h : p < 38) : ∀ i, stepsF i R p = R p := by
  intro i
  induction i with
  | zero => rfl
  | succ i ih => exact (pass_low h).trans ih
theorem eqE_turns {ov w : Int32} {R R' : Nat → Int32} (h : eqE R R') : ∀ n, eqE (turnsF ov w n R) (turnsF ov w n R') := by
  intro n
  induction n with
  | zero => exact h
  | succ n ih => exact eqE_turn ih
theorem eqE_pass {a : Nat} {R R' : Nat → Int32} (h : eqE R R') (h0 : R' (6 + 3 * a + 0) = R (6 + 3 * a + 0)) (h1 : R' (6 + 3 * a + 1) = R (6 + 3 * a + 1)) (h2 : R' (6 + 3 * a + 2) = R (6 + 3 * a + 2)) : eqE (passF a R) (passF a R') := by
  unfold passF tOf
  rw [h0, h1, h2]
  split
  · exact eqE_once h
  · exact eqE_turns h _
theorem eqE_steps {R R' : Nat → Int32} (h : eqE R R') : ∀ i, i ≤ 10 → (∀ a, a < i → R' (6 + 3 * a + 0) = R (6 + 3 * a + 0) ∧ R' (6 + 3 * a + 1) = R (6 + 3 * a + 1) ∧ R' (6 + 3 * a + 2) = R (6 + 3 * a + 2)) → eqE (stepsF i R) (stepsF i R') := by
  intro i
  induction i with
  | zero => intro _ _; exact h
  | succ i ih =>
    intro hi hs
    obtain ⟨e0, e1, e2⟩ := hs i (by omega)
    refine eqE_pass (ih (by omega) (fun a ha => hs a (by omega))) ?_ ?_ ?_
    · rw [steps_low (by omega), steps_low (by omega)]; exact e0
    · rw [steps_low (by omega), steps_low (by omega)]; exact e1
    · rw [steps_low (by omega), steps_low (by omega)]; exact e2
theorem eqE_begins {R R' : Nat → Int32} (h : ∀ p, p < 5 → R' p = R p) : eqE (beginsF R) (beginsF R') := by
  refine eqE_mk (fun p h1 h2 h3 => ?_) (fun j i hj hi => ?_)
  · by_cases q : p < 5
    · rw [begins_low (by omega), begins_low (by omega)]; exact h p q
    · rw [begins_0 (by omega) (by omega), begins_0 (by omega) (by omega)]
  · obtain ⟨a0, a1, a2, a3, a4⟩ := begins_c (R := R) hj
    obtain ⟨b0, b1, b2, b3, b4⟩ := begins_c (R := R') hj
    have : i = 0 ∨ i = 1 ∨ i = 2 ∨ i = 3 ∨ i = 4 := by omega
    rcases this with e | e | e | e | e <;> subst e
    · rw [a0, b0]
    · rw [a1, b1, h 1 (by omega)]
    · rw [a2, b2]
    · rw [a3, b3]
    · rw [a4, b4]
theorem allT_turns {ov w : Int32} {R : Nat → Int32} : ∀ (n k : Nat), allT (turnsF ov w n R) → allT (turnsF ov w (n + k) R) := by
  intro n k h
  induction k with
  | zero => exact h
  | succ k ih => exact fun j hj => tT_turn hj (ih j hj)
theorem allT_once {kind : Int32} {R : Nat → Int32} (h : allT R) : allT (atOnceF kind R) := fun j hj => tT_once hj (h j hj)
theorem allT_pass {a : Nat} {R : Nat → Int32} (h : allT R) : allT (passF a R) := by
  unfold passF
  split
  · exact allT_once h
  · have := allT_turns (ov := ovk (R (6 + 3 * a + 0))) (w := R (6 + 3 * a + 1)) (R := R) 0 (tOf R a) h
    rw [Nat.zero_add] at this
    exact this
theorem allT_steps {R : Nat → Int32} : ∀ (n k : Nat), allT (stepsF n R) → allT (stepsF (n + k) R) := by
  intro n k h
  induction k with
  | zero => exact h
  | succ k ih => exact allT_pass ih
theorem i_turns {ov : Int32} {w : Nat} {R : Nat → Int32} (h : iR R) (hw : w ≤ 9) : ∀ n, iR (turnsF ov (nI w) n R) := by
  intro n
  induction n with
  | zero => exact h
  | succ n ih => exact i_turn ih hw
theorem i_pass {a : Nat} {R : Nat → Int32} (h : iR R) (hst : (R (6 + 3 * a + 0) = 3 ∨ R (6 + 3 * a + 0) = 4 ∨ R (6 + 3 * a + 0) = 5) ∨ lastsR R a) : iR (passF a R) := by
  unfold passF
  rcases hst with e | e
  · rw [if_pos (once_n e)]
    exact i_once h e
  · rw [if_neg (lasts_n e)]
    obtain ⟨w, w1, w2⟩ := e.2.1
    rw [w1]
    exact i_turns h w2 _
theorem st_at {R R' : Nat → Int32} {i : Nat} (h : stOK R) (hl : ∀ p, p < 36 → R' p = R p) (hi : i < cOf R) (hc : cOf R ≤ 10) : (R' (6 + 3 * i + 0) = 3 ∨ R' (6 + 3 * i + 0) = 4 ∨ R' (6 + 3 * i + 0) = 5) ∨ lastsR R' i := by
  unfold lastsR
  rw [hl _ (by omega), hl _ (by omega), hl _ (by omega)]
  exact h i hi
theorem i_steps {R : Nat → Int32} (h : iR R) (hst : stOK R) (hc : cOf R ≤ 10) : ∀ i, i ≤ cOf R → iR (stepsF i R) := by
  intro i
  induction i with
  | zero => intro _; exact h
  | succ i ih => intro hi; exact i_pass (ih (by omega)) (st_at hst (fun p hp => steps_low (by omega) i) (by omega) hc)
theorem goes_S {R : Nat → Int32} : ∀ n, goesF (n + 1) R = goesF n (nextF R) := by
  intro n
  induction n with
  | zero => rfl
  | succ n ih => exact congrArg nextF ih
theorem goes_add {R : Nat → Int32} (n : Nat) : ∀ k, goesF (k + n) R = goesF k (goesF n R) := by
  intro k
  induction k with
  | zero => rw [Nat.zero_add]; rfl
  | succ k ih => rw [show k + 1 + n = (k + n) + 1 by omega]; exact congrArg nextF ih
theorem next_once {S : Nat → Int32} {a c : Nat} (h36 : S 36 = nI a) (h5 : S 5 = nI c) (hc : c ≤ 10) (ha : a < c) (hk : 2 < S (6 + 3 * a + 0)) : nextF (onceS a S) = nextF S := by
  have e1 : atOf S = a := at_mk h36 (by omega)
  have e2 : cOf S = c := by unfold cOf; rw [h5, nI_clamp (by omega)]
  have e3 : atOf (onceS a S) = a + 1 := at_mk (by rw [onceS_36, h36, nI_1]) (by omega)
  have e4 : cOf (onceS a S) = c := by unfold cOf; rw [onceS_low (by omega) (by omega), h5, nI_clamp (by omega)]
  unfold nextF
  rw [e1, e2, e3, e4, show c - a = (c - (a + 1)) + 1 by omega, skip_S hk]
theorem next_last {S : Nat → Int32} {a c : Nat} (h36 : S 36 = nI a) (h5 : S 5 = nI c) (hc : c ≤ 10) (ha : a < c) (hk : ¬ 2 < S (6 + 3 * a + 0)) : nextF S = lastF a S := by
  have e1 : atOf S = a := at_mk h36 (by omega)
  have e2 : cOf S = c := by unfold cOf; rw [h5, nI_clamp (by omega)]
  unfold nextF
  rw [e1, e2, show c - a = (c - (a + 1)) + 1 by omega, skip_N hk, e1]
  unfold stepF
  rw [if_neg (by omega)]
theorem next_table {S : Nat → Int32} {c : Nat} (h36 : S 36 = nI c) (h5 : S 5 = nI c) (hc : c ≤ 10) : nextF S = turnF 0 2 S := by
  have e1 : atOf S = c := at_mk h36 (by omega)
  have e2 : cOf S = c := by unfold cOf; rw [h5, nI_clamp (by omega)]
  unfold nextF
  rw [e1, e2, Nat.sub_self]
  show stepF (atOf S) c S = _
  rw [e1]
  unfold stepF
  rw [if_pos rfl]
theorem eqE_upd36 {R : Nat → Int32} {p : Nat} {v : Int32} (hp : p = 36 ∨ p = 37) : eqE R (upd R p v) := fun q h1 h2 h3 => updN (by omega)
theorem goes_last {S : Nat → Int32} {a c t : Nat} (h36 : S 36 = nI a) (h37 : S 37 = nI 0) (h5 : S 5 = nI c) (hc : c ≤ 10) (ha : a < c) (hk : ¬ 2 < S (6 + 3 * a + 0)) (ht : S (6 + 3 * a + 2) = nI t) (ht2 : t ≤ 30) : ∀ j, j < t → (goesF j S 36 = nI a ∧ goesF j S 37 = nI j ∧ (∀ p, p < 36 → goesF j S p = S p) ∧ eqE (turnsF (ovk (S (6 + 3 * a + 0))) (S (6 + 3 * a + 1)) j S) (goesF j S)) ∧ (j + 1 = t → goesF t S 36 = nI (a + 1) ∧ goesF t S 37 = nI 0 ∧ (∀ p, p < 36 → goesF t S p = S p) ∧ eqE (turnsF (ovk (S (6 + 3 * a + 0))) (S (6 + 3 * a + 1)) t S) (goesF t S)) := by
  have step : ∀ (j : Nat) (U : Nat → Int32), j < t → U 36 = nI a → U 37 = nI j → (∀ p, p < 36 → U p = S p) → nextF U = lastG a (upd (turnF (ovk (S (6 + 3 * a + 0))) (S (6 + 3 * a + 1)) U) 37 (nI (j + 1))) ∧ turnF (ovk (S (6 + 3 * a + 0))) (S (6 + 3 * a + 1)) U 36 = nI a ∧ turnF (ovk (S (6 + 3 * a + 0))) (S (6 + 3 * a + 1)) U (6 + 3 * a + 2) = nI t ∧ ∀ p, p < 36 → turnF (ovk (S (6 + 3 * a + 0))) (S (6 + 3 * a + 1)) U p = S p := by
    intro j U hj u36 u37 ul
    refine ⟨?_, (turn_low (by omega)).trans u36, (turn_low (by omega)).trans ((ul _ (by omega)).trans ht), fun p hp => (turn_low (by omega)).trans (ul p hp)⟩
    rw [next_last u36 ((ul 5 (by omega)).trans h5) hc ha (by rw [ul _ (by omega)]; exact hk)]
    unfold lastF
    rw [ul (6 + 3 * a + 0) (by omega), ul (6 + 3 * a + 1) (by omega), turn_low (p := 37) (by omega), u37, nI_1]
  intro j
  induction j with
  | zero =>
    intro hj
    refine ⟨⟨h36, h37, fun _ _ => rfl, eqE.rf⟩, fun e => ?_⟩
    obtain ⟨s1, s2, s3, s4⟩ := step 0 S hj h36 h37 (fun _ _ => rfl)
    have eg : goesF t S = nextF S := by rw [← e]; rfl
    have et : turnsF (ovk (S (6 + 3 * a + 0))) (S (6 + 3 * a + 1)) t S = turnF (ovk (S (6 + 3 * a + 0))) (S (6 + 3 * a + 1)) S := by rw [← e]; rfl
    rw [eg, s1, et]
    generalize turnF (ovk (S (6 + 3 * a + 0))) (S (6 + 3 * a + 1)) S = U at s2 s3 s4
    unfold lastG
    rw [updS, updN (show 6 + 3 * a + 2 ≠ 37 by omega), s3, if_pos (by rw [e])]
    exact ⟨by rw [updS, updN (by omega), updN (by omega), s2, nI_1], by rw [updN (by omega), updS]; exact nI_0.symm, fun p hp => by rw [updN (by omega), updN (by omega), updN (by omega)]; exact s4 p hp, (eqE_upd36 (Or.inr rfl)).tr ((eqE_upd36 (Or.inr rfl)).tr (eqE_upd36 (Or.inl rfl)))⟩
  | succ j ih =>
    intro hj
    obtain ⟨⟨i1, i2, i3, i4⟩, -⟩ := ih (by omega)
    obtain ⟨s1, s2, s3, s4⟩ := step j (goesF j S) (by omega) i1 i2 i3
    have hE := eqE_turn (ov := ovk (S (6 + 3 * a + 0))) (w := S (6 + 3 * a + 1)) i4
    have now : goesF (j + 1) S 36 = nI a ∧ goesF (j + 1) S 37 = nI (j + 1) ∧ (∀ p, p < 36 → goesF (j + 1) S p = S p) ∧ eqE (turnsF (ovk (S (6 + 3 * a + 0))) (S (6 + 3 * a + 1)) (j + 1) S) (goesF (j + 1) S) := by
      show nextF (goesF j S) 36 = nI a ∧ nextF (goesF j S) 37 = nI (j + 1) ∧ (∀ p, p < 36 → nextF (goesF j S) p = S p) ∧ eqE (turnF (ovk (S (6 + 3 * a + 0))) (S (6 + 3 * a + 1)) (turnsF (ovk (S (6 + 3 * a + 0))) (S (6 + 3 * a + 1)) j S)) (nextF (goesF j S))
      rw [s1]
      generalize turnF (ovk (S (6 + 3 * a + 0))) (S (6 + 3 * a + 1)) (goesF j S) = U at s2 s3 s4 hE
      unfold lastG
      rw [updS, updN (show 6 + 3 * a + 2 ≠ 37 by omega), s3, if_neg (by rw [nI_eq (by omega) (by omega)]; omega)]
      exact ⟨by rw [updN (by omega)]; exact s2, updS, fun p hp => by rw [updN (by omega)]; exact s4 p hp, hE.tr (eqE_upd36 (Or.inr rfl))⟩
    refine ⟨now, fun e => ?_⟩
    obtain ⟨n1, n2, n3, n4⟩ := now
    obtain ⟨s1, s2, s3, s4⟩ := step (j + 1) (goesF (j + 1) S) hj n1 n2 n3
    have hE := eqE_turn (ov := ovk (S (6 + 3 * a + 0))) (w := S (6 + 3 * a + 1)) n4
    have eg : goesF t S = nextF (goesF (j + 1) S) := by rw [← e]; rfl
    have et : turnsF (ovk (S (6 + 3 * a + 0))) (S (6 + 3 * a + 1)) t S = turnF (ovk (S (6 + 3 * a + 0))) (S (6 + 3 * a + 1)) (turnsF (ovk (S (6 + 3 * a + 0))) (S (6 + 3 * a + 1)) (j + 1) S) := by rw [← e]; rfl
    rw [eg, s1, et]
    generalize turnF (ovk (S (6 + 3 * a + 0))) (S (6 + 3 * a + 1)) (goesF (j + 1) S) = U at s2 s3 s4 hE
    unfold lastG
    rw [updS, updN (show 6 + 3 * a + 2 ≠ 37 by omega), s3, if_pos (by rw [e])]
    exact ⟨by rw [updS, updN (by omega), updN (by omega), s2, nI_1], by rw [updN (by omega), updS]; exact nI_0.symm, fun p hp => by rw [updN (by omega), updN (by omega), updN (by omega)]; exact s4 p hp, hE.tr ((eqE_upd36 (Or.inr rfl)).tr ((eqE_upd36 (Or.inr rfl)).tr (eqE_upd36 (Or.inl rfl))))⟩
/-- what is done at once has no turns -/
def zOK (R : Nat → Int32) : Prop := ∀ i, i < cOf R → 2 < R (6 + 3 * i + 0) → R (6 + 3 * i + 2) = 0
def Tn (R : Nat → Int32) : Nat → Nat
  | 0 => 0
  | k + 1 => Tn R k + tOf R k
theorem steps_goes {B : Nat → Int32} {c : Nat} (h36 : B 36 = nI 0) (h37 : B 37 = nI 0) (h5 : B 5 = nI c) (hc : c ≤ 10) (hst : stOK B) (hz : zOK B) : ∀ i, i ≤ c → ∃ S : Nat → Int32, S 36 = nI i ∧ S 37 = nI 0 ∧ (∀ p, p < 36 → S p = B p) ∧ eqE (stepsF i B) S ∧ ∀ n, 1 ≤ n → goesF (Tn B i + n) B = goesF n S := by
  have ec : cOf B = c := by unfold cOf; rw [h5, nI_clamp (by omega)]
  intro i
  induction i with
  | zero => intro _; exact ⟨B, h36, h37, fun _ _ => rfl, eqE.rf, fun n hn => by show goesF (0 + n) B = _; rw [Nat.zero_add]⟩
  | succ i ih =>
    intro hi
    obtain ⟨S, s1, s2, s3, s4, s5⟩ := ih (by omega)
    have k0 : S (6 + 3 * i + 0) = B (6 + 3 * i + 0) := s3 _ (by omega)
    have k1 : S (6 + 3 * i + 1) = B (6 + 3 * i + 1) := s3 _ (by omega)
    have k2 : S (6 + 3 * i + 2) = B (6 + 3 * i + 2) := s3 _ (by omega)
    have p0 : stepsF i B (6 + 3 * i + 0) = B (6 + 3 * i + 0) := steps_low (by omega) i
    have p1 : stepsF i B (6 + 3 * i + 1) = B (6 + 3 * i + 1) := steps_low (by omega) i
    have p2 : stepsF i B (6 + 3 * i + 2) = B (6 + 3 * i + 2) := steps_low (by omega) i
    rcases hst i (by omega) with e | e
    · have q := once_n e
      have t0 : tOf B i = 0 := by unfold tOf; rw [hz i (by omega) q]; rfl
      refine ⟨onceS i S, by rw [onceS_36, s1, nI_1], by rw [onceS_low (by omega) (by omega)]; exact s2, fun p hp => by rw [onceS_low (by omega) (by omega)]; exact s3 p hp, ?_, fun n hn => ?_⟩
      · show eqE (passF i (stepsF i B)) (onceS i S)
        unfold passF
        rw [p0, if_pos q]
        unfold onceS
        rw [k0]
        exact (eqE_once s4).tr (eqE_upd36 (Or.inl rfl))
      · show goesF (Tn B i + tOf B i + n) B = _
        rw [t0, Nat.add_zero, s5 n hn]
        obtain ⟨n', rfl⟩ : ∃ n', n = n' + 1 := ⟨n - 1, by omega⟩
        rw [goes_S, goes_S, next_once s1 ((s3 5 (by omega)).trans h5) hc (by omega) (by rw [k0]; exact q)]
    · have q := lasts_n e
      obtain ⟨t, t1, t2, t3⟩ := e.2.2
      have et : tOf B i = t := by unfold tOf; rw [t1, nI_clamp (by omega)]
      obtain ⟨-, g⟩ := goes_last (t := t) s1 s2 ((s3 5 (by omega)).trans h5) hc (by omega) (by rw [k0]; exact q) (k2.trans t1) t3 (t - 1) (by omega)
      obtain ⟨g1, g2, g3, g4⟩ := g (by omega)
      refine ⟨goesF t S, g1, g2, fun p hp => (g3 p hp).trans (s3 p hp), ?_, fun n hn => ?_⟩
      · show eqE (passF i (stepsF i B)) (goesF t S)
        unfold passF tOf
        rw [p0, p1, p2, if_neg q, t1, nI_clamp (by omega)]
        rw [k0, k1] at g4
        exact (eqE_turns s4 t).tr g4
      · show goesF (Tn B i + tOf B i + n) B = _
        rw [et, ← goes_add, show Tn B i + t + n = Tn B i + (n + t) by omega]
        exact s5 (n + t) (by omega)
theorem table_goes {S : Nat → Int32} {c : Nat} (h36 : S 36 = nI c) (h5 : S 5 = nI c) (hc : c ≤ 10) : ∀ n, goesF n S = turnsF 0 2 n S := by
  intro n
  induction n with
  | zero => rfl
  | succ n ih =>
    show nextF (goesF n S) = turnF 0 2 (turnsF 0 2 n S)
    rw [ih]
    exact next_table (by rw [turns_low (by omega)]; exact h36) (by rw [turns_low (by omega)]; exact h5) hc
/-- what a loaf baked through is: all steps, six turns of the table -/
def tableF (c : Nat) (B : Nat → Int32) : Nat → Int32 := turnsF 0 2 6 (stepsF c B)
theorem bakes_eq {R : Nat → Int32} {c : Nat} (h5 : R 5 = nI c) (hc : c ≤ 10) (hst : stOK R) (hz : zOK R) : eqE (tableF c (beginsF R)) (bakesF (Tn R c) R) := by
  have l : ∀ p, p < 36 → beginsF R p = R p := fun p hp => begins_low hp
  have ec : cOf (beginsF R) = cOf R := by unfold cOf; rw [l 5 (by omega)]
  have ec2 : cOf R = c := by unfold cOf; rw [h5, nI_clamp (by omega)]
  have hz' : zOK (beginsF R) := by
    intro i hi
    rw [l _ (by omega), l _ (by omega)]
    exact hz i (by omega)
  have eT : ∀ k, k ≤ c → Tn (beginsF R) k = Tn R k := by
    intro k
    induction k with
    | zero => intro _; rfl
    | succ k ih =>
      intro hk
      unfold Tn tOf
      rw [ih (by omega), l _ (by omega)]
  obtain ⟨S, s1, s2, s3, s4, s5⟩ := steps_goes (B := beginsF R) (by rw [begins_0 (by omega) (by omega)]; exact nI_0.symm) (by rw [begins_0 (by omega) (by omega)]; exact nI_0.symm) ((l 5 (by omega)).trans h5) hc (st_low hst l (by omega)) hz' c (Nat.le_refl _)
  unfold bakesF tableF
  rw [← eT c (Nat.le_refl _), s5 6 (by omega), table_goes s1 ((s3 5 (by omega)).trans ((l 5 (by omega)).trans h5)) hc]
  exact eqE_turns s4 6
