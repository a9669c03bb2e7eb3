/-! ===== what holds of every row: gas, heat, stretch stay small ===== -/
/-- gas of all cells, while tears go up the cells: those below k are done -/
def TB (F G k : Nat) (R : Nat → Int32) : Prop := ∀ j, j < 24 → (∃ g : Nat, R (41 + 5 * j + 0) = nI g ∧ (j < k → g ≤ F) ∧ (j < k + 2 → g ≤ 2 * G) ∧ (k + 2 ≤ j → g ≤ G)) ∧ (¬ R (41 + 5 * j + 4) = 0 → R (41 + 5 * j + 0) = 0)
theorem TB_keep {F G k : Nat} {R R' : Nat → Int32} (h : TB F G k R) (hFG : F ≤ 2 * G) (hk : k < 24) (ho : ∀ j, j < 24 → j ≠ k → R' (41 + 5 * j + 0) = R (41 + 5 * j + 0)) (ht : ∀ j, j < 24 → R' (41 + 5 * j + 4) = R (41 + 5 * j + 4)) (hg : ∃ g : Nat, R' (41 + 5 * k + 0) = nI g ∧ g ≤ F) (hz : ¬ R (41 + 5 * k + 4) = 0 → R' (41 + 5 * k + 0) = 0) : TB F G (k + 1) R' := by
  intro j hj
  by_cases e : j = k
  · subst e
    obtain ⟨g, e1, e2⟩ := hg
    exact ⟨⟨g, e1, fun _ => e2, fun _ => by omega, fun q => by omega⟩, fun q => hz (by rw [← ht j hj]; exact q)⟩
  · obtain ⟨⟨g, e1, e2, e3, e4⟩, e5⟩ := h j hj
    rw [ho j hj e, ht j hj]
    exact ⟨⟨g, e1, fun q => e2 (by omega), fun q => by
      by_cases z : j < k + 2
      · exact e3 z
      · have := e4 (by omega)
        omega, fun q => e4 (by omega)⟩, e5⟩
theorem nI_half {g : Nat} (h : g < 2 ^ 31) : nI g / 2 = nI (g / 2) := pk_div (d := 2) h (by decide) (by decide)
theorem TB_tear {F G k q : Nat} {kind : Int32} {R : Nat → Int32} (h : TB F G k R) (hG : G < 2 ^ 20) (hk : k < 24) : TB F G (k + 1) (tearF q k kind R) := by
  intro j hj
  obtain ⟨⟨gk, k1, -, k3, -⟩, -⟩ := h k hk
  have k3 := k3 (by omega)
  obtain ⟨⟨g, e1, e2, e3, e4⟩, e5⟩ := h j hj
  rw [tearF_gas hj]
  by_cases e : j = k
  · rw [if_pos e]
    exact ⟨⟨0, nI_0.symm, fun _ => Nat.zero_le _, fun _ => Nat.zero_le _, fun _ => Nat.zero_le _⟩, fun _ => rfl⟩
  · rw [if_neg e, tearF_to hj e]
    by_cases e2' : j = k + 2 ∧ R (41 + 5 * (k + 2) + 4) = 0
    · rw [if_pos e2', e1, k1, nI_half (by omega), nI_add]
      obtain ⟨rfl, z⟩ := e2'
      have := e4 (Nat.le_refl _)
      exact ⟨⟨g + gk / 2, rfl, fun q => by omega, fun _ => by omega, fun q => by omega⟩, fun w => absurd z w⟩
    · rw [if_neg e2', e1]
      exact ⟨⟨g, rfl, fun q => e2 (by omega), fun q => by
        by_cases z : j < k + 2
        · exact e3 z
        · have := e4 (by omega)
          omega, fun q => e4 (by omega)⟩, fun w => by rw [← e1]; exact e5 w⟩
/-- gas of all cells, at most B; a torn cell has none -/
def gasB (B : Nat) (R : Nat → Int32) : Prop := ∀ j, j < 24 → (∃ g : Nat, R (41 + 5 * j + 0) = nI g ∧ g ≤ B) ∧ (¬ R (41 + 5 * j + 4) = 0 → R (41 + 5 * j + 0) = 0)
/-- stretch, heat, set of all cells -/
def midR (R : Nat → Int32) : Prop := ∀ j, j < 24 → (∃ a : Nat, R (41 + 5 * j + 1) = nI a ∧ a ≤ 99) ∧ (∃ x : Nat, R (41 + 5 * j + 2) = nI x ∧ x ≤ 90) ∧ (∃ z : Nat, R (41 + 5 * j + 3) = nI z ∧ z ≤ 99)
/-- torn or not -/
def tnR (R : Nat → Int32) : Prop := ∀ j, j < 24 → R (41 + 5 * j + 4) = 0 ∨ R (41 + 5 * j + 4) = 1
theorem gas_TB {B G F : Nat} {R : Nat → Int32} (h : gasB B R) (hB : B ≤ G) : TB F G 0 R := by
  intro j hj
  obtain ⟨⟨g, e1, e2⟩, e3⟩ := h j hj
  exact ⟨⟨g, e1, fun q => absurd q (by omega), fun _ => by omega, fun _ => by omega⟩, e3⟩
theorem TB_gas {F G : Nat} {R : Nat → Int32} (h : TB F G 24 R) : gasB F R := by
  intro j hj
  obtain ⟨⟨g, e1, e2, -, -⟩, e3⟩ := h j hj
  exact ⟨⟨g, e1, e2 hj⟩, e3⟩
theorem fold_P {P : (Nat → Int32) → Prop} {f : Nat → (Nat → Int32) → (Nat → Int32)} (hf : ∀ k R, k < 24 → P R → P (f k R)) {R : Nat → Int32} (h : P R) : ∀ k, k ≤ 24 → P (foldR f k R) := by
  intro k
  induction k with
  | zero => intro _; exact h
  | succ k ih => intro hk; exact hf k _ (by omega) (ih (by omega))
/-- the flour's numbers -/
def flR (R : Nat → Int32) : Prop := (∃ y : Nat, R 0 = nI y ∧ 1 ≤ y ∧ y ≤ 9) ∧ (∃ s : Nat, R 1 = nI s ∧ 10 ≤ s ∧ s ≤ 99) ∧ (∃ e : Nat, R 2 = nI e ∧ e ≤ 9) ∧ (∃ w : Nat, R 3 = nI w ∧ w ≤ 9) ∧ (∃ t : Nat, R 4 = nI t ∧ t ≤ 9)
theorem fl_low {R R' : Nat → Int32} (h : flR R) (hl : ∀ p, p < 5 → R' p = R p) : flR R' := by
  unfold flR
  rw [hl 0 (by omega), hl 1 (by omega), hl 2 (by omega), hl 3 (by omega), hl 4 (by omega)]
  exact h
theorem outerH : ∀ x, x < 91 → ∀ w, w < 10 → (nI x + (10 * nI w - nI x) / 2).toNatClampNeg < 91 ∧ nI (nI x + (10 * nI w - nI x) / 2).toNatClampNeg = nI x + (10 * nI w - nI x) / 2 := by decide +kernel
theorem tdiv4p {S T : Nat} (h : T ≤ S) : ((S : Int) - (T : Int)).tdiv 4 = (((S - T) / 4 : Nat) : Int) := by
  rw [show (S : Int) - (T : Int) = ((S - T : Nat) : Int) from by omega]
  exact (Int.ofNat_tdiv (S - T) 4).symm
theorem tdiv4n {S T : Nat} (h : S ≤ T) : ((S : Int) - (T : Int)).tdiv 4 = -(((T - S) / 4 : Nat) : Int) := by
  rw [show (S : Int) - (T : Int) = -((T - S : Nat) : Int) from by omega, Int.neg_tdiv]
  exact congrArg Neg.neg (Int.ofNat_tdiv (T - S) 4).symm
theorem nI_of_toInt {x : Int32} {a : Nat} (h : x.toInt = (a : Int)) (ha : a < 2 ^ 31) : x = nI a := Int32.toInt_inj.mp (by rw [h, nI_toInt ha])
theorem i32_div4 {S a x : Nat} (hS : S ≤ 270) (ha : a ≤ 90) (hx : x ≤ 90) (h : (a : Int) + ((S : Int) - ((3 * a : Nat) : Int)).tdiv 4 = (x : Int)) : nI a + (nI S - 3 * nI a) / 4 = nI x := by
  have e3 : (3 : Int32) * nI a = nI (3 * a) := pk_mul 3 a
  have e1 : (nI S - nI (3 * a)).toInt = (S : Int) - ((3 * a : Nat) : Int) := pk_sub_toInt (by omega) (by omega)
  have e2 : ((nI S - nI (3 * a)) / 4).toInt = ((S : Int) - ((3 * a : Nat) : Int)).tdiv 4 := by
    rw [Int32.toInt_div, e1]
    have h4 : (4 : Int32).toInt = 4 := by decide
    rw [h4]
    exact Int.bmod_eq_of_le (by omega) (by omega)
  refine nI_of_toInt ?_ (by omega)
  rw [e3, Int32.toInt_add, nI_toInt (by omega), e2, h]
  exact Int.bmod_eq_of_le (by omega) (by omega)
theorem innerH {a b c e : Nat} (ha : a ≤ 90) (hb : b ≤ 90) (hc : c ≤ 90) (he : e ≤ 90) : ∃ x : Nat, nI a + (nI b + nI c + nI e - 3 * nI a) / 4 = nI x ∧ x ≤ 90 := by
  rw [nI_add, nI_add]
  by_cases q : 3 * a ≤ b + c + e
  · refine ⟨a + (b + c + e - 3 * a) / 4, i32_div4 (S := b + c + e) (by omega) ha (by omega) ?_, by omega⟩
    rw [tdiv4p q]
    omega
  · refine ⟨a - (3 * a - (b + c + e)) / 4, i32_div4 (S := b + c + e) (by omega) ha (by omega) ?_, by omega⟩
    rw [tdiv4n (by omega)]
    omega
theorem mid_eq {R R' : Nat → Int32} (h : midR R) (e : ∀ j i, j < 24 → 1 ≤ i → i ≤ 3 → R' (41 + 5 * j + i) = R (41 + 5 * j + i)) : midR R' := by
  intro j hj
  rw [e j 1 hj (by omega) (by omega), e j 2 hj (by omega) (by omega), e j 3 hj (by omega) (by omega)]
  exact h j hj
theorem tn_eq {R R' : Nat → Int32} (h : tnR R) (e : ∀ j, j < 24 → R' (41 + 5 * j + 4) = R (41 + 5 * j + 4)) : tnR R' := by
  intro j hj
  rw [e j hj]
  exact h j hj
theorem gas_eq {B : Nat} {R R' : Nat → Int32} (h : gasB B R) (e : ∀ j, j < 24 → R' (41 + 5 * j + 0) = R (41 + 5 * j + 0)) (e4 : ∀ j, j < 24 → R' (41 + 5 * j + 4) = R (41 + 5 * j + 4)) : gasB B R' := by
  intro j hj
  rw [e j hj, e4 j hj]
  exact h j hj
theorem mid_tear {q c : Nat} {kind : Int32} {R : Nat → Int32} (h : midR R) : midR (tearF q c kind R) := mid_eq h (fun j i hj h1 h3 => tearF_mid hj h1 h3)
theorem tn_tear {q c : Nat} {kind : Int32} {R : Nat → Int32} (h : tnR R) : tnR (tearF q c kind R) := by
  intro j hj
  by_cases e : j = c
  · rw [e]
    right
    exact tearF_t
  · rw [tearF_to hj e]
    exact h j hj
/-- air -/
theorem mid_warm {w : Nat} {R : Nat → Int32} (h : midR R) (hw : w ≤ 9) : midR (warmsF (nI w) R) := by
  intro j hj
  obtain ⟨h1, ⟨x, e1, e2⟩, h3⟩ := h j hj
  rw [warms_o (p := 41 + 5 * j + 1) (by omega), warms_o (p := 41 + 5 * j + 3) (by omega), warms_2 hj]
  refine ⟨h1, ?_, h3⟩
  have hh : ∀ k, k < 24 → ∃ x : Nat, R (41 + 5 * k + 2) = nI x ∧ x ≤ 90 := fun k hk => (h k hk).2.1
  unfold heatF
  by_cases q : j % 2 = 0 ∨ j / 2 = 0 ∨ j / 2 = 11
  · rw [if_pos q, e1]
    obtain ⟨o1, o2⟩ := outerH x (by omega) w (by omega)
    exact ⟨_, o2.symm, by omega⟩
  · rw [if_neg q]
    obtain ⟨a, a1, a2⟩ := hh (j - 2) (by omega)
    obtain ⟨b, b1, b2⟩ := hh (j + 2) (by omega)
    obtain ⟨c, c1, c2⟩ := hh (j - 1) (by omega)
    rw [e1, a1, b1, c1]
    exact innerH e2 a2 b2 c2
theorem tn_warm {w : Int32} {R : Nat → Int32} (h : tnR R) : tnR (warmsF w R) := tn_eq h (fun j hj => warms_o (by omega))
theorem gas_warm {B : Nat} {w : Int32} {R : Nat → Int32} (h : gasB B R) : gasB B (warmsF w R) := gas_eq h (fun j hj => warms_o (by omega)) (fun j hj => warms_o (by omega))
/-- growing -/
theorem setD : ∀ x, x < 91 → ∀ e, e < 10 → (gtr 0 ((nI x - 50) / 5 - nI e)).toNatClampNeg < 10 ∧ (60 ≤ x → nI (gtr 0 ((nI x - 50) / 5 - nI e)).toNatClampNeg = gtr 0 ((nI x - 50) / 5 - nI e)) := by decide +kernel
theorem lsrN {a : Nat} (h : a < 2 ^ 31) : ∃ b : Nat, lsr 99 (nI a) = nI b ∧ b ≤ 99 := by
  unfold lsr
  by_cases q : 99 < a
  · rw [if_pos (show (99 : Int32) < nI a from nI_lt (a := 99) q h)]
    exact ⟨99, rfl, Nat.le_refl _⟩
  · rw [if_neg (show ¬ (99 : Int32) < nI a from nI_nlt (b := a) (a := 99) (by omega) (by omega))]
    exact ⟨a, rfl, by omega⟩
theorem mid_growC {c : Nat} {R : Nat → Int32} (h : midR R) (hf : flR R) (hc : c < 24) : midR (growC c R) := by
  obtain ⟨g0, g3, g1⟩ := growC_eq (R := R) (c := c)
  intro j hj
  obtain ⟨⟨a, a1, a2⟩, ⟨x, x1, x2⟩, ⟨z, z1, z2⟩⟩ := h j hj
  by_cases e : j = c
  · subst e
    rw [g1, g3, grow_o (p := 41 + 5 * j + 2) (by omega) (by omega) (by omega)]
    refine ⟨?_, ⟨x, x1, x2⟩, ?_⟩
    · unfold growT
      rw [a1]
      split
      · by_cases q : R 4 = 0
        · rw [if_pos q]
          obtain ⟨b, hb, e⟩ := less2r a (by omega)
          exact ⟨b, e, by omega⟩
        · rw [if_neg q]
          obtain ⟨b, hb, e⟩ := less1r a (by omega)
          exact ⟨b, e, by omega⟩
      · exact ⟨a, rfl, a2⟩
    · unfold growS
      rw [x1, z1]
      split
      · rename_i q
        have q : 60 ≤ x := (nI_leI (a := 60) (by omega) (by omega)).mp q
        obtain ⟨e, e1, e2⟩ := hf.2.2.1
        obtain ⟨d1, d2⟩ := setD x (by omega) e (by omega)
        rw [e1, ← d2 q, nI_add]
        exact lsrN (by omega)
      · exact ⟨z, rfl, z2⟩
  · rw [grow_o (by omega) (by omega) (by omega), grow_o (by omega) (by omega) (by omega), grow_o (by omega) (by omega) (by omega)]
    exact ⟨⟨a, a1, a2⟩, ⟨x, x1, x2⟩, ⟨z, z1, z2⟩⟩
theorem fl_growC {c : Nat} {R : Nat → Int32} (h : flR R) : flR (growC c R) := fl_low h (fun p hp => grow_o (by omega) (by omega) (by omega))
theorem mid_grows {R : Nat → Int32} (h : midR R) (hf : flR R) : midR (growsF R) := (fold_P (P := fun R => midR R ∧ flR R) (f := growC) (fun k R' hk hR => ⟨mid_growC hR.1 hR.2 hk, fl_growC hR.2⟩) ⟨h, hf⟩ 24 (Nat.le_refl _)).1
theorem tn_grows {R : Nat → Int32} (h : tnR R) : tnR (growsF R) := fold_P (P := tnR) (f := growC) (fun k R' hk hR => tn_eq hR (fun j hj => grow_o (by omega) (by omega) (by omega))) h 24 (Nat.le_refl _)
theorem grows_gas {R : Nat → Int32} : ∀ n, n ≤ 24 → (∀ k, k < 24 → foldR growC n R (41 + 5 * k + 0) = if k < n then growG R k else R (41 + 5 * k + 0)) ∧ (∀ p, p < 41 → foldR growC n R p = R p) ∧ (∀ k, k < 24 → foldR growC n R (41 + 5 * k + 2) = R (41 + 5 * k + 2) ∧ foldR growC n R (41 + 5 * k + 4) = R (41 + 5 * k + 4)) := by
  intro n
  induction n with
  | zero => intro _; exact ⟨fun k hk => by rw [if_neg (by omega)]; rfl, fun _ _ => rfl, fun _ _ => ⟨rfl, rfl⟩⟩
  | succ n ih =>
    intro hn
    obtain ⟨i1, i2, i3⟩ := ih (by omega)
    refine ⟨fun k hk => ?_, fun p hp => (grow_o (by omega) (by omega) (by omega)).trans (i2 p hp), fun k hk => ⟨(grow_o (by omega) (by omega) (by omega)).trans (i3 k hk).1, (grow_o (by omega) (by omega) (by omega)).trans (i3 k hk).2⟩⟩
    show growC n (foldR growC n R) (41 + 5 * k + 0) = _
    by_cases e : k = n
    · subst e
      rw [if_pos (by omega), growC_eq.1]
      unfold growG
      rw [i1 k hk, (i3 k hk).1, (i3 k hk).2, i2 0 (by omega), i2 4 (by omega), if_neg (Nat.lt_irrefl _)]
    · rw [grow_o (by omega) (by omega) (by omega), i1 k hk]
      by_cases q : k < n
      · rw [if_pos q, if_pos (by omega)]
      · rw [if_neg q, if_neg (by omega)]
theorem ten_t : ∀ t, t < 10 → (10 : Int32) - nI t = nI (10 - t) := by decide +kernel
theorem gas_grows {B : Nat} {R : Nat → Int32} (h : gasB B R) (hm : midR R) (hf : flR R) : gasB (B + 22) (growsF R) := by
  obtain ⟨g1, g2, g3⟩ := grows_gas (R := R) 24 (Nat.le_refl _)
  intro j hj
  obtain ⟨⟨g, e1, e2⟩, e3⟩ := h j hj
  obtain ⟨-, ⟨x, x1, x2⟩, -⟩ := hm j hj
  obtain ⟨⟨y, y1, y2, y3⟩, -, -, -, ⟨t, t1, t2⟩⟩ := hf
  have gj : growsF R (41 + 5 * j + 0) = growG R j := (g1 j hj).trans (if_pos hj)
  have tj : growsF R (41 + 5 * j + 4) = R (41 + 5 * j + 4) := (g3 j hj).2
  rw [gj, tj]
  unfold growG
  rw [e1, x1, y1, t1]
  by_cases q : R (41 + 5 * j + 4) = 0 ∧ nI x ≤ 55
  · rw [if_pos q]
    have q2 : x ≤ 55 := (nI_leI (b := 55) (by omega) (by omega)).mp q.2
    have d1 : nI x / 10 = nI (x / 10) := pk_div (d := 10) (by omega) (by omega) (by omega)
    have b1 : y * (x / 10) ≤ 9 * 5 := Nat.mul_le_mul y3 (by omega)
    have b2 : y * (x / 10) * (10 - t) ≤ 45 * 10 := Nat.mul_le_mul b1 (by omega)
    have d2 : nI (y * (x / 10) * (10 - t)) / 20 = nI (y * (x / 10) * (10 - t) / 20) := pk_div (d := 20) (by omega) (by omega) (by omega)
    rw [d1, pk_mul, ten_t t (by omega), pk_mul, d2, nI_add]
    exact ⟨⟨_, rfl, by omega⟩, fun z => absurd q.1 z⟩
  · rw [if_neg q]
    exact ⟨⟨g, rfl, by omega⟩, fun z => by rw [← e1]; exact e3 z⟩
/-- bursts -/
theorem mid_bursts {ov : Int32} {R : Nat → Int32} (h : midR R) : ∀ k, k ≤ 24 → midR (foldR (burstC ov) k R) := fold_P (fun k R' hk hR => by
  unfold burstC
  split
  · exact mid_tear hR
  · exact hR) h
theorem tn_bursts {ov : Int32} {R : Nat → Int32} (h : tnR R) : ∀ k, k ≤ 24 → tnR (foldR (burstC ov) k R) := fold_P (fun k R' hk hR => by
  unfold burstC
  split
  · exact tn_tear hR
  · exact hR) h
theorem mid_sinks {R : Nat → Int32} (h : midR R) : ∀ k, k ≤ 24 → midR (foldR sinkC k R) := fold_P (fun k R' hk hR => by
  unfold sinkC
  split
  · exact mid_tear hR
  · exact hR) h
theorem tn_sinks {R : Nat → Int32} (h : tnR R) : ∀ k, k ≤ 24 → tnR (foldR sinkC k R) := fold_P (fun k R' hk hR => by
  unfold sinkC
  split
  · exact tn_tear hR
  · exact hR) h
theorem TB_same {F G k : Nat} {R : Nat → Int32} (h : TB F G k R) (hFG : F ≤ 2 * G) (hk : k < 24) (hg : R (41 + 5 * k + 4) = 0 → ∃ g : Nat, R (41 + 5 * k + 0) = nI g ∧ g ≤ F) : TB F G (k + 1) R := by
  refine TB_keep h hFG hk (fun _ _ _ => rfl) (fun _ _ => rfl) ?_ (fun q => (h k hk).2 q)
  by_cases z : R (41 + 5 * k + 4) = 0
  · exact hg z
  · exact ⟨0, by rw [(h k hk).2 z]; exact nI_0.symm, Nat.zero_le _⟩
theorem TB_bursts {ov : Int32} {R : Nat → Int32} (h : gasB 634 R) (hm : midR R) (hf : flR R) : ∀ k, k ≤ 24 → TB 306 634 k (foldR (burstC ov) k R) := by
  intro k
  induction k with
  | zero => intro _; exact gas_TB h (by omega)
  | succ k ih =>
    intro hk
    have i := ih (by omega)
    have m := mid_bursts (ov := ov) hm k (by omega)
    have l : foldR (burstC ov) k R 3 = R 3 := burst_low (by omega) k (by omega)
    show TB 306 634 (k + 1) (burstC ov k (foldR (burstC ov) k R))
    generalize foldR (burstC ov) k R = S at *
    unfold burstC
    split
    · exact TB_tear i (by omega) (by omega)
    · rename_i q
      refine TB_same i (by omega) (by omega) (fun z => ?_)
      obtain ⟨⟨g, e1, -, e3, -⟩, -⟩ := i k (by omega)
      obtain ⟨⟨a, a1, a2⟩, -, ⟨s, s1, s2⟩⟩ := m k (by omega)
      obtain ⟨w, w1, w2⟩ := hf.2.2.2.1
      have e3 := e3 (by omega)
      rw [e1, a1, s1, l, w1, show (2 : Int32) * nI a = nI (2 * a) from pk_mul 2 a, nI_add, nI_add, nI_ltI (by omega) (by omega)] at q
      exact ⟨g, e1, by
        by_cases z2 : 2 * a + s + w < g
        · exact absurd ⟨z, z2⟩ q
        · omega⟩
theorem TB_sinks {R : Nat → Int32} (h : gasB 306 R) : ∀ k, k ≤ 24 → TB 612 306 k (foldR sinkC k R) := by
  intro k
  induction k with
  | zero => intro _; exact gas_TB h (by omega)
  | succ k ih =>
    intro hk
    have i := ih (by omega)
    show TB 612 306 (k + 1) (sinkC k (foldR sinkC k R))
    generalize foldR sinkC k R = S at *
    unfold sinkC
    split
    · exact TB_tear i (by omega) (by omega)
    · refine TB_same i (by omega) (by omega) (fun z => ?_)
      obtain ⟨⟨g, e1, -, e3, -⟩, -⟩ := i k (by omega)
      exact ⟨g, e1, e3 (by omega)⟩
