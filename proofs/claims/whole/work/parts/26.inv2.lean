/-! ===== what holds of every row, through steps at once and turns ===== -/
/-- the row's numbers are small, always -/
def iR (R : Nat → Int32) : Prop := gasB 612 R ∧ midR R ∧ tnR R ∧ (R 39 = 0 ∨ R 39 = 1) ∧ flR R ∧ wfR R
theorem iR.rg {R : Nat → Int32} (h : iR R) : rgR R := by
  refine ⟨fun k hk => ?_, h.2.2.2.1⟩
  obtain ⟨⟨a, a1, a2⟩, -, ⟨z, z1, z2⟩⟩ := h.2.1 k hk
  refine ⟨⟨a, a2, a1⟩, ?_, h.2.2.1 k hk⟩
  rw [z1]
  exact nI_le (b := 99) z2 (by omega)
theorem iR.wf {R : Nat → Int32} (h : iR R) : wfR R := h.2.2.2.2.2
theorem TB_knock {R : Nat → Int32} (h : gasB 612 R) (hm : midR R) : ∀ k, k ≤ 24 → TB 612 612 k (foldR (onceC 4) k R) ∧ midR (foldR (onceC 4) k R) := by
  intro k
  induction k with
  | zero => intro _; exact ⟨gas_TB h (by omega), hm⟩
  | succ k ih =>
    intro hk
    obtain ⟨i, m⟩ := ih (by omega)
    show TB 612 612 (k + 1) (onceC 4 k (foldR (onceC 4) k R)) ∧ midR (onceC 4 k (foldR (onceC 4) k R))
    generalize foldR (onceC 4) k R = S at *
    rw [once4]
    split
    · exact ⟨TB_tear i (by omega) (by omega), mid_tear m⟩
    · rename_i q
      refine ⟨TB_keep i (by omega) (by omega) (fun j hj z => updN (by omega)) (fun j hj => updN (by omega)) ?_ (fun z => ?_), mid_eq m (fun j i hj h1 h3 => updN (by omega))⟩
      · rw [updS]
        obtain ⟨⟨g, e1, -, e3, -⟩, -⟩ := i k (by omega)
        have e3 := e3 (by omega)
        have d : nI g / 4 = nI (g / 4) := pk_div (d := 4) (by omega) (by omega) (by omega)
        obtain ⟨⟨a, a1, a2⟩, -, -⟩ := m k (by omega)
        rw [e1, d, pk_sub (by omega)]
        refine ⟨_, rfl, ?_⟩
        by_cases z : S (41 + 5 * k + 4) = 0
        · rw [e1, a1, nI_ltI (by omega) (by omega)] at q
          by_cases z2 : a < g
          · exact absurd ⟨z, z2⟩ q
          · omega
        · have e0 := (i k (by omega)).2 z
          rw [e1, show (0 : Int32) = nI 0 from nI_0.symm, nI_eq (by omega) (by omega)] at e0
          omega
      · rw [updS, (i k (by omega)).2 z]
        decide
theorem i_kOK {R : Nat → Int32} (h : iR R) : kOK R := by
  intro k hk
  obtain ⟨i, m⟩ := TB_knock h.1 h.2.1 k (by omega)
  generalize foldR (onceC 4) k R = S at *
  refine ⟨?_, (i k hk).2⟩
  obtain ⟨⟨g, e1, -, e3, -⟩, -⟩ := i k hk
  have e3 := e3 (by omega)
  obtain ⟨⟨a, a1, a2⟩, -, -⟩ := m k hk
  rw [e1, a1, nI_ltI (by omega) (by omega), Int32.le_iff_toInt_le, pk_sub_toInt (by omega) (by omega), show (0 : Int32).toInt = 0 from by decide]
  omega
theorem gasB_mono {B C : Nat} {R : Nat → Int32} (h : gasB B R) (hBC : B ≤ C) : gasB C R := by
  intro j hj
  obtain ⟨⟨g, e1, e2⟩, e3⟩ := h j hj
  exact ⟨⟨g, e1, by omega⟩, e3⟩
theorem lsr10 : ∀ a, a < 100 → (lsr 99 (nI a + 10)).toNatClampNeg < 100 ∧ nI (lsr 99 (nI a + 10)).toNatClampNeg = lsr 99 (nI a + 10) := by decide +kernel
theorem less20 : ∀ x, x < 91 → (gtr 0 (nI x - 20)).toNatClampNeg < 91 ∧ nI (gtr 0 (nI x - 20)).toNatClampNeg = gtr 0 (nI x - 20) := by decide +kernel
theorem i_knead {R : Nat → Int32} (h : gasB 612 R) (hm : midR R) : ∀ k, k ≤ 24 → gasB 612 (foldR (onceC 3) k R) ∧ midR (foldR (onceC 3) k R) := fold_P (P := fun R => gasB 612 R ∧ midR R) (fun k S hk hS => by
  obtain ⟨i, m⟩ := hS
  rw [once3]
  refine ⟨fun j hj => ?_, fun j hj => ?_⟩
  · obtain ⟨⟨g, e1, e2⟩, e3⟩ := i j hj
    by_cases e : j = k
    · subst e
      rw [updS, updN (by omega), updN (by omega), e1, nI_half (by omega)]
      refine ⟨⟨_, rfl, by omega⟩, fun z => ?_⟩
      have e0 := e3 z
      rw [e1, show (0 : Int32) = nI 0 from nI_0.symm, nI_eq (by omega) (by omega)] at e0
      rw [e0]
      decide
    · rw [updN (by omega), updN (by omega), updN (by omega), updN (by omega)]
      exact ⟨⟨g, e1, e2⟩, e3⟩
  · obtain ⟨⟨a, a1, a2⟩, hx, hz⟩ := m j hj
    rw [updN (k := 41 + 5 * k + 0) (j := 41 + 5 * j + 1) (by omega), updN (k := 41 + 5 * k + 0) (j := 41 + 5 * j + 2) (by omega), updN (k := 41 + 5 * k + 0) (j := 41 + 5 * j + 3) (by omega), updN (k := 41 + 5 * k + 1) (j := 41 + 5 * j + 2) (by omega), updN (k := 41 + 5 * k + 1) (j := 41 + 5 * j + 3) (by omega)]
    refine ⟨?_, hx, hz⟩
    by_cases e : j = k
    · subst e
      rw [updS, a1]
      obtain ⟨o1, o2⟩ := lsr10 a (by omega)
      exact ⟨_, o2.symm, by omega⟩
    · rw [updN (by omega)]
      exact ⟨a, a1, a2⟩) ⟨h, hm⟩
theorem i_door {R : Nat → Int32} (h : gasB 612 R) (hm : midR R) : ∀ k, k ≤ 24 → gasB 612 (foldR (onceC 5) k R) ∧ midR (foldR (onceC 5) k R) := fold_P (P := fun R => gasB 612 R ∧ midR R) (fun k S hk hS => by
  obtain ⟨i, m⟩ := hS
  rw [once5]
  split
  · refine ⟨gas_eq i (fun j hj => updN (by omega)) (fun j hj => updN (by omega)), fun j hj => ?_⟩
    obtain ⟨ha, ⟨x, x1, x2⟩, hz⟩ := m j hj
    rw [updN (k := 41 + 5 * k + 2) (j := 41 + 5 * j + 1) (by omega), updN (k := 41 + 5 * k + 2) (j := 41 + 5 * j + 3) (by omega)]
    refine ⟨ha, ?_, hz⟩
    by_cases e : j = k
    · subst e
      rw [updS, x1]
      obtain ⟨o1, o2⟩ := less20 x (by omega)
      exact ⟨_, o2.symm, by omega⟩
    · rw [updN (by omega)]
      exact ⟨x, x1, x2⟩
  · rw [updId]
    exact ⟨i, m⟩) ⟨h, hm⟩
theorem tn_once {kind : Int32} {R : Nat → Int32} (h : tnR R) : ∀ k, k ≤ 24 → tnR (foldR (onceC kind) k R) := fold_P (fun k S hk hS => by
  unfold onceC
  split
  · exact tn_eq hS (fun j hj => by rw [updN (by omega), updN (by omega)])
  · split
    · split
      · exact tn_eq hS (fun j hj => updN (by omega))
      · exact tn_eq hS (fun j hj => updN (by omega))
    · split
      · exact tn_tear hS
      · exact tn_eq hS (fun j hj => updN (by omega))) h
theorem i_once {kd : Int32} {R : Nat → Int32} (h : iR R) (hk : kd = 3 ∨ kd = 4 ∨ kd = 5) : iR (atOnceF kd R) := by
  obtain ⟨h1, h2, h3, h4, h5, h6⟩ := h
  have hh : gasB 612 (atOnceF kd R) ∧ midR (atOnceF kd R) := by
    rcases hk with rfl | rfl | rfl
    · exact i_knead h1 h2 24 (Nat.le_refl _)
    · exact ⟨TB_gas (TB_knock h1 h2 24 (Nat.le_refl _)).1, (TB_knock h1 h2 24 (Nat.le_refl _)).2⟩
    · exact i_door h1 h2 24 (Nat.le_refl _)
  exact ⟨hh.1, hh.2, tn_once h3 24 (Nat.le_refl _), by rw [once_low (by omega)]; exact h4, fl_low h5 (fun p hp => once_low (by omega)), wf_once kd h6 24 (Nat.le_refl _)⟩
theorem i_set {R : Nat → Int32} (h : iR R) {p : Nat} {v : Int32} (h1 : 36 ≤ p) (h2 : p < 39) : iR (upd R p v) := by
  obtain ⟨h1, h2, h3, h4, h5, h6⟩ := h
  exact ⟨gas_eq h1 (fun j hj => updN (by omega)) (fun j hj => updN (by omega)), mid_eq h2 (fun j i hj q1 q3 => updN (by omega)), tn_eq h3 (fun j hj => updN (by omega)), by rw [updN (by omega)]; exact h4, fl_low h5 (fun p hp => updN (by omega)), wf_keep h6 (updN (by omega)) (fun j hj => updN (by omega))⟩
theorem i_end {R : Nat → Int32} {v : Int32} (h : iR R) (hv : v = 0 ∨ v = 1) : iR (endF v R) := by
  obtain ⟨h1, h2, h3, h4, h5, h6⟩ := h
  have e : ∀ p, p ≠ 38 → p ≠ 39 → endF v R p = R p := fun p q1 q2 => by unfold endF; rw [updN q1, updN q2]
  exact ⟨gas_eq h1 (fun j hj => e _ (by omega) (by omega)) (fun j hj => e _ (by omega) (by omega)), mid_eq h2 (fun j i hj q1 q3 => e _ (by omega) (by omega)), tn_eq h3 (fun j hj => e _ (by omega) (by omega)), by
    have : endF v R 39 = v := by unfold endF; rw [updN (by omega), updS]
    rw [this]; exact hv, fl_low h5 (fun p hp => e _ (by omega) (by omega)), wf_end h6⟩
theorem i_turn {ov : Int32} {w : Nat} {R : Nat → Int32} (h : iR R) (hw : w ≤ 9) : iR (turnF ov (nI w) R) := by
  obtain ⟨h1, h2, h3, h4, h5, h6⟩ := h
  have f1 : flR (warmsF (nI w) R) := fl_low h5 (fun p hp => warms_low (by omega))
  have m1 := mid_warm h2 hw
  have f2 : flR (growsF (warmsF (nI w) R)) := fl_low f1 (fun p hp => grows_low (by omega))
  have m2 := mid_grows m1 f1
  have g2 := gas_grows (gas_warm h1 (w := nI w)) m1 f1
  have b1 : gasB 306 (burstsF ov (growsF (warmsF (nI w) R))) := TB_gas (TB_bursts g2 m2 f2 24 (Nat.le_refl _))
  have b2 : midR (burstsF ov (growsF (warmsF (nI w) R))) := mid_bursts m2 24 (Nat.le_refl _)
  have b3 : tnR (burstsF ov (growsF (warmsF (nI w) R))) := tn_bursts (tn_grows (tn_warm h3)) 24 (Nat.le_refl _)
  have b4 : burstsF ov (growsF (warmsF (nI w) R)) 39 = R 39 := by rw [bursts_low (by omega), grows_low (by omega), warms_low (by omega)]
  have b5 : flR (burstsF ov (growsF (warmsF (nI w) R))) := fl_low f2 (fun p hp => bursts_low (by omega))
  have b6 : wfR (burstsF ov (growsF (warmsF (nI w) R))) := wf_bursts ov (wf_grows (wf_warms _ h6)) 24 (Nat.le_refl _)
  unfold turnF
  generalize burstsF ov (growsF (warmsF (nI w) R)) = S at *
  have iS : iR S := ⟨gasB_mono b1 (by omega), b2, b3, by rw [b4]; exact h4, b5, b6⟩
  split
  · split
    · have iT : iR (sinksF S) := ⟨TB_gas (TB_sinks b1 24 (Nat.le_refl _)), mid_sinks b2 24 (Nat.le_refl _), tn_sinks b3 24 (Nat.le_refl _), by rw [sinks_low (by omega), b4]; exact h4, fl_low b5 (fun p hp => sinks_low (by omega)), wf_sinks b6 24 (Nat.le_refl _)⟩
      exact i_end iT (by rw [sinks_low (by omega), b4]; exact h4)
    · exact i_end iS (by rw [b4]; exact h4)
  · exact i_end iS (Or.inr rfl)
