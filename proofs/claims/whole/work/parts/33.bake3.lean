/-! ===== a dough in memory, whatever the falls ===== -/
def DD (m : sM) (a : Nat) (R : Nat → Int32) : Prop := (∀ k, k < 24 → m (a + 1) k = R (41 + 5 * k + 0) ∧ m (a + 2) k = R (41 + 5 * k + 1) ∧ m (a + 3) k = R (41 + 5 * k + 2) ∧ m (a + 4) k = R (41 + 5 * k + 3) ∧ m (a + 5) k = R (41 + 5 * k + 4)) ∧ m a 5 = R 40 ∧ m a 6 = R 38 ∧ m a 9 = R 39
def LD (m : sM) (L : Nat) (R : Nat → Int32) : Prop := (∀ i, i < 5 → m (L + 2) i = R i) ∧ DD m (L + 7) R
theorem DD_eq {m : sM} {a : Nat} {R R' : Nat → Int32} (h : DD m a R) (e : eqE R R') : DD m a R' := by
  obtain ⟨h1, h2, h3, h4⟩ := h
  refine ⟨fun k hk => ?_, by rw [e 40 (by omega) (by omega) (by omega)]; exact h2, by rw [e 38 (by omega) (by omega) (by omega)]; exact h3, by rw [e 39 (by omega) (by omega) (by omega)]; exact h4⟩
  rw [e _ (by omega) (by omega) (by omega), e _ (by omega) (by omega) (by omega), e _ (by omega) (by omega) (by omega), e _ (by omega) (by omega) (by omega), e _ (by omega) (by omega) (by omega)]
  exact h1 k hk
theorem LD_eq {m : sM} {L : Nat} {R R' : Nat → Int32} (h : LD m L R) (e : eqE R R') : LD m L R' := ⟨fun i hi => by rw [e i (by omega) (by omega) (by omega)]; exact h.1 i hi, DD_eq h.2 e⟩
theorem LR.d {m : sM} {L : Nat} {R : Nat → Int32} (h : LR m L R) : LD m L R := ⟨h.1, h.2.1, h.2.2.1, h.2.2.2.1, h.2.2.2.2.1⟩
theorem sub_sub (a b : Int32) : a - (a - b) = b := by
  apply Int32.toBitVec_inj.mp
  rw [Int32.toBitVec_sub, Int32.toBitVec_sub]
  bv_omega
def refit (m : sM) (L : Nat) (R : Nat → Int32) : Nat → Int32 := fun p => if p < 161 then R p else
  if (p - 161) % 7 = 0 then m (L + 14) ((p - 161) / 7) else if (p - 161) % 7 = 1 then m (L + 15) ((p - 161) / 7) else if (p - 161) % 7 = 2 then m (L + 16) ((p - 161) / 7) else if (p - 161) % 7 = 3 then m (L + 17) ((p - 161) / 7) else
  if (p - 161) % 7 = 4 then (if m (L + 14) ((p - 161) / 7) = 3 then m (L + 16) ((p - 161) / 7) - m (L + 18) ((p - 161) / 7) else m (L + 18) ((p - 161) / 7)) else if (p - 161) % 7 = 5 then m (L + 18) ((p - 161) / 7) else 50 - m (L + 18) ((p - 161) / 7)
theorem refit_lo {m : sM} {L p : Nat} {R : Nat → Int32} (h : p < 161) : refit m L R p = R p := if_pos h
theorem refit_hi {m : sM} {L k i : Nat} {R : Nat → Int32} (hi : i < 7) : refit m L R (161 + 7 * k + i) = (if i = 0 then m (L + 14) k else if i = 1 then m (L + 15) k else if i = 2 then m (L + 16) k else if i = 3 then m (L + 17) k else if i = 4 then (if m (L + 14) k = 3 then m (L + 16) k - m (L + 18) k else m (L + 18) k) else if i = 5 then m (L + 18) k else 50 - m (L + 18) k) := by
  unfold refit
  rw [if_neg (by omega), show (161 + 7 * k + i - 161) % 7 = i by omega, show (161 + 7 * k + i - 161) / 7 = k by omega]
theorem refit_LR {m : sM} {L : Nat} {R : Nat → Int32} (h : LD m L R) : LR m L (refit m L R) := by
  obtain ⟨h1, h2, h3, h4, h5⟩ := h
  refine ⟨fun i hi => by rw [refit_lo (by omega)]; exact h1 i hi, fun k hk => ?_, by rw [refit_lo (by omega)]; exact h3, by rw [refit_lo (by omega)]; exact h4, by rw [refit_lo (by omega)]; exact h5, fun k hk => ?_⟩
  · rw [refit_lo (by omega), refit_lo (by omega), refit_lo (by omega), refit_lo (by omega), refit_lo (by omega)]
    exact h2 k hk
  · have r0 := refit_hi (m := m) (L := L) (R := R) (k := k) (i := 0) (by omega)
    have r1 := refit_hi (m := m) (L := L) (R := R) (k := k) (i := 1) (by omega)
    have r2 := refit_hi (m := m) (L := L) (R := R) (k := k) (i := 2) (by omega)
    have r3 := refit_hi (m := m) (L := L) (R := R) (k := k) (i := 3) (by omega)
    have r4 := refit_hi (m := m) (L := L) (R := R) (k := k) (i := 4) (by omega)
    have r5 := refit_hi (m := m) (L := L) (R := R) (k := k) (i := 5) (by omega)
    have r6 := refit_hi (m := m) (L := L) (R := R) (k := k) (i := 6) (by omega)
    rw [if_pos rfl] at r0
    rw [if_neg (by omega), if_pos rfl] at r1
    rw [if_neg (by omega), if_neg (by omega), if_pos rfl] at r2
    rw [if_neg (by omega), if_neg (by omega), if_neg (by omega), if_pos rfl] at r3
    rw [if_neg (by omega), if_neg (by omega), if_neg (by omega), if_neg (by omega), if_pos rfl] at r4
    rw [if_neg (by omega), if_neg (by omega), if_neg (by omega), if_neg (by omega), if_neg (by omega), if_pos rfl] at r5
    rw [if_neg (by omega), if_neg (by omega), if_neg (by omega), if_neg (by omega), if_neg (by omega), if_neg (by omega)] at r6
    have r0' : refit m L R (161 + 7 * k) = m (L + 14) k := r0
    refine ⟨r0'.symm, r1.symm, r2.symm, r3.symm, ?_⟩
    unfold mkF mkOf
    rw [r0', r2, r4, r5, r6]
    by_cases c1 : m (L + 14) k = 1 ∨ m (L + 14) k = 6
    · rw [if_pos c1, if_neg (by rcases c1 with e | e <;> rw [e] <;> decide)]
    · rw [if_neg c1]
      by_cases c3 : m (L + 14) k = 3
      · rw [if_pos c3, if_pos c3, sub_sub]
      · rw [if_neg c3]
        by_cases c4 : m (L + 14) k = 4 ∨ m (L + 14) k = 5
        · rw [if_pos c4, sub_sub]
        · rw [if_neg c4]
theorem refit_E {m : sM} {L : Nat} {R : Nat → Int32} : eqE (refit m L R) R := fun p h1 _ _ => (refit_lo h1).symm
/-- a turn, and what is done at once, of a dough -/
theorem c_turnD {L : Nat} {xs : Nat → Int32} {d : Nat} {m : sM} {n : sN} {Q : sQ} {L0 : Nat} {R : Nat → Int32} {w ov : Int32} (hL : isLf L0) (h : LD m L0 R) (hi : iR R) (hQ : ∀ m', LD m' L0 (turnF ov w R) → LG m m' L0 → Q none m' n) : sRun (scT L xs) (d + 4) yX6_turnBy cX6_turnBy 3 none [.ref L0, .int w, .int ov] m n Q :=
  c_X6_turnBy hL (refit_LR h) (i_eqE hi refit_E.sy).wf (i_eqE hi refit_E.sy).rg (fun m' h1 h2 => hQ m' (LD_eq h1.d (eqE_turn refit_E)) h2.g)
theorem c_handleD {L : Nat} {xs : Nat → Int32} {d : Nat} {m : sM} {n : sN} {Q : sQ} {L0 : Nat} {R : Nat → Int32} {kd : Int32} (hL : isLf L0) (h : LD m L0 R) (hi : iR R) (hkd : kd = 3 ∨ kd = 4 ∨ kd = 5) (hQ : ∀ m', LD m' L0 (atOnceF kd R) → LG m m' L0 → Q none m' n) : sRun (scT L xs) (d + 4) yX6_handle cX6_handle 2 none [.ref L0, .int kd] m n Q :=
  c_X6_handle hL (refit_LR h) (i_eqE hi refit_E.sy).wf (i_kOK (i_eqE hi refit_E.sy)) hkd (fun m' h1 h2 => hQ m' (LD_eq h1.d (eqE_once refit_E)) h2.g)
