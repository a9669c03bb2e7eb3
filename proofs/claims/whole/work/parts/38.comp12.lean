/-! ===== a doing changed ===== -/
theorem minL (x y : Int32) : (if y < x then y else x) = lsr x y := by
  unfold lsr
  by_cases h : y < x
  · rw [if_pos h, if_neg (Int32.not_lt.mpr (Int32.le_of_lt h))]
  · rw [if_neg h]
    by_cases h2 : x < y
    · rw [if_pos h2]
    · rw [if_neg h2]
      exact Int32.le_antisymm (Int32.not_lt.mp h) (Int32.not_lt.mp h2)
theorem DR_w {m : sM} {a k : Nat} {v : Int32} {R : Nat → Int32} (h : DR m a R) (hc : cOf R ≤ 10) (hk : k < 10) : DR (s_up m (a + 2) (upd (m (a + 2)) k v)) a (upd R (6 + 3 * k + 1) v) := by
  refine ⟨fun i hi => ?_, by rw [s_upN (by omega), updN (by omega)]; exact h.2⟩
  rw [cOf_upd (by omega)] at hi
  obtain ⟨h1, h2, h3⟩ := h.1 i hi
  rw [s_upN (by omega), s_upS, s_upN (by omega), updN (k := 6 + 3 * k + 1) (j := 6 + 3 * i + 0) (by omega), updN (k := 6 + 3 * k + 1) (j := 6 + 3 * i + 2) (by omega)]
  refine ⟨h1, ?_, h3⟩
  by_cases e : i = k
  · rw [e, updS, updS]
  · rw [updN e, updN (by omega)]; exact h2
theorem DR_t {m : sM} {a k : Nat} {v : Int32} {R : Nat → Int32} (h : DR m a R) (hc : cOf R ≤ 10) (hk : k < 10) : DR (s_up m (a + 3) (upd (m (a + 3)) k v)) a (upd R (6 + 3 * k + 2) v) := by
  refine ⟨fun i hi => ?_, by rw [s_upN (by omega), updN (by omega)]; exact h.2⟩
  rw [cOf_upd (by omega)] at hi
  obtain ⟨h1, h2, h3⟩ := h.1 i hi
  rw [s_upN (by omega), s_upN (by omega), s_upS, updN (k := 6 + 3 * k + 2) (j := 6 + 3 * i + 0) (by omega), updN (k := 6 + 3 * k + 2) (j := 6 + 3 * i + 1) (by omega)]
  refine ⟨h1, h2, ?_⟩
  by_cases e : i = k
  · rw [e, updS, updS]
  · rw [updN e, updN (by omega)]; exact h3
/-- nothing but the doing at a has changed; it is there as it was -/
def GF (m m' : sM) (a : Nat) : Prop := (∀ c, c < a ∨ a + 4 ≤ c → m' c = m c) ∧ m' a 4 = m a 4
theorem GF.rf {m : sM} {a : Nat} : GF m m a := ⟨fun _ _ => rfl, rfl⟩
theorem GF.tr {m m1 m2 : sM} {a : Nat} (h1 : GF m m1 a) (h2 : GF m1 m2 a) : GF m m2 a := ⟨fun c hc => (h2.1 c hc).trans (h1.1 c hc), h2.2.trans h1.2⟩
theorem GF_up {m : sM} {a b : Nat} {f : Nat → Int32} (hb : a < b) (hb2 : b < a + 4) : GF m (s_up m b f) a := ⟨fun c hc => s_upN (by omega), by rw [s_upN (by omega)]⟩
def warmC (v : Int32) (k : Nat) (R : Nat → Int32) : Nat → Int32 := if R (6 + 3 * k + 0) = 1 then upd R (6 + 3 * k + 1) v else R
def shiftC (v : Int32) (k : Nat) (R : Nat → Int32) : Nat → Int32 := if R (6 + 3 * k + 0) = 2 then upd R (6 + 3 * k + 1) (gtr 0 (lsr 9 (R (6 + 3 * k + 1) + v))) else R
theorem warmC_o {v : Int32} {k p : Nat} {R : Nat → Int32} (h : p ≠ 6 + 3 * k + 1) : warmC v k R p = R p := by
  unfold warmC
  split
  · exact updN h
  · rfl
theorem shiftC_o {v : Int32} {k p : Nat} {R : Nat → Int32} (h : p ≠ 6 + 3 * k + 1) : shiftC v k R p = R p := by
  unfold shiftC
  split
  · exact updN h
  · rfl
theorem fold_o {f : Nat → (Nat → Int32) → (Nat → Int32)} {p : Nat} (hf : ∀ k R, f k R p = R p) (R : Nat → Int32) : ∀ k, foldR f k R p = R p := by
  intro k
  induction k with
  | zero => rfl
  | succ k ih => exact (hf k _).trans ih
theorem warm_5 {v : Int32} {R : Nat → Int32} (k : Nat) : foldR (warmC v) k R 5 = R 5 := fold_o (fun k R => warmC_o (by omega)) R k
theorem shift_5 {v : Int32} {R : Nat → Int32} (k : Nat) : foldR (shiftC v) k R 5 = R 5 := fold_o (fun k R => shiftC_o (by omega)) R k
set_option maxHeartbeats 1000000 in
theorem c_X1_warmRests {L : Nat} {xs : Nat → Int32} {d : Nat} {m : sM} {n : sN} {Q : sQ} {G0 c : Nat} {v : Int32} {R : Nat → Int32} (hG : isDg G0) (hg : DR m G0 R) (hc : R 5 = nI c) (hc2 : c ≤ 10) (hQ : ∀ m', DR m' G0 (foldR (warmC v) c R) → GF m m' G0 → Q none m' n) : sRun (scT L xs) (d + 1) yX1_warmRests cX1_warmRests 3 none [.ref G0, .int v] m n Q := by
  have ec : cOf R = c := by unfold cOf; rw [hc, nI_clamp (by omega)]
  refine y_run (own := "LoafFall$Doing") rfl (by decide +kernel) (Nat.le_of_ble_eq_true rfl) rfl ?_
  refine y_iconst (v := 0) dX1_warmRests_0 (by decide) ?_
  refine y_ist3_2 dX1_warmRests_1 rfl ?_
  refine cnt (P := fun k => ∀ m' : sM, DR m' G0 (foldR (warmC v) k R) → GF m m' G0 → sV (scT L xs) d "LoafFall$Doing" cX1_warmRests 3 none Q 2 [some (.ref G0), some (.int v), some (.int (nI k))] [] m' n) c ?_ ?_ 0 (by omega) m hg GF.rf
  · intro m' h1 h2
    have e5 : foldR (warmC v) c R 5 = R 5 := warm_5 c
    refine y_iload_n dX1_warmRests_2 rfl rfl ?_
    refine y_aload_n dX1_warmRests_3 rfl rfl ?_
    refine y_geti dX1_warmRests_4 gf_X1_21 hG.1 rfl ?_
    rw [h1.2, e5, hc]
    refine y_icmp_ge (tgt := 33) dX1_warmRests_7 (by decide) (fun h7 => ?_) (fun h7 => absurd (nI_le (a := c) (b := c) (Nat.le_refl _) (by omega)) h7)
    refine y_return dX1_warmRests_33 rfl ?_
    exact hQ _ h1 h2
  · intro k hk hP
    intro m' h1 h2
    have e5 : foldR (warmC v) k R 5 = R 5 := warm_5 k
    have eck : cOf (foldR (warmC v) k R) = c := by unfold cOf; rw [e5, hc, nI_clamp (by omega)]
    generalize hRk : foldR (warmC v) k R = Rk at h1 e5 eck
    replace hP : ∀ m' : sM, DR m' G0 (warmC v k Rk) → GF m m' G0 → sV (scT L xs) d "LoafFall$Doing" cX1_warmRests 3 none Q 2 [some (.ref G0), some (.int v), some (.int (nI (k + 1)))] [] m' n := by rw [← hRk]; exact hP
    obtain ⟨g1, g2, g3⟩ := h1.1 k (by omega)
    refine y_iload_n dX1_warmRests_2 rfl rfl ?_
    refine y_aload_n dX1_warmRests_3 rfl rfl ?_
    refine y_geti dX1_warmRests_4 gf_X1_21 hG.1 rfl ?_
    rw [h1.2, e5, hc]
    refine y_icmp_ge (tgt := 33) dX1_warmRests_7 (by decide) (fun h7 => absurd h7 (nI_ge (a := k) (b := c) hk (by omega))) (fun h7 => ?_)
    refine y_aload_n dX1_warmRests_10 rfl rfl ?_
    refine y_getr dX1_warmRests_11 gf_X1_9 hG.1 rfl ?_
    refine y_iload_n dX1_warmRests_14 rfl rfl ?_
    refine y_ialdN dX1_warmRests_15 hG.2.1 rfl (by first | omega | decide) (by decide) ?_
    rw [g1]
    refine y_iconst (v := 1) dX1_warmRests_16 (by decide) ?_
    refine y_icmp_ne (tgt := 27) dX1_warmRests_17 (by decide) (fun h17 => ?_) (fun h17 => ?_)
    · refine y_iinc3_2 dX1_warmRests_27 (nI_1 _) rfl ?_
      refine y_goto (tgt := 2) dX1_warmRests_30 (by decide) ?_
      first
        | (unfold warmC at hP; rw [if_neg h17] at hP; exact hP _ h1 h2)
        | (unfold warmC at hP; rw [if_pos h17] at hP; exact hP _ (DR_w h1 (by omega) (by omega)) (h2.tr (GF_up (by omega) (by omega))))
    · refine y_aload_n dX1_warmRests_20 rfl rfl ?_
      refine y_getr dX1_warmRests_21 gf_X1_15 hG.1 rfl ?_
      refine y_iload_n dX1_warmRests_24 rfl rfl ?_
      refine y_iload_n dX1_warmRests_25 rfl rfl ?_
      refine y_iastN dX1_warmRests_26 hG.2.2.1 rfl (by first | omega | decide) (by decide) ?_
      refine y_iinc3_2 dX1_warmRests_27 (nI_1 _) rfl ?_
      refine y_goto (tgt := 2) dX1_warmRests_30 (by decide) ?_
      first
        | (unfold warmC at hP; rw [if_neg h17] at hP; exact hP _ h1 h2)
        | (unfold warmC at hP; rw [if_pos h17] at hP; exact hP _ (DR_w h1 (by omega) (by omega)) (h2.tr (GF_up (by omega) (by omega))))
set_option maxHeartbeats 1000000 in
theorem c_X1_shiftOvens {L : Nat} {xs : Nat → Int32} {d : Nat} {m : sM} {n : sN} {Q : sQ} {G0 c : Nat} {v : Int32} {R : Nat → Int32} (hG : isDg G0) (hg : DR m G0 R) (hc : R 5 = nI c) (hc2 : c ≤ 10) (hQ : ∀ m', DR m' G0 (foldR (shiftC v) c R) → GF m m' G0 → Q none m' n) : sRun (scT L xs) (d + 1) yX1_shiftOvens cX1_shiftOvens 3 none [.ref G0, .int v] m n Q := by
  have ec : cOf R = c := by unfold cOf; rw [hc, nI_clamp (by omega)]
  refine y_run (own := "LoafFall$Doing") rfl (by decide +kernel) (Nat.le_of_ble_eq_true rfl) rfl ?_
  refine y_iconst (v := 0) dX1_shiftOvens_0 (by decide) ?_
  refine y_ist3_2 dX1_shiftOvens_1 rfl ?_
  refine cnt (P := fun k => ∀ m' : sM, DR m' G0 (foldR (shiftC v) k R) → GF m m' G0 → sV (scT L xs) d "LoafFall$Doing" cX1_shiftOvens 3 none Q 2 [some (.ref G0), some (.int v), some (.int (nI k))] [] m' n) c ?_ ?_ 0 (by omega) m hg GF.rf
  · intro m' h1 h2
    have e5 : foldR (shiftC v) c R 5 = R 5 := shift_5 c
    refine y_iload_n dX1_shiftOvens_2 rfl rfl ?_
    refine y_aload_n dX1_shiftOvens_3 rfl rfl ?_
    refine y_geti dX1_shiftOvens_4 gf_X1_21 hG.1 rfl ?_
    rw [h1.2, e5, hc]
    refine y_icmp_ge (tgt := 49) dX1_shiftOvens_7 (by decide) (fun h7 => ?_) (fun h7 => absurd (nI_le (a := c) (b := c) (Nat.le_refl _) (by omega)) h7)
    refine y_return dX1_shiftOvens_49 rfl ?_
    exact hQ _ h1 h2
  · intro k hk hP
    intro m' h1 h2
    have e5 : foldR (shiftC v) k R 5 = R 5 := shift_5 k
    have eck : cOf (foldR (shiftC v) k R) = c := by unfold cOf; rw [e5, hc, nI_clamp (by omega)]
    generalize hRk : foldR (shiftC v) k R = Rk at h1 e5 eck
    replace hP : ∀ m' : sM, DR m' G0 (shiftC v k Rk) → GF m m' G0 → sV (scT L xs) d "LoafFall$Doing" cX1_shiftOvens 3 none Q 2 [some (.ref G0), some (.int v), some (.int (nI (k + 1)))] [] m' n := by rw [← hRk]; exact hP
    obtain ⟨g1, g2, g3⟩ := h1.1 k (by omega)
    refine y_iload_n dX1_shiftOvens_2 rfl rfl ?_
    refine y_aload_n dX1_shiftOvens_3 rfl rfl ?_
    refine y_geti dX1_shiftOvens_4 gf_X1_21 hG.1 rfl ?_
    rw [h1.2, e5, hc]
    refine y_icmp_ge (tgt := 49) dX1_shiftOvens_7 (by decide) (fun h7 => absurd h7 (nI_ge (a := k) (b := c) hk (by omega))) (fun h7 => ?_)
    refine y_aload_n dX1_shiftOvens_10 rfl rfl ?_
    refine y_getr dX1_shiftOvens_11 gf_X1_9 hG.1 rfl ?_
    refine y_iload_n dX1_shiftOvens_14 rfl rfl ?_
    refine y_ialdN dX1_shiftOvens_15 hG.2.1 rfl (by first | omega | decide) (by decide) ?_
    rw [g1]
    refine y_iconst (v := 2) dX1_shiftOvens_16 (by decide) ?_
    refine y_icmp_ne (tgt := 43) dX1_shiftOvens_17 (by decide) (fun h17 => ?_) (fun h17 => ?_)
    · refine y_iinc3_2 dX1_shiftOvens_43 (nI_1 _) rfl ?_
      refine y_goto (tgt := 2) dX1_shiftOvens_46 (by decide) ?_
      first
        | (unfold shiftC at hP; rw [if_neg h17] at hP; exact hP _ h1 h2)
        | (unfold shiftC at hP; rw [if_pos h17] at hP; exact hP _ (DR_w h1 (by omega) (by omega)) (h2.tr (GF_up (by omega) (by omega))))
    · refine y_aload_n dX1_shiftOvens_20 rfl rfl ?_
      refine y_getr dX1_shiftOvens_21 gf_X1_15 hG.1 rfl ?_
      refine y_iload_n dX1_shiftOvens_24 rfl rfl ?_
      refine y_iconst (v := 0) dX1_shiftOvens_25 (by decide) ?_
      refine y_bipush (v := 9) dX1_shiftOvens_26 (by decide) ?_
      refine y_aload_n dX1_shiftOvens_28 rfl rfl ?_
      refine y_getr dX1_shiftOvens_29 gf_X1_15 hG.1 rfl ?_
      refine y_iload_n dX1_shiftOvens_32 rfl rfl ?_
      refine y_ialdN dX1_shiftOvens_33 hG.2.2.1 rfl (by first | omega | decide) (by decide) ?_
      rw [g2]
      refine y_iload_n dX1_shiftOvens_34 rfl rfl ?_
      refine y_iadd dX1_shiftOvens_35 ?_
      refine y_mmin dX1_shiftOvens_36 mm_X1_39 (Nat.le_of_ble_eq_true rfl) ?_
      rw [minL]
      refine y_mmax dX1_shiftOvens_39 mm_X1_45 (Nat.le_of_ble_eq_true rfl) ?_
      rw [max0]
      refine y_iastN dX1_shiftOvens_42 hG.2.2.1 rfl (by first | omega | decide) (by decide) ?_
      refine y_iinc3_2 dX1_shiftOvens_43 (nI_1 _) rfl ?_
      refine y_goto (tgt := 2) dX1_shiftOvens_46 (by decide) ?_
      first
        | (unfold shiftC at hP; rw [if_neg h17] at hP; exact hP _ h1 h2)
        | (unfold shiftC at hP; rw [if_pos h17] at hP; exact hP _ (DR_w h1 (by omega) (by omega)) (h2.tr (GF_up (by omega) (by omega))))
set_option maxHeartbeats 1000000 in
theorem c_X1_lastOven {L : Nat} {xs : Nat → Int32} {d : Nat} {m : sM} {n : sN} {Q : sQ} {G0 c : Nat} {R : Nat → Int32} (hG : isDg G0) (hg : DR m G0 R) (hc : R 5 = nI c) (hc2 : c ≤ 10) (hQ1 : ∀ i, i < c → R (6 + 3 * i + 0) = 2 → (∀ j, i < j → j < c → ¬ R (6 + 3 * j + 0) = 2) → Q (some (.int (nI i))) m n) (hQ0 : (∀ j, j < c → ¬ R (6 + 3 * j + 0) = 2) → Q (some (.int (-9))) m n) : sRun (scT L xs) (d + 1) yX1_lastOven cX1_lastOven 2 (some .int) [.ref G0] m n Q := by
  have ec : cOf R = c := by unfold cOf; rw [hc, nI_clamp (by omega)]
  refine y_run (own := "LoafFall$Doing") rfl (by decide +kernel) (Nat.le_of_ble_eq_true rfl) rfl ?_
  refine y_aload_n dX1_lastOven_0 rfl rfl ?_
  refine y_geti dX1_lastOven_1 gf_X1_21 hG.1 rfl ?_
  refine y_iconst (v := 1) dX1_lastOven_4 (by decide) ?_
  rw [hg.2, hc]
  refine y_isub dX1_lastOven_5 ?_
  refine y_ist2_1 dX1_lastOven_6 rfl ?_
  have key : ∀ k, k ≤ c → (∀ j, k ≤ j → j < c → ¬ R (6 + 3 * j + 0) = 2) → sV (scT L xs) d "LoafFall$Doing" cX1_lastOven 2 (some .int) Q 7 [some (.ref G0), some (.int (nI k - 1))] [] m n := by
    intro k
    induction k with
    | zero =>
      intro _ hj
      refine y_iload_n dX1_lastOven_7 rfl rfl ?_
      refine y_if_lt (tgt := 29) dX1_lastOven_8 (by decide) (fun h8 => ?_) (fun h8 => absurd (by decide : (nI 0 - 1 : Int32) < 0) h8)
      refine y_bipush (v := -9) dX1_lastOven_29 (by decide) ?_
      refine y_ireturn dX1_lastOven_31 rfl rfl ?_
      exact hQ0 (fun j hj2 => hj j (Nat.zero_le _) hj2)
    | succ k ih =>
      intro hk hj
      rw [show nI (k + 1) - 1 = nI k from nI_pred k]
      refine y_iload_n dX1_lastOven_7 rfl rfl ?_
      refine y_if_lt (tgt := 29) dX1_lastOven_8 (by decide) (fun h8 => absurd h8 (nI_pos (n := k) (by omega))) (fun h8 => ?_)
      refine y_aload_n dX1_lastOven_11 rfl rfl ?_
      refine y_getr dX1_lastOven_12 gf_X1_9 hG.1 rfl ?_
      refine y_iload_n dX1_lastOven_15 rfl rfl ?_
      refine y_ialdN dX1_lastOven_16 hG.2.1 rfl (by first | omega | decide) (by decide) ?_
      rw [(hg.1 k (by omega)).1]
      refine y_iconst (v := 2) dX1_lastOven_17 (by decide) ?_
      refine y_icmp_ne (tgt := 23) dX1_lastOven_18 (by decide) (fun h18 => ?_) (fun h18 => ?_)
      · refine y_iinc2_1 dX1_lastOven_23 (show nI k + -1 = nI k - 1 from (Int32.sub_eq_add_neg ..).symm) rfl ?_
        refine y_goto (tgt := 7) dX1_lastOven_26 (by decide) ?_
        refine ih (by omega) (fun j h1 h2 => ?_)
        by_cases e : j = k
        · rw [e]; exact h18
        · exact hj j (by omega) h2
      · refine y_iload_n dX1_lastOven_21 rfl rfl ?_
        refine y_ireturn dX1_lastOven_22 rfl rfl ?_
        exact hQ1 k (by omega) h18 (fun j h1 h2 => hj j (by omega) h2)
  exact key c (Nat.le_refl _) (fun j h1 h2 => absurd h1 (by omega))
set_option maxHeartbeats 1000000 in
theorem c_X1_add {L : Nat} {xs : Nat → Int32} {d : Nat} {m : sM} {n : sN} {Q : sQ} {G0 s : Nat} {kd w0 t0 : Int32} (hG : isDg G0) (hs : m G0 3 = nI s) (hs2 : s ≤ 10) (hQ0 : s = 10 → Q (some (.int 0)) m n) (hQ1 : s < 10 → ∀ m', (∀ a, a < G0 ∨ G0 + 4 ≤ a → m' a = m a) → (∀ i, i ≠ s → m' (G0 + 1) i = m (G0 + 1) i ∧ m' (G0 + 2) i = m (G0 + 2) i ∧ m' (G0 + 3) i = m (G0 + 3) i) → m' (G0 + 1) s = kd → m' (G0 + 2) s = w0 → m' (G0 + 3) s = t0 → m' G0 3 = nI (s + 1) → m' G0 4 = m G0 4 → Q (some (.int 1)) m' n) : sRun (scT L xs) (d + 1) yX1_add cX1_add 4 (some .boolean) [.ref G0, .int kd, .int w0, .int t0] m n Q := by
  refine y_run (own := "LoafFall$Doing") rfl (by decide +kernel) (Nat.le_of_ble_eq_true rfl) rfl ?_
  refine y_aload_n dX1_add_0 rfl rfl ?_
  refine y_geti dX1_add_1 gf_X1_21 hG.1 rfl ?_
  refine y_bipush (v := 10) dX1_add_4 (by decide) ?_
  rw [hs]
  refine y_icmp_lt (tgt := 11) dX1_add_6 (by decide) (fun h6 => ?_) (fun h6 => ?_)
  · have hs10 : s < 10 := (nI_ltI (a := s) (b := 10) (by omega) (by omega)).mp h6
    refine y_aload_n dX1_add_11 rfl rfl ?_
    refine y_getr dX1_add_12 gf_X1_9 hG.1 rfl ?_
    refine y_aload_n dX1_add_15 rfl rfl ?_
    refine y_geti dX1_add_16 gf_X1_21 hG.1 rfl ?_
    refine y_iload_n dX1_add_19 rfl rfl ?_
    refine y_iastN dX1_add_20 hG.2.1 hs hs10 (by decide) ?_
    refine y_aload_n dX1_add_21 rfl rfl ?_
    refine y_getr dX1_add_22 gf_X1_15 hG.1 rfl ?_
    refine y_aload_n dX1_add_25 rfl rfl ?_
    refine y_geti dX1_add_26 gf_X1_21 hG.1 rfl ?_
    refine y_iload_n dX1_add_29 rfl rfl ?_
    refine y_iastN dX1_add_30 hG.2.2.1 (by rw [s_upN (by omega)]; exact hs) hs10 (by decide) ?_
    refine y_aload_n dX1_add_31 rfl rfl ?_
    refine y_getr dX1_add_32 gf_X1_18 hG.1 rfl ?_
    refine y_aload_n dX1_add_35 rfl rfl ?_
    refine y_geti dX1_add_36 gf_X1_21 hG.1 rfl ?_
    refine y_iload_n dX1_add_39 rfl rfl ?_
    refine y_iastN dX1_add_40 hG.2.2.2 (by rw [s_upN (by omega), s_upN (by omega)]; exact hs) hs10 (by decide) ?_
    refine y_aload_n dX1_add_41 rfl rfl ?_
    refine y_dup dX1_add_42 rfl ?_
    refine y_geti dX1_add_43 gf_X1_21 hG.1 rfl ?_
    refine y_iconst (v := 1) dX1_add_46 (by decide) ?_
    refine y_iadd dX1_add_47 ?_
    rw [s_upN (show G0 ≠ G0 + 3 by omega), s_upN (show G0 ≠ G0 + 2 by omega), s_upN (show G0 ≠ G0 + 1 by omega), hs, nI_1]
    refine y_puti dX1_add_48 pf_X1_21 hG.1 rfl rfl rfl ?_
    refine y_iconst (v := 1) dX1_add_51 (by decide) ?_
    refine y_ireturn dX1_add_52 rfl rfl ?_
    refine hQ1 hs10 _ (fun a ha => ?_) (fun i hi => ⟨?_, ?_, ?_⟩) ?_ ?_ ?_ ?_ ?_
    · rw [s_upN (by omega), s_upN (by omega), s_upN (by omega), s_upN (by omega)]
    · (repeat (first | rw [s_upS] | rw [s_upN (by omega)] | rw [updS] | rw [updN (by omega)]))
    · (repeat (first | rw [s_upS] | rw [s_upN (by omega)] | rw [updS] | rw [updN (by omega)]))
    · (repeat (first | rw [s_upS] | rw [s_upN (by omega)] | rw [updS] | rw [updN (by omega)]))
    · (repeat (first | rw [s_upS] | rw [s_upN (by omega)] | rw [updS] | rw [updN (by omega)]))
    · (repeat (first | rw [s_upS] | rw [s_upN (by omega)] | rw [updS] | rw [updN (by omega)]))
    · (repeat (first | rw [s_upS] | rw [s_upN (by omega)] | rw [updS] | rw [updN (by omega)]))
    · (repeat (first | rw [s_upS] | rw [s_upN (by omega)] | rw [updS] | rw [updN (by omega)]))
    · (repeat (first | rw [s_upS] | rw [s_upN (by omega)] | rw [updS] | rw [updN (by omega)]))
  · refine y_iconst (v := 0) dX1_add_9 (by decide) ?_
    refine y_ireturn dX1_add_10 rfl rfl ?_
    exact hQ0 (by have : ¬ s < 10 := fun z => h6 (nI_lt (b := 10) z (by omega)); omega)
set_option maxHeartbeats 1000000 in
theorem c_X9_add {L : Nat} {xs : Nat → Int32} {d : Nat} {m : sM} {n : sN} {Q : sQ} {s : Nat} {a0 b0 : Int32} (hs : m 25 2 = nI s) (hs2 : s < 12) (hQ : ∀ m', (∀ a, a < 25 ∨ 28 ≤ a → m' a = m a) → (∀ i, i ≠ s → m' 26 i = m 26 i ∧ m' 27 i = m 27 i) → m' 26 s = a0 → m' 27 s = b0 → m' 25 2 = nI (s + 1) → Q none m' n) : sRun (scT L xs) (d + 1) yX9_add cX9_add 3 none [.ref 25, .int a0, .int b0] m n Q := by
  refine y_run (own := "LoafFall$Slips") rfl (by decide +kernel) (Nat.le_of_ble_eq_true rfl) rfl ?_
  refine y_aload_n dX9_add_0 rfl rfl ?_
  refine y_geti dX9_add_1 gf_X9_18 sh_25 rfl ?_
  refine y_bipush (v := 12) dX9_add_4 (by decide) ?_
  rw [hs]
  refine y_icmp_lt (tgt := 10) dX9_add_6 (by decide) (fun h6 => ?_) (fun h6 => absurd (nI_lt (b := 12) hs2 (by omega)) h6)
  refine y_aload_n dX9_add_10 rfl rfl ?_
  refine y_getr dX9_add_11 gf_X9_9 sh_25 rfl ?_
  refine y_aload_n dX9_add_14 rfl rfl ?_
  refine y_geti dX9_add_15 gf_X9_18 sh_25 rfl ?_
  refine y_iload_n dX9_add_18 rfl rfl ?_
  refine y_iastN dX9_add_19 sh_26 hs hs2 (by decide) ?_
  refine y_aload_n dX9_add_20 rfl rfl ?_
  refine y_getr dX9_add_21 gf_X9_15 sh_25 rfl ?_
  refine y_aload_n dX9_add_24 rfl rfl ?_
  refine y_geti dX9_add_25 gf_X9_18 sh_25 rfl ?_
  refine y_iload_n dX9_add_28 rfl rfl ?_
  refine y_iastN dX9_add_29 sh_27 (by rw [s_upN (by omega)]; exact hs) hs2 (by decide) ?_
  refine y_aload_n dX9_add_30 rfl rfl ?_
  refine y_dup dX9_add_31 rfl ?_
  refine y_geti dX9_add_32 gf_X9_18 sh_25 rfl ?_
  refine y_iconst (v := 1) dX9_add_35 (by decide) ?_
  refine y_iadd dX9_add_36 ?_
  rw [s_upN (show 25 ≠ 27 by omega), s_upN (show 25 ≠ 26 by omega), hs, nI_1]
  refine y_puti dX9_add_37 pf_X9_18 sh_25 rfl rfl rfl ?_
  refine y_return dX9_add_40 rfl ?_
  refine hQ _ (fun a ha => ?_) (fun i hi => ⟨?_, ?_⟩) ?_ ?_ ?_
  · rw [s_upN (by omega), s_upN (by omega), s_upN (by omega)]
  · (repeat (first | rw [s_upS] | rw [s_upN (by omega)] | rw [updS] | rw [updN (by omega)]))
  · (repeat (first | rw [s_upS] | rw [s_upN (by omega)] | rw [updS] | rw [updN (by omega)]))
  · (repeat (first | rw [s_upS] | rw [s_upN (by omega)] | rw [updS] | rw [updN (by omega)]))
  · (repeat (first | rw [s_upS] | rw [s_upN (by omega)] | rw [updS] | rw [updN (by omega)]))
  · (repeat (first | rw [s_upS] | rw [s_upN (by omega)] | rw [updS] | rw [updN (by omega)]))
