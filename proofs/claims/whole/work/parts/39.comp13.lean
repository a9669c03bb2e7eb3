/-! ===== rows and texts ===== -/
theorem cap40 {q M : Nat} (h : q ≤ M) (hM : M < 2 ^ 31) : (if (0 : Int32) < (if nI M < nI q then nI M else nI q) then (if nI M < nI q then nI M else nI q) else 0) = nI q := by
  rw [if_neg (nI_nlt h hM)]
  rcases Nat.eq_zero_or_pos q with z | z
  · rw [z]; decide
  · rw [if_pos (Int32.not_le.mp (nI_nle z (by omega)))]
/-- the sign at a place of a text of s places at t -/
def sgA (m : sM) (t s i : Nat) : Int32 := if i < s then m (t + 1) i else 1000
def isFig (x : Int32) : Prop := 48 ≤ x ∧ x ≤ 57
set_option maxHeartbeats 1000000 in
theorem c_X8_isThere {L : Nat} {xs : Nat → Int32} {d : Nat} {m : sM} {n : sN} {Q : sQ} {W0 : Nat} (hW : isRw W0) (hQ1 : ¬ m W0 1 = -1 → Q (some (.int 1)) m n) (hQ0 : m W0 1 = -1 → Q (some (.int 0)) m n) : sRun (scT L xs) (d + 1) yX8_isThere cX8_isThere 1 (some .boolean) [.ref W0] m n Q := by
  refine y_run (own := "LoafFall$Row") rfl (by decide +kernel) (Nat.le_of_ble_eq_true rfl) rfl ?_
  refine y_aload_n dX8_isThere_0 rfl rfl ?_
  refine y_geti dX8_isThere_1 gf_X8_15 hW.1 rfl ?_
  refine y_iconst (v := -1) dX8_isThere_4 (by decide) ?_
  refine y_icmp_eq (tgt := 12) dX8_isThere_5 (by decide) (fun h5 => ?_) (fun h5 => ?_)
  · refine y_iconst (v := 0) dX8_isThere_12 (by decide) ?_
    refine y_ireturn dX8_isThere_13 rfl rfl ?_
    first | exact hQ1 h5 | exact hQ0 h5
  · refine y_iconst (v := 1) dX8_isThere_8 (by decide) ?_
    refine y_goto (tgt := 13) dX8_isThere_9 (by decide) ?_
    refine y_ireturn dX8_isThere_13 rfl rfl ?_
    first | exact hQ1 h5 | exact hQ0 h5
set_option maxHeartbeats 1000000 in
theorem c_X8_has {L : Nat} {xs : Nat → Int32} {d : Nat} {m : sM} {n : sN} {Q : sQ} {W0 : Nat} {i : Int32} (hW : isRw W0) (hQ1 : ¬ i < 0 → i < m W0 1 → Q (some (.int 1)) m n) (hQ0 : (i < 0 ∨ m W0 1 ≤ i) → Q (some (.int 0)) m n) : sRun (scT L xs) (d + 1) yX8_has cX8_has 2 (some .boolean) [.ref W0, .int i] m n Q := by
  refine y_run (own := "LoafFall$Row") rfl (by decide +kernel) (Nat.le_of_ble_eq_true rfl) rfl ?_
  refine y_iload_n dX8_has_0 rfl rfl ?_
  refine y_if_lt (tgt := 16) dX8_has_1 (by decide) (fun h1 => ?_) (fun h1 => ?_)
  · refine y_iconst (v := 0) dX8_has_16 (by decide) ?_
    refine y_ireturn dX8_has_17 rfl rfl ?_
    first | exact hQ0 (Or.inl h1) | exact hQ0 (Or.inr h9) | exact hQ1 h1 (Int32.not_le.mp h9)
  · refine y_iload_n dX8_has_4 rfl rfl ?_
    refine y_aload_n dX8_has_5 rfl rfl ?_
    refine y_geti dX8_has_6 gf_X8_15 hW.1 rfl ?_
    refine y_icmp_ge (tgt := 16) dX8_has_9 (by decide) (fun h9 => ?_) (fun h9 => ?_)
    · refine y_iconst (v := 0) dX8_has_16 (by decide) ?_
      refine y_ireturn dX8_has_17 rfl rfl ?_
      first | exact hQ0 (Or.inl h1) | exact hQ0 (Or.inr h9) | exact hQ1 h1 (Int32.not_le.mp h9)
    · refine y_iconst (v := 1) dX8_has_12 (by decide) ?_
      refine y_goto (tgt := 17) dX8_has_13 (by decide) ?_
      refine y_ireturn dX8_has_17 rfl rfl ?_
      first | exact hQ0 (Or.inl h1) | exact hQ0 (Or.inr h9) | exact hQ1 h1 (Int32.not_le.mp h9)
set_option maxHeartbeats 1000000 in
theorem c_X8_renew {L : Nat} {xs : Nat → Int32} {d : Nat} {m : sM} {n : sN} {Q : sQ} {W0 q : Nat} {v : Int32} (hW : isRw W0) (hv : v = nI q) (hq : q ≤ 40) (hQ : ∀ m', (∀ a, a ≠ W0 → a ≠ W0 + 1 → m' a = m a) → m' W0 1 = nI q → (∀ i, i < q → m' (W0 + 1) i = 0) → (∀ i, q ≤ i → m' (W0 + 1) i = m (W0 + 1) i) → Q none m' n) : sRun (scT L xs) (d + 1) yX8_renew cX8_renew 3 none [.ref W0, .int v] m n Q := by
  subst hv
  refine y_run (own := "LoafFall$Row") rfl (by decide +kernel) (Nat.le_of_ble_eq_true rfl) rfl ?_
  refine y_aload_n dX8_renew_0 rfl rfl ?_
  refine y_iconst (v := 0) dX8_renew_1 (by decide) ?_
  refine y_iload_n dX8_renew_2 rfl rfl ?_
  refine y_bipush (v := 40) dX8_renew_3 (by decide) ?_
  refine y_mmin dX8_renew_5 mm_X8_19 (Nat.le_of_ble_eq_true rfl) ?_
  refine y_mmax dX8_renew_8 mm_X8_25 (Nat.le_of_ble_eq_true rfl) ?_
  rw [show (40 : Int32) = nI 40 from rfl, cap40 hq (by omega)]
  refine y_puti dX8_renew_11 pf_X8_15 hW.1 rfl rfl rfl ?_
  refine y_iconst (v := 0) dX8_renew_14 (by decide) ?_
  refine y_ist3_2 dX8_renew_15 rfl ?_
  refine cnt (P := fun k => ∀ m' : sM, (∀ a, a ≠ W0 → a ≠ W0 + 1 → m' a = m a) → m' W0 1 = nI q → (∀ i, i < k → m' (W0 + 1) i = 0) → (∀ i, k ≤ i → m' (W0 + 1) i = m (W0 + 1) i) → sV (scT L xs) d "LoafFall$Row" cX8_renew 3 none Q 16 [some (.ref W0), some (.int (nI q)), some (.int (nI k))] [] m' n) q ?_ ?_ 0 (by omega) _ (fun a ha hb => s_upN ha) (by rw [s_upS, updS]) (fun i hi => absurd hi (by omega)) (fun i hi => by rw [s_upN (by omega)])
  · intro m' h1 h2 h3 h4
    refine y_iload_n dX8_renew_16 rfl rfl ?_
    refine y_aload_n dX8_renew_17 rfl rfl ?_
    refine y_geti dX8_renew_18 gf_X8_15 hW.1 rfl ?_
    rw [h2]
    refine y_icmp_ge (tgt := 37) dX8_renew_21 (by decide) (fun h21 => ?_) (fun h21 => absurd (nI_le (a := q) (b := q) (Nat.le_refl _) (by omega)) h21)
    refine y_return dX8_renew_37 rfl ?_
    exact hQ _ h1 h2 h3 h4
  · intro k hk hP
    intro m' h1 h2 h3 h4
    refine y_iload_n dX8_renew_16 rfl rfl ?_
    refine y_aload_n dX8_renew_17 rfl rfl ?_
    refine y_geti dX8_renew_18 gf_X8_15 hW.1 rfl ?_
    rw [h2]
    refine y_icmp_ge (tgt := 37) dX8_renew_21 (by decide) (fun h21 => absurd h21 (nI_ge (a := k) (b := q) hk (by omega))) (fun h21 => ?_)
    refine y_aload_n dX8_renew_24 rfl rfl ?_
    refine y_getr dX8_renew_25 gf_X8_9 hW.1 rfl ?_
    refine y_iload_n dX8_renew_28 rfl rfl ?_
    refine y_iconst (v := 0) dX8_renew_29 (by decide) ?_
    refine y_iastN dX8_renew_30 hW.2 rfl (by first | omega | decide) (by decide) ?_
    refine y_iinc3_2 dX8_renew_31 (nI_1 _) rfl ?_
    refine y_goto (tgt := 16) dX8_renew_34 (by decide) ?_
    refine hP _ (fun a ha hb => by rw [s_upN hb]; exact h1 a ha hb) (by rw [s_upN (by omega)]; exact h2) (fun i hi => ?_) (fun i hi => ?_)
    · rw [s_upS]
      by_cases e : i = k
      · rw [e, updS]
      · rw [updN e]; exact h3 i (by omega)
    · rw [s_upS, updN (by omega)]
      exact h4 i (by omega)
set_option maxHeartbeats 1000000 in
theorem c_X10_isThere {L : Nat} {xs : Nat → Int32} {d : Nat} {m : sM} {n : sN} {Q : sQ} {W0 : Nat} (hW : isTx W0) (hQ1 : ¬ m W0 1 = -1 → Q (some (.int 1)) m n) (hQ0 : m W0 1 = -1 → Q (some (.int 0)) m n) : sRun (scT L xs) (d + 1) yX10_isThere cX10_isThere 1 (some .boolean) [.ref W0] m n Q := by
  refine y_run (own := "LoafFall$Text") rfl (by decide +kernel) (Nat.le_of_ble_eq_true rfl) rfl ?_
  refine y_aload_n dX10_isThere_0 rfl rfl ?_
  refine y_geti dX10_isThere_1 gf_X10_15 hW.1 rfl ?_
  refine y_iconst (v := -1) dX10_isThere_4 (by decide) ?_
  refine y_icmp_eq (tgt := 12) dX10_isThere_5 (by decide) (fun h5 => ?_) (fun h5 => ?_)
  · refine y_iconst (v := 0) dX10_isThere_12 (by decide) ?_
    refine y_ireturn dX10_isThere_13 rfl rfl ?_
    first | exact hQ1 h5 | exact hQ0 h5
  · refine y_iconst (v := 1) dX10_isThere_8 (by decide) ?_
    refine y_goto (tgt := 13) dX10_isThere_9 (by decide) ?_
    refine y_ireturn dX10_isThere_13 rfl rfl ?_
    first | exact hQ1 h5 | exact hQ0 h5
set_option maxHeartbeats 1000000 in
theorem c_X10_has {L : Nat} {xs : Nat → Int32} {d : Nat} {m : sM} {n : sN} {Q : sQ} {W0 : Nat} {i : Int32} (hW : isTx W0) (hQ1 : ¬ i < 0 → i < m W0 1 → Q (some (.int 1)) m n) (hQ0 : (i < 0 ∨ m W0 1 ≤ i) → Q (some (.int 0)) m n) : sRun (scT L xs) (d + 1) yX10_has cX10_has 2 (some .boolean) [.ref W0, .int i] m n Q := by
  refine y_run (own := "LoafFall$Text") rfl (by decide +kernel) (Nat.le_of_ble_eq_true rfl) rfl ?_
  refine y_iload_n dX10_has_0 rfl rfl ?_
  refine y_if_lt (tgt := 16) dX10_has_1 (by decide) (fun h1 => ?_) (fun h1 => ?_)
  · refine y_iconst (v := 0) dX10_has_16 (by decide) ?_
    refine y_ireturn dX10_has_17 rfl rfl ?_
    first | exact hQ0 (Or.inl h1) | exact hQ0 (Or.inr h9) | exact hQ1 h1 (Int32.not_le.mp h9)
  · refine y_iload_n dX10_has_4 rfl rfl ?_
    refine y_aload_n dX10_has_5 rfl rfl ?_
    refine y_geti dX10_has_6 gf_X10_15 hW.1 rfl ?_
    refine y_icmp_ge (tgt := 16) dX10_has_9 (by decide) (fun h9 => ?_) (fun h9 => ?_)
    · refine y_iconst (v := 0) dX10_has_16 (by decide) ?_
      refine y_ireturn dX10_has_17 rfl rfl ?_
      first | exact hQ0 (Or.inl h1) | exact hQ0 (Or.inr h9) | exact hQ1 h1 (Int32.not_le.mp h9)
    · refine y_iconst (v := 1) dX10_has_12 (by decide) ?_
      refine y_goto (tgt := 17) dX10_has_13 (by decide) ?_
      refine y_ireturn dX10_has_17 rfl rfl ?_
      first | exact hQ0 (Or.inl h1) | exact hQ0 (Or.inr h9) | exact hQ1 h1 (Int32.not_le.mp h9)
set_option maxHeartbeats 1000000 in
theorem c_X10_renew {L : Nat} {xs : Nat → Int32} {d : Nat} {m : sM} {n : sN} {Q : sQ} {W0 q : Nat} {v : Int32} (hW : isTx W0) (hv : v = nI q) (hq : q ≤ 80) (hQ : ∀ m', (∀ a, a ≠ W0 → a ≠ W0 + 1 → m' a = m a) → m' W0 1 = nI q → (∀ i, i < q → m' (W0 + 1) i = 32) → (∀ i, q ≤ i → m' (W0 + 1) i = m (W0 + 1) i) → Q none m' n) : sRun (scT L xs) (d + 1) yX10_renew cX10_renew 3 none [.ref W0, .int v] m n Q := by
  subst hv
  refine y_run (own := "LoafFall$Text") rfl (by decide +kernel) (Nat.le_of_ble_eq_true rfl) rfl ?_
  refine y_aload_n dX10_renew_0 rfl rfl ?_
  refine y_iconst (v := 0) dX10_renew_1 (by decide) ?_
  refine y_iload_n dX10_renew_2 rfl rfl ?_
  refine y_bipush (v := 80) dX10_renew_3 (by decide) ?_
  refine y_mmin dX10_renew_5 mm_X10_19 (Nat.le_of_ble_eq_true rfl) ?_
  refine y_mmax dX10_renew_8 mm_X10_25 (Nat.le_of_ble_eq_true rfl) ?_
  rw [show (80 : Int32) = nI 80 from rfl, cap40 hq (by omega)]
  refine y_puti dX10_renew_11 pf_X10_15 hW.1 rfl rfl rfl ?_
  refine y_iconst (v := 0) dX10_renew_14 (by decide) ?_
  refine y_ist3_2 dX10_renew_15 rfl ?_
  refine cnt (P := fun k => ∀ m' : sM, (∀ a, a ≠ W0 → a ≠ W0 + 1 → m' a = m a) → m' W0 1 = nI q → (∀ i, i < k → m' (W0 + 1) i = 32) → (∀ i, k ≤ i → m' (W0 + 1) i = m (W0 + 1) i) → sV (scT L xs) d "LoafFall$Text" cX10_renew 3 none Q 16 [some (.ref W0), some (.int (nI q)), some (.int (nI k))] [] m' n) q ?_ ?_ 0 (by omega) _ (fun a ha hb => s_upN ha) (by rw [s_upS, updS]) (fun i hi => absurd hi (by omega)) (fun i hi => by rw [s_upN (by omega)])
  · intro m' h1 h2 h3 h4
    refine y_iload_n dX10_renew_16 rfl rfl ?_
    refine y_aload_n dX10_renew_17 rfl rfl ?_
    refine y_geti dX10_renew_18 gf_X10_15 hW.1 rfl ?_
    rw [h2]
    refine y_icmp_ge (tgt := 38) dX10_renew_21 (by decide) (fun h21 => ?_) (fun h21 => absurd (nI_le (a := q) (b := q) (Nat.le_refl _) (by omega)) h21)
    refine y_return dX10_renew_38 rfl ?_
    exact hQ _ h1 h2 h3 h4
  · intro k hk hP
    intro m' h1 h2 h3 h4
    refine y_iload_n dX10_renew_16 rfl rfl ?_
    refine y_aload_n dX10_renew_17 rfl rfl ?_
    refine y_geti dX10_renew_18 gf_X10_15 hW.1 rfl ?_
    rw [h2]
    refine y_icmp_ge (tgt := 38) dX10_renew_21 (by decide) (fun h21 => absurd h21 (nI_ge (a := k) (b := q) hk (by omega))) (fun h21 => ?_)
    refine y_aload_n dX10_renew_24 rfl rfl ?_
    refine y_getr dX10_renew_25 gf_X10_9 hW.1 rfl ?_
    refine y_iload_n dX10_renew_28 rfl rfl ?_
    refine y_bipush (v := 32) dX10_renew_29 (by decide) ?_
    refine y_bastN dX10_renew_31 hW.2 rfl (by first | omega | decide) (by decide) rfl ?_
    refine y_iinc3_2 dX10_renew_32 (nI_1 _) rfl ?_
    refine y_goto (tgt := 16) dX10_renew_35 (by decide) ?_
    refine hP _ (fun a ha hb => by rw [s_upN hb]; exact h1 a ha hb) (by rw [s_upN (by omega)]; exact h2) (fun i hi => ?_) (fun i hi => ?_)
    · rw [s_upS]
      by_cases e : i = k
      · rw [e, updS]
      · rw [updN e]; exact h3 i (by omega)
    · rw [s_upS, updN (by omega)]
      exact h4 i (by omega)
set_option maxHeartbeats 1000000 in
theorem c_X8_hasSpan {L : Nat} {xs : Nat → Int32} {d : Nat} {m : sM} {n : sN} {Q : sQ} {W0 : Nat} {i q : Int32} (hW : isRw W0) (hQ1 : ¬ i < 0 → ¬ q < 0 → q ≤ m W0 1 → i ≤ m W0 1 - q → Q (some (.int 1)) m n) (hQ0 : (i < 0 ∨ q < 0 ∨ m W0 1 < q ∨ m W0 1 - q < i) → Q (some (.int 0)) m n) : sRun (scT L xs) (d + 1) yX8_hasSpan cX8_hasSpan 3 (some .boolean) [.ref W0, .int i, .int q] m n Q := by
  refine y_run (own := "LoafFall$Row") rfl (by decide +kernel) (Nat.le_of_ble_eq_true rfl) rfl ?_
  refine y_iload_n dX8_hasSpan_0 rfl rfl ?_
  refine y_if_lt (tgt := 30) dX8_hasSpan_1 (by decide) (fun h1 => ?_) (fun h1 => ?_)
  · refine y_iconst (v := 0) dX8_hasSpan_30 (by decide) ?_
    refine y_ireturn dX8_hasSpan_31 rfl rfl ?_
    first
      | exact hQ0 (Or.inl h1)
      | exact hQ0 (Or.inr (Or.inl h5))
      | exact hQ0 (Or.inr (Or.inr (Or.inl h13)))
      | exact hQ0 (Or.inr (Or.inr (Or.inr h23)))
      | exact hQ1 h1 h5 (Int32.not_lt.mp h13) (Int32.not_lt.mp h23)
      | exact hQ0 (Or.inr (Or.inr (Or.inl (Int32.not_le.mp h13))))
      | exact hQ0 (Or.inr (Or.inr (Or.inr (Int32.not_le.mp h23))))
  · refine y_iload_n dX8_hasSpan_4 rfl rfl ?_
    refine y_if_lt (tgt := 30) dX8_hasSpan_5 (by decide) (fun h5 => ?_) (fun h5 => ?_)
    · refine y_iconst (v := 0) dX8_hasSpan_30 (by decide) ?_
      refine y_ireturn dX8_hasSpan_31 rfl rfl ?_
      first
        | exact hQ0 (Or.inl h1)
        | exact hQ0 (Or.inr (Or.inl h5))
        | exact hQ0 (Or.inr (Or.inr (Or.inl h13)))
        | exact hQ0 (Or.inr (Or.inr (Or.inr h23)))
        | exact hQ1 h1 h5 (Int32.not_lt.mp h13) (Int32.not_lt.mp h23)
        | exact hQ0 (Or.inr (Or.inr (Or.inl (Int32.not_le.mp h13))))
        | exact hQ0 (Or.inr (Or.inr (Or.inr (Int32.not_le.mp h23))))
    · refine y_iload_n dX8_hasSpan_8 rfl rfl ?_
      refine y_aload_n dX8_hasSpan_9 rfl rfl ?_
      refine y_geti dX8_hasSpan_10 gf_X8_15 hW.1 rfl ?_
      refine y_icmp_gt (tgt := 30) dX8_hasSpan_13 (by decide) (fun h13 => ?_) (fun h13 => ?_)
      · refine y_iconst (v := 0) dX8_hasSpan_30 (by decide) ?_
        refine y_ireturn dX8_hasSpan_31 rfl rfl ?_
        first
          | exact hQ0 (Or.inl h1)
          | exact hQ0 (Or.inr (Or.inl h5))
          | exact hQ0 (Or.inr (Or.inr (Or.inl h13)))
          | exact hQ0 (Or.inr (Or.inr (Or.inr h23)))
          | exact hQ1 h1 h5 (Int32.not_lt.mp h13) (Int32.not_lt.mp h23)
          | exact hQ0 (Or.inr (Or.inr (Or.inl (Int32.not_le.mp h13))))
          | exact hQ0 (Or.inr (Or.inr (Or.inr (Int32.not_le.mp h23))))
      · refine y_iload_n dX8_hasSpan_16 rfl rfl ?_
        refine y_aload_n dX8_hasSpan_17 rfl rfl ?_
        refine y_geti dX8_hasSpan_18 gf_X8_15 hW.1 rfl ?_
        refine y_iload_n dX8_hasSpan_21 rfl rfl ?_
        refine y_isub dX8_hasSpan_22 ?_
        refine y_icmp_gt (tgt := 30) dX8_hasSpan_23 (by decide) (fun h23 => ?_) (fun h23 => ?_)
        · refine y_iconst (v := 0) dX8_hasSpan_30 (by decide) ?_
          refine y_ireturn dX8_hasSpan_31 rfl rfl ?_
          first
            | exact hQ0 (Or.inl h1)
            | exact hQ0 (Or.inr (Or.inl h5))
            | exact hQ0 (Or.inr (Or.inr (Or.inl h13)))
            | exact hQ0 (Or.inr (Or.inr (Or.inr h23)))
            | exact hQ1 h1 h5 (Int32.not_lt.mp h13) (Int32.not_lt.mp h23)
            | exact hQ0 (Or.inr (Or.inr (Or.inl (Int32.not_le.mp h13))))
            | exact hQ0 (Or.inr (Or.inr (Or.inr (Int32.not_le.mp h23))))
        · refine y_iconst (v := 1) dX8_hasSpan_26 (by decide) ?_
          refine y_goto (tgt := 31) dX8_hasSpan_27 (by decide) ?_
          refine y_ireturn dX8_hasSpan_31 rfl rfl ?_
          first
            | exact hQ0 (Or.inl h1)
            | exact hQ0 (Or.inr (Or.inl h5))
            | exact hQ0 (Or.inr (Or.inr (Or.inl h13)))
            | exact hQ0 (Or.inr (Or.inr (Or.inr h23)))
            | exact hQ1 h1 h5 (Int32.not_lt.mp h13) (Int32.not_lt.mp h23)
            | exact hQ0 (Or.inr (Or.inr (Or.inl (Int32.not_le.mp h13))))
            | exact hQ0 (Or.inr (Or.inr (Or.inr (Int32.not_le.mp h23))))
set_option maxHeartbeats 1000000 in
theorem c_X10_signAt {L : Nat} {xs : Nat → Int32} {d : Nat} {m : sM} {n : sN} {Q : sQ} {W0 s i : Nat} {i0 : Int32} (hW : isTx W0) (hs : m W0 1 = nI s) (hs2 : s ≤ 80) (hi0 : i0 = nI i) (hi : i < 1000) (hQ : Q (some (.int (sgA m W0 s i))) m n) : sRun (scT L xs) (d + 1) yX10_signAt cX10_signAt 2 (some .int) [.ref W0, .int i0] m n Q := by
  subst hi0
  refine y_run (own := "LoafFall$Text") rfl (by decide +kernel) (Nat.le_of_ble_eq_true rfl) rfl ?_
  refine y_iload_n dX10_signAt_0 rfl rfl ?_
  refine y_if_lt (tgt := 21) dX10_signAt_1 (by decide) (fun h1 => absurd h1 (nI_pos (n := i) (by omega))) (fun h1 => ?_)
  refine y_iload_n dX10_signAt_4 rfl rfl ?_
  refine y_aload_n dX10_signAt_5 rfl rfl ?_
  refine y_geti dX10_signAt_6 gf_X10_15 hW.1 rfl ?_
  rw [hs]
  refine y_icmp_ge (tgt := 21) dX10_signAt_9 (by decide) (fun h9 => ?_) (fun h9 => ?_)
  · refine y_sipush (v := 1000) dX10_signAt_21 (by decide) ?_
    refine y_ireturn dX10_signAt_24 rfl rfl ?_
    unfold sgA at hQ
    first
      | (rw [if_pos hlt] at hQ; exact hQ)
      | (rw [if_neg (by have := (nI_leI (a := s) (b := i) (by omega) (by omega)).mp h9; omega)] at hQ; exact hQ)
  · have hlt : i < s := by
      by_cases z : i < s
      · exact z
      · exact absurd (nI_le (by omega) (by omega)) h9
    refine y_aload_n dX10_signAt_12 rfl rfl ?_
    refine y_getr dX10_signAt_13 gf_X10_9 hW.1 rfl ?_
    refine y_iload_n dX10_signAt_16 rfl rfl ?_
    refine y_baldN dX10_signAt_17 hW.2 rfl (by first | omega | decide) (by decide) ?_
    refine y_goto (tgt := 24) dX10_signAt_18 (by decide) ?_
    refine y_ireturn dX10_signAt_24 rfl rfl ?_
    unfold sgA at hQ
    first
      | (rw [if_pos hlt] at hQ; exact hQ)
      | (rw [if_neg (by have := (nI_leI (a := s) (b := i) (by omega) (by omega)).mp h9; omega)] at hQ; exact hQ)
set_option maxHeartbeats 1000000 in
theorem c_X10_isFigure {L : Nat} {xs : Nat → Int32} {d : Nat} {m : sM} {n : sN} {Q : sQ} {W0 s i : Nat} {i0 : Int32} (hW : isTx W0) (hs : m W0 1 = nI s) (hs2 : s ≤ 80) (hi0 : i0 = nI i) (hi : i < 1000) (hQ1 : isFig (sgA m W0 s i) → Q (some (.int 1)) m n) (hQ0 : ¬ isFig (sgA m W0 s i) → Q (some (.int 0)) m n) : sRun (scT L xs) (d + 2) yX10_isFigure cX10_isFigure 3 (some .boolean) [.ref W0, .int i0] m n Q := by
  subst hi0
  refine y_run (own := "LoafFall$Text") rfl (by decide +kernel) (Nat.le_of_ble_eq_true rfl) rfl ?_
  refine y_aload_n dX10_isFigure_0 rfl rfl ?_
  refine y_iload_n dX10_isFigure_1 rfl rfl ?_
  refine y_ivI1 dX10_isFigure_2 mv_X10_28 my_X10_signAt (Or.inl rfl) hW.1 ?_
  refine c_X10_signAt (i := i) hW hs hs2 rfl hi ⟨_, rfl, ?_⟩
  refine y_ist3_2 dX10_isFigure_5 rfl ?_
  refine y_iload_n dX10_isFigure_6 rfl rfl ?_
  refine y_bipush (v := 48) dX10_isFigure_7 (by decide) ?_
  refine y_icmp_lt (tgt := 22) dX10_isFigure_9 (by decide) (fun h9 => ?_) (fun h9 => ?_)
  · refine y_iconst (v := 0) dX10_isFigure_22 (by decide) ?_
    refine y_ireturn dX10_isFigure_23 rfl rfl ?_
    first
      | exact hQ0 (fun z => absurd h9 (Int32.not_lt.mpr z.1))
      | exact hQ0 (fun z => absurd h15 (Int32.not_lt.mpr z.2))
      | exact hQ0 (fun z => h15 z.2)
      | exact hQ1 ⟨Int32.not_lt.mp h9, Int32.not_lt.mp h15⟩
      | exact hQ1 ⟨Int32.not_lt.mp h9, h15⟩
  · refine y_iload_n dX10_isFigure_12 rfl rfl ?_
    refine y_bipush (v := 57) dX10_isFigure_13 (by decide) ?_
    refine y_icmp_gt (tgt := 22) dX10_isFigure_15 (by decide) (fun h15 => ?_) (fun h15 => ?_)
    · refine y_iconst (v := 0) dX10_isFigure_22 (by decide) ?_
      refine y_ireturn dX10_isFigure_23 rfl rfl ?_
      first
        | exact hQ0 (fun z => absurd h9 (Int32.not_lt.mpr z.1))
        | exact hQ0 (fun z => absurd h15 (Int32.not_lt.mpr z.2))
        | exact hQ0 (fun z => h15 z.2)
        | exact hQ1 ⟨Int32.not_lt.mp h9, Int32.not_lt.mp h15⟩
        | exact hQ1 ⟨Int32.not_lt.mp h9, h15⟩
    · refine y_iconst (v := 1) dX10_isFigure_18 (by decide) ?_
      refine y_goto (tgt := 23) dX10_isFigure_19 (by decide) ?_
      refine y_ireturn dX10_isFigure_23 rfl rfl ?_
      first
        | exact hQ0 (fun z => absurd h9 (Int32.not_lt.mpr z.1))
        | exact hQ0 (fun z => absurd h15 (Int32.not_lt.mpr z.2))
        | exact hQ0 (fun z => h15 z.2)
        | exact hQ1 ⟨Int32.not_lt.mp h9, Int32.not_lt.mp h15⟩
        | exact hQ1 ⟨Int32.not_lt.mp h9, h15⟩
set_option maxHeartbeats 1000000 in
theorem c_X10_figuresFrom {L : Nat} {xs : Nat → Int32} {d : Nat} {m : sM} {n : sN} {Q : sQ} {W0 s i : Nat} {i0 : Int32} (hW : isTx W0) (hs : m W0 1 = nI s) (hs2 : s ≤ 80) (hi0 : i0 = nI i) (hi : i < 999) (hQ0 : ¬ isFig (sgA m W0 s i) → Q (some (.int 0)) m n) (hQ1 : isFig (sgA m W0 s i) → ¬ isFig (sgA m W0 s (i + 1)) → Q (some (.int 1)) m n) (hQ2 : isFig (sgA m W0 s i) → isFig (sgA m W0 s (i + 1)) → Q (some (.int 2)) m n) : sRun (scT L xs) (d + 3) yX10_figuresFrom cX10_figuresFrom 2 (some .int) [.ref W0, .int i0] m n Q := by
  subst hi0
  refine y_run (own := "LoafFall$Text") rfl (by decide +kernel) (Nat.le_of_ble_eq_true rfl) rfl ?_
  refine y_aload_n dX10_figuresFrom_0 rfl rfl ?_
  refine y_iload_n dX10_figuresFrom_1 rfl rfl ?_
  refine y_ivI1 dX10_figuresFrom_2 mv_X10_32 my_X10_isFigure (Or.inl rfl) hW.1 ?_
  refine c_X10_isFigure (i := i) hW hs hs2 rfl (by omega) (fun f1 => ⟨_, rfl, ?_⟩) (fun f1 => ⟨_, rfl, ?_⟩)
  · refine y_if_ne (tgt := 10) dX10_figuresFrom_5 (by decide) (fun h5 => ?_) (fun h5 => absurd h5 (by decide))
    refine y_aload_n dX10_figuresFrom_10 rfl rfl ?_
    refine y_iload_n dX10_figuresFrom_11 rfl rfl ?_
    refine y_iconst (v := 1) dX10_figuresFrom_12 (by decide) ?_
    refine y_iaddN (a := i) (b := 1) dX10_figuresFrom_13 rfl rfl ?_
    refine y_ivI1 dX10_figuresFrom_14 mv_X10_32 my_X10_isFigure (Or.inl rfl) hW.1 ?_
    refine c_X10_isFigure (i := i + 1) hW hs hs2 rfl (by omega) (fun f2 => ⟨_, rfl, ?_⟩) (fun f2 => ⟨_, rfl, ?_⟩)
    · refine y_if_eq (tgt := 24) dX10_figuresFrom_17 (by decide) (fun h17 => absurd h17 (by decide)) (fun h17 => ?_)
      refine y_iconst (v := 2) dX10_figuresFrom_20 (by decide) ?_
      refine y_goto (tgt := 25) dX10_figuresFrom_21 (by decide) ?_
      refine y_ireturn dX10_figuresFrom_25 rfl rfl ?_
      first | exact hQ0 f1 | exact hQ2 f1 f2 | exact hQ1 f1 f2
    · refine y_if_eq (tgt := 24) dX10_figuresFrom_17 (by decide) (fun h17 => ?_) (fun h17 => absurd (by decide) h17)
      refine y_iconst (v := 1) dX10_figuresFrom_24 (by decide) ?_
      refine y_ireturn dX10_figuresFrom_25 rfl rfl ?_
      first | exact hQ0 f1 | exact hQ2 f1 f2 | exact hQ1 f1 f2
  · refine y_if_ne (tgt := 10) dX10_figuresFrom_5 (by decide) (fun h5 => absurd (by decide) h5) (fun h5 => ?_)
    refine y_iconst (v := 0) dX10_figuresFrom_8 (by decide) ?_
    refine y_ireturn dX10_figuresFrom_9 rfl rfl ?_
    first | exact hQ0 f1 | exact hQ2 f1 f2 | exact hQ1 f1 f2
def numA (m : sM) (t s i : Nat) : Nat → Int32
  | 0 => 0
  | f + 1 => 10 * numA m t s i f + sgA m t s (i + f) - 48
set_option maxHeartbeats 1000000 in
theorem c_X10_numberFrom {L : Nat} {xs : Nat → Int32} {d : Nat} {m : sM} {n : sN} {Q : sQ} {W0 s i f : Nat} {i0 f0 : Int32} (hW : isTx W0) (hs : m W0 1 = nI s) (hs2 : s ≤ 80) (hi0 : i0 = nI i) (hi : i < 900) (hf0 : f0 = nI f) (hf : f ≤ 10) (hQ : Q (some (.int (numA m W0 s i f))) m n) : sRun (scT L xs) (d + 2) yX10_numberFrom cX10_numberFrom 5 (some .int) [.ref W0, .int i0, .int f0] m n Q := by
  subst hi0
  subst hf0
  refine y_run (own := "LoafFall$Text") rfl (by decide +kernel) (Nat.le_of_ble_eq_true rfl) rfl ?_
  refine y_iconst (v := 0) dX10_numberFrom_0 (by decide) ?_
  refine y_ist5_3 dX10_numberFrom_1 rfl ?_
  refine y_iconst (v := 0) dX10_numberFrom_2 (by decide) ?_
  refine y_ist5_4 dX10_numberFrom_3 rfl ?_
  refine cnt (P := fun k => sV (scT L xs) (d + 1) "LoafFall$Text" cX10_numberFrom 5 (some .int) Q 5 [some (.ref W0), some (.int (nI i)), some (.int (nI f)), some (.int (numA m W0 s i k)), some (.int (nI k))] [] m n) f ?_ ?_ 0 (by omega)
  · refine y_iload dX10_numberFrom_5 rfl ?_
    refine y_iload_n dX10_numberFrom_7 rfl rfl ?_
    refine y_icmp_ge (tgt := 34) dX10_numberFrom_8 (by decide) (fun h8 => ?_) (fun h8 => absurd (nI_le (a := f) (b := f) (Nat.le_refl _) (by omega)) h8)
    refine y_iload_n dX10_numberFrom_34 rfl rfl ?_
    refine y_ireturn dX10_numberFrom_35 rfl rfl ?_
    exact hQ
  · intro k hk hP
    refine y_iload dX10_numberFrom_5 rfl ?_
    refine y_iload_n dX10_numberFrom_7 rfl rfl ?_
    refine y_icmp_ge (tgt := 34) dX10_numberFrom_8 (by decide) (fun h8 => absurd h8 (nI_ge (a := k) (b := f) hk (by omega))) (fun h8 => ?_)
    refine y_bipush (v := 10) dX10_numberFrom_11 (by decide) ?_
    refine y_iload_n dX10_numberFrom_13 rfl rfl ?_
    refine y_imul dX10_numberFrom_14 ?_
    refine y_aload_n dX10_numberFrom_15 rfl rfl ?_
    refine y_iload_n dX10_numberFrom_16 rfl rfl ?_
    refine y_iload dX10_numberFrom_17 rfl ?_
    refine y_iaddN (a := i) (b := k) dX10_numberFrom_19 rfl rfl ?_
    refine y_ivI1 dX10_numberFrom_20 mv_X10_28 my_X10_signAt (Or.inl rfl) hW.1 ?_
    refine c_X10_signAt (i := i + k) hW hs hs2 rfl (by omega) ⟨_, rfl, ?_⟩
    refine y_iadd dX10_numberFrom_23 ?_
    refine y_bipush (v := 48) dX10_numberFrom_24 (by decide) ?_
    refine y_isub dX10_numberFrom_26 ?_
    refine y_ist5_3 dX10_numberFrom_27 rfl ?_
    refine y_iinc5_4 dX10_numberFrom_28 (nI_1 _) rfl ?_
    refine y_goto (tgt := 5) dX10_numberFrom_31 (by decide) ?_
    exact hP
