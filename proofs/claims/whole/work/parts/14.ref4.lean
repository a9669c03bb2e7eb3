/-! what is read off a row -/
def hgt (R : Nat → Int32) : Nat → Int32
  | 0 => 0
  | y + 1 => hgt R y + (10 + (R (41 + 5 * (2 * y) + 0) + R (41 + 5 * (2 * y + 1) + 0)) / 20 - 3 * (R (41 + 5 * (2 * y) + 4) + R (41 + 5 * (2 * y + 1) + 4)))
def tornS (R : Nat → Int32) : Nat → Int32
  | 0 => 0
  | k + 1 => tornS R k + R (41 + 5 * k + 4)
def doneS (R : Nat → Int32) : Nat → Int32
  | 0 => 0
  | k + 1 => doneS R k + (if R (41 + 5 * k + 4) = 0 ∧ 50 ≤ R (41 + 5 * k + 3) then 1 else 0)
def worthF (R : Nat → Int32) : Int32 := gtr 0 (hgt R 12 + doneS R 24 - 5 * tornS R 24)
def cutF (R : Nat → Int32) (k : Nat) : Int32 := if R (41 + 5 * k + 4) = 1 then 1 else if R (41 + 5 * k + 3) < 50 then 2 else 0
theorem begins_low {p : Nat} {R : Nat → Int32} (h : p < 36) : beginsF R p = R p := by
  unfold beginsF
  rw [foldR_low (fun k R' hk => by unfold freshC; rw [updN (by omega), updN (by omega)]) _ 24 (Nat.le_refl _)]
  unfold zr
  rw [if_neg (by omega)]
theorem begins_0 {p : Nat} {R : Nat → Int32} (h : 36 ≤ p) (h2 : p < 41) : beginsF R p = 0 := by
  unfold beginsF
  rw [foldR_low (fun k R' hk => by unfold freshC; rw [updN (by omega), updN (by omega)]) _ 24 (Nat.le_refl _)]
  unfold zr
  rw [if_pos (by omega)]
theorem begins_4 {k : Nat} {R : Nat → Int32} (h : k < 24) : beginsF R (41 + 5 * k + 4) = 0 := by
  unfold beginsF
  rw [foldR_low (fun j R' hj => by unfold freshC; rw [updN (by omega), updN (by omega)]) _ 24 (Nat.le_refl _)]
  unfold zr
  rw [if_pos (by omega)]
theorem tornN_0 {R : Nat → Int32} (h : ∀ j, j < 24 → R (41 + 5 * j + 4) = 0) : ∀ k, k ≤ 24 → tornN R k = 0 := by
  intro k
  induction k with
  | zero => intro _; rfl
  | succ k ih =>
    intro hk
    unfold tornN
    rw [ih (by omega), h k (by omega), if_pos rfl]
theorem wf_begins (R : Nat → Int32) : wfR (beginsF R) := by
  unfold wfR
  rw [begins_0 (by omega) (by omega), tornN_0 (fun j hj => begins_4 hj) 24 (Nat.le_refl _)]
  exact nI_0.symm
theorem wfA_begins {R : Nat → Int32} {c : Nat} (h : R 5 = nI c) (hc : c ≤ 10) : wfA (beginsF R) := (wfA_mk (a := 0) (c := c) (by rw [begins_0 (by omega) (by omega)]; exact nI_0.symm) (by rw [begins_low (by omega)]; exact h) (Nat.zero_le _) hc).1
theorem rsum_congr {R R' : Nat → Int32} (h : ∀ p, p < 36 → R' p = R p) : ∀ k, k ≤ 10 → rsum R' k = rsum R k := by
  intro k
  induction k with
  | zero => intro _; rfl
  | succ k ih =>
    intro hk
    unfold rsum
    rw [ih (by omega), h _ (by omega)]
/-- baked: T all turns of its steps -/
def bakesF (T : Nat) (R : Nat → Int32) : Nat → Int32 := goesF (T + 6) (beginsF R)

set_option maxHeartbeats 1000000 in
theorem c_X12_heightNow {L : Nat} {xs : Nat → Int32} {d : Nat} {m : sM} {n : sN} {Q : sQ} {b : Nat} {R h : Nat → Int32} (hb : bAt m b) (hQ : Q (some (.int (hgt R 12))) (stR m h b R) n) : sRun (scT L xs) (d + 3) yX12_heightNow cX12_heightNow 3 (some .int) [.ref 239] (stR m h b R) n Q := by
  refine y_run (own := "LoafFallModel") rfl (by decide +kernel) (Nat.le_of_ble_eq_true rfl) rfl ?_
  refine y_iconst (v := 0) dX12_heightNow_0 (by decide) ?_
  refine y_ist3_1 dX12_heightNow_1 rfl ?_
  refine y_iconst (v := 0) dX12_heightNow_2 (by decide) ?_
  refine y_ist3_2 dX12_heightNow_3 rfl ?_
  refine cnt (P := fun k => sV (scT L xs) (d + 2) "LoafFallModel" cX12_heightNow 3 (some .int) Q 4 [some (.ref 239), some (.int (hgt R k)), some (.int (nI k))] [] (stR m h b R) n) 12 ?_ ?_ 0 (by omega)
  · refine y_iload_n dX12_heightNow_4 rfl rfl ?_
    refine y_bipush (v := 12) dX12_heightNow_5 (by decide) ?_
    refine y_icmp_ge (tgt := 66) dX12_heightNow_7 (by decide) (fun h7 => ?_) (fun h7 => absurd (nI_le (a := 12) (b := 12) (Nat.le_refl _) (by decide)) h7)
    refine y_iload_n dX12_heightNow_66 rfl rfl ?_
    refine y_ireturn dX12_heightNow_67 rfl rfl ?_
    exact hQ
  · intro k hk hP
    refine y_iload_n dX12_heightNow_4 rfl rfl ?_
    refine y_bipush (v := 12) dX12_heightNow_5 (by decide) ?_
    refine y_icmp_ge (tgt := 66) dX12_heightNow_7 (by decide) (fun h7 => absurd h7 (nI_ge (a := k) (b := 12) hk (by decide))) (fun h7 => ?_)
    refine y_iload_n dX12_heightNow_10 rfl rfl ?_
    refine y_bipush (v := 10) dX12_heightNow_11 (by decide) ?_
    refine y_aload_n dX12_heightNow_13 rfl rfl ?_
    refine y_iconst (v := 2) dX12_heightNow_14 (by decide) ?_
    refine y_iload_n dX12_heightNow_15 rfl rfl ?_
    refine y_imulN (a := 2) (b := k) dX12_heightNow_16 rfl rfl ?_
    refine y_iconst (v := 0) dX12_heightNow_17 (by decide) ?_
    refine y_ivI2 dX12_heightNow_18 mv_X12_191 my_X12_c (Or.inl rfl) sh_239 ?_
    refine c_X12_c hb (k := 2 * k) (j := 0) rfl rfl (by omega) ⟨_, rfl, ?_⟩
    refine y_aload_n dX12_heightNow_21 rfl rfl ?_
    refine y_iconst (v := 2) dX12_heightNow_22 (by decide) ?_
    refine y_iload_n dX12_heightNow_23 rfl rfl ?_
    refine y_imulN (a := 2) (b := k) dX12_heightNow_24 rfl rfl ?_
    refine y_iconst (v := 1) dX12_heightNow_25 (by decide) ?_
    refine y_iaddN (a := 2 * k) (b := 1) dX12_heightNow_26 rfl rfl ?_
    refine y_iconst (v := 0) dX12_heightNow_27 (by decide) ?_
    refine y_ivI2 dX12_heightNow_28 mv_X12_191 my_X12_c (Or.inl rfl) sh_239 ?_
    refine c_X12_c hb (k := 2 * k + 1) (j := 0) rfl rfl (by omega) ⟨_, rfl, ?_⟩
    refine y_iadd dX12_heightNow_31 ?_
    refine y_bipush (v := 20) dX12_heightNow_32 (by decide) ?_
    refine y_idiv dX12_heightNow_34 (by decide) ?_
    refine y_iadd dX12_heightNow_35 ?_
    refine y_iconst (v := 3) dX12_heightNow_36 (by decide) ?_
    refine y_aload_n dX12_heightNow_37 rfl rfl ?_
    refine y_iconst (v := 2) dX12_heightNow_38 (by decide) ?_
    refine y_iload_n dX12_heightNow_39 rfl rfl ?_
    refine y_imulN (a := 2) (b := k) dX12_heightNow_40 rfl rfl ?_
    refine y_iconst (v := 4) dX12_heightNow_41 (by decide) ?_
    refine y_ivI2 dX12_heightNow_42 mv_X12_191 my_X12_c (Or.inl rfl) sh_239 ?_
    refine c_X12_c hb (k := 2 * k) (j := 4) rfl rfl (by omega) ⟨_, rfl, ?_⟩
    refine y_aload_n dX12_heightNow_45 rfl rfl ?_
    refine y_iconst (v := 2) dX12_heightNow_46 (by decide) ?_
    refine y_iload_n dX12_heightNow_47 rfl rfl ?_
    refine y_imulN (a := 2) (b := k) dX12_heightNow_48 rfl rfl ?_
    refine y_iconst (v := 1) dX12_heightNow_49 (by decide) ?_
    refine y_iaddN (a := 2 * k) (b := 1) dX12_heightNow_50 rfl rfl ?_
    refine y_iconst (v := 4) dX12_heightNow_51 (by decide) ?_
    refine y_ivI2 dX12_heightNow_52 mv_X12_191 my_X12_c (Or.inl rfl) sh_239 ?_
    refine c_X12_c hb (k := 2 * k + 1) (j := 4) rfl rfl (by omega) ⟨_, rfl, ?_⟩
    refine y_iadd dX12_heightNow_55 ?_
    refine y_imul dX12_heightNow_56 ?_
    refine y_isub dX12_heightNow_57 ?_
    refine y_iadd dX12_heightNow_58 ?_
    refine y_ist3_1 dX12_heightNow_59 rfl ?_
    refine y_iinc3_2 dX12_heightNow_60 (nI_1 _) rfl ?_
    refine y_goto (tgt := 4) dX12_heightNow_63 (by decide) ?_
    exact hP
set_option maxHeartbeats 1000000 in
theorem c_X12_tornMany {L : Nat} {xs : Nat → Int32} {d : Nat} {m : sM} {n : sN} {Q : sQ} {b : Nat} {R h : Nat → Int32} (hb : bAt m b) (hQ : Q (some (.int (tornS R 24))) (stR m h b R) n) : sRun (scT L xs) (d + 3) yX12_tornMany cX12_tornMany 3 (some .int) [.ref 239] (stR m h b R) n Q := by
  refine y_run (own := "LoafFallModel") rfl (by decide +kernel) (Nat.le_of_ble_eq_true rfl) rfl ?_
  refine y_iconst (v := 0) dX12_tornMany_0 (by decide) ?_
  refine y_ist3_1 dX12_tornMany_1 rfl ?_
  refine y_iconst (v := 0) dX12_tornMany_2 (by decide) ?_
  refine y_ist3_2 dX12_tornMany_3 rfl ?_
  refine cnt (P := fun k => sV (scT L xs) (d + 2) "LoafFallModel" cX12_tornMany 3 (some .int) Q 4 [some (.ref 239), some (.int (tornS R k)), some (.int (nI k))] [] (stR m h b R) n) 24 ?_ ?_ 0 (by omega)
  · refine y_iload_n dX12_tornMany_4 rfl rfl ?_
    refine y_bipush (v := 24) dX12_tornMany_5 (by decide) ?_
    refine y_icmp_ge (tgt := 25) dX12_tornMany_7 (by decide) (fun h7 => ?_) (fun h7 => absurd (nI_le (a := 24) (b := 24) (Nat.le_refl _) (by decide)) h7)
    refine y_iload_n dX12_tornMany_25 rfl rfl ?_
    refine y_ireturn dX12_tornMany_26 rfl rfl ?_
    exact hQ
  · intro k hk hP
    refine y_iload_n dX12_tornMany_4 rfl rfl ?_
    refine y_bipush (v := 24) dX12_tornMany_5 (by decide) ?_
    refine y_icmp_ge (tgt := 25) dX12_tornMany_7 (by decide) (fun h7 => absurd h7 (nI_ge (a := k) (b := 24) hk (by decide))) (fun h7 => ?_)
    refine y_iload_n dX12_tornMany_10 rfl rfl ?_
    refine y_aload_n dX12_tornMany_11 rfl rfl ?_
    refine y_iload_n dX12_tornMany_12 rfl rfl ?_
    refine y_iconst (v := 4) dX12_tornMany_13 (by decide) ?_
    refine y_ivI2 dX12_tornMany_14 mv_X12_191 my_X12_c (Or.inl rfl) sh_239 ?_
    refine c_X12_c hb (k := k) (j := 4) rfl rfl (by omega) ⟨_, rfl, ?_⟩
    refine y_iadd dX12_tornMany_17 ?_
    refine y_ist3_1 dX12_tornMany_18 rfl ?_
    refine y_iinc3_2 dX12_tornMany_19 (nI_1 _) rfl ?_
    refine y_goto (tgt := 4) dX12_tornMany_22 (by decide) ?_
    exact hP
set_option maxHeartbeats 1000000 in
theorem c_X12_worthNow {L : Nat} {xs : Nat → Int32} {d : Nat} {m : sM} {n : sN} {Q : sQ} {b : Nat} {R h : Nat → Int32} (hb : bAt m b) (hQ : Q (some (.int (worthF R))) (stR m h b R) n) : sRun (scT L xs) (d + 4) yX12_worthNow cX12_worthNow 3 (some .int) [.ref 239] (stR m h b R) n Q := by
  refine y_run (own := "LoafFallModel") rfl (by decide +kernel) (Nat.le_of_ble_eq_true rfl) rfl ?_
  refine y_iconst (v := 0) dX12_worthNow_0 (by decide) ?_
  refine y_ist3_1 dX12_worthNow_1 rfl ?_
  refine y_iconst (v := 0) dX12_worthNow_2 (by decide) ?_
  refine y_ist3_2 dX12_worthNow_3 rfl ?_
  refine cnt (P := fun k => sV (scT L xs) (d + 3) "LoafFallModel" cX12_worthNow 3 (some .int) Q 4 [some (.ref 239), some (.int (doneS R k)), some (.int (nI k))] [] (stR m h b R) n) 24 ?_ ?_ 0 (by omega)
  · refine y_iload_n dX12_worthNow_4 rfl rfl ?_
    refine y_bipush (v := 24) dX12_worthNow_5 (by decide) ?_
    refine y_icmp_ge (tgt := 44) dX12_worthNow_7 (by decide) (fun h7 => ?_) (fun h7 => absurd (nI_le (a := 24) (b := 24) (Nat.le_refl _) (by decide)) h7)
    refine y_iconst (v := 0) dX12_worthNow_44 (by decide) ?_
    refine y_aload_n dX12_worthNow_45 rfl rfl ?_
    refine y_ivI0 dX12_worthNow_46 mv_X12_241 my_X12_heightNow (Or.inl rfl) sh_239 ?_
    refine c_X12_heightNow hb ⟨_, rfl, ?_⟩
    refine y_iload_n dX12_worthNow_49 rfl rfl ?_
    refine y_iadd dX12_worthNow_50 ?_
    refine y_iconst (v := 5) dX12_worthNow_51 (by decide) ?_
    refine y_aload_n dX12_worthNow_52 rfl rfl ?_
    refine y_ivI0 dX12_worthNow_53 mv_X12_244 my_X12_tornMany (Or.inl rfl) sh_239 ?_
    refine c_X12_tornMany hb ⟨_, rfl, ?_⟩
    refine y_imul dX12_worthNow_56 ?_
    refine y_isub dX12_worthNow_57 ?_
    refine y_isI2 dX12_worthNow_58 ms_X12_197 my_X12_greater (Or.inl rfl) ?_
    refine c_X12_greater ⟨_, rfl, ?_⟩
    refine y_ireturn dX12_worthNow_61 rfl rfl ?_
    exact hQ
  · intro k hk hP
    unfold doneS at hP
    refine y_iload_n dX12_worthNow_4 rfl rfl ?_
    refine y_bipush (v := 24) dX12_worthNow_5 (by decide) ?_
    refine y_icmp_ge (tgt := 44) dX12_worthNow_7 (by decide) (fun h7 => absurd h7 (nI_ge (a := k) (b := 24) hk (by decide))) (fun h7 => ?_)
    refine y_iload_n dX12_worthNow_10 rfl rfl ?_
    refine y_aload_n dX12_worthNow_11 rfl rfl ?_
    refine y_iload_n dX12_worthNow_12 rfl rfl ?_
    refine y_iconst (v := 4) dX12_worthNow_13 (by decide) ?_
    refine y_ivI2 dX12_worthNow_14 mv_X12_191 my_X12_c (Or.inl rfl) sh_239 ?_
    refine c_X12_c hb (k := k) (j := 4) rfl rfl (by omega) ⟨_, rfl, ?_⟩
    refine y_if_ne (tgt := 35) dX12_worthNow_17 (by decide) (fun h17 => ?_) (fun h17 => ?_)
    · refine y_iconst (v := 0) dX12_worthNow_35 (by decide) ?_
      refine y_iadd dX12_worthNow_36 ?_
      refine y_ist3_1 dX12_worthNow_37 rfl ?_
      refine y_iinc3_2 dX12_worthNow_38 (nI_1 _) rfl ?_
      refine y_goto (tgt := 4) dX12_worthNow_41 (by decide) ?_
      first
        | (rw [if_neg (fun q => absurd q.1 h17)] at hP; exact hP)
        | (rw [if_neg (fun q => absurd q.2 (Int32.not_le.mpr h28))] at hP; exact hP)
        | (rw [if_pos ⟨h17, Int32.not_lt.mp h28⟩] at hP; exact hP)
    · refine y_aload_n dX12_worthNow_20 rfl rfl ?_
      refine y_iload_n dX12_worthNow_21 rfl rfl ?_
      refine y_iconst (v := 3) dX12_worthNow_22 (by decide) ?_
      refine y_ivI2 dX12_worthNow_23 mv_X12_191 my_X12_c (Or.inl rfl) sh_239 ?_
      refine c_X12_c hb (k := k) (j := 3) rfl rfl (by omega) ⟨_, rfl, ?_⟩
      refine y_bipush (v := 50) dX12_worthNow_26 (by decide) ?_
      refine y_icmp_lt (tgt := 35) dX12_worthNow_28 (by decide) (fun h28 => ?_) (fun h28 => ?_)
      · refine y_iconst (v := 0) dX12_worthNow_35 (by decide) ?_
        refine y_iadd dX12_worthNow_36 ?_
        refine y_ist3_1 dX12_worthNow_37 rfl ?_
        refine y_iinc3_2 dX12_worthNow_38 (nI_1 _) rfl ?_
        refine y_goto (tgt := 4) dX12_worthNow_41 (by decide) ?_
        first
          | (rw [if_neg (fun q => absurd q.1 h17)] at hP; exact hP)
          | (rw [if_neg (fun q => absurd q.2 (Int32.not_le.mpr h28))] at hP; exact hP)
          | (rw [if_pos ⟨h17, Int32.not_lt.mp h28⟩] at hP; exact hP)
      · refine y_iconst (v := 1) dX12_worthNow_31 (by decide) ?_
        refine y_goto (tgt := 36) dX12_worthNow_32 (by decide) ?_
        refine y_iadd dX12_worthNow_36 ?_
        refine y_ist3_1 dX12_worthNow_37 rfl ?_
        refine y_iinc3_2 dX12_worthNow_38 (nI_1 _) rfl ?_
        refine y_goto (tgt := 4) dX12_worthNow_41 (by decide) ?_
        first
          | (rw [if_neg (fun q => absurd q.1 h17)] at hP; exact hP)
          | (rw [if_neg (fun q => absurd q.2 (Int32.not_le.mpr h28))] at hP; exact hP)
          | (rw [if_pos ⟨h17, Int32.not_lt.mp h28⟩] at hP; exact hP)
set_option maxHeartbeats 1000000 in
theorem c_X12_cutOf {L : Nat} {xs : Nat → Int32} {d : Nat} {m : sM} {n : sN} {Q : sQ} {b : Nat} {R h : Nat → Int32} (hb : bAt m b) {k : Nat} {x : Int32} (hx : x = nI k) (hk : k < 24) (hQ : Q (some (.int (cutF R k))) (stR m h b R) n) : sRun (scT L xs) (d + 3) yX12_cutOf cX12_cutOf 2 (some .int) [.ref 239, .int x] (stR m h b R) n Q := by
  subst hx
  unfold cutF at hQ
  refine y_run (own := "LoafFallModel") rfl (by decide +kernel) (Nat.le_of_ble_eq_true rfl) rfl ?_
  refine y_aload_n dX12_cutOf_0 rfl rfl ?_
  refine y_iload_n dX12_cutOf_1 rfl rfl ?_
  refine y_iconst (v := 4) dX12_cutOf_2 (by decide) ?_
  refine y_ivI2 dX12_cutOf_3 mv_X12_191 my_X12_c (Or.inl rfl) sh_239 ?_
  refine c_X12_c hb (k := k) (j := 4) rfl rfl (by omega) ⟨_, rfl, ?_⟩
  refine y_iconst (v := 1) dX12_cutOf_6 (by decide) ?_
  refine y_icmp_ne (tgt := 14) dX12_cutOf_7 (by decide) (fun h7 => ?_) (fun h7 => ?_)
  · refine y_aload_n dX12_cutOf_14 rfl rfl ?_
    refine y_iload_n dX12_cutOf_15 rfl rfl ?_
    refine y_iconst (v := 3) dX12_cutOf_16 (by decide) ?_
    refine y_ivI2 dX12_cutOf_17 mv_X12_191 my_X12_c (Or.inl rfl) sh_239 ?_
    refine c_X12_c hb (k := k) (j := 3) rfl rfl (by omega) ⟨_, rfl, ?_⟩
    refine y_bipush (v := 50) dX12_cutOf_20 (by decide) ?_
    refine y_icmp_ge (tgt := 29) dX12_cutOf_22 (by decide) (fun h22 => ?_) (fun h22 => ?_)
    · refine y_iconst (v := 0) dX12_cutOf_29 (by decide) ?_
      refine y_ireturn dX12_cutOf_30 rfl rfl ?_
      first
        | (rw [if_pos h7] at hQ; exact hQ)
        | (rw [if_neg h7, if_neg (Int32.not_lt.mpr h22)] at hQ; exact hQ)
        | (rw [if_neg h7, if_pos (Int32.not_le.mp h22)] at hQ; exact hQ)
    · refine y_iconst (v := 2) dX12_cutOf_25 (by decide) ?_
      refine y_goto (tgt := 30) dX12_cutOf_26 (by decide) ?_
      refine y_ireturn dX12_cutOf_30 rfl rfl ?_
      first
        | (rw [if_pos h7] at hQ; exact hQ)
        | (rw [if_neg h7, if_neg (Int32.not_lt.mpr h22)] at hQ; exact hQ)
        | (rw [if_neg h7, if_pos (Int32.not_le.mp h22)] at hQ; exact hQ)
  · refine y_iconst (v := 1) dX12_cutOf_10 (by decide) ?_
    refine y_goto (tgt := 30) dX12_cutOf_11 (by decide) ?_
    refine y_ireturn dX12_cutOf_30 rfl rfl ?_
    first
      | (rw [if_pos h7] at hQ; exact hQ)
      | (rw [if_neg h7, if_neg (Int32.not_lt.mpr h22)] at hQ; exact hQ)
      | (rw [if_neg h7, if_pos (Int32.not_le.mp h22)] at hQ; exact hQ)
set_option maxHeartbeats 1000000 in
theorem c_X12_bakes {L : Nat} {xs : Nat → Int32} {d : Nat} {m : sM} {n : sN} {Q : sQ} {b : Nat} {R h : Nat → Int32} (hb : bAt m b) {c T : Nat} (hc : R 5 = nI c) (hc2 : c ≤ 10) (hT : rsum R c = nI T) (hT2 : T ≤ 90) (hQ : ∀ h', Q none (stR m h' b (bakesF T R)) n) : sRun (scT L xs) (d + 8) yX12_bakes cX12_bakes 1 none [.ref 239] (stR m h b R) n Q := by
  refine y_run (own := "LoafFallModel") rfl (by decide +kernel) (Nat.le_of_ble_eq_true rfl) rfl ?_
  refine y_aload_n dX12_bakes_0 rfl rfl ?_
  refine y_ivV0 dX12_bakes_1 mv_X12_184 my_X12_begins (Or.inl rfl) sh_239 ?_
  refine c_X12_begins hb ⟨rfl, ?_⟩
  refine y_aload_n dX12_bakes_4 rfl rfl ?_
  refine y_aload_n dX12_bakes_5 rfl rfl ?_
  refine y_ivI0 dX12_bakes_6 mv_X12_187 my_X12_turnsAll (Or.inl rfl) sh_239 ?_
  refine c_X12_turnsAll hb (c := c) (by rw [begins_low (by omega)]; exact hc) hc2 ⟨_, rfl, ?_⟩
  rw [rsum_congr (fun p hp => begins_low hp) c hc2, hT]
  refine y_bipush (v := 6) dX12_bakes_9 (by decide) ?_
  refine y_iaddN (a := T) (b := 6) dX12_bakes_11 rfl rfl ?_
  refine y_ivV1 dX12_bakes_12 mv_X12_229 my_X12_goes (Or.inl rfl) sh_239 ?_
  refine c_X12_goes hb (N0 := T + 6) rfl (by omega) (wf_begins R) (wfA_begins hc hc2) (fun h2 => ⟨rfl, ?_⟩)
  refine y_return dX12_bakes_15 rfl ?_
  exact hQ _
