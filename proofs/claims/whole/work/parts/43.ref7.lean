/-! ===== the reference: a step left out, a doing kept, a step found ===== -/
def lvK (l k : Nat) (R : Nat → Int32) : Nat → Int32 := fun p => if 6 + 3 * l ≤ p ∧ p < 6 + k then R (p + 3) else R p
theorem lvK_0 {l : Nat} {R : Nat → Int32} : lvK l (3 * l) R = R := by
  funext p
  unfold lvK
  rw [if_neg (by omega)]
theorem lvK_S {l k : Nat} {R : Nat → Int32} (h : 3 * l ≤ k) : upd (lvK l k R) (6 + k) (lvK l k R (6 + k + 3)) = lvK l (k + 1) R := by
  funext p
  unfold upd lvK
  by_cases e : p = 6 + k
  · rw [if_pos e, if_neg (by omega), if_pos (by omega), e]
  · rw [if_neg e]
    by_cases q : 6 + 3 * l ≤ p ∧ p < 6 + k
    · rw [if_pos q, if_pos (by omega)]
    · rw [if_neg q, if_neg (by omega)]
theorem lvK_5 {l k : Nat} {R : Nat → Int32} : lvK l k R 5 = R 5 := by
  unfold lvK
  rw [if_neg (by omega)]
theorem lvK_e {l c : Nat} {R : Nat → Int32} : upd (lvK l (3 * c - 3) R) 5 (nI (c - 1)) = leaveR l c R := by
  funext p
  unfold upd lvK leaveR
  by_cases e : p = 5
  · rw [if_pos e, if_pos e]
  · rw [if_neg e, if_neg e]
    by_cases q : 6 + 3 * l ≤ p ∧ p < 6 + (3 * c - 3)
    · rw [if_pos q, if_pos (by omega)]
    · rw [if_neg q, if_neg (by omega)]
set_option maxHeartbeats 1000000 in
theorem c_X12_leaveOut {L : Nat} {xs : Nat → Int32} {d : Nat} {m : sM} {n : sN} {Q : sQ} {b : Nat} {R h : Nat → Int32} (hb : bAt m b) {l c : Nat} {x : Int32} (hx : x = nI l) (hl : l < c) (hc : R 5 = nI c) (hc2 : c ≤ 10) (hQ : Q none (stR m h b (leaveR l c R)) n) : sRun (scT L xs) (d + 2) yX12_leaveOut cX12_leaveOut 3 none [.ref 239, .int x] (stR m h b R) n Q := by
  subst hx
  refine y_run (own := "LoafFallModel") rfl (by decide +kernel) (Nat.le_of_ble_eq_true rfl) rfl ?_
  refine y_iconst (v := 3) dX12_leaveOut_0 (by decide) ?_
  refine y_iload_n dX12_leaveOut_1 rfl rfl ?_
  refine y_imulN (a := 3) (b := l) dX12_leaveOut_2 rfl rfl ?_
  refine y_ist3_2 dX12_leaveOut_3 rfl ?_
  rw [show stR m h b R = stR m h b (lvK l (3 * l) R) from by rw [lvK_0]]
  refine cnt2 (P := fun k => sV (scT L xs) (d + 1) "LoafFallModel" cX12_leaveOut 3 none Q 4 [some (.ref 239), some (.int (nI l)), some (.int (nI k))] [] (stR m h b (lvK l k R)) n) (3 * l) (3 * c - 3) ?_ ?_ (3 * l) (Nat.le_refl _) (by omega)
  · refine y_iload_n dX12_leaveOut_4 rfl rfl ?_
    refine y_iconst (v := 3) dX12_leaveOut_5 (by decide) ?_
    refine y_aload_n dX12_leaveOut_6 rfl rfl ?_
    refine y_iconst (v := 5) dX12_leaveOut_7 (by decide) ?_
    refine y_ivI1 dX12_leaveOut_8 mv_X12_160 my_X12_v (Or.inl rfl) sh_239 ?_
    refine c_X12_v hb (p := 5) rfl (by omega) ⟨_, rfl, ?_⟩
    rw [lvK_5, hc]
    refine y_imulN (a := 3) (b := c) dX12_leaveOut_11 rfl rfl ?_
    refine y_iconst (v := 3) dX12_leaveOut_12 (by decide) ?_
    refine y_isubN (a := 3 * c) (b := 3) dX12_leaveOut_13 rfl rfl (by omega) ?_
    refine y_icmp_ge (tgt := 41) dX12_leaveOut_14 (by decide) (fun h14 => ?_) (fun h14 => absurd (nI_le (a := (3 * c - 3)) (b := (3 * c - 3)) (Nat.le_refl _) (by omega)) h14)
    refine y_aload_n dX12_leaveOut_41 rfl rfl ?_
    refine y_iconst (v := 5) dX12_leaveOut_42 (by decide) ?_
    refine y_aload_n dX12_leaveOut_43 rfl rfl ?_
    refine y_iconst (v := 5) dX12_leaveOut_44 (by decide) ?_
    refine y_ivI1 dX12_leaveOut_45 mv_X12_160 my_X12_v (Or.inl rfl) sh_239 ?_
    refine c_X12_v hb (p := 5) rfl (by omega) ⟨_, rfl, ?_⟩
    rw [lvK_5, hc]
    refine y_iconst (v := 1) dX12_leaveOut_48 (by decide) ?_
    refine y_isubN (a := c) (b := 1) dX12_leaveOut_49 rfl rfl (by omega) ?_
    refine y_ivV2 dX12_leaveOut_50 mv_X12_163 my_X12_put_ (Or.inl rfl) sh_239 ?_
    refine c_X12_put_ hb (p := 5) rfl (by omega) ⟨rfl, ?_⟩
    rw [lvK_e]
    refine y_return dX12_leaveOut_53 rfl ?_
    exact hQ
  · intro k hk0 hk hP
    refine y_iload_n dX12_leaveOut_4 rfl rfl ?_
    refine y_iconst (v := 3) dX12_leaveOut_5 (by decide) ?_
    refine y_aload_n dX12_leaveOut_6 rfl rfl ?_
    refine y_iconst (v := 5) dX12_leaveOut_7 (by decide) ?_
    refine y_ivI1 dX12_leaveOut_8 mv_X12_160 my_X12_v (Or.inl rfl) sh_239 ?_
    refine c_X12_v hb (p := 5) rfl (by omega) ⟨_, rfl, ?_⟩
    rw [lvK_5, hc]
    refine y_imulN (a := 3) (b := c) dX12_leaveOut_11 rfl rfl ?_
    refine y_iconst (v := 3) dX12_leaveOut_12 (by decide) ?_
    refine y_isubN (a := 3 * c) (b := 3) dX12_leaveOut_13 rfl rfl (by omega) ?_
    refine y_icmp_ge (tgt := 41) dX12_leaveOut_14 (by decide) (fun h14 => absurd h14 (nI_ge (a := k) (b := (3 * c - 3)) hk (by omega))) (fun h14 => ?_)
    refine y_aload_n dX12_leaveOut_17 rfl rfl ?_
    refine y_bipush (v := 6) dX12_leaveOut_18 (by decide) ?_
    refine y_iload_n dX12_leaveOut_20 rfl rfl ?_
    refine y_iaddN (a := 6) (b := k) dX12_leaveOut_21 rfl rfl ?_
    refine y_aload_n dX12_leaveOut_22 rfl rfl ?_
    refine y_bipush (v := 6) dX12_leaveOut_23 (by decide) ?_
    refine y_iload_n dX12_leaveOut_25 rfl rfl ?_
    refine y_iaddN (a := 6) (b := k) dX12_leaveOut_26 rfl rfl ?_
    refine y_iconst (v := 3) dX12_leaveOut_27 (by decide) ?_
    refine y_iaddN (a := 6 + k) (b := 3) dX12_leaveOut_28 rfl rfl ?_
    refine y_ivI1 dX12_leaveOut_29 mv_X12_160 my_X12_v (Or.inl rfl) sh_239 ?_
    refine c_X12_v hb (p := 6 + k + 3) rfl (by omega) ⟨_, rfl, ?_⟩
    refine y_ivV2 dX12_leaveOut_32 mv_X12_163 my_X12_put_ (Or.inl rfl) sh_239 ?_
    refine c_X12_put_ hb (p := 6 + k) rfl (by omega) ⟨rfl, ?_⟩
    rw [lvK_S hk0]
    refine y_iinc3_2 dX12_leaveOut_35 (nI_1 _) rfl ?_
    refine y_goto (tgt := 4) dX12_leaveOut_38 (by decide) ?_
    exact hP
theorem stR_up {m : sM} {h f : Nat → Int32} {b a : Nat} {R : Nat → Int32} (h1 : a ≠ 254) (h2 : a ≠ 255) : s_up (stR m h b R) a f = stR (s_up m a f) h b R := by
  funext c
  by_cases e : c = a
  · rw [e, s_upS, stR_o h1 h2, s_upS]
  · rw [s_upN e]
    by_cases e1 : c = 254
    · rw [e1]
      unfold stR
      rw [s_upS, s_upS]
      funext j
      rw [s_upN (Ne.symm h1)]
    · by_cases e2 : c = 255
      · rw [e2, stR_h, stR_h]
      · rw [stR_o e1 e2, stR_o e1 e2, s_upN e]
theorem b_up {m : sM} {a b : Nat} {f : Nat → Int32} (h : bAt m b) (ha : a ≠ 239) : bAt (s_up m a f) b := ⟨by rw [s_upN (Ne.symm ha)]; exact h.1, h.2⟩
theorem s_id {m : sM} {a : Nat} : s_up m a (m a) = m := by
  funext c
  by_cases e : c = a
  · rw [e, s_upS]
  · rw [s_upN e]
set_option maxHeartbeats 1000000 in
theorem c_X12_keepDoing {L : Nat} {xs : Nat → Int32} {d : Nat} {m : sM} {n : sN} {Q : sQ} {b : Nat} {R h : Nat → Int32} (hb : bAt m b) (hQ : Q none (stR (s_up m 258 (layN (fun i => R (5 + i)) 0 (0 + 31) (m 258))) h b R) n) : sRun (scT L xs) (d + 2) yX12_keepDoing cX12_keepDoing 2 none [.ref 239] (stR m h b R) n Q := by
  refine y_run (own := "LoafFallModel") rfl (by decide +kernel) (Nat.le_of_ble_eq_true rfl) rfl ?_
  refine y_iconst (v := 0) dX12_keepDoing_0 (by decide) ?_
  refine y_ist2_1 dX12_keepDoing_1 rfl ?_
  rw [show stR m h b R = stR (s_up m 258 (layN (fun i => R (5 + i)) 0 (0 + 0) (m 258))) h b R from by rw [layN_0, s_id]]
  refine cnt (P := fun k => sV (scT L xs) (d + 1) "LoafFallModel" cX12_keepDoing 2 none Q 2 [some (.ref 239), some (.int (nI k))] [] (stR (s_up m 258 (layN (fun i => R (5 + i)) 0 (0 + k) (m 258))) h b R) n) 31 ?_ ?_ 0 (by omega)
  · refine y_iload_n dX12_keepDoing_2 rfl rfl ?_
    refine y_bipush (v := 31) dX12_keepDoing_3 (by decide) ?_
    refine y_icmp_ge (tgt := 27) dX12_keepDoing_5 (by decide) (fun h5 => ?_) (fun h5 => absurd (nI_le (a := 31) (b := 31) (Nat.le_refl _) (by decide)) h5)
    refine y_return dX12_keepDoing_27 rfl ?_
    exact hQ
  · intro k hk hP
    refine y_iload_n dX12_keepDoing_2 rfl rfl ?_
    refine y_bipush (v := 31) dX12_keepDoing_3 (by decide) ?_
    refine y_icmp_ge (tgt := 27) dX12_keepDoing_5 (by decide) (fun h5 => absurd h5 (nI_ge (a := k) (b := 31) hk (by decide))) (fun h5 => ?_)
    refine y_aload_n dX12_keepDoing_8 rfl rfl ?_
    refine y_getr dX12_keepDoing_9 gf_X12_66 sh_239 rfl ?_
    refine y_iload_n dX12_keepDoing_12 rfl rfl ?_
    refine y_aload_n dX12_keepDoing_13 rfl rfl ?_
    refine y_iconst (v := 5) dX12_keepDoing_14 (by decide) ?_
    refine y_iload_n dX12_keepDoing_15 rfl rfl ?_
    refine y_iaddN (a := 5) (b := k) dX12_keepDoing_16 rfl rfl ?_
    refine y_ivI1 dX12_keepDoing_17 mv_X12_160 my_X12_v (Or.inl rfl) sh_239 ?_
    refine c_X12_v (b_up hb (by decide)) (p := 5 + k) rfl (by omega) ⟨_, rfl, ?_⟩
    refine y_iastN dX12_keepDoing_20 sh_258 rfl (by first | omega | decide) (by decide) ?_
    refine y_iinc2_1 dX12_keepDoing_21 (nI_1 _) rfl ?_
    refine y_goto (tgt := 2) dX12_keepDoing_24 (by decide) ?_
    have e1 : s_up (stR (s_up m 258 (layN (fun i => R (5 + i)) 0 (0 + k) (m 258))) h b R) 258 (upd (stR (s_up m 258 (layN (fun i => R (5 + i)) 0 (0 + k) (m 258))) h b R 258) k (R (5 + k))) = stR (s_up m 258 (layN (fun i => R (5 + i)) 0 (0 + (k + 1)) (m 258))) h b R := by
      rw [stR_up (by decide) (by decide), stR_o (by decide) (by decide), s_upS, s_up2, ← layN_S, Nat.zero_add]
    rw [e1]
    exact hP
set_option maxHeartbeats 1000000 in
theorem c_X12_backDoing {L : Nat} {xs : Nat → Int32} {d : Nat} {m : sM} {n : sN} {Q : sQ} {b : Nat} {R h : Nat → Int32} (hb : bAt m b) (hQ : Q none (stR m h b (layN (m 258) 5 (5 + 31) R)) n) : sRun (scT L xs) (d + 2) yX12_backDoing cX12_backDoing 2 none [.ref 239] (stR m h b R) n Q := by
  refine y_run (own := "LoafFallModel") rfl (by decide +kernel) (Nat.le_of_ble_eq_true rfl) rfl ?_
  refine y_iconst (v := 0) dX12_backDoing_0 (by decide) ?_
  refine y_ist2_1 dX12_backDoing_1 rfl ?_
  rw [show stR m h b R = stR m h b (layN (m 258) 5 (5 + 0) R) from by rw [layN_0]]
  refine cnt (P := fun k => sV (scT L xs) (d + 1) "LoafFallModel" cX12_backDoing 2 none Q 2 [some (.ref 239), some (.int (nI k))] [] (stR m h b (layN (m 258) 5 (5 + k) R)) n) 31 ?_ ?_ 0 (by omega)
  · refine y_iload_n dX12_backDoing_2 rfl rfl ?_
    refine y_bipush (v := 31) dX12_backDoing_3 (by decide) ?_
    refine y_icmp_ge (tgt := 27) dX12_backDoing_5 (by decide) (fun h5 => ?_) (fun h5 => absurd (nI_le (a := 31) (b := 31) (Nat.le_refl _) (by decide)) h5)
    refine y_return dX12_backDoing_27 rfl ?_
    exact hQ
  · intro k hk hP
    refine y_iload_n dX12_backDoing_2 rfl rfl ?_
    refine y_bipush (v := 31) dX12_backDoing_3 (by decide) ?_
    refine y_icmp_ge (tgt := 27) dX12_backDoing_5 (by decide) (fun h5 => absurd h5 (nI_ge (a := k) (b := 31) hk (by decide))) (fun h5 => ?_)
    refine y_aload_n dX12_backDoing_8 rfl rfl ?_
    refine y_iconst (v := 5) dX12_backDoing_9 (by decide) ?_
    refine y_iload_n dX12_backDoing_10 rfl rfl ?_
    refine y_iaddN (a := 5) (b := k) dX12_backDoing_11 rfl rfl ?_
    refine y_aload_n dX12_backDoing_12 rfl rfl ?_
    refine y_getr dX12_backDoing_13 gf_X12_66 sh_239 rfl ?_
    refine y_iload_n dX12_backDoing_16 rfl rfl ?_
    refine y_ialdN dX12_backDoing_17 sh_258 rfl (by first | omega | decide) (by decide) ?_
    rw [stR_o (by decide) (by decide)]
    refine y_ivV2 dX12_backDoing_18 mv_X12_163 my_X12_put_ (Or.inl rfl) sh_239 ?_
    refine c_X12_put_ hb (p := 5 + k) rfl (by omega) ⟨rfl, ?_⟩
    rw [layN_S]
    refine y_iinc2_1 dX12_backDoing_21 (nI_1 _) rfl ?_
    refine y_goto (tgt := 2) dX12_backDoing_24 (by decide) ?_
    exact hP
def findS (kind last : Int32) (R : Nat → Int32) : Nat → Int32
  | 0 => -9
  | k + 1 => if R (6 + 3 * k + 0) = kind ∧ (¬ last = 0 ∨ findS kind last R k = -9) then nI k else findS kind last R k
theorem find_y {kd la : Int32} {R : Nat → Int32} {k : Nat} (h : R (6 + 3 * k + 0) = kd ∧ (¬ la = 0 ∨ findS kd la R k = -9)) : findS kd la R (k + 1) = nI k := by rw [findS, if_pos h]
theorem find_n {kd la : Int32} {R : Nat → Int32} {k : Nat} (h : ¬ (R (6 + 3 * k + 0) = kd ∧ (¬ la = 0 ∨ findS kd la R k = -9))) : findS kd la R (k + 1) = findS kd la R k := by rw [findS, if_neg h]
set_option maxHeartbeats 1000000 in
theorem c_X12_find {L : Nat} {xs : Nat → Int32} {d : Nat} {m : sM} {n : sN} {Q : sQ} {b : Nat} {R h : Nat → Int32} (hb : bAt m b) {c : Nat} {kd la : Int32} (hc : R 5 = nI c) (hc2 : c ≤ 10) (hQ : Q (some (.int (findS kd la R c))) (stR m h b R) n) : sRun (scT L xs) (d + 3) yX12_find cX12_find 5 (some .int) [.ref 239, .int kd, .int la] (stR m h b R) n Q := by
  refine y_run (own := "LoafFallModel") rfl (by decide +kernel) (Nat.le_of_ble_eq_true rfl) rfl ?_
  refine y_bipush (v := -9) dX12_find_0 (by decide) ?_
  refine y_ist5_3 dX12_find_2 rfl ?_
  refine y_iconst (v := 0) dX12_find_3 (by decide) ?_
  refine y_ist5_4 dX12_find_4 rfl ?_
  refine cnt (P := fun k => sV (scT L xs) (d + 2) "LoafFallModel" cX12_find 5 (some .int) Q 6 [some (.ref 239), some (.int kd), some (.int la), some (.int (findS kd la R k)), some (.int (nI k))] [] (stR m h b R) n) c ?_ ?_ 0 (by omega)
  · refine y_iload dX12_find_6 rfl ?_
    refine y_aload_n dX12_find_8 rfl rfl ?_
    refine y_iconst (v := 5) dX12_find_9 (by decide) ?_
    refine y_ivI1 dX12_find_10 mv_X12_160 my_X12_v (Or.inl rfl) sh_239 ?_
    refine c_X12_v hb (p := 5) rfl (by omega) ⟨_, rfl, ?_⟩
    rw [hc]
    refine y_icmp_ge (tgt := 50) dX12_find_13 (by decide) (fun h13 => ?_) (fun h13 => absurd (nI_le (a := c) (b := c) (Nat.le_refl _) (by omega)) h13)
    refine y_iload_n dX12_find_50 rfl rfl ?_
    refine y_ireturn dX12_find_51 rfl rfl ?_
    exact hQ
  · intro k hk hP
    refine y_iload dX12_find_6 rfl ?_
    refine y_aload_n dX12_find_8 rfl rfl ?_
    refine y_iconst (v := 5) dX12_find_9 (by decide) ?_
    refine y_ivI1 dX12_find_10 mv_X12_160 my_X12_v (Or.inl rfl) sh_239 ?_
    refine c_X12_v hb (p := 5) rfl (by omega) ⟨_, rfl, ?_⟩
    rw [hc]
    refine y_icmp_ge (tgt := 50) dX12_find_13 (by decide) (fun h13 => absurd h13 (nI_ge (a := k) (b := c) hk (by omega))) (fun h13 => ?_)
    refine y_aload_n dX12_find_16 rfl rfl ?_
    refine y_iload dX12_find_17 rfl ?_
    refine y_iconst (v := 0) dX12_find_19 (by decide) ?_
    refine y_ivI2 dX12_find_20 mv_X12_171 my_X12_s (Or.inl rfl) sh_239 ?_
    refine c_X12_s hb (k := k) (j := 0) rfl rfl (by omega) ⟨_, rfl, ?_⟩
    refine y_iload_n dX12_find_23 rfl rfl ?_
    refine y_icmp_ne (tgt := 42) dX12_find_24 (by decide) (fun h24 => ?_) (fun h24 => ?_)
    · refine y_iload_n dX12_find_42 rfl rfl ?_
      refine y_ist5_3 dX12_find_43 rfl ?_
      refine y_iinc5_4 dX12_find_44 (nI_1 _) rfl ?_
      refine y_goto (tgt := 6) dX12_find_47 (by decide) ?_
      first
        | (rw [find_n (fun z => h24 z.1)] at hP; exact hP)
        | (rw [find_y ⟨h24, Or.inl h28⟩] at hP; exact hP)
        | (rw [find_y ⟨h24, Or.inr h34⟩] at hP; exact hP)
        | (rw [find_n (fun z => z.2.elim (fun q => q h28) h34)] at hP; exact hP)
    · refine y_iload_n dX12_find_27 rfl rfl ?_
      refine y_if_ne (tgt := 37) dX12_find_28 (by decide) (fun h28 => ?_) (fun h28 => ?_)
      · refine y_iload dX12_find_37 rfl ?_
        refine y_goto (tgt := 43) dX12_find_39 (by decide) ?_
        refine y_ist5_3 dX12_find_43 rfl ?_
        refine y_iinc5_4 dX12_find_44 (nI_1 _) rfl ?_
        refine y_goto (tgt := 6) dX12_find_47 (by decide) ?_
        first
          | (rw [find_n (fun z => h24 z.1)] at hP; exact hP)
          | (rw [find_y ⟨h24, Or.inl h28⟩] at hP; exact hP)
          | (rw [find_y ⟨h24, Or.inr h34⟩] at hP; exact hP)
          | (rw [find_n (fun z => z.2.elim (fun q => q h28) h34)] at hP; exact hP)
      · refine y_iload_n dX12_find_31 rfl rfl ?_
        refine y_bipush (v := -9) dX12_find_32 (by decide) ?_
        refine y_icmp_ne (tgt := 42) dX12_find_34 (by decide) (fun h34 => ?_) (fun h34 => ?_)
        · refine y_iload_n dX12_find_42 rfl rfl ?_
          refine y_ist5_3 dX12_find_43 rfl ?_
          refine y_iinc5_4 dX12_find_44 (nI_1 _) rfl ?_
          refine y_goto (tgt := 6) dX12_find_47 (by decide) ?_
          first
            | (rw [find_n (fun z => h24 z.1)] at hP; exact hP)
            | (rw [find_y ⟨h24, Or.inl h28⟩] at hP; exact hP)
            | (rw [find_y ⟨h24, Or.inr h34⟩] at hP; exact hP)
            | (rw [find_n (fun z => z.2.elim (fun q => q h28) h34)] at hP; exact hP)
        · refine y_iload dX12_find_37 rfl ?_
          refine y_goto (tgt := 43) dX12_find_39 (by decide) ?_
          refine y_ist5_3 dX12_find_43 rfl ?_
          refine y_iinc5_4 dX12_find_44 (nI_1 _) rfl ?_
          refine y_goto (tgt := 6) dX12_find_47 (by decide) ?_
          first
            | (rw [find_n (fun z => h24 z.1)] at hP; exact hP)
            | (rw [find_y ⟨h24, Or.inl h28⟩] at hP; exact hP)
            | (rw [find_y ⟨h24, Or.inr h34⟩] at hP; exact hP)
            | (rw [find_n (fun z => z.2.elim (fun q => q h28) h34)] at hP; exact hP)
