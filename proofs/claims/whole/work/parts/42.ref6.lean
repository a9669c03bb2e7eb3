/-! ===== the reference: copies, unlike, ovens ===== -/
theorem cp_stR {m : sM} {lo : Nat} {g : Nat → Int32} : s_up m 254 (layN g lo (lo + 329) (m 254)) = stR m (m 255) lo g := by
  funext a
  unfold stR
  by_cases h1 : a = 254
  · rw [h1, s_upS, s_upS]
    rfl
  · rw [s_upN h1, s_upN h1]
    by_cases h2 : a = 255
    · rw [h2, s_upS]
    · rw [s_upN h2]
theorem layN_o {g : Nat → Int32} {lo hi p : Nat} {R : Nat → Int32} (h : p < lo ∨ hi ≤ p) : layN g lo hi R p = R p := by
  unfold layN
  rw [if_neg (by omega)]
set_option maxHeartbeats 1000000 in
theorem c_X12_copyLoaf {L : Nat} {xs : Nat → Int32} {d : Nat} {m : sM} {n : sN} {Q : sQ} {a b : Nat} {x z : Int32} (hx : x = nI a) (ha : a < 5) (hz : z = nI b) (hb : b < 5) (hab : a ≠ b) (hQ : Q none (stR m (m 255) (329 * b) (fun p => m 254 (329 * a + p))) n) : sRun (scT L xs) (d + 1) yX12_copyLoaf cX12_copyLoaf 4 none [.ref 239, .int x, .int z] m n Q := by
  subst hx hz
  refine y_run (own := "LoafFallModel") rfl (by decide +kernel) (Nat.le_of_ble_eq_true rfl) rfl ?_
  rw [← cp_stR] at hQ
  refine y_iconst (v := 0) dX12_copyLoaf_0 (by decide) ?_
  refine y_ist4_3 dX12_copyLoaf_1 rfl ?_
  have e0 : s_up m 254 (layN (fun p => m 254 (329 * a + p)) (329 * b) (329 * b + 0) (m 254)) = m := by
    rw [layN_0]
    funext q
    by_cases e : q = 254
    · rw [e, s_upS]
    · rw [s_upN e]
  refine cnt (P := fun k => ∀ m' : sM, m' = s_up m 254 (layN (fun p => m 254 (329 * a + p)) (329 * b) (329 * b + k) (m 254)) → sV (scT L xs) d "LoafFallModel" cX12_copyLoaf 4 none Q 2 [some (.ref 239), some (.int (nI a)), some (.int (nI b)), some (.int (nI k))] [] m' n) 329 ?_ ?_ 0 (by omega) m e0.symm
  · intro m' hm
    refine y_iload_n dX12_copyLoaf_2 rfl rfl ?_
    refine y_sipush (v := 329) dX12_copyLoaf_3 (by decide) ?_
    refine y_icmp_ge (tgt := 39) dX12_copyLoaf_6 (by decide) (fun h6 => ?_) (fun h6 => absurd (nI_le (a := 329) (b := 329) (Nat.le_refl _) (by decide)) h6)
    refine y_return dX12_copyLoaf_39 rfl ?_
    rw [hm]
    exact hQ
  · intro k hk hP
    intro m' hm
    refine y_iload_n dX12_copyLoaf_2 rfl rfl ?_
    refine y_sipush (v := 329) dX12_copyLoaf_3 (by decide) ?_
    refine y_icmp_ge (tgt := 39) dX12_copyLoaf_6 (by decide) (fun h6 => absurd h6 (nI_ge (a := k) (b := 329) hk (by decide))) (fun h6 => ?_)
    refine y_aload_n dX12_copyLoaf_9 rfl rfl ?_
    refine y_getr dX12_copyLoaf_10 gf_X12_54 sh_239 rfl ?_
    refine y_sipush (v := 329) dX12_copyLoaf_13 (by decide) ?_
    refine y_iload_n dX12_copyLoaf_16 rfl rfl ?_
    refine y_imulN (a := 329) (b := b) dX12_copyLoaf_17 rfl rfl ?_
    refine y_iload_n dX12_copyLoaf_18 rfl rfl ?_
    refine y_iaddN (a := 329 * b) (b := k) dX12_copyLoaf_19 rfl rfl ?_
    refine y_aload_n dX12_copyLoaf_20 rfl rfl ?_
    refine y_getr dX12_copyLoaf_21 gf_X12_54 sh_239 rfl ?_
    refine y_sipush (v := 329) dX12_copyLoaf_24 (by decide) ?_
    refine y_iload_n dX12_copyLoaf_27 rfl rfl ?_
    refine y_imulN (a := 329) (b := a) dX12_copyLoaf_28 rfl rfl ?_
    refine y_iload_n dX12_copyLoaf_29 rfl rfl ?_
    refine y_iaddN (a := 329 * a) (b := k) dX12_copyLoaf_30 rfl rfl ?_
    refine y_ialdN dX12_copyLoaf_31 sh_254 rfl (by first | omega | decide) (by decide) ?_
    rw [show m' 254 (329 * a + k) = m 254 (329 * a + k) from by rw [hm, s_upS, layN_o (by omega)]]
    refine y_iastN dX12_copyLoaf_32 sh_254 rfl (by first | omega | decide) (by decide) ?_
    refine y_iinc4_3 dX12_copyLoaf_33 (nI_1 _) rfl ?_
    refine y_goto (tgt := 2) dX12_copyLoaf_36 (by decide) ?_
    refine hP _ ?_
    rw [hm, s_upS, s_up2, ← layN_S (g := (fun p => m 254 (329 * a + p)))]
set_option maxHeartbeats 1000000 in
theorem c_X12_layOwn {L : Nat} {xs : Nat → Int32} {d : Nat} {m : sM} {n : sN} {Q : sQ} (hQ : Q none (stR (wkM m 1316) (m 255) 1316 (fun p => m 254 p)) n) : sRun (scT L xs) (d + 2) yX12_layOwn cX12_layOwn 1 none [.ref 239] m n Q := by
  refine y_run (own := "LoafFallModel") rfl (by decide +kernel) (Nat.le_of_ble_eq_true rfl) rfl ?_
  refine y_aload_n dX12_layOwn_0 rfl rfl ?_
  refine y_iconst (v := 0) dX12_layOwn_1 (by decide) ?_
  refine y_iconst (v := 4) dX12_layOwn_2 (by decide) ?_
  refine y_ivV2 dX12_layOwn_3 mv_X12_238 my_X12_copyLoaf (Or.inl rfl) sh_239 ?_
  refine c_X12_copyLoaf (a := 0) (b := 4) rfl (by omega) rfl (by omega) (by omega) ⟨rfl, ?_⟩
  refine y_aload_n dX12_layOwn_6 rfl rfl ?_
  refine y_iconst (v := 4) dX12_layOwn_7 (by decide) ?_
  refine y_ivV1 dX12_layOwn_8 mv_X12_174 my_X12_look (Or.inl rfl) sh_239 ?_
  refine c_X12_look (j := 4) rfl ⟨rfl, ?_⟩
  rw [wk_stR, show (fun p => m 254 (329 * 0 + p)) = (fun p => m 254 p) from by funext p; rw [Nat.mul_zero, Nat.zero_add]]
  refine y_return dX12_layOwn_11 rfl ?_
  exact hQ
set_option maxHeartbeats 1000000 in
theorem c_X12_shiftOvens {L : Nat} {xs : Nat → Int32} {d : Nat} {m : sM} {n : sN} {Q : sQ} {b : Nat} {R h : Nat → Int32} (hb : bAt m b) {c : Nat} {v : Int32} (hc : R 5 = nI c) (hc2 : c ≤ 10) (hQ : Q none (stR m h b (foldR (shiftC v) c R)) n) : sRun (scT L xs) (d + 3) yX12_shiftOvens cX12_shiftOvens 3 none [.ref 239, .int v] (stR m h b R) n Q := by
  refine y_run (own := "LoafFallModel") rfl (by decide +kernel) (Nat.le_of_ble_eq_true rfl) rfl ?_
  refine y_iconst (v := 0) dX12_shiftOvens_0 (by decide) ?_
  refine y_ist3_2 dX12_shiftOvens_1 rfl ?_
  refine cnt (P := fun k => sV (scT L xs) (d + 2) "LoafFallModel" cX12_shiftOvens 3 none Q 2 [some (.ref 239), some (.int v), some (.int (nI k))] [] (stR m h b (foldR (shiftC v) k R)) n) c ?_ ?_ 0 (by omega)
  · have e5 : foldR (shiftC v) c R 5 = R 5 := shift_5 c
    refine y_iload_n dX12_shiftOvens_2 rfl rfl ?_
    refine y_aload_n dX12_shiftOvens_3 rfl rfl ?_
    refine y_iconst (v := 5) dX12_shiftOvens_4 (by decide) ?_
    refine y_ivI1 dX12_shiftOvens_5 mv_X12_160 my_X12_v (Or.inl rfl) sh_239 ?_
    refine c_X12_v hb (p := 5) rfl (by omega) ⟨_, rfl, ?_⟩
    rw [e5, hc]
    refine y_icmp_ge (tgt := 56) dX12_shiftOvens_8 (by decide) (fun h8 => ?_) (fun h8 => absurd (nI_le (a := c) (b := c) (Nat.le_refl _) (by omega)) h8)
    refine y_return dX12_shiftOvens_56 rfl ?_
    exact hQ
  · intro k hk hP
    have e5 : foldR (shiftC v) k R 5 = R 5 := shift_5 k
    generalize hRk : foldR (shiftC v) k R = Rk at e5
    replace hP : sV (scT L xs) (d + 2) "LoafFallModel" cX12_shiftOvens 3 none Q 2 [some (.ref 239), some (.int v), some (.int (nI (k + 1)))] [] (stR m h b (shiftC v k Rk)) n := by rw [← hRk]; exact hP
    refine y_iload_n dX12_shiftOvens_2 rfl rfl ?_
    refine y_aload_n dX12_shiftOvens_3 rfl rfl ?_
    refine y_iconst (v := 5) dX12_shiftOvens_4 (by decide) ?_
    refine y_ivI1 dX12_shiftOvens_5 mv_X12_160 my_X12_v (Or.inl rfl) sh_239 ?_
    refine c_X12_v hb (p := 5) rfl (by omega) ⟨_, rfl, ?_⟩
    rw [e5, hc]
    refine y_icmp_ge (tgt := 56) dX12_shiftOvens_8 (by decide) (fun h8 => absurd h8 (nI_ge (a := k) (b := c) hk (by omega))) (fun h8 => ?_)
    refine y_aload_n dX12_shiftOvens_11 rfl rfl ?_
    refine y_iload_n dX12_shiftOvens_12 rfl rfl ?_
    refine y_iconst (v := 0) dX12_shiftOvens_13 (by decide) ?_
    refine y_ivI2 dX12_shiftOvens_14 mv_X12_171 my_X12_s (Or.inl rfl) sh_239 ?_
    refine c_X12_s hb (k := k) (j := 0) rfl rfl (by omega) ⟨_, rfl, ?_⟩
    refine y_iconst (v := 2) dX12_shiftOvens_17 (by decide) ?_
    refine y_icmp_ne (tgt := 50) dX12_shiftOvens_18 (by decide) (fun h18 => ?_) (fun h18 => ?_)
    · refine y_iinc3_2 dX12_shiftOvens_50 (nI_1 _) rfl ?_
      refine y_goto (tgt := 2) dX12_shiftOvens_53 (by decide) ?_
      unfold shiftC at hP
      first
        | (rw [if_neg h18] at hP; exact hP)
        | (rw [if_pos h18] at hP; exact hP)
    · refine y_aload_n dX12_shiftOvens_21 rfl rfl ?_
      refine y_bipush (v := 6) dX12_shiftOvens_22 (by decide) ?_
      refine y_iconst (v := 3) dX12_shiftOvens_24 (by decide) ?_
      refine y_iload_n dX12_shiftOvens_25 rfl rfl ?_
      refine y_imulN (a := 3) (b := k) dX12_shiftOvens_26 rfl rfl ?_
      refine y_iaddN (a := 6) (b := 3 * k) dX12_shiftOvens_27 rfl rfl ?_
      refine y_iconst (v := 1) dX12_shiftOvens_28 (by decide) ?_
      refine y_iaddN (a := 6 + (3 * k)) (b := 1) dX12_shiftOvens_29 rfl rfl ?_
      refine y_iconst (v := 0) dX12_shiftOvens_30 (by decide) ?_
      refine y_bipush (v := 9) dX12_shiftOvens_31 (by decide) ?_
      refine y_aload_n dX12_shiftOvens_33 rfl rfl ?_
      refine y_iload_n dX12_shiftOvens_34 rfl rfl ?_
      refine y_iconst (v := 1) dX12_shiftOvens_35 (by decide) ?_
      refine y_ivI2 dX12_shiftOvens_36 mv_X12_171 my_X12_s (Or.inl rfl) sh_239 ?_
      refine c_X12_s hb (k := k) (j := 1) rfl rfl (by omega) ⟨_, rfl, ?_⟩
      refine y_iload_n dX12_shiftOvens_39 rfl rfl ?_
      refine y_iadd dX12_shiftOvens_40 ?_
      refine y_isI2 dX12_shiftOvens_41 ms_X12_200 my_X12_lesser (Or.inl rfl) ?_
      refine c_X12_lesser ⟨_, rfl, ?_⟩
      refine y_isI2 dX12_shiftOvens_44 ms_X12_197 my_X12_greater (Or.inl rfl) ?_
      refine c_X12_greater ⟨_, rfl, ?_⟩
      refine y_ivV2 dX12_shiftOvens_47 mv_X12_163 my_X12_put_ (Or.inl rfl) sh_239 ?_
      refine c_X12_put_ hb (p := 6 + 3 * k + 1) rfl (by omega) ⟨rfl, ?_⟩
      refine y_iinc3_2 dX12_shiftOvens_50 (nI_1 _) rfl ?_
      refine y_goto (tgt := 2) dX12_shiftOvens_53 (by decide) ?_
      unfold shiftC at hP
      first
        | (rw [if_neg h18] at hP; exact hP)
        | (rw [if_pos h18] at hP; exact hP)
set_option maxHeartbeats 1000000 in
theorem c_X12_rowAt {L : Nat} {xs : Nat → Int32} {d : Nat} {m : sM} {n : sN} {Q : sQ} {r i : Nat} {x z : Int32} (hx : x = nI r) (hr : r < 6) (hz : z = nI i) (hi : i < 40) (hQ : Q (some (.int (m 242 (40 * r + i)))) m n) : sRun (scT L xs) (d + 1) yX12_rowAt cX12_rowAt 3 (some .int) [.ref 239, .int x, .int z] m n Q := by
  subst hx hz
  refine y_run (own := "LoafFallModel") rfl (by decide +kernel) (Nat.le_of_ble_eq_true rfl) rfl ?_
  refine y_aload_n dX12_rowAt_0 rfl rfl ?_
  refine y_getr dX12_rowAt_1 gf_X12_16 sh_239 rfl ?_
  refine y_bipush (v := 40) dX12_rowAt_4 (by decide) ?_
  refine y_iload_n dX12_rowAt_6 rfl rfl ?_
  refine y_imulN (a := 40) (b := r) dX12_rowAt_7 rfl rfl ?_
  refine y_iload_n dX12_rowAt_8 rfl rfl ?_
  refine y_iaddN (a := 40 * r) (b := i) dX12_rowAt_9 rfl rfl ?_
  refine y_ialdN dX12_rowAt_10 sh_242 rfl (by first | omega | decide) (by decide) ?_
  refine y_ireturn dX12_rowAt_11 rfl rfl ?_
  exact hQ
set_option maxHeartbeats 1000000 in
theorem c_X12_unlike {L : Nat} {xs : Nat → Int32} {d : Nat} {m : sM} {n : sN} {Q : sQ} {b : Nat} {R h : Nat → Int32} (hb : bAt m b) {r : Nat} {x : Int32} (hx : x = nI r) (hr : r < 6) (hQ : Q (some (.int (unlS (cutF R) (fun i => m 242 (40 * r + i)) 24))) (stR m h b R) n) : sRun (scT L xs) (d + 4) yX12_unlike cX12_unlike 4 (some .int) [.ref 239, .int x] (stR m h b R) n Q := by
  subst hx
  refine y_run (own := "LoafFallModel") rfl (by decide +kernel) (Nat.le_of_ble_eq_true rfl) rfl ?_
  refine y_iconst (v := 0) dX12_unlike_0 (by decide) ?_
  refine y_ist4_2 dX12_unlike_1 rfl ?_
  refine y_iconst (v := 0) dX12_unlike_2 (by decide) ?_
  refine y_ist4_3 dX12_unlike_3 rfl ?_
  refine cnt (P := fun k => sV (scT L xs) (d + 3) "LoafFallModel" cX12_unlike 4 (some .int) Q 4 [some (.ref 239), some (.int (nI r)), some (.int (unlS (cutF R) (fun i => m 242 (40 * r + i)) k)), some (.int (nI k))] [] (stR m h b R) n) 24 ?_ ?_ 0 (by omega)
  · refine y_iload_n dX12_unlike_4 rfl rfl ?_
    refine y_bipush (v := 24) dX12_unlike_5 (by decide) ?_
    refine y_icmp_ge (tgt := 38) dX12_unlike_7 (by decide) (fun h7 => ?_) (fun h7 => absurd (nI_le (a := 24) (b := 24) (Nat.le_refl _) (by decide)) h7)
    refine y_iload_n dX12_unlike_38 rfl rfl ?_
    refine y_ireturn dX12_unlike_39 rfl rfl ?_
    exact hQ
  · intro k hk hP
    refine y_iload_n dX12_unlike_4 rfl rfl ?_
    refine y_bipush (v := 24) dX12_unlike_5 (by decide) ?_
    refine y_icmp_ge (tgt := 38) dX12_unlike_7 (by decide) (fun h7 => absurd h7 (nI_ge (a := k) (b := 24) hk (by decide))) (fun h7 => ?_)
    refine y_iload_n dX12_unlike_10 rfl rfl ?_
    refine y_aload_n dX12_unlike_11 rfl rfl ?_
    refine y_iload_n dX12_unlike_12 rfl rfl ?_
    refine y_ivI1 dX12_unlike_13 mv_X12_253 my_X12_cutOf (Or.inl rfl) sh_239 ?_
    refine c_X12_cutOf hb (k := k) rfl hk ⟨_, rfl, ?_⟩
    refine y_aload_n dX12_unlike_16 rfl rfl ?_
    refine y_iload_n dX12_unlike_17 rfl rfl ?_
    refine y_iload_n dX12_unlike_18 rfl rfl ?_
    refine y_ivI2 dX12_unlike_19 mv_X12_104 my_X12_rowAt (Or.inl rfl) sh_239 ?_
    refine c_X12_rowAt (r := r) (i := k) rfl hr rfl (by omega) ⟨_, rfl, ?_⟩
    rw [stR_o (by decide) (by decide)]
    refine y_icmp_eq (tgt := 29) dX12_unlike_22 (by decide) (fun h22 => ?_) (fun h22 => ?_)
    · refine y_iconst (v := 0) dX12_unlike_29 (by decide) ?_
      refine y_iadd dX12_unlike_30 ?_
      refine y_ist4_2 dX12_unlike_31 rfl ?_
      refine y_iinc4_3 dX12_unlike_32 (nI_1 _) rfl ?_
      refine y_goto (tgt := 4) dX12_unlike_35 (by decide) ?_
      first
        | (rw [show unlS (cutF R) (fun i => m 242 (40 * r + i)) (k + 1) = unlS (cutF R) (fun i => m 242 (40 * r + i)) k + 0 from by rw [unlS, if_pos h22]] at hP; exact hP)
        | (rw [show unlS (cutF R) (fun i => m 242 (40 * r + i)) (k + 1) = unlS (cutF R) (fun i => m 242 (40 * r + i)) k + 1 from by rw [unlS, if_neg h22]] at hP; exact hP)
    · refine y_iconst (v := 1) dX12_unlike_25 (by decide) ?_
      refine y_goto (tgt := 30) dX12_unlike_26 (by decide) ?_
      refine y_iadd dX12_unlike_30 ?_
      refine y_ist4_2 dX12_unlike_31 rfl ?_
      refine y_iinc4_3 dX12_unlike_32 (nI_1 _) rfl ?_
      refine y_goto (tgt := 4) dX12_unlike_35 (by decide) ?_
      first
        | (rw [show unlS (cutF R) (fun i => m 242 (40 * r + i)) (k + 1) = unlS (cutF R) (fun i => m 242 (40 * r + i)) k + 0 from by rw [unlS, if_pos h22]] at hP; exact hP)
        | (rw [show unlS (cutF R) (fun i => m 242 (40 * r + i)) (k + 1) = unlS (cutF R) (fun i => m 242 (40 * r + i)) k + 1 from by rw [unlS, if_neg h22]] at hP; exact hP)
set_option maxHeartbeats 1000000 in
theorem c_X12_turnsOf {L : Nat} {xs : Nat → Int32} {d : Nat} {m : sM} {n : sN} {Q : sQ} {b : Nat} {R h : Nat → Int32} (hb : bAt m b) {i c : Nat} {x t : Int32} (hx : x = nI i) (hi : i < c) (hc : R 5 = nI c) (hc2 : c ≤ 10) (hQ1 : rsum R c - R (6 + 3 * i + 2) + t ≤ 90 → Q (some (.int 1)) (stR m h b (upd R (6 + 3 * i + 2) t)) n) (hQ0 : ¬ rsum R c - R (6 + 3 * i + 2) + t ≤ 90 → Q (some (.int 0)) (stR m h b R) n) : sRun (scT L xs) (d + 4) yX12_turnsOf cX12_turnsOf 4 (some .boolean) [.ref 239, .int x, .int t] (stR m h b R) n Q := by
  subst hx
  refine y_run (own := "LoafFallModel") rfl (by decide +kernel) (Nat.le_of_ble_eq_true rfl) rfl ?_
  refine y_aload_n dX12_turnsOf_0 rfl rfl ?_
  refine y_ivI0 dX12_turnsOf_1 mv_X12_187 my_X12_turnsAll (Or.inl rfl) sh_239 ?_
  refine c_X12_turnsAll hb hc hc2 ⟨_, rfl, ?_⟩
  refine y_aload_n dX12_turnsOf_4 rfl rfl ?_
  refine y_iload_n dX12_turnsOf_5 rfl rfl ?_
  refine y_iconst (v := 2) dX12_turnsOf_6 (by decide) ?_
  refine y_ivI2 dX12_turnsOf_7 mv_X12_171 my_X12_s (Or.inl rfl) sh_239 ?_
  refine c_X12_s hb (k := i) (j := 2) rfl rfl (by omega) ⟨_, rfl, ?_⟩
  refine y_isub dX12_turnsOf_10 ?_
  refine y_iload_n dX12_turnsOf_11 rfl rfl ?_
  refine y_iadd dX12_turnsOf_12 ?_
  refine y_bipush (v := 90) dX12_turnsOf_13 (by decide) ?_
  refine y_icmp_gt (tgt := 22) dX12_turnsOf_15 (by decide) (fun h15 => ?_) (fun h15 => ?_)
  · refine y_iconst (v := 0) dX12_turnsOf_22 (by decide) ?_
    refine y_ist4_3 dX12_turnsOf_23 rfl ?_
    refine y_iload_n dX12_turnsOf_24 rfl rfl ?_
    refine y_if_eq (tgt := 41) dX12_turnsOf_25 (by decide) (fun h25 => ?_) (fun h25 => absurd (by decide) h25)
    refine y_iload_n dX12_turnsOf_41 rfl rfl ?_
    refine y_ireturn dX12_turnsOf_42 rfl rfl ?_
    first
      | exact hQ0 (fun z => absurd h15 (Int32.not_lt.mpr z))
      | exact hQ1 (Int32.not_lt.mp h15)
      | exact hQ0 h15
      | exact hQ1 h15
  · refine y_iconst (v := 1) dX12_turnsOf_18 (by decide) ?_
    refine y_goto (tgt := 23) dX12_turnsOf_19 (by decide) ?_
    refine y_ist4_3 dX12_turnsOf_23 rfl ?_
    refine y_iload_n dX12_turnsOf_24 rfl rfl ?_
    refine y_if_eq (tgt := 41) dX12_turnsOf_25 (by decide) (fun h25 => absurd h25 (by decide)) (fun h25 => ?_)
    refine y_aload_n dX12_turnsOf_28 rfl rfl ?_
    refine y_bipush (v := 6) dX12_turnsOf_29 (by decide) ?_
    refine y_iconst (v := 3) dX12_turnsOf_31 (by decide) ?_
    refine y_iload_n dX12_turnsOf_32 rfl rfl ?_
    refine y_imulN (a := 3) (b := i) dX12_turnsOf_33 rfl rfl ?_
    refine y_iaddN (a := 6) (b := 3 * i) dX12_turnsOf_34 rfl rfl ?_
    refine y_iconst (v := 2) dX12_turnsOf_35 (by decide) ?_
    refine y_iaddN (a := 6 + (3 * i)) (b := 2) dX12_turnsOf_36 rfl rfl ?_
    refine y_iload_n dX12_turnsOf_37 rfl rfl ?_
    refine y_ivV2 dX12_turnsOf_38 mv_X12_163 my_X12_put_ (Or.inl rfl) sh_239 ?_
    refine c_X12_put_ hb (p := 6 + 3 * i + 2) rfl (by omega) ⟨rfl, ?_⟩
    refine y_iload_n dX12_turnsOf_41 rfl rfl ?_
    refine y_ireturn dX12_turnsOf_42 rfl rfl ?_
    first
      | exact hQ0 (fun z => absurd h15 (Int32.not_lt.mpr z))
      | exact hQ1 (Int32.not_lt.mp h15)
      | exact hQ0 h15
      | exact hQ1 h15
