/-! ===== the reference: looking at a place, laying flour and doing ===== -/
def wkM (m : sM) (b : Nat) : sM := s_up m 239 (upd (m 239) 23 (nI b))
theorem wk_o {m : sM} {b a : Nat} (h : a ≠ 239) : wkM m b a = m a := s_upN h
theorem wk_b {m : sM} {b : Nat} (hb : b + 329 ≤ 1645) : bAt (wkM m b) b := ⟨by unfold wkM; rw [s_upS, updS], hb⟩
theorem stR_eta (m : sM) (b : Nat) : stR m (m 255) b (fun p => m 254 (b + p)) = m := by
  funext a
  unfold stR
  by_cases h1 : a = 254
  · rw [h1, s_upS]
    funext j
    by_cases q : b ≤ j ∧ j < b + 329
    · rw [if_pos q]
      show m 254 (b + (j - b)) = m 254 j
      rw [show b + (j - b) = j by omega]
    · rw [if_neg q]
  · rw [s_upN h1]
    by_cases h2 : a = 255
    · rw [h2, s_upS]
    · rw [s_upN h2]
theorem stR_2 {m : sM} {h h' : Nat → Int32} {b : Nat} {R R' : Nat → Int32} : stR (stR m h b R) h' b R' = stR m h' b R' := by
  funext a
  by_cases h1 : a = 254
  · rw [h1]
    unfold stR
    rw [s_upS, s_upS]
    funext j
    rw [s_upS]
    by_cases q : b ≤ j ∧ j < b + 329
    · rw [if_pos q, if_pos q]
    · rw [if_neg q, if_neg q, if_neg q]
  · by_cases h2 : a = 255
    · rw [h2, stR_h, stR_h]
    · rw [stR_o h1 h2, stR_o h1 h2, stR_o h1 h2]
theorem wk_stR {m : sM} {h : Nat → Int32} {b b' : Nat} {R : Nat → Int32} : wkM (stR m h b R) b' = stR (wkM m b') h b R := by
  funext a
  by_cases h0 : a = 239
  · rw [h0, stR_o (by decide) (by decide)]
    unfold wkM
    rw [s_upS, s_upS, stR_o (by decide) (by decide)]
  · rw [wk_o h0]
    by_cases h1 : a = 254
    · rw [h1]
      unfold stR
      rw [s_upS, s_upS]
      funext j
      rw [wk_o (by decide)]
    · by_cases h2 : a = 255
      · rw [h2, stR_h, stR_h]
      · rw [stR_o h1 h2, stR_o h1 h2, wk_o h0]
theorem wk_2 {m : sM} {b b' : Nat} : wkM (wkM m b) b' = wkM m b' := by
  unfold wkM
  rw [s_up2, s_upS]
  congr 1
  funext j
  unfold upd
  by_cases e : j = 23
  · rw [if_pos e, if_pos e]
  · rw [if_neg e, if_neg e, if_neg e]
/-- places lo to hi laid anew -/
def layN (g : Nat → Int32) (lo hi : Nat) (R : Nat → Int32) : Nat → Int32 := fun p => if lo ≤ p ∧ p < hi then g (p - lo) else R p
theorem layN_0 {g : Nat → Int32} {lo : Nat} {R : Nat → Int32} : layN g lo (lo + 0) R = R := by
  funext p
  unfold layN
  rw [if_neg (by omega)]
theorem layN_S {g : Nat → Int32} {lo k : Nat} {R : Nat → Int32} : upd (layN g lo (lo + k) R) (lo + k) (g k) = layN g lo (lo + (k + 1)) R := by
  funext p
  unfold upd layN
  by_cases e : p = lo + k
  · rw [if_pos e, if_pos (by omega), e, show lo + k - lo = k by omega]
  · rw [if_neg e]
    by_cases q : lo ≤ p ∧ p < lo + k
    · rw [if_pos q, if_pos (by omega)]
    · rw [if_neg q, if_neg (by omega)]
set_option maxHeartbeats 1000000 in
theorem c_X12_look {L : Nat} {xs : Nat → Int32} {d : Nat} {m : sM} {n : sN} {Q : sQ} {j : Nat} {x : Int32} (hx : x = nI j) (hQ : Q none (wkM m (329 * j)) n) : sRun (scT L xs) (d + 1) yX12_look cX12_look 2 none [.ref 239, .int x] m n Q := by
  subst hx
  refine y_run (own := "LoafFallModel") rfl (by decide +kernel) (Nat.le_of_ble_eq_true rfl) rfl ?_
  refine y_aload_n dX12_look_0 rfl rfl ?_
  refine y_sipush (v := 329) dX12_look_1 (by decide) ?_
  refine y_iload_n dX12_look_4 rfl rfl ?_
  refine y_imulN (a := 329) (b := j) dX12_look_5 rfl rfl ?_
  refine y_puti dX12_look_6 pf_X12_157 sh_239 rfl rfl rfl ?_
  refine y_return dX12_look_9 rfl ?_
  exact hQ
set_option maxHeartbeats 1000000 in
theorem c_X12_layFlour {L : Nat} {xs : Nat → Int32} {d : Nat} {m : sM} {n : sN} {Q : sQ} {b : Nat} {R h : Nat → Int32} (hb : bAt m b) {j : Nat} {x : Int32} (hx : x = nI j) (hj : j < 4) (hQ : Q none (stR m h b (layN (fun i => m 247 (5 * j + i)) 0 (0 + 5) R)) n) : sRun (scT L xs) (d + 2) yX12_layFlour cX12_layFlour 3 none [.ref 239, .int x] (stR m h b R) n Q := by
  subst hx
  refine y_run (own := "LoafFallModel") rfl (by decide +kernel) (Nat.le_of_ble_eq_true rfl) rfl ?_
  refine y_iconst (v := 0) dX12_layFlour_0 (by decide) ?_
  refine y_ist3_2 dX12_layFlour_1 rfl ?_
  rw [show stR m h b R = stR m h b (layN (fun i => m 247 (5 * j + i)) 0 (0 + 0) R) from by rw [layN_0]]
  refine cnt (P := fun k => sV (scT L xs) (d + 1) "LoafFallModel" cX12_layFlour 3 none Q 2 [some (.ref 239), some (.int (nI j)), some (.int (nI k))] [] (stR m h b (layN (fun i => m 247 (5 * j + i)) 0 (0 + k) R)) n) 5 ?_ ?_ 0 (by omega)
  · refine y_iload_n dX12_layFlour_2 rfl rfl ?_
    refine y_iconst (v := 5) dX12_layFlour_3 (by decide) ?_
    refine y_icmp_ge (tgt := 28) dX12_layFlour_4 (by decide) (fun h4 => ?_) (fun h4 => absurd (nI_le (a := 5) (b := 5) (Nat.le_refl _) (by decide)) h4)
    refine y_return dX12_layFlour_28 rfl ?_
    exact hQ
  · intro k hk hP
    refine y_iload_n dX12_layFlour_2 rfl rfl ?_
    refine y_iconst (v := 5) dX12_layFlour_3 (by decide) ?_
    refine y_icmp_ge (tgt := 28) dX12_layFlour_4 (by decide) (fun h4 => absurd h4 (nI_ge (a := k) (b := 5) hk (by decide))) (fun h4 => ?_)
    refine y_aload_n dX12_layFlour_7 rfl rfl ?_
    refine y_iload_n dX12_layFlour_8 rfl rfl ?_
    refine y_aload_n dX12_layFlour_9 rfl rfl ?_
    refine y_getr dX12_layFlour_10 gf_X12_33 sh_239 rfl ?_
    refine y_iconst (v := 5) dX12_layFlour_13 (by decide) ?_
    refine y_iload_n dX12_layFlour_14 rfl rfl ?_
    refine y_imulN (a := 5) (b := j) dX12_layFlour_15 rfl rfl ?_
    refine y_iload_n dX12_layFlour_16 rfl rfl ?_
    refine y_iaddN (a := 5 * j) (b := k) dX12_layFlour_17 rfl rfl ?_
    refine y_ialdN dX12_layFlour_18 sh_247 rfl (by first | omega | decide) (by decide) ?_
    rw [stR_o (by decide) (by decide)]
    refine y_ivV2 dX12_layFlour_19 mv_X12_163 my_X12_put_ (Or.inl rfl) sh_239 ?_
    refine c_X12_put_ hb (p := 0 + k) (by rw [Nat.zero_add]) (by omega) ⟨rfl, ?_⟩
    rw [layN_S (g := fun i => m 247 (5 * j + i))]
    refine y_iinc3_2 dX12_layFlour_22 (nI_1 _) rfl ?_
    refine y_goto (tgt := 2) dX12_layFlour_25 (by decide) ?_
    exact hP
set_option maxHeartbeats 1000000 in
theorem c_X12_layDoing {L : Nat} {xs : Nat → Int32} {d : Nat} {m : sM} {n : sN} {Q : sQ} {b : Nat} {R h : Nat → Int32} (hb : bAt m b) {j : Nat} {x : Int32} (hx : x = nI j) (hj : j < 4) (hQ : Q none (stR m h b (layN (fun i => m 250 (30 * j + i)) 6 (6 + 30) (upd R 5 (m 249 j)))) n) : sRun (scT L xs) (d + 2) yX12_layDoing cX12_layDoing 3 none [.ref 239, .int x] (stR m h b R) n Q := by
  subst hx
  refine y_run (own := "LoafFallModel") rfl (by decide +kernel) (Nat.le_of_ble_eq_true rfl) rfl ?_
  refine y_aload_n dX12_layDoing_0 rfl rfl ?_
  refine y_iconst (v := 5) dX12_layDoing_1 (by decide) ?_
  refine y_aload_n dX12_layDoing_2 rfl rfl ?_
  refine y_getr dX12_layDoing_3 gf_X12_39 sh_239 rfl ?_
  refine y_iload_n dX12_layDoing_6 rfl rfl ?_
  refine y_ialdN dX12_layDoing_7 sh_249 rfl (by first | omega | decide) (by decide) ?_
  rw [stR_o (by decide) (by decide)]
  refine y_ivV2 dX12_layDoing_8 mv_X12_163 my_X12_put_ (Or.inl rfl) sh_239 ?_
  refine c_X12_put_ hb (p := 5) rfl (by omega) ⟨rfl, ?_⟩
  refine y_iconst (v := 0) dX12_layDoing_11 (by decide) ?_
  refine y_ist3_2 dX12_layDoing_12 rfl ?_
  rw [show stR m h b (upd R 5 (m 249 j)) = stR m h b (layN (fun i => m 250 (30 * j + i)) 6 (6 + 0) (upd R 5 (m 249 j))) from by rw [layN_0]]
  refine cnt (P := fun k => sV (scT L xs) (d + 1) "LoafFallModel" cX12_layDoing 3 none Q 13 [some (.ref 239), some (.int (nI j)), some (.int (nI k))] [] (stR m h b (layN (fun i => m 250 (30 * j + i)) 6 (6 + k) (upd R 5 (m 249 j)))) n) 30 ?_ ?_ 0 (by omega)
  · refine y_iload_n dX12_layDoing_13 rfl rfl ?_
    refine y_bipush (v := 30) dX12_layDoing_14 (by decide) ?_
    refine y_icmp_ge (tgt := 44) dX12_layDoing_16 (by decide) (fun h16 => ?_) (fun h16 => absurd (nI_le (a := 30) (b := 30) (Nat.le_refl _) (by decide)) h16)
    refine y_return dX12_layDoing_44 rfl ?_
    exact hQ
  · intro k hk hP
    refine y_iload_n dX12_layDoing_13 rfl rfl ?_
    refine y_bipush (v := 30) dX12_layDoing_14 (by decide) ?_
    refine y_icmp_ge (tgt := 44) dX12_layDoing_16 (by decide) (fun h16 => absurd h16 (nI_ge (a := k) (b := 30) hk (by decide))) (fun h16 => ?_)
    refine y_aload_n dX12_layDoing_19 rfl rfl ?_
    refine y_bipush (v := 6) dX12_layDoing_20 (by decide) ?_
    refine y_iload_n dX12_layDoing_22 rfl rfl ?_
    refine y_iaddN (a := 6) (b := k) dX12_layDoing_23 rfl rfl ?_
    refine y_aload_n dX12_layDoing_24 rfl rfl ?_
    refine y_getr dX12_layDoing_25 gf_X12_42 sh_239 rfl ?_
    refine y_bipush (v := 30) dX12_layDoing_28 (by decide) ?_
    refine y_iload_n dX12_layDoing_30 rfl rfl ?_
    refine y_imulN (a := 30) (b := j) dX12_layDoing_31 rfl rfl ?_
    refine y_iload_n dX12_layDoing_32 rfl rfl ?_
    refine y_iaddN (a := 30 * j) (b := k) dX12_layDoing_33 rfl rfl ?_
    refine y_ialdN dX12_layDoing_34 sh_250 rfl (by first | omega | decide) (by decide) ?_
    rw [stR_o (by decide) (by decide)]
    refine y_ivV2 dX12_layDoing_35 mv_X12_163 my_X12_put_ (Or.inl rfl) sh_239 ?_
    refine c_X12_put_ hb (p := 6 + k) rfl (by omega) ⟨rfl, ?_⟩
    rw [layN_S (g := fun i => m 250 (30 * j + i))]
    refine y_iinc3_2 dX12_layDoing_38 (nI_1 _) rfl ?_
    refine y_goto (tgt := 13) dX12_layDoing_41 (by decide) ?_
    exact hP
/-- the row that layBoth lays -/
def bothR (m : sM) (f g : Nat) (R : Nat → Int32) : Nat → Int32 := layN (fun i => m 250 (30 * g + i)) 6 (6 + 30) (upd (layN (fun i => m 247 (5 * f + i)) 0 (0 + 5) R) 5 (m 249 g))
theorem both_f {m : sM} {f g p : Nat} {R : Nat → Int32} (h : p < 5) : bothR m f g R p = m 247 (5 * f + p) := by
  unfold bothR layN upd
  rw [if_neg (by omega), if_neg (by omega)]
  show (if 0 ≤ p ∧ p < 0 + 5 then m 247 (5 * f + (p - 0)) else R p) = _
  rw [if_pos (by omega), Nat.sub_zero]
theorem both_5 {m : sM} {f g : Nat} {R : Nat → Int32} : bothR m f g R 5 = m 249 g := by
  unfold bothR layN upd
  rw [if_neg (by omega), if_pos rfl]
theorem both_s {m : sM} {f g p : Nat} {R : Nat → Int32} (h1 : 6 ≤ p) (h : p < 36) : bothR m f g R p = m 250 (30 * g + (p - 6)) := by
  unfold bothR layN
  rw [if_pos (by omega)]
set_option maxHeartbeats 1000000 in
theorem c_X12_layBoth {L : Nat} {xs : Nat → Int32} {d : Nat} {m : sM} {n : sN} {Q : sQ} {f g : Nat} {x z : Int32} (hx : x = nI f) (hf : f < 4) (hz : z = nI g) (hg : g < 4) (hQ : Q none (stR (wkM m 1316) (m 255) 1316 (bothR m f g (fun p => m 254 (1316 + p)))) n) : sRun (scT L xs) (d + 3) yX12_layBoth cX12_layBoth 3 none [.ref 239, .int x, .int z] m n Q := by
  subst hx hz
  refine y_run (own := "LoafFallModel") rfl (by decide +kernel) (Nat.le_of_ble_eq_true rfl) rfl ?_
  refine y_aload_n dX12_layBoth_0 rfl rfl ?_
  refine y_iconst (v := 4) dX12_layBoth_1 (by decide) ?_
  refine y_ivV1 dX12_layBoth_2 mv_X12_174 my_X12_look (Or.inl rfl) sh_239 ?_
  refine c_X12_look (j := 4) rfl ⟨rfl, ?_⟩
  rw [show 329 * 4 = 1316 from rfl, ← stR_eta (wkM m 1316) 1316, wk_o (show 255 ≠ 239 by decide), wk_o (show 254 ≠ 239 by decide)]
  refine y_aload_n dX12_layBoth_5 rfl rfl ?_
  refine y_iload_n dX12_layBoth_6 rfl rfl ?_
  refine y_ivV1 dX12_layBoth_7 mv_X12_178 my_X12_layFlour (Or.inl rfl) sh_239 ?_
  refine c_X12_layFlour (wk_b (by omega)) (j := f) rfl hf ⟨rfl, ?_⟩
  rw [wk_o (show 247 ≠ 239 by decide)]
  refine y_aload_n dX12_layBoth_10 rfl rfl ?_
  refine y_iload_n dX12_layBoth_11 rfl rfl ?_
  refine y_ivV1 dX12_layBoth_12 mv_X12_181 my_X12_layDoing (Or.inl rfl) sh_239 ?_
  refine c_X12_layDoing (wk_b (by omega)) (j := g) rfl hg ⟨rfl, ?_⟩
  rw [wk_o (show 249 ≠ 239 by decide), wk_o (show 250 ≠ 239 by decide)]
  refine y_return dX12_layBoth_15 rfl ?_
  exact hQ
