def lsr (a b : Int32) : Int32 := if a < b then a else b
def gtr (a b : Int32) : Int32 := if b < a then a else b
def dst (a b : Int32) : Int32 := if a < b then b - a else a - b
theorem sV_eq {sc : aS} {d : Nat} {own : String} {cc : ByteArray} {nL : Nat} {ret : Option FieldType} {Q : sQ} {pc : Nat} {ls : aL} {st : List Value} {m m' : sM} {n : sN} (h : m = m') (k : sV sc d own cc nL ret Q pc ls st m' n) : sV sc d own cc nL ret Q pc ls st m n := h ▸ k
theorem sQ_eq {Q : sQ} {r r' : Option Value} {m m' : sM} {n : sN} (hr : r = r') (h : m = m') (k : Q r' m' n) : Q r m n := h ▸ hr ▸ k
/-- the state with row R of the loaf at b, heats h -/
def stR (m : sM) (h : Nat → Int32) (b : Nat) (R : Nat → Int32) : sM := s_up (s_up m 255 h) 254 (fun j => if b ≤ j ∧ j < b + 329 then R (j - b) else m 254 j)
theorem stR_o {m : sM} {h : Nat → Int32} {b : Nat} {R : Nat → Int32} {a : Nat} (h1 : a ≠ 254) (h2 : a ≠ 255) : stR m h b R a = m a := by
  unfold stR
  rw [s_upN h1, s_upN h2]
theorem stR_get {m : sM} {h : Nat → Int32} {b p : Nat} {R : Nat → Int32} (hp : p < 329) : stR m h b R 254 (b + p) = R p := by
  unfold stR
  rw [s_upS, if_pos (by omega), show b + p - b = p by omega]
theorem stR_h {m : sM} {h : Nat → Int32} {b : Nat} {R : Nat → Int32} : stR m h b R 255 = h := by
  unfold stR
  rw [s_upN (by decide), s_upS]
theorem stR_put {m : sM} {h : Nat → Int32} {b p : Nat} {R : Nat → Int32} {v : Int32} (hp : p < 329) : s_up (stR m h b R) 254 (upd (stR m h b R 254) (b + p) v) = stR m h b (upd R p v) := by
  funext a
  by_cases h1 : a = 254
  · subst h1
    rw [s_upS]
    unfold stR
    rw [s_upS, s_upS]
    funext j
    unfold upd
    by_cases hj : j = b + p
    · subst hj
      rw [if_pos rfl, if_pos (by omega), if_pos (by omega)]
    · rw [if_neg hj]
      dsimp only
      by_cases hr : b ≤ j ∧ j < b + 329
      · rw [if_pos hr, if_pos hr, if_neg (by omega)]
      · rw [if_neg hr, if_neg hr]
  · rw [s_upN h1]
    unfold stR
    rw [s_upN h1, s_upN h1]
theorem stR_heat {m : sM} {h g : Nat → Int32} {b : Nat} {R : Nat → Int32} : s_up (stR m h b R) 255 g = stR m g b R := by
  funext a
  by_cases h1 : a = 255
  · subst h1
    rw [s_upS, stR_h]
  · rw [s_upN h1]
    by_cases h2 : a = 254
    · subst h2
      unfold stR
      rw [s_upS, s_upS]
    · rw [stR_o h2 h1, stR_o h2 h1]
/-- b of the reference is b -/
def bAt (m : sM) (b : Nat) : Prop := m 239 23 = nI b ∧ b + 329 ≤ 1645
section YN2
variable {sc : aS} {d : Nat} {own : String} {cc : ByteArray} {nL : Nat} {ret : Option FieldType} {Q : sQ} {pc : Nat} {ls : aL} {st : List Value} {m : sM} {n : sN}
theorem y_iaddN {x y : Int32} {a b : Nat} (hd : decode cc pc = .ok (.iadd, 1)) (hx : x = nI a) (hy : y = nI b) (k0 : sV sc d own cc nL ret Q (pc + 1) ls (.int (nI (a + b)) :: st) m n) : sV sc d own cc nL ret Q pc ls (.int y :: .int x :: st) m n := by
  subst hx hy
  refine y_iadd hd ?_
  rw [nI_add]
  exact k0
theorem y_imulN {x y : Int32} {a b : Nat} (hd : decode cc pc = .ok (.imul, 1)) (hx : x = nI a) (hy : y = nI b) (k0 : sV sc d own cc nL ret Q (pc + 1) ls (.int (nI (a * b)) :: st) m n) : sV sc d own cc nL ret Q pc ls (.int y :: .int x :: st) m n := by
  subst hx hy
  refine y_imul hd ?_
  rw [pk_mul]
  exact k0
theorem y_isubN {x y : Int32} {a b : Nat} (hd : decode cc pc = .ok (.isub, 1)) (hx : x = nI a) (hy : y = nI b) (hle : b ≤ a) (k0 : sV sc d own cc nL ret Q (pc + 1) ls (.int (nI (a - b)) :: st) m n) : sV sc d own cc nL ret Q pc ls (.int y :: .int x :: st) m n := by
  subst hx hy
  refine y_isub hd ?_
  rw [pk_sub hle]
  exact k0
theorem y_idivN {x y : Int32} {a b : Nat} (hd : decode cc pc = .ok (.idiv, 1)) (hx : x = nI a) (hy : y = nI b) (ha : a < 2 ^ 31) (hb0 : 0 < b) (hb : b < 2 ^ 31) (k0 : sV sc d own cc nL ret Q (pc + 1) ls (.int (nI (a / b)) :: st) m n) : sV sc d own cc nL ret Q pc ls (.int y :: .int x :: st) m n := by
  subst hx hy
  refine y_idiv hd (nI_ne0 hb0 hb) ?_
  rw [pk_div ha hb0 hb]
  exact k0
theorem y_iremN {x y : Int32} {a b : Nat} (hd : decode cc pc = .ok (.irem, 1)) (hx : x = nI a) (hy : y = nI b) (ha : a < 2 ^ 31) (hb0 : 0 < b) (hb : b < 2 ^ 31) (k0 : sV sc d own cc nL ret Q (pc + 1) ls (.int (nI (a % b)) :: st) m n) : sV sc d own cc nL ret Q pc ls (.int y :: .int x :: st) m n := by
  subst hx hy
  refine y_irem hd (nI_ne0 hb0 hb) ?_
  rw [pk_rem ha hb0 hb]
  exact k0
end YN2

set_option maxHeartbeats 1000000 in
theorem c_X12_in {L : Nat} {xs : Nat → Int32} {d : Nat} {m : sM} {n : sN} {Q : sQ} {v lo hi : Int32} (hT : lo ≤ v → v ≤ hi → Q (some (.int 1)) m n) (hF : ¬ (lo ≤ v ∧ v ≤ hi) → Q (some (.int 0)) m n) : sRun (scT L xs) (d + 1) yX12_in cX12_in 3 (some .boolean) [.int v, .int lo, .int hi] m n Q := by
  refine y_run (own := "LoafFallModel") rfl (by decide +kernel) (Nat.le_of_ble_eq_true rfl) rfl ?_
  refine y_iload_n dX12_in_0 rfl rfl ?_
  refine y_iload_n dX12_in_1 rfl rfl ?_
  refine y_icmp_lt (tgt := 14) dX12_in_2 (by decide) (fun h2 => ?_) (fun h2 => ?_)
  · refine y_iconst (v := 0) dX12_in_14 (by decide) ?_
    refine y_ireturn dX12_in_15 rfl rfl ?_
    first | exact hT (Int32.not_lt.mp h2) (Int32.not_lt.mp h7) | exact hF (fun q => absurd h7 (Int32.not_lt.mpr q.2)) | exact hF (fun q => absurd h2 (Int32.not_lt.mpr q.1))
  · refine y_iload_n dX12_in_5 rfl rfl ?_
    refine y_iload_n dX12_in_6 rfl rfl ?_
    refine y_icmp_gt (tgt := 14) dX12_in_7 (by decide) (fun h7 => ?_) (fun h7 => ?_)
    · refine y_iconst (v := 0) dX12_in_14 (by decide) ?_
      refine y_ireturn dX12_in_15 rfl rfl ?_
      first | exact hT (Int32.not_lt.mp h2) (Int32.not_lt.mp h7) | exact hF (fun q => absurd h7 (Int32.not_lt.mpr q.2)) | exact hF (fun q => absurd h2 (Int32.not_lt.mpr q.1))
    · refine y_iconst (v := 1) dX12_in_10 (by decide) ?_
      refine y_goto (tgt := 15) dX12_in_11 (by decide) ?_
      refine y_ireturn dX12_in_15 rfl rfl ?_
      first | exact hT (Int32.not_lt.mp h2) (Int32.not_lt.mp h7) | exact hF (fun q => absurd h7 (Int32.not_lt.mpr q.2)) | exact hF (fun q => absurd h2 (Int32.not_lt.mpr q.1))
set_option maxHeartbeats 1000000 in
theorem c_X12_lesser {L : Nat} {xs : Nat → Int32} {d : Nat} {m : sM} {n : sN} {Q : sQ} {a b : Int32} (hQ : Q (some (.int (lsr a b))) m n) : sRun (scT L xs) (d + 1) yX12_lesser cX12_lesser 2 (some .int) [.int a, .int b] m n Q := by
  refine y_run (own := "LoafFallModel") rfl (by decide +kernel) (Nat.le_of_ble_eq_true rfl) rfl ?_
  refine y_iload_n dX12_lesser_0 rfl rfl ?_
  refine y_iload_n dX12_lesser_1 rfl rfl ?_
  refine y_icmp_ge (tgt := 9) dX12_lesser_2 (by decide) (fun h2 => ?_) (fun h2 => ?_)
  · refine y_iload_n dX12_lesser_9 rfl rfl ?_
    refine y_ireturn dX12_lesser_10 rfl rfl ?_
    first | (rw [lsr, if_neg (Int32.not_lt.mpr h2)] at hQ; exact hQ) | (rw [lsr, if_pos (Int32.not_le.mp h2)] at hQ; exact hQ)
  · refine y_iload_n dX12_lesser_5 rfl rfl ?_
    refine y_goto (tgt := 10) dX12_lesser_6 (by decide) ?_
    refine y_ireturn dX12_lesser_10 rfl rfl ?_
    first | (rw [lsr, if_neg (Int32.not_lt.mpr h2)] at hQ; exact hQ) | (rw [lsr, if_pos (Int32.not_le.mp h2)] at hQ; exact hQ)
set_option maxHeartbeats 1000000 in
theorem c_X12_off {L : Nat} {xs : Nat → Int32} {d : Nat} {m : sM} {n : sN} {Q : sQ} {a b : Int32} (hQ : Q (some (.int (dst a b))) m n) : sRun (scT L xs) (d + 1) yX12_off cX12_off 2 (some .int) [.int a, .int b] m n Q := by
  refine y_run (own := "LoafFallModel") rfl (by decide +kernel) (Nat.le_of_ble_eq_true rfl) rfl ?_
  refine y_iload_n dX12_off_0 rfl rfl ?_
  refine y_iload_n dX12_off_1 rfl rfl ?_
  refine y_icmp_ge (tgt := 11) dX12_off_2 (by decide) (fun h2 => ?_) (fun h2 => ?_)
  · refine y_iload_n dX12_off_11 rfl rfl ?_
    refine y_iload_n dX12_off_12 rfl rfl ?_
    refine y_isub dX12_off_13 ?_
    refine y_ireturn dX12_off_14 rfl rfl ?_
    first | (rw [dst, if_neg (Int32.not_lt.mpr h2)] at hQ; exact hQ) | (rw [dst, if_pos (Int32.not_le.mp h2)] at hQ; exact hQ)
  · refine y_iload_n dX12_off_5 rfl rfl ?_
    refine y_iload_n dX12_off_6 rfl rfl ?_
    refine y_isub dX12_off_7 ?_
    refine y_goto (tgt := 14) dX12_off_8 (by decide) ?_
    refine y_ireturn dX12_off_14 rfl rfl ?_
    first | (rw [dst, if_neg (Int32.not_lt.mpr h2)] at hQ; exact hQ) | (rw [dst, if_pos (Int32.not_le.mp h2)] at hQ; exact hQ)
set_option maxHeartbeats 1000000 in
theorem c_X12_greater {L : Nat} {xs : Nat → Int32} {d : Nat} {m : sM} {n : sN} {Q : sQ} {a b : Int32} (hQ : Q (some (.int (gtr a b))) m n) : sRun (scT L xs) (d + 1) yX12_greater cX12_greater 2 (some .int) [.int a, .int b] m n Q := by
  refine y_run (own := "LoafFallModel") rfl (by decide +kernel) (Nat.le_of_ble_eq_true rfl) rfl ?_
  refine y_iload_n dX12_greater_0 rfl rfl ?_
  refine y_iload_n dX12_greater_1 rfl rfl ?_
  refine y_icmp_le (tgt := 9) dX12_greater_2 (by decide) (fun h2 => ?_) (fun h2 => ?_)
  · refine y_iload_n dX12_greater_9 rfl rfl ?_
    refine y_ireturn dX12_greater_10 rfl rfl ?_
    first | (rw [gtr, if_neg (Int32.not_lt.mpr h2)] at hQ; exact hQ) | (rw [gtr, if_pos (Int32.not_le.mp h2)] at hQ; exact hQ)
  · refine y_iload_n dX12_greater_5 rfl rfl ?_
    refine y_goto (tgt := 10) dX12_greater_6 (by decide) ?_
    refine y_ireturn dX12_greater_10 rfl rfl ?_
    first | (rw [gtr, if_neg (Int32.not_lt.mpr h2)] at hQ; exact hQ) | (rw [gtr, if_pos (Int32.not_le.mp h2)] at hQ; exact hQ)
set_option maxHeartbeats 1000000 in
theorem c_X12_v {L : Nat} {xs : Nat → Int32} {d : Nat} {m : sM} {n : sN} {Q : sQ} {b p : Nat} {R h : Nat → Int32} (hb : bAt m b) {x : Int32} (hx : x = nI p) (hp : p < 329) (hQ : Q (some (.int (R p))) (stR m h b R) n) : sRun (scT L xs) (d + 1) yX12_v cX12_v 2 (some .int) [.ref 239, .int x] (stR m h b R) n Q := by
  have hb2 := hb.2
  refine y_run (own := "LoafFallModel") rfl (by decide +kernel) (Nat.le_of_ble_eq_true rfl) rfl ?_
  refine y_aload_n dX12_v_0 rfl rfl ?_
  refine y_getr dX12_v_1 gf_X12_54 sh_239 rfl ?_
  refine y_aload_n dX12_v_4 rfl rfl ?_
  refine y_geti dX12_v_5 gf_X12_157 sh_239 rfl ?_
  rw [stR_o (by decide) (by decide), hb.1]
  refine y_iload_n dX12_v_8 rfl rfl ?_
  refine y_iadd dX12_v_9 ?_
  refine y_ialdN dX12_v_10 sh_254 (by rw [hx]; exact nI_add _ _) (by first | omega | decide) (by decide) ?_
  rw [stR_get hp]
  refine y_ireturn dX12_v_11 rfl rfl ?_
  exact hQ
set_option maxHeartbeats 1000000 in
theorem c_X12_put_ {L : Nat} {xs : Nat → Int32} {d : Nat} {m : sM} {n : sN} {Q : sQ} {b p : Nat} {R h : Nat → Int32} (hb : bAt m b) {x v : Int32} (hx : x = nI p) (hp : p < 329) (hQ : Q none (stR m h b (upd R p v)) n) : sRun (scT L xs) (d + 1) yX12_put_ cX12_put_ 3 none [.ref 239, .int x, .int v] (stR m h b R) n Q := by
  have hb2 := hb.2
  refine y_run (own := "LoafFallModel") rfl (by decide +kernel) (Nat.le_of_ble_eq_true rfl) rfl ?_
  refine y_aload_n dX12_put__0 rfl rfl ?_
  refine y_getr dX12_put__1 gf_X12_54 sh_239 rfl ?_
  refine y_aload_n dX12_put__4 rfl rfl ?_
  refine y_geti dX12_put__5 gf_X12_157 sh_239 rfl ?_
  rw [stR_o (by decide) (by decide), hb.1]
  refine y_iload_n dX12_put__8 rfl rfl ?_
  refine y_iadd dX12_put__9 ?_
  refine y_iload_n dX12_put__10 rfl rfl ?_
  refine y_iastN dX12_put__11 sh_254 (by rw [hx]; exact nI_add _ _) (by first | omega | decide) (by decide) ?_
  rw [stR_put hp]
  refine y_return dX12_put__12 rfl ?_
  exact hQ
set_option maxHeartbeats 1000000 in
theorem c_X12_c {L : Nat} {xs : Nat → Int32} {d : Nat} {m : sM} {n : sN} {Q : sQ} {b k j : Nat} {R h : Nat → Int32} (hb : bAt m b) {x y : Int32} (hx : x = nI k) (hy : y = nI j) (hp : 41 + 5 * k + j < 329) (hQ : Q (some (.int (R (41 + 5 * k + j)))) (stR m h b R) n) : sRun (scT L xs) (d + 2) yX12_c cX12_c 3 (some .int) [.ref 239, .int x, .int y] (stR m h b R) n Q := by
  refine y_run (own := "LoafFallModel") rfl (by decide +kernel) (Nat.le_of_ble_eq_true rfl) rfl ?_
  refine y_aload_n dX12_c_0 rfl rfl ?_
  refine y_bipush (v := 41) dX12_c_1 (by decide) ?_
  refine y_iconst (v := 5) dX12_c_3 (by decide) ?_
  refine y_iload_n dX12_c_4 rfl rfl ?_
  refine y_imul dX12_c_5 ?_
  refine y_iadd dX12_c_6 ?_
  refine y_iload_n dX12_c_7 rfl rfl ?_
  refine y_iadd dX12_c_8 ?_
  refine y_ivI1 dX12_c_9 mv_X12_160 my_X12_v (Or.inl rfl) sh_239 ?_
  refine c_X12_v hb (p := 41 + 5 * k + j) (by rw [hx, hy]; show nI 41 + nI 5 * nI k + nI j = _; rw [pk_mul, nI_add, nI_add]) hp ⟨_, rfl, ?_⟩
  refine y_ireturn dX12_c_12 rfl rfl ?_
  exact hQ
set_option maxHeartbeats 1000000 in
theorem c_X12_putCell {L : Nat} {xs : Nat → Int32} {d : Nat} {m : sM} {n : sN} {Q : sQ} {b k j : Nat} {R h : Nat → Int32} (hb : bAt m b) {x y v : Int32} (hx : x = nI k) (hy : y = nI j) (hp : 41 + 5 * k + j < 329) (hQ : Q none (stR m h b (upd R (41 + 5 * k + j) v)) n) : sRun (scT L xs) (d + 2) yX12_putCell cX12_putCell 4 none [.ref 239, .int x, .int y, .int v] (stR m h b R) n Q := by
  refine y_run (own := "LoafFallModel") rfl (by decide +kernel) (Nat.le_of_ble_eq_true rfl) rfl ?_
  refine y_aload_n dX12_putCell_0 rfl rfl ?_
  refine y_bipush (v := 41) dX12_putCell_1 (by decide) ?_
  refine y_iconst (v := 5) dX12_putCell_3 (by decide) ?_
  refine y_iload_n dX12_putCell_4 rfl rfl ?_
  refine y_imul dX12_putCell_5 ?_
  refine y_iadd dX12_putCell_6 ?_
  refine y_iload_n dX12_putCell_7 rfl rfl ?_
  refine y_iadd dX12_putCell_8 ?_
  refine y_iload_n dX12_putCell_9 rfl rfl ?_
  refine y_ivV2 dX12_putCell_10 mv_X12_163 my_X12_put_ (Or.inl rfl) sh_239 ?_
  refine c_X12_put_ hb (p := 41 + 5 * k + j) (by rw [hx, hy]; show nI 41 + nI 5 * nI k + nI j = _; rw [pk_mul, nI_add, nI_add]) hp ⟨rfl, ?_⟩
  refine y_return dX12_putCell_13 rfl ?_
  exact hQ
set_option maxHeartbeats 1000000 in
theorem c_X12_s {L : Nat} {xs : Nat → Int32} {d : Nat} {m : sM} {n : sN} {Q : sQ} {b k j : Nat} {R h : Nat → Int32} (hb : bAt m b) {x y : Int32} (hx : x = nI k) (hy : y = nI j) (hp : 6 + 3 * k + j < 329) (hQ : Q (some (.int (R (6 + 3 * k + j)))) (stR m h b R) n) : sRun (scT L xs) (d + 2) yX12_s cX12_s 3 (some .int) [.ref 239, .int x, .int y] (stR m h b R) n Q := by
  refine y_run (own := "LoafFallModel") rfl (by decide +kernel) (Nat.le_of_ble_eq_true rfl) rfl ?_
  refine y_aload_n dX12_s_0 rfl rfl ?_
  refine y_bipush (v := 6) dX12_s_1 (by decide) ?_
  refine y_iconst (v := 3) dX12_s_3 (by decide) ?_
  refine y_iload_n dX12_s_4 rfl rfl ?_
  refine y_imul dX12_s_5 ?_
  refine y_iadd dX12_s_6 ?_
  refine y_iload_n dX12_s_7 rfl rfl ?_
  refine y_iadd dX12_s_8 ?_
  refine y_ivI1 dX12_s_9 mv_X12_160 my_X12_v (Or.inl rfl) sh_239 ?_
  refine c_X12_v hb (p := 6 + 3 * k + j) (by rw [hx, hy]; show nI 6 + nI 3 * nI k + nI j = _; rw [pk_mul, nI_add, nI_add]) hp ⟨_, rfl, ?_⟩
  refine y_ireturn dX12_s_12 rfl rfl ?_
  exact hQ
set_option maxHeartbeats 1000000 in
theorem c_X12_f {L : Nat} {xs : Nat → Int32} {d : Nat} {m : sM} {n : sN} {Q : sQ} {b k j : Nat} {R h : Nat → Int32} (hb : bAt m b) {x y : Int32} (hx : x = nI k) (hy : y = nI j) (hp : 161 + 7 * k + j < 329) (hQ : Q (some (.int (R (161 + 7 * k + j)))) (stR m h b R) n) : sRun (scT L xs) (d + 2) yX12_f cX12_f 3 (some .int) [.ref 239, .int x, .int y] (stR m h b R) n Q := by
  refine y_run (own := "LoafFallModel") rfl (by decide +kernel) (Nat.le_of_ble_eq_true rfl) rfl ?_
  refine y_aload_n dX12_f_0 rfl rfl ?_
  refine y_sipush (v := 161) dX12_f_1 (by decide) ?_
  refine y_bipush (v := 7) dX12_f_4 (by decide) ?_
  refine y_iload_n dX12_f_6 rfl rfl ?_
  refine y_imul dX12_f_7 ?_
  refine y_iadd dX12_f_8 ?_
  refine y_iload_n dX12_f_9 rfl rfl ?_
  refine y_iadd dX12_f_10 ?_
  refine y_ivI1 dX12_f_11 mv_X12_160 my_X12_v (Or.inl rfl) sh_239 ?_
  refine c_X12_v hb (p := 161 + 7 * k + j) (by rw [hx, hy]; show nI 161 + nI 7 * nI k + nI j = _; rw [pk_mul, nI_add, nI_add]) hp ⟨_, rfl, ?_⟩
  refine y_ireturn dX12_f_14 rfl rfl ?_
  exact hQ
abbrev isOut (k : Nat) : Prop := k % 2 = 0 ∨ k / 2 = 0 ∨ k / 2 = 11
set_option maxHeartbeats 1000000 in
theorem c_X12_isOuter {L : Nat} {xs : Nat → Int32} {d : Nat} {m : sM} {n : sN} {Q : sQ} {k : Nat} {x : Int32} (hx : x = nI k) (hk : k < 24) (hT : isOut k → Q (some (.int 1)) m n) (hF : ¬ isOut k → Q (some (.int 0)) m n) : sRun (scT L xs) (d + 1) yX12_isOuter cX12_isOuter 1 (some .boolean) [.int x] m n Q := by
  have e1 : nI k - nI k / 2 * 2 = nI (k % 2) := pk_rem (d := 2) (by omega) (by decide) (by decide)
  have e2 : nI k / 2 = nI (k / 2) := pk_div (d := 2) (by omega) (by decide) (by decide)
  subst hx
  refine y_run (own := "LoafFallModel") rfl (by decide +kernel) (Nat.le_of_ble_eq_true rfl) rfl ?_
  refine y_iload_n dX12_isOuter_0 rfl rfl ?_
  refine y_iconst (v := 2) dX12_isOuter_1 (by decide) ?_
  refine y_irem dX12_isOuter_2 (by decide) ?_
  rw [e1]
  refine y_if_eq (tgt := 20) dX12_isOuter_3 (by decide) (fun h3 => ?_) (fun h3 => ?_)
  · refine y_iconst (v := 1) dX12_isOuter_20 (by decide) ?_
    refine y_goto (tgt := 25) dX12_isOuter_21 (by decide) ?_
    refine y_ireturn dX12_isOuter_25 rfl rfl ?_
    first
      | exact hT (Or.inl ((nI_eq (b := 0) (by omega) (by decide)).mp h3))
      | exact hT (Or.inr (Or.inl ((nI_eq (b := 0) (by omega) (by decide)).mp h9)))
      | exact hT (Or.inr (Or.inr ((nI_eq (b := 11) (by omega) (by decide)).mp h17)))
      | exact hF (fun q => q.elim (fun q => h3 ((nI_eq (b := 0) (by omega) (by decide)).mpr q)) (fun q => q.elim (fun q => h9 ((nI_eq (b := 0) (by omega) (by decide)).mpr q)) (fun q => h17 ((nI_eq (b := 11) (by omega) (by decide)).mpr q))))
  · refine y_iload_n dX12_isOuter_6 rfl rfl ?_
    refine y_iconst (v := 2) dX12_isOuter_7 (by decide) ?_
    refine y_idiv dX12_isOuter_8 (by decide) ?_
    rw [e2]
    refine y_if_eq (tgt := 20) dX12_isOuter_9 (by decide) (fun h9 => ?_) (fun h9 => ?_)
    · refine y_iconst (v := 1) dX12_isOuter_20 (by decide) ?_
      refine y_goto (tgt := 25) dX12_isOuter_21 (by decide) ?_
      refine y_ireturn dX12_isOuter_25 rfl rfl ?_
      first
        | exact hT (Or.inl ((nI_eq (b := 0) (by omega) (by decide)).mp h3))
        | exact hT (Or.inr (Or.inl ((nI_eq (b := 0) (by omega) (by decide)).mp h9)))
        | exact hT (Or.inr (Or.inr ((nI_eq (b := 11) (by omega) (by decide)).mp h17)))
        | exact hF (fun q => q.elim (fun q => h3 ((nI_eq (b := 0) (by omega) (by decide)).mpr q)) (fun q => q.elim (fun q => h9 ((nI_eq (b := 0) (by omega) (by decide)).mpr q)) (fun q => h17 ((nI_eq (b := 11) (by omega) (by decide)).mpr q))))
    · refine y_iload_n dX12_isOuter_12 rfl rfl ?_
      refine y_iconst (v := 2) dX12_isOuter_13 (by decide) ?_
      refine y_idiv dX12_isOuter_14 (by decide) ?_
      rw [e2]
      refine y_bipush (v := 11) dX12_isOuter_15 (by decide) ?_
      refine y_icmp_ne (tgt := 24) dX12_isOuter_17 (by decide) (fun h17 => ?_) (fun h17 => ?_)
      · refine y_iconst (v := 0) dX12_isOuter_24 (by decide) ?_
        refine y_ireturn dX12_isOuter_25 rfl rfl ?_
        first
          | exact hT (Or.inl ((nI_eq (b := 0) (by omega) (by decide)).mp h3))
          | exact hT (Or.inr (Or.inl ((nI_eq (b := 0) (by omega) (by decide)).mp h9)))
          | exact hT (Or.inr (Or.inr ((nI_eq (b := 11) (by omega) (by decide)).mp h17)))
          | exact hF (fun q => q.elim (fun q => h3 ((nI_eq (b := 0) (by omega) (by decide)).mpr q)) (fun q => q.elim (fun q => h9 ((nI_eq (b := 0) (by omega) (by decide)).mpr q)) (fun q => h17 ((nI_eq (b := 11) (by omega) (by decide)).mpr q))))
      · refine y_iconst (v := 1) dX12_isOuter_20 (by decide) ?_
        refine y_goto (tgt := 25) dX12_isOuter_21 (by decide) ?_
        refine y_ireturn dX12_isOuter_25 rfl rfl ?_
        first
          | exact hT (Or.inl ((nI_eq (b := 0) (by omega) (by decide)).mp h3))
          | exact hT (Or.inr (Or.inl ((nI_eq (b := 0) (by omega) (by decide)).mp h9)))
          | exact hT (Or.inr (Or.inr ((nI_eq (b := 11) (by omega) (by decide)).mp h17)))
          | exact hF (fun q => q.elim (fun q => h3 ((nI_eq (b := 0) (by omega) (by decide)).mpr q)) (fun q => q.elim (fun q => h9 ((nI_eq (b := 0) (by omega) (by decide)).mpr q)) (fun q => h17 ((nI_eq (b := 11) (by omega) (by decide)).mpr q))))
