/-! ===== count ===== -/
def cntZ (f : Nat → Int32) : Nat → Int32
  | 0 => 0
  | k + 1 => cntZ f k + (if f k = 0 then 0 else 1)
theorem cntZ_eq {f g : Nat → Int32} : ∀ k, (∀ i, i < k → (f i = 0 ↔ g i = 0)) → cntZ f k = cntZ g k := by
  intro k
  induction k with
  | zero => intro _; rfl
  | succ k ih =>
    intro h
    rw [cntZ, cntZ, ih (fun i hi => h i (by omega))]
    by_cases z : f k = 0
    · rw [if_pos z, if_pos ((h k (by omega)).mp z)]
    · rw [if_neg z, if_neg (fun e => z ((h k (by omega)).mpr e))]
theorem cntZ_p {f : Nat → Int32} {k : Nat} (h : f k = 0) : cntZ f (k + 1) = cntZ f k + 0 := by rw [cntZ, if_pos h]
theorem cntZ_n {f : Nat → Int32} {k : Nat} (h : ¬ f k = 0) : cntZ f (k + 1) = cntZ f k + 1 := by rw [cntZ, if_neg h]
def geZ (f : Nat → Int32) : Nat → Int32 := fun k => if f k < 0 then 0 else 1
theorem geZ_p {f : Nat → Int32} {k : Nat} (h : f k < 0) : geZ f k = 0 := if_pos h
theorem geZ_n {f : Nat → Int32} {k : Nat} (h : ¬ f k < 0) : ¬ geZ f k = 0 := by unfold geZ; rw [if_neg h]; decide
def kpZ (f : Nat → Int32) : Nat → Int32 := fun k => if k = 0 then 0 else f k
theorem kpZ_p {f : Nat → Int32} {k : Nat} (h : nI k ≤ 0) (hk : k < 4) : kpZ f k = 0 := if_pos ((Nat.eq_zero_or_pos k).elim id (fun z => absurd h (nI_nle z (by omega))))
theorem kpZ_o {f : Nat → Int32} {k : Nat} (h : f k = 0) : kpZ f k = 0 := by unfold kpZ; rw [h]; split <;> rfl
theorem kpZ_n {f : Nat → Int32} {k : Nat} (h : ¬ nI k ≤ 0) (h2 : ¬ f k = 0) : ¬ kpZ f k = 0 := by
  unfold kpZ
  rw [if_neg (fun z => h (by rw [z]; decide))]
  exact h2
/-- what the reference counts -/
def CNT (m : sM) (q : Nat) : Int32 := match q with
  | 0 => cntZ (m 246) 4
  | 1 => cntZ (m 248) 4
  | 2 => if m 253 0 = 0 then 0 else lfR m 0 38
  | 3 => if m 253 0 = 0 then 0 else lfR m 0 40
  | 4 => if m 253 0 = 0 then 0 else undS (fun k => lfR m 0 (161 + 7 * k + 0)) (qOf (lfR m 0))
  | 5 => cntZ (kpZ (m 253)) 4
  | 6 => m 239 28
  | 7 => cntZ (geZ (m 241)) 6
  | _ => cntZ (geZ (m 244)) 4
theorem cntO {x : Int32} (h : ¬ inN x 9) : x.toInt < 0 ∨ 8 < x.toInt := by
  by_cases z : x < 0
  · left; rw [Int32.lt_iff_toInt_lt] at z; exact z
  · right
    have : ¬ x ≤ nI 8 := fun e => h ((in_le (M := 8) (by decide)).mpr ⟨Int32.not_lt.mp z, e⟩)
    have := Int32.not_le.mp this
    rw [Int32.lt_iff_toInt_lt] at this
    exact this
theorem und_p {f : Nat → Int32} {k : Nat} (h : f k = 4 ∨ f k = 5) : undS f (k + 1) = undS f k + 1 := by rw [undS, if_pos h]
theorem und_n {f : Nat → Int32} {k : Nat} (h : ¬ f k = 4) (h2 : ¬ f k = 5) : undS f (k + 1) = undS f k + 0 := by rw [undS, if_neg (fun z => z.elim h h2)]
theorem und_eq {f g : Nat → Int32} : ∀ k, (∀ i, i < k → f i = g i) → undS f k = undS g k := by
  intro k
  induction k with
  | zero => intro _; rfl
  | succ k ih => intro h; rw [undS, undS, ih (fun i hi => h i (by omega)), h k (by omega)]
set_option maxHeartbeats 1000000 in
theorem c_X11_countFlours {L : Nat} {xs : Nat → Int32} {d : Nat} {m : sM} {n : sN} {Q : sQ} (hQ : Q (some (.int (cntZ (fun k => m (158 + 2 * k) 1) 4))) m n) : sRun (scT L xs) (d + 2) yX11_countFlours cX11_countFlours 3 (some .int) [.ref 0] m n Q := by
  refine y_run (own := "LoafFall") rfl (by decide +kernel) (Nat.le_of_ble_eq_true rfl) rfl ?_
  refine y_iconst (v := 0) dX11_countFlours_0 (by decide) ?_
  refine y_ist3_1 dX11_countFlours_1 rfl ?_
  refine y_iconst (v := 0) dX11_countFlours_2 (by decide) ?_
  refine y_ist3_2 dX11_countFlours_3 rfl ?_
  refine cnt (P := fun k => sV (scT L xs) (d + 1) "LoafFall" cX11_countFlours 3 (some .int) Q 4 [some (.ref 0), some (.int (cntZ (fun k => m (158 + 2 * k) 1) k)), some (.int (nI k))] [] m n) 4 ?_ ?_ 0 (by omega)
  · refine y_iload_n dX11_countFlours_4 rfl rfl ?_
    refine y_iconst (v := 4) dX11_countFlours_5 (by decide) ?_
    refine y_icmp_ge (tgt := 35) dX11_countFlours_6 (by decide) (fun h6 => ?_) (fun h6 => absurd (nI_le (a := 4) (b := 4) (Nat.le_refl _) (by decide)) h6)
    refine y_iload_n dX11_countFlours_35 rfl rfl ?_
    refine y_ireturn dX11_countFlours_36 rfl rfl ?_
    exact hQ
  · intro k hk hP
    refine y_iload_n dX11_countFlours_4 rfl rfl ?_
    refine y_iconst (v := 4) dX11_countFlours_5 (by decide) ?_
    refine y_icmp_ge (tgt := 35) dX11_countFlours_6 (by decide) (fun h6 => absurd h6 (nI_ge (a := k) (b := 4) hk (by decide))) (fun h6 => ?_)
    refine y_iload_n dX11_countFlours_9 rfl rfl ?_
    refine y_aload_n dX11_countFlours_10 rfl rfl ?_
    refine y_getr dX11_countFlours_11 gf_X11_23 sh_0 rfl ?_
    refine y_iload_n dX11_countFlours_14 rfl rfl ?_
    refine y_aaldN dX11_countFlours_15 (by decide) sh_3 rfl (flA (k := k) (by omega)) (by decide) ?_
    refine y_geti dX11_countFlours_16 gf_X11_183 (flI (k := k) (by omega)).1 rfl ?_
    refine y_if_eq (tgt := 26) dX11_countFlours_19 (by decide) (fun h19 => ?_) (fun h19 => ?_)
    · refine y_iconst (v := 0) dX11_countFlours_26 (by decide) ?_
      refine y_iadd dX11_countFlours_27 ?_
      refine y_ist3_1 dX11_countFlours_28 rfl ?_
      refine y_iinc3_2 dX11_countFlours_29 (nI_1 _) rfl ?_
      refine y_goto (tgt := 4) dX11_countFlours_32 (by decide) ?_
      first
        | (rw [cntZ_n (f := (fun k => m (158 + 2 * k) 1)) (k := k) h19] at hP; exact hP)
        | (rw [cntZ_p (f := (fun k => m (158 + 2 * k) 1)) (k := k) h19] at hP; exact hP)
    · refine y_iconst (v := 1) dX11_countFlours_22 (by decide) ?_
      refine y_goto (tgt := 27) dX11_countFlours_23 (by decide) ?_
      refine y_iadd dX11_countFlours_27 ?_
      refine y_ist3_1 dX11_countFlours_28 rfl ?_
      refine y_iinc3_2 dX11_countFlours_29 (nI_1 _) rfl ?_
      refine y_goto (tgt := 4) dX11_countFlours_32 (by decide) ?_
      first
        | (rw [cntZ_n (f := (fun k => m (158 + 2 * k) 1)) (k := k) h19] at hP; exact hP)
        | (rw [cntZ_p (f := (fun k => m (158 + 2 * k) 1)) (k := k) h19] at hP; exact hP)
set_option maxHeartbeats 1000000 in
theorem c_X11_countDoings {L : Nat} {xs : Nat → Int32} {d : Nat} {m : sM} {n : sN} {Q : sQ} (hQ : Q (some (.int (cntZ (fun k => m (166 + 4 * k) 4) 4))) m n) : sRun (scT L xs) (d + 2) yX11_countDoings cX11_countDoings 3 (some .int) [.ref 0] m n Q := by
  refine y_run (own := "LoafFall") rfl (by decide +kernel) (Nat.le_of_ble_eq_true rfl) rfl ?_
  refine y_iconst (v := 0) dX11_countDoings_0 (by decide) ?_
  refine y_ist3_1 dX11_countDoings_1 rfl ?_
  refine y_iconst (v := 0) dX11_countDoings_2 (by decide) ?_
  refine y_ist3_2 dX11_countDoings_3 rfl ?_
  refine cnt (P := fun k => sV (scT L xs) (d + 1) "LoafFall" cX11_countDoings 3 (some .int) Q 4 [some (.ref 0), some (.int (cntZ (fun k => m (166 + 4 * k) 4) k)), some (.int (nI k))] [] m n) 4 ?_ ?_ 0 (by omega)
  · refine y_iload_n dX11_countDoings_4 rfl rfl ?_
    refine y_iconst (v := 4) dX11_countDoings_5 (by decide) ?_
    refine y_icmp_ge (tgt := 35) dX11_countDoings_6 (by decide) (fun h6 => ?_) (fun h6 => absurd (nI_le (a := 4) (b := 4) (Nat.le_refl _) (by decide)) h6)
    refine y_iload_n dX11_countDoings_35 rfl rfl ?_
    refine y_ireturn dX11_countDoings_36 rfl rfl ?_
    exact hQ
  · intro k hk hP
    refine y_iload_n dX11_countDoings_4 rfl rfl ?_
    refine y_iconst (v := 4) dX11_countDoings_5 (by decide) ?_
    refine y_icmp_ge (tgt := 35) dX11_countDoings_6 (by decide) (fun h6 => absurd h6 (nI_ge (a := k) (b := 4) hk (by decide))) (fun h6 => ?_)
    refine y_iload_n dX11_countDoings_9 rfl rfl ?_
    refine y_aload_n dX11_countDoings_10 rfl rfl ?_
    refine y_getr dX11_countDoings_11 gf_X11_29 sh_0 rfl ?_
    refine y_iload_n dX11_countDoings_14 rfl rfl ?_
    refine y_aaldN dX11_countDoings_15 (by decide) sh_4 rfl (dgA (k := k) (by omega)) (by decide) ?_
    refine y_geti dX11_countDoings_16 gf_X11_190 (dgI (k := k) (by omega)).1 rfl ?_
    refine y_if_eq (tgt := 26) dX11_countDoings_19 (by decide) (fun h19 => ?_) (fun h19 => ?_)
    · refine y_iconst (v := 0) dX11_countDoings_26 (by decide) ?_
      refine y_iadd dX11_countDoings_27 ?_
      refine y_ist3_1 dX11_countDoings_28 rfl ?_
      refine y_iinc3_2 dX11_countDoings_29 (nI_1 _) rfl ?_
      refine y_goto (tgt := 4) dX11_countDoings_32 (by decide) ?_
      first
        | (rw [cntZ_n (f := (fun k => m (166 + 4 * k) 4)) (k := k) h19] at hP; exact hP)
        | (rw [cntZ_p (f := (fun k => m (166 + 4 * k) 4)) (k := k) h19] at hP; exact hP)
    · refine y_iconst (v := 1) dX11_countDoings_22 (by decide) ?_
      refine y_goto (tgt := 27) dX11_countDoings_23 (by decide) ?_
      refine y_iadd dX11_countDoings_27 ?_
      refine y_ist3_1 dX11_countDoings_28 rfl ?_
      refine y_iinc3_2 dX11_countDoings_29 (nI_1 _) rfl ?_
      refine y_goto (tgt := 4) dX11_countDoings_32 (by decide) ?_
      first
        | (rw [cntZ_n (f := (fun k => m (166 + 4 * k) 4)) (k := k) h19] at hP; exact hP)
        | (rw [cntZ_p (f := (fun k => m (166 + 4 * k) 4)) (k := k) h19] at hP; exact hP)
set_option maxHeartbeats 1000000 in
theorem c_X11_countKept {L : Nat} {xs : Nat → Int32} {d : Nat} {m : sM} {n : sN} {Q : sQ} (hQ : Q (some (.int (cntZ (fun k => m (182 + 19 * k) 4) 3))) m n) : sRun (scT L xs) (d + 2) yX11_countKept cX11_countKept 3 (some .int) [.ref 0] m n Q := by
  refine y_run (own := "LoafFall") rfl (by decide +kernel) (Nat.le_of_ble_eq_true rfl) rfl ?_
  refine y_iconst (v := 0) dX11_countKept_0 (by decide) ?_
  refine y_ist3_1 dX11_countKept_1 rfl ?_
  refine y_iconst (v := 0) dX11_countKept_2 (by decide) ?_
  refine y_ist3_2 dX11_countKept_3 rfl ?_
  refine cnt (P := fun k => sV (scT L xs) (d + 1) "LoafFall" cX11_countKept 3 (some .int) Q 4 [some (.ref 0), some (.int (cntZ (fun k => m (182 + 19 * k) 4) k)), some (.int (nI k))] [] m n) 3 ?_ ?_ 0 (by omega)
  · refine y_iload_n dX11_countKept_4 rfl rfl ?_
    refine y_iconst (v := 3) dX11_countKept_5 (by decide) ?_
    refine y_icmp_ge (tgt := 35) dX11_countKept_6 (by decide) (fun h6 => ?_) (fun h6 => absurd (nI_le (a := 3) (b := 3) (Nat.le_refl _) (by decide)) h6)
    refine y_iload_n dX11_countKept_35 rfl rfl ?_
    refine y_ireturn dX11_countKept_36 rfl rfl ?_
    exact hQ
  · intro k hk hP
    refine y_iload_n dX11_countKept_4 rfl rfl ?_
    refine y_iconst (v := 3) dX11_countKept_5 (by decide) ?_
    refine y_icmp_ge (tgt := 35) dX11_countKept_6 (by decide) (fun h6 => absurd h6 (nI_ge (a := k) (b := 3) hk (by decide))) (fun h6 => ?_)
    refine y_iload_n dX11_countKept_9 rfl rfl ?_
    refine y_aload_n dX11_countKept_10 rfl rfl ?_
    refine y_getr dX11_countKept_11 gf_X11_35 sh_0 rfl ?_
    refine y_iload_n dX11_countKept_14 rfl rfl ?_
    refine y_aaldN dX11_countKept_15 (by decide) sh_5 rfl (kpA (k := k) (by omega)) (by decide) ?_
    refine y_geti dX11_countKept_16 gf_X11_211 (kpI (k := k) (by omega)).1 rfl ?_
    refine y_if_eq (tgt := 26) dX11_countKept_19 (by decide) (fun h19 => ?_) (fun h19 => ?_)
    · refine y_iconst (v := 0) dX11_countKept_26 (by decide) ?_
      refine y_iadd dX11_countKept_27 ?_
      refine y_ist3_1 dX11_countKept_28 rfl ?_
      refine y_iinc3_2 dX11_countKept_29 (nI_1 _) rfl ?_
      refine y_goto (tgt := 4) dX11_countKept_32 (by decide) ?_
      first
        | (rw [cntZ_n (f := (fun k => m (182 + 19 * k) 4)) (k := k) h19] at hP; exact hP)
        | (rw [cntZ_p (f := (fun k => m (182 + 19 * k) 4)) (k := k) h19] at hP; exact hP)
    · refine y_iconst (v := 1) dX11_countKept_22 (by decide) ?_
      refine y_goto (tgt := 27) dX11_countKept_23 (by decide) ?_
      refine y_iadd dX11_countKept_27 ?_
      refine y_ist3_1 dX11_countKept_28 rfl ?_
      refine y_iinc3_2 dX11_countKept_29 (nI_1 _) rfl ?_
      refine y_goto (tgt := 4) dX11_countKept_32 (by decide) ?_
      first
        | (rw [cntZ_n (f := (fun k => m (182 + 19 * k) 4)) (k := k) h19] at hP; exact hP)
        | (rw [cntZ_p (f := (fun k => m (182 + 19 * k) 4)) (k := k) h19] at hP; exact hP)
set_option maxHeartbeats 1000000 in
theorem c_X11_countRows {L : Nat} {xs : Nat → Int32} {d : Nat} {m : sM} {n : sN} {Q : sQ} (hQ : Q (some (.int (cntZ (fun k => if m (138 + 2 * k) 1 = -1 then 0 else 1) 6))) m n) : sRun (scT L xs) (d + 2) yX11_countRows cX11_countRows 3 (some .int) [.ref 0] m n Q := by
  refine y_run (own := "LoafFall") rfl (by decide +kernel) (Nat.le_of_ble_eq_true rfl) rfl ?_
  refine y_iconst (v := 0) dX11_countRows_0 (by decide) ?_
  refine y_ist3_1 dX11_countRows_1 rfl ?_
  refine y_iconst (v := 0) dX11_countRows_2 (by decide) ?_
  refine y_ist3_2 dX11_countRows_3 rfl ?_
  refine cnt (P := fun k => sV (scT L xs) (d + 1) "LoafFall" cX11_countRows 3 (some .int) Q 4 [some (.ref 0), some (.int (cntZ (fun k => if m (138 + 2 * k) 1 = -1 then 0 else 1) k)), some (.int (nI k))] [] m n) 6 ?_ ?_ 0 (by omega)
  · refine y_iload_n dX11_countRows_4 rfl rfl ?_
    refine y_bipush (v := 6) dX11_countRows_5 (by decide) ?_
    refine y_icmp_ge (tgt := 36) dX11_countRows_7 (by decide) (fun h7 => ?_) (fun h7 => absurd (nI_le (a := 6) (b := 6) (Nat.le_refl _) (by decide)) h7)
    refine y_iload_n dX11_countRows_36 rfl rfl ?_
    refine y_ireturn dX11_countRows_37 rfl rfl ?_
    exact hQ
  · intro k hk hP
    refine y_iload_n dX11_countRows_4 rfl rfl ?_
    refine y_bipush (v := 6) dX11_countRows_5 (by decide) ?_
    refine y_icmp_ge (tgt := 36) dX11_countRows_7 (by decide) (fun h7 => absurd h7 (nI_ge (a := k) (b := 6) hk (by decide))) (fun h7 => ?_)
    refine y_iload_n dX11_countRows_10 rfl rfl ?_
    refine y_aload_n dX11_countRows_11 rfl rfl ?_
    refine y_getr dX11_countRows_12 gf_X11_11 sh_0 rfl ?_
    refine y_iload_n dX11_countRows_15 rfl rfl ?_
    refine y_aaldN dX11_countRows_16 (by decide) sh_1 rfl (rwA (k := k) (by omega)) (by decide) ?_
    refine y_ivI0 dX11_countRows_17 mv_X11_123 my_X8_isThere (Or.inl rfl) (rwI (k := k) (by omega)).1 ?_
    refine c_X8_isThere (rwI hk) (fun a => ⟨_, rfl, ?_⟩) (fun a => ⟨_, rfl, ?_⟩)
    · refine y_if_eq (tgt := 27) dX11_countRows_20 (by decide) (fun h20 => absurd h20 (by decide)) (fun h20 => ?_)
      refine y_iconst (v := 1) dX11_countRows_23 (by decide) ?_
      refine y_goto (tgt := 28) dX11_countRows_24 (by decide) ?_
      refine y_iadd dX11_countRows_28 ?_
      refine y_ist3_1 dX11_countRows_29 rfl ?_
      refine y_iinc3_2 dX11_countRows_30 (nI_1 _) rfl ?_
      refine y_goto (tgt := 4) dX11_countRows_33 (by decide) ?_
      first
        | (rw [cntZ_n (f := (fun k => if m (138 + 2 * k) 1 = -1 then 0 else 1)) (k := k) (by show ¬ (if _ then _ else _) = (0 : Int32); rw [if_neg a]; decide)] at hP; exact hP)
        | (rw [cntZ_p (f := (fun k => if m (138 + 2 * k) 1 = -1 then 0 else 1)) (k := k) (if_pos a)] at hP; exact hP)
    · refine y_if_eq (tgt := 27) dX11_countRows_20 (by decide) (fun h20 => ?_) (fun h20 => absurd (by decide) h20)
      refine y_iconst (v := 0) dX11_countRows_27 (by decide) ?_
      refine y_iadd dX11_countRows_28 ?_
      refine y_ist3_1 dX11_countRows_29 rfl ?_
      refine y_iinc3_2 dX11_countRows_30 (nI_1 _) rfl ?_
      refine y_goto (tgt := 4) dX11_countRows_33 (by decide) ?_
      first
        | (rw [cntZ_n (f := (fun k => if m (138 + 2 * k) 1 = -1 then 0 else 1)) (k := k) (by show ¬ (if _ then _ else _) = (0 : Int32); rw [if_neg a]; decide)] at hP; exact hP)
        | (rw [cntZ_p (f := (fun k => if m (138 + 2 * k) 1 = -1 then 0 else 1)) (k := k) (if_pos a)] at hP; exact hP)
set_option maxHeartbeats 1000000 in
theorem c_X11_countTexts {L : Nat} {xs : Nat → Int32} {d : Nat} {m : sM} {n : sN} {Q : sQ} (hQ : Q (some (.int (cntZ (fun k => if m (150 + 2 * k) 1 = -1 then 0 else 1) 4))) m n) : sRun (scT L xs) (d + 2) yX11_countTexts cX11_countTexts 3 (some .int) [.ref 0] m n Q := by
  refine y_run (own := "LoafFall") rfl (by decide +kernel) (Nat.le_of_ble_eq_true rfl) rfl ?_
  refine y_iconst (v := 0) dX11_countTexts_0 (by decide) ?_
  refine y_ist3_1 dX11_countTexts_1 rfl ?_
  refine y_iconst (v := 0) dX11_countTexts_2 (by decide) ?_
  refine y_ist3_2 dX11_countTexts_3 rfl ?_
  refine cnt (P := fun k => sV (scT L xs) (d + 1) "LoafFall" cX11_countTexts 3 (some .int) Q 4 [some (.ref 0), some (.int (cntZ (fun k => if m (150 + 2 * k) 1 = -1 then 0 else 1) k)), some (.int (nI k))] [] m n) 4 ?_ ?_ 0 (by omega)
  · refine y_iload_n dX11_countTexts_4 rfl rfl ?_
    refine y_iconst (v := 4) dX11_countTexts_5 (by decide) ?_
    refine y_icmp_ge (tgt := 35) dX11_countTexts_6 (by decide) (fun h6 => ?_) (fun h6 => absurd (nI_le (a := 4) (b := 4) (Nat.le_refl _) (by decide)) h6)
    refine y_iload_n dX11_countTexts_35 rfl rfl ?_
    refine y_ireturn dX11_countTexts_36 rfl rfl ?_
    exact hQ
  · intro k hk hP
    refine y_iload_n dX11_countTexts_4 rfl rfl ?_
    refine y_iconst (v := 4) dX11_countTexts_5 (by decide) ?_
    refine y_icmp_ge (tgt := 35) dX11_countTexts_6 (by decide) (fun h6 => absurd h6 (nI_ge (a := k) (b := 4) hk (by decide))) (fun h6 => ?_)
    refine y_iload_n dX11_countTexts_9 rfl rfl ?_
    refine y_aload_n dX11_countTexts_10 rfl rfl ?_
    refine y_getr dX11_countTexts_11 gf_X11_17 sh_0 rfl ?_
    refine y_iload_n dX11_countTexts_14 rfl rfl ?_
    refine y_aaldN dX11_countTexts_15 (by decide) sh_2 rfl (txA (k := k) (by omega)) (by decide) ?_
    refine y_ivI0 dX11_countTexts_16 mv_X11_145 my_X10_isThere (Or.inl rfl) (txI (k := k) (by omega)).1 ?_
    refine c_X10_isThere (txI hk) (fun a => ⟨_, rfl, ?_⟩) (fun a => ⟨_, rfl, ?_⟩)
    · refine y_if_eq (tgt := 26) dX11_countTexts_19 (by decide) (fun h19 => absurd h19 (by decide)) (fun h19 => ?_)
      refine y_iconst (v := 1) dX11_countTexts_22 (by decide) ?_
      refine y_goto (tgt := 27) dX11_countTexts_23 (by decide) ?_
      refine y_iadd dX11_countTexts_27 ?_
      refine y_ist3_1 dX11_countTexts_28 rfl ?_
      refine y_iinc3_2 dX11_countTexts_29 (nI_1 _) rfl ?_
      refine y_goto (tgt := 4) dX11_countTexts_32 (by decide) ?_
      first
        | (rw [cntZ_n (f := (fun k => if m (150 + 2 * k) 1 = -1 then 0 else 1)) (k := k) (by show ¬ (if _ then _ else _) = (0 : Int32); rw [if_neg a]; decide)] at hP; exact hP)
        | (rw [cntZ_p (f := (fun k => if m (150 + 2 * k) 1 = -1 then 0 else 1)) (k := k) (if_pos a)] at hP; exact hP)
    · refine y_if_eq (tgt := 26) dX11_countTexts_19 (by decide) (fun h19 => ?_) (fun h19 => absurd (by decide) h19)
      refine y_iconst (v := 0) dX11_countTexts_26 (by decide) ?_
      refine y_iadd dX11_countTexts_27 ?_
      refine y_ist3_1 dX11_countTexts_28 rfl ?_
      refine y_iinc3_2 dX11_countTexts_29 (nI_1 _) rfl ?_
      refine y_goto (tgt := 4) dX11_countTexts_32 (by decide) ?_
      first
        | (rw [cntZ_n (f := (fun k => if m (150 + 2 * k) 1 = -1 then 0 else 1)) (k := k) (by show ¬ (if _ then _ else _) = (0 : Int32); rw [if_neg a]; decide)] at hP; exact hP)
        | (rw [cntZ_p (f := (fun k => if m (150 + 2 * k) 1 = -1 then 0 else 1)) (k := k) (if_pos a)] at hP; exact hP)
set_option maxHeartbeats 1000000 in
theorem c_X12_counted0 {L : Nat} {xs : Nat → Int32} {d : Nat} {m : sM} {n : sN} {Q : sQ} {x : Int32} (hx : x = 0) (hl : m 253 0 = 0 ∨ (m 253 0 = 1 ∧ sR (lfR m 0))) (hQ : Q (some (.int (CNT m 0))) (wkM m (329 * 0)) n) : sRun (scT L xs) (d + 3) yX12_counted cX12_counted 4 (some .int) [.ref 239, .int x] m n Q := by
  subst hx
  refine y_run (own := "LoafFallModel") rfl (by decide +kernel) (Nat.le_of_ble_eq_true rfl) rfl ?_
  refine y_iconst (v := 0) dX12_counted_0 (by decide) ?_
  refine y_ist4_2 dX12_counted_1 rfl ?_
  refine y_iconst (v := 0) dX12_counted_2 (by decide) ?_
  refine y_ist4_3 dX12_counted_3 rfl ?_
  refine cnt (P := fun k => sV (scT L xs) (d + 2) "LoafFallModel" cX12_counted 4 (some .int) Q 4 [some (.ref 239), some (.int 0), some (.int (cntZ (m 246) k)), some (.int (nI k))] [] m n) 4 ?_ ?_ 0 (by omega)
  · refine y_iload_n dX12_counted_4 rfl rfl ?_
    refine y_iconst (v := 4) dX12_counted_5 (by decide) ?_
    refine y_icmp_ge (tgt := 83) dX12_counted_6 (by decide) (fun h6 => ?_) (fun h6 => absurd (nI_le (a := 4) (b := 4) (Nat.le_refl _) (by decide)) h6)
    refine y_iconst (v := 0) dX12_counted_83 (by decide) ?_
    refine y_ist4_3 dX12_counted_84 rfl ?_
    refine cnt (P := fun k => sV (scT L xs) (d + 2) "LoafFallModel" cX12_counted 4 (some .int) Q 85 [some (.ref 239), some (.int 0), some (.int (cntZ (m 246) 4)), some (.int (nI k))] [] m n) 6 ?_ ?_ 0 (by omega)
    · refine y_iload_n dX12_counted_85 rfl rfl ?_
      refine y_bipush (v := 6) dX12_counted_86 (by decide) ?_
      refine y_icmp_ge (tgt := 120) dX12_counted_88 (by decide) (fun h88 => ?_) (fun h88 => absurd (nI_le (a := 6) (b := 6) (Nat.le_refl _) (by decide)) h88)
      refine y_aload_n dX12_counted_120 rfl rfl ?_
      refine y_iconst (v := 0) dX12_counted_121 (by decide) ?_
      refine y_ivV1 dX12_counted_122 mv_X12_174 my_X12_look (Or.inl rfl) sh_239 ?_
      refine c_X12_look (j := 0) rfl ⟨rfl, ?_⟩
      rcases hl with l1 | ⟨l1, l4⟩
      · refine y_aload_n dX12_counted_125 rfl rfl ?_
        refine y_getr dX12_counted_126 gf_X12_51 sh_239 rfl ?_
        refine y_iconst (v := 0) dX12_counted_129 (by decide) ?_
        refine y_zaldN dX12_counted_130 sh_253 rfl (by first | omega | decide) (by decide) ?_
        refine y_if_eq (tgt := 217) dX12_counted_131 (by decide) (fun h131 => ?_) (fun h131 => absurd (by rw [wk_o (by omega)]; exact l1) h131)
        refine y_iload_n dX12_counted_217 rfl rfl ?_
        refine y_bipush (v := 6) dX12_counted_218 (by decide) ?_
        refine y_icmp_ne (tgt := 230) dX12_counted_220 (by decide) (fun h220 => ?_) (fun h220 => absurd h220 (by decide))
        refine y_iload_n dX12_counted_230 rfl rfl ?_
        refine y_ireturn dX12_counted_231 rfl rfl ?_
        skip
        exact hQ
      · refine y_aload_n dX12_counted_125 rfl rfl ?_
        refine y_getr dX12_counted_126 gf_X12_51 sh_239 rfl ?_
        refine y_iconst (v := 0) dX12_counted_129 (by decide) ?_
        refine y_zaldN dX12_counted_130 sh_253 rfl (by first | omega | decide) (by decide) ?_
        refine y_if_eq (tgt := 217) dX12_counted_131 (by decide) (fun h131 => absurd h131 (by rw [wk_o (by omega)]; rw [l1]; decide)) (fun h131 => ?_)
        refine y_iload_n dX12_counted_134 rfl rfl ?_
        refine y_iload_n dX12_counted_135 rfl rfl ?_
        refine y_iconst (v := 2) dX12_counted_136 (by decide) ?_
        refine y_icmp_ne (tgt := 149) dX12_counted_137 (by decide) (fun h137 => ?_) (fun h137 => absurd h137 (by decide))
        refine y_iload_n dX12_counted_149 rfl rfl ?_
        refine y_iconst (v := 3) dX12_counted_150 (by decide) ?_
        refine y_icmp_ne (tgt := 163) dX12_counted_151 (by decide) (fun h151 => ?_) (fun h151 => absurd h151 (by decide))
        refine y_iconst (v := 0) dX12_counted_163 (by decide) ?_
        refine y_iadd dX12_counted_164 ?_
        try rw [Int32.add_zero]
        refine y_ist4_2 dX12_counted_165 rfl ?_
        refine y_iconst (v := 0) dX12_counted_166 (by decide) ?_
        refine y_ist4_3 dX12_counted_167 rfl ?_
        have hq24 := (q40 l4).2
        refine cnt (P := fun k => sV (scT L xs) (d + 2) "LoafFallModel" cX12_counted 4 (some .int) Q 168 [some (.ref 239), some (.int 0), some (.int (cntZ (m 246) 4)), some (.int (nI k))] [] (wkM m (329 * 0)) n) (qOf (lfR m 0)) ?_ ?_ 0 (by omega)
        · refine y_iload_n dX12_counted_168 rfl rfl ?_
          refine y_aload_n dX12_counted_169 rfl rfl ?_
          refine y_bipush (v := 40) dX12_counted_170 (by decide) ?_
          refine y_ivI1 dX12_counted_172 mv_X12_160 my_X12_v (Or.inl rfl) sh_239 ?_
          refine e_v (b := 329 * 0) (p := 40) (wk_b (by omega)) rfl (by omega) ⟨_, rfl, ?_⟩
          rw [wk_o (show 254 ≠ 239 by omega)]
          rw [show m 254 (329 * 0 + 40) = nI (qOf (lfR m 0)) from (q40 l4).1]
          refine y_icmp_ge (tgt := 217) dX12_counted_175 (by decide) (fun h175 => ?_) (fun h175 => absurd (nI_le (a := (qOf (lfR m 0))) (b := (qOf (lfR m 0))) (Nat.le_refl _) (by omega)) h175)
          refine y_iload_n dX12_counted_217 rfl rfl ?_
          refine y_bipush (v := 6) dX12_counted_218 (by decide) ?_
          refine y_icmp_ne (tgt := 230) dX12_counted_220 (by decide) (fun h220 => ?_) (fun h220 => absurd h220 (by decide))
          refine y_iload_n dX12_counted_230 rfl rfl ?_
          refine y_ireturn dX12_counted_231 rfl rfl ?_
          exact hQ
        · intro k hk hP
          refine y_iload_n dX12_counted_168 rfl rfl ?_
          refine y_aload_n dX12_counted_169 rfl rfl ?_
          refine y_bipush (v := 40) dX12_counted_170 (by decide) ?_
          refine y_ivI1 dX12_counted_172 mv_X12_160 my_X12_v (Or.inl rfl) sh_239 ?_
          refine e_v (b := 329 * 0) (p := 40) (wk_b (by omega)) rfl (by omega) ⟨_, rfl, ?_⟩
          rw [wk_o (show 254 ≠ 239 by omega)]
          rw [show m 254 (329 * 0 + 40) = nI (qOf (lfR m 0)) from (q40 l4).1]
          refine y_icmp_ge (tgt := 217) dX12_counted_175 (by decide) (fun h175 => absurd h175 (nI_ge (a := k) (b := (qOf (lfR m 0))) hk (by omega))) (fun h175 => ?_)
          refine y_iload_n dX12_counted_178 rfl rfl ?_
          refine y_iload_n dX12_counted_179 rfl rfl ?_
          refine y_iconst (v := 4) dX12_counted_180 (by decide) ?_
          refine y_icmp_ne (tgt := 208) dX12_counted_181 (by decide) (fun h181 => ?_) (fun h181 => absurd h181 (by decide))
          refine y_iconst (v := 0) dX12_counted_208 (by decide) ?_
          refine y_iadd dX12_counted_209 ?_
          try rw [Int32.add_zero]
          refine y_ist4_2 dX12_counted_210 rfl ?_
          refine y_iinc4_3 dX12_counted_211 (nI_1 _) rfl ?_
          refine y_goto (tgt := 168) dX12_counted_214 (by decide) ?_
          exact hP
    · intro k hk hP
      refine y_iload_n dX12_counted_85 rfl rfl ?_
      refine y_bipush (v := 6) dX12_counted_86 (by decide) ?_
      refine y_icmp_ge (tgt := 120) dX12_counted_88 (by decide) (fun h88 => absurd h88 (nI_ge (a := k) (b := 6) hk (by decide))) (fun h88 => ?_)
      refine y_iload_n dX12_counted_91 rfl rfl ?_
      refine y_iload_n dX12_counted_92 rfl rfl ?_
      refine y_bipush (v := 7) dX12_counted_93 (by decide) ?_
      refine y_icmp_ne (tgt := 111) dX12_counted_95 (by decide) (fun h95 => ?_) (fun h95 => absurd h95 (by decide))
      refine y_iconst (v := 0) dX12_counted_111 (by decide) ?_
      refine y_iadd dX12_counted_112 ?_
      try rw [Int32.add_zero]
      refine y_ist4_2 dX12_counted_113 rfl ?_
      refine y_iinc4_3 dX12_counted_114 (nI_1 _) rfl ?_
      refine y_goto (tgt := 85) dX12_counted_117 (by decide) ?_
      exact hP
  · intro k hk hP
    refine y_iload_n dX12_counted_4 rfl rfl ?_
    refine y_iconst (v := 4) dX12_counted_5 (by decide) ?_
    refine y_icmp_ge (tgt := 83) dX12_counted_6 (by decide) (fun h6 => absurd h6 (nI_ge (a := k) (b := 4) hk (by decide))) (fun h6 => ?_)
    refine y_iload_n dX12_counted_9 rfl rfl ?_
    refine y_iload_n dX12_counted_10 rfl rfl ?_
    refine y_if_ne (tgt := 23) dX12_counted_11 (by decide) (fun h11 => absurd (by decide) h11) (fun h11 => ?_)
    refine y_aload_n dX12_counted_14 rfl rfl ?_
    refine y_getr dX12_counted_15 gf_X12_29 sh_239 rfl ?_
    refine y_iload_n dX12_counted_18 rfl rfl ?_
    refine y_zaldN dX12_counted_19 sh_246 rfl (by first | omega | decide) (by decide) ?_
    refine y_if_ne (tgt := 70) dX12_counted_20 (by decide) (fun h20 => ?_) (fun h20 => ?_)
    · refine y_iconst (v := 1) dX12_counted_70 (by decide) ?_
      refine y_goto (tgt := 75) dX12_counted_71 (by decide) ?_
      refine y_iadd dX12_counted_75 ?_
      refine y_ist4_2 dX12_counted_76 rfl ?_
      refine y_iinc4_3 dX12_counted_77 (nI_1 _) rfl ?_
      refine y_goto (tgt := 4) dX12_counted_80 (by decide) ?_
      first
        | (rw [cntZ_n (f := m 246) (k := k) h20] at hP; exact hP)
        | (rw [cntZ_p (f := m 246) (k := k) h20] at hP; exact hP)
    · refine y_iload_n dX12_counted_23 rfl rfl ?_
      refine y_iconst (v := 1) dX12_counted_24 (by decide) ?_
      refine y_icmp_ne (tgt := 37) dX12_counted_25 (by decide) (fun h25 => ?_) (fun h25 => absurd h25 (by decide))
      refine y_iload_n dX12_counted_37 rfl rfl ?_
      refine y_iconst (v := 5) dX12_counted_38 (by decide) ?_
      refine y_icmp_ne (tgt := 55) dX12_counted_39 (by decide) (fun h39 => ?_) (fun h39 => absurd h39 (by decide))
      refine y_iload_n dX12_counted_55 rfl rfl ?_
      refine y_bipush (v := 8) dX12_counted_56 (by decide) ?_
      refine y_icmp_ne (tgt := 74) dX12_counted_58 (by decide) (fun h58 => ?_) (fun h58 => absurd h58 (by decide))
      refine y_iconst (v := 0) dX12_counted_74 (by decide) ?_
      refine y_iadd dX12_counted_75 ?_
      refine y_ist4_2 dX12_counted_76 rfl ?_
      refine y_iinc4_3 dX12_counted_77 (nI_1 _) rfl ?_
      refine y_goto (tgt := 4) dX12_counted_80 (by decide) ?_
      first
        | (rw [cntZ_n (f := m 246) (k := k) h20] at hP; exact hP)
        | (rw [cntZ_p (f := m 246) (k := k) h20] at hP; exact hP)
set_option maxHeartbeats 1000000 in
theorem c_X12_counted1 {L : Nat} {xs : Nat → Int32} {d : Nat} {m : sM} {n : sN} {Q : sQ} {x : Int32} (hx : x = 1) (hl : m 253 0 = 0 ∨ (m 253 0 = 1 ∧ sR (lfR m 0))) (hQ : Q (some (.int (CNT m 1))) (wkM m (329 * 0)) n) : sRun (scT L xs) (d + 3) yX12_counted cX12_counted 4 (some .int) [.ref 239, .int x] m n Q := by
  subst hx
  refine y_run (own := "LoafFallModel") rfl (by decide +kernel) (Nat.le_of_ble_eq_true rfl) rfl ?_
  refine y_iconst (v := 0) dX12_counted_0 (by decide) ?_
  refine y_ist4_2 dX12_counted_1 rfl ?_
  refine y_iconst (v := 0) dX12_counted_2 (by decide) ?_
  refine y_ist4_3 dX12_counted_3 rfl ?_
  refine cnt (P := fun k => sV (scT L xs) (d + 2) "LoafFallModel" cX12_counted 4 (some .int) Q 4 [some (.ref 239), some (.int 1), some (.int (cntZ (m 248) k)), some (.int (nI k))] [] m n) 4 ?_ ?_ 0 (by omega)
  · refine y_iload_n dX12_counted_4 rfl rfl ?_
    refine y_iconst (v := 4) dX12_counted_5 (by decide) ?_
    refine y_icmp_ge (tgt := 83) dX12_counted_6 (by decide) (fun h6 => ?_) (fun h6 => absurd (nI_le (a := 4) (b := 4) (Nat.le_refl _) (by decide)) h6)
    refine y_iconst (v := 0) dX12_counted_83 (by decide) ?_
    refine y_ist4_3 dX12_counted_84 rfl ?_
    refine cnt (P := fun k => sV (scT L xs) (d + 2) "LoafFallModel" cX12_counted 4 (some .int) Q 85 [some (.ref 239), some (.int 1), some (.int (cntZ (m 248) 4)), some (.int (nI k))] [] m n) 6 ?_ ?_ 0 (by omega)
    · refine y_iload_n dX12_counted_85 rfl rfl ?_
      refine y_bipush (v := 6) dX12_counted_86 (by decide) ?_
      refine y_icmp_ge (tgt := 120) dX12_counted_88 (by decide) (fun h88 => ?_) (fun h88 => absurd (nI_le (a := 6) (b := 6) (Nat.le_refl _) (by decide)) h88)
      refine y_aload_n dX12_counted_120 rfl rfl ?_
      refine y_iconst (v := 0) dX12_counted_121 (by decide) ?_
      refine y_ivV1 dX12_counted_122 mv_X12_174 my_X12_look (Or.inl rfl) sh_239 ?_
      refine c_X12_look (j := 0) rfl ⟨rfl, ?_⟩
      rcases hl with l1 | ⟨l1, l4⟩
      · refine y_aload_n dX12_counted_125 rfl rfl ?_
        refine y_getr dX12_counted_126 gf_X12_51 sh_239 rfl ?_
        refine y_iconst (v := 0) dX12_counted_129 (by decide) ?_
        refine y_zaldN dX12_counted_130 sh_253 rfl (by first | omega | decide) (by decide) ?_
        refine y_if_eq (tgt := 217) dX12_counted_131 (by decide) (fun h131 => ?_) (fun h131 => absurd (by rw [wk_o (by omega)]; exact l1) h131)
        refine y_iload_n dX12_counted_217 rfl rfl ?_
        refine y_bipush (v := 6) dX12_counted_218 (by decide) ?_
        refine y_icmp_ne (tgt := 230) dX12_counted_220 (by decide) (fun h220 => ?_) (fun h220 => absurd h220 (by decide))
        refine y_iload_n dX12_counted_230 rfl rfl ?_
        refine y_ireturn dX12_counted_231 rfl rfl ?_
        skip
        exact hQ
      · refine y_aload_n dX12_counted_125 rfl rfl ?_
        refine y_getr dX12_counted_126 gf_X12_51 sh_239 rfl ?_
        refine y_iconst (v := 0) dX12_counted_129 (by decide) ?_
        refine y_zaldN dX12_counted_130 sh_253 rfl (by first | omega | decide) (by decide) ?_
        refine y_if_eq (tgt := 217) dX12_counted_131 (by decide) (fun h131 => absurd h131 (by rw [wk_o (by omega)]; rw [l1]; decide)) (fun h131 => ?_)
        refine y_iload_n dX12_counted_134 rfl rfl ?_
        refine y_iload_n dX12_counted_135 rfl rfl ?_
        refine y_iconst (v := 2) dX12_counted_136 (by decide) ?_
        refine y_icmp_ne (tgt := 149) dX12_counted_137 (by decide) (fun h137 => ?_) (fun h137 => absurd h137 (by decide))
        refine y_iload_n dX12_counted_149 rfl rfl ?_
        refine y_iconst (v := 3) dX12_counted_150 (by decide) ?_
        refine y_icmp_ne (tgt := 163) dX12_counted_151 (by decide) (fun h151 => ?_) (fun h151 => absurd h151 (by decide))
        refine y_iconst (v := 0) dX12_counted_163 (by decide) ?_
        refine y_iadd dX12_counted_164 ?_
        try rw [Int32.add_zero]
        refine y_ist4_2 dX12_counted_165 rfl ?_
        refine y_iconst (v := 0) dX12_counted_166 (by decide) ?_
        refine y_ist4_3 dX12_counted_167 rfl ?_
        have hq24 := (q40 l4).2
        refine cnt (P := fun k => sV (scT L xs) (d + 2) "LoafFallModel" cX12_counted 4 (some .int) Q 168 [some (.ref 239), some (.int 1), some (.int (cntZ (m 248) 4)), some (.int (nI k))] [] (wkM m (329 * 0)) n) (qOf (lfR m 0)) ?_ ?_ 0 (by omega)
        · refine y_iload_n dX12_counted_168 rfl rfl ?_
          refine y_aload_n dX12_counted_169 rfl rfl ?_
          refine y_bipush (v := 40) dX12_counted_170 (by decide) ?_
          refine y_ivI1 dX12_counted_172 mv_X12_160 my_X12_v (Or.inl rfl) sh_239 ?_
          refine e_v (b := 329 * 0) (p := 40) (wk_b (by omega)) rfl (by omega) ⟨_, rfl, ?_⟩
          rw [wk_o (show 254 ≠ 239 by omega)]
          rw [show m 254 (329 * 0 + 40) = nI (qOf (lfR m 0)) from (q40 l4).1]
          refine y_icmp_ge (tgt := 217) dX12_counted_175 (by decide) (fun h175 => ?_) (fun h175 => absurd (nI_le (a := (qOf (lfR m 0))) (b := (qOf (lfR m 0))) (Nat.le_refl _) (by omega)) h175)
          refine y_iload_n dX12_counted_217 rfl rfl ?_
          refine y_bipush (v := 6) dX12_counted_218 (by decide) ?_
          refine y_icmp_ne (tgt := 230) dX12_counted_220 (by decide) (fun h220 => ?_) (fun h220 => absurd h220 (by decide))
          refine y_iload_n dX12_counted_230 rfl rfl ?_
          refine y_ireturn dX12_counted_231 rfl rfl ?_
          exact hQ
        · intro k hk hP
          refine y_iload_n dX12_counted_168 rfl rfl ?_
          refine y_aload_n dX12_counted_169 rfl rfl ?_
          refine y_bipush (v := 40) dX12_counted_170 (by decide) ?_
          refine y_ivI1 dX12_counted_172 mv_X12_160 my_X12_v (Or.inl rfl) sh_239 ?_
          refine e_v (b := 329 * 0) (p := 40) (wk_b (by omega)) rfl (by omega) ⟨_, rfl, ?_⟩
          rw [wk_o (show 254 ≠ 239 by omega)]
          rw [show m 254 (329 * 0 + 40) = nI (qOf (lfR m 0)) from (q40 l4).1]
          refine y_icmp_ge (tgt := 217) dX12_counted_175 (by decide) (fun h175 => absurd h175 (nI_ge (a := k) (b := (qOf (lfR m 0))) hk (by omega))) (fun h175 => ?_)
          refine y_iload_n dX12_counted_178 rfl rfl ?_
          refine y_iload_n dX12_counted_179 rfl rfl ?_
          refine y_iconst (v := 4) dX12_counted_180 (by decide) ?_
          refine y_icmp_ne (tgt := 208) dX12_counted_181 (by decide) (fun h181 => ?_) (fun h181 => absurd h181 (by decide))
          refine y_iconst (v := 0) dX12_counted_208 (by decide) ?_
          refine y_iadd dX12_counted_209 ?_
          try rw [Int32.add_zero]
          refine y_ist4_2 dX12_counted_210 rfl ?_
          refine y_iinc4_3 dX12_counted_211 (nI_1 _) rfl ?_
          refine y_goto (tgt := 168) dX12_counted_214 (by decide) ?_
          exact hP
    · intro k hk hP
      refine y_iload_n dX12_counted_85 rfl rfl ?_
      refine y_bipush (v := 6) dX12_counted_86 (by decide) ?_
      refine y_icmp_ge (tgt := 120) dX12_counted_88 (by decide) (fun h88 => absurd h88 (nI_ge (a := k) (b := 6) hk (by decide))) (fun h88 => ?_)
      refine y_iload_n dX12_counted_91 rfl rfl ?_
      refine y_iload_n dX12_counted_92 rfl rfl ?_
      refine y_bipush (v := 7) dX12_counted_93 (by decide) ?_
      refine y_icmp_ne (tgt := 111) dX12_counted_95 (by decide) (fun h95 => ?_) (fun h95 => absurd h95 (by decide))
      refine y_iconst (v := 0) dX12_counted_111 (by decide) ?_
      refine y_iadd dX12_counted_112 ?_
      try rw [Int32.add_zero]
      refine y_ist4_2 dX12_counted_113 rfl ?_
      refine y_iinc4_3 dX12_counted_114 (nI_1 _) rfl ?_
      refine y_goto (tgt := 85) dX12_counted_117 (by decide) ?_
      exact hP
  · intro k hk hP
    refine y_iload_n dX12_counted_4 rfl rfl ?_
    refine y_iconst (v := 4) dX12_counted_5 (by decide) ?_
    refine y_icmp_ge (tgt := 83) dX12_counted_6 (by decide) (fun h6 => absurd h6 (nI_ge (a := k) (b := 4) hk (by decide))) (fun h6 => ?_)
    refine y_iload_n dX12_counted_9 rfl rfl ?_
    refine y_iload_n dX12_counted_10 rfl rfl ?_
    refine y_if_ne (tgt := 23) dX12_counted_11 (by decide) (fun h11 => ?_) (fun h11 => absurd h11 (by decide))
    refine y_iload_n dX12_counted_23 rfl rfl ?_
    refine y_iconst (v := 1) dX12_counted_24 (by decide) ?_
    refine y_icmp_ne (tgt := 37) dX12_counted_25 (by decide) (fun h25 => absurd (by decide) h25) (fun h25 => ?_)
    refine y_aload_n dX12_counted_28 rfl rfl ?_
    refine y_getr dX12_counted_29 gf_X12_36 sh_239 rfl ?_
    refine y_iload_n dX12_counted_32 rfl rfl ?_
    refine y_zaldN dX12_counted_33 sh_248 rfl (by first | omega | decide) (by decide) ?_
    refine y_if_ne (tgt := 70) dX12_counted_34 (by decide) (fun h34 => ?_) (fun h34 => ?_)
    · refine y_iconst (v := 1) dX12_counted_70 (by decide) ?_
      refine y_goto (tgt := 75) dX12_counted_71 (by decide) ?_
      refine y_iadd dX12_counted_75 ?_
      refine y_ist4_2 dX12_counted_76 rfl ?_
      refine y_iinc4_3 dX12_counted_77 (nI_1 _) rfl ?_
      refine y_goto (tgt := 4) dX12_counted_80 (by decide) ?_
      first
        | (rw [cntZ_n (f := m 248) (k := k) h34] at hP; exact hP)
        | (rw [cntZ_p (f := m 248) (k := k) h34] at hP; exact hP)
    · refine y_iload_n dX12_counted_37 rfl rfl ?_
      refine y_iconst (v := 5) dX12_counted_38 (by decide) ?_
      refine y_icmp_ne (tgt := 55) dX12_counted_39 (by decide) (fun h39 => ?_) (fun h39 => absurd h39 (by decide))
      refine y_iload_n dX12_counted_55 rfl rfl ?_
      refine y_bipush (v := 8) dX12_counted_56 (by decide) ?_
      refine y_icmp_ne (tgt := 74) dX12_counted_58 (by decide) (fun h58 => ?_) (fun h58 => absurd h58 (by decide))
      refine y_iconst (v := 0) dX12_counted_74 (by decide) ?_
      refine y_iadd dX12_counted_75 ?_
      refine y_ist4_2 dX12_counted_76 rfl ?_
      refine y_iinc4_3 dX12_counted_77 (nI_1 _) rfl ?_
      refine y_goto (tgt := 4) dX12_counted_80 (by decide) ?_
      first
        | (rw [cntZ_n (f := m 248) (k := k) h34] at hP; exact hP)
        | (rw [cntZ_p (f := m 248) (k := k) h34] at hP; exact hP)
set_option maxHeartbeats 1000000 in
theorem c_X12_counted2 {L : Nat} {xs : Nat → Int32} {d : Nat} {m : sM} {n : sN} {Q : sQ} {x : Int32} (hx : x = 2) (hl : m 253 0 = 0 ∨ (m 253 0 = 1 ∧ sR (lfR m 0))) (hQ : Q (some (.int (CNT m 2))) (wkM m (329 * 0)) n) : sRun (scT L xs) (d + 3) yX12_counted cX12_counted 4 (some .int) [.ref 239, .int x] m n Q := by
  subst hx
  refine y_run (own := "LoafFallModel") rfl (by decide +kernel) (Nat.le_of_ble_eq_true rfl) rfl ?_
  refine y_iconst (v := 0) dX12_counted_0 (by decide) ?_
  refine y_ist4_2 dX12_counted_1 rfl ?_
  refine y_iconst (v := 0) dX12_counted_2 (by decide) ?_
  refine y_ist4_3 dX12_counted_3 rfl ?_
  refine cnt (P := fun k => sV (scT L xs) (d + 2) "LoafFallModel" cX12_counted 4 (some .int) Q 4 [some (.ref 239), some (.int 2), some (.int (0)), some (.int (nI k))] [] m n) 4 ?_ ?_ 0 (by omega)
  · refine y_iload_n dX12_counted_4 rfl rfl ?_
    refine y_iconst (v := 4) dX12_counted_5 (by decide) ?_
    refine y_icmp_ge (tgt := 83) dX12_counted_6 (by decide) (fun h6 => ?_) (fun h6 => absurd (nI_le (a := 4) (b := 4) (Nat.le_refl _) (by decide)) h6)
    refine y_iconst (v := 0) dX12_counted_83 (by decide) ?_
    refine y_ist4_3 dX12_counted_84 rfl ?_
    refine cnt (P := fun k => sV (scT L xs) (d + 2) "LoafFallModel" cX12_counted 4 (some .int) Q 85 [some (.ref 239), some (.int 2), some (.int (0)), some (.int (nI k))] [] m n) 6 ?_ ?_ 0 (by omega)
    · refine y_iload_n dX12_counted_85 rfl rfl ?_
      refine y_bipush (v := 6) dX12_counted_86 (by decide) ?_
      refine y_icmp_ge (tgt := 120) dX12_counted_88 (by decide) (fun h88 => ?_) (fun h88 => absurd (nI_le (a := 6) (b := 6) (Nat.le_refl _) (by decide)) h88)
      refine y_aload_n dX12_counted_120 rfl rfl ?_
      refine y_iconst (v := 0) dX12_counted_121 (by decide) ?_
      refine y_ivV1 dX12_counted_122 mv_X12_174 my_X12_look (Or.inl rfl) sh_239 ?_
      refine c_X12_look (j := 0) rfl ⟨rfl, ?_⟩
      rcases hl with l1 | ⟨l1, l4⟩
      · refine y_aload_n dX12_counted_125 rfl rfl ?_
        refine y_getr dX12_counted_126 gf_X12_51 sh_239 rfl ?_
        refine y_iconst (v := 0) dX12_counted_129 (by decide) ?_
        refine y_zaldN dX12_counted_130 sh_253 rfl (by first | omega | decide) (by decide) ?_
        refine y_if_eq (tgt := 217) dX12_counted_131 (by decide) (fun h131 => ?_) (fun h131 => absurd (by rw [wk_o (by omega)]; exact l1) h131)
        refine y_iload_n dX12_counted_217 rfl rfl ?_
        refine y_bipush (v := 6) dX12_counted_218 (by decide) ?_
        refine y_icmp_ne (tgt := 230) dX12_counted_220 (by decide) (fun h220 => ?_) (fun h220 => absurd h220 (by decide))
        refine y_iload_n dX12_counted_230 rfl rfl ?_
        refine y_ireturn dX12_counted_231 rfl rfl ?_
        rw [show CNT m 2 = (if m 253 0 = 0 then 0 else lfR m 0 38) from rfl] at hQ
        rw [if_pos l1] at hQ
        exact hQ
      · refine y_aload_n dX12_counted_125 rfl rfl ?_
        refine y_getr dX12_counted_126 gf_X12_51 sh_239 rfl ?_
        refine y_iconst (v := 0) dX12_counted_129 (by decide) ?_
        refine y_zaldN dX12_counted_130 sh_253 rfl (by first | omega | decide) (by decide) ?_
        refine y_if_eq (tgt := 217) dX12_counted_131 (by decide) (fun h131 => absurd h131 (by rw [wk_o (by omega)]; rw [l1]; decide)) (fun h131 => ?_)
        refine y_iload_n dX12_counted_134 rfl rfl ?_
        refine y_iload_n dX12_counted_135 rfl rfl ?_
        refine y_iconst (v := 2) dX12_counted_136 (by decide) ?_
        refine y_icmp_ne (tgt := 149) dX12_counted_137 (by decide) (fun h137 => absurd (by decide) h137) (fun h137 => ?_)
        refine y_aload_n dX12_counted_140 rfl rfl ?_
        refine y_bipush (v := 38) dX12_counted_141 (by decide) ?_
        refine y_ivI1 dX12_counted_143 mv_X12_160 my_X12_v (Or.inl rfl) sh_239 ?_
        refine e_v (b := 329 * 0) (p := 38) (wk_b (by omega)) rfl (by omega) ⟨_, rfl, ?_⟩
        rw [wk_o (show 254 ≠ 239 by omega)]
        refine y_goto (tgt := 164) dX12_counted_146 (by decide) ?_
        refine y_iadd dX12_counted_164 ?_
        rw [Int32.zero_add]
        refine y_ist4_2 dX12_counted_165 rfl ?_
        refine y_iconst (v := 0) dX12_counted_166 (by decide) ?_
        refine y_ist4_3 dX12_counted_167 rfl ?_
        have hq24 := (q40 l4).2
        refine cnt (P := fun k => sV (scT L xs) (d + 2) "LoafFallModel" cX12_counted 4 (some .int) Q 168 [some (.ref 239), some (.int 2), some (.int (lfR m 0 38)), some (.int (nI k))] [] (wkM m (329 * 0)) n) (qOf (lfR m 0)) ?_ ?_ 0 (by omega)
        · refine y_iload_n dX12_counted_168 rfl rfl ?_
          refine y_aload_n dX12_counted_169 rfl rfl ?_
          refine y_bipush (v := 40) dX12_counted_170 (by decide) ?_
          refine y_ivI1 dX12_counted_172 mv_X12_160 my_X12_v (Or.inl rfl) sh_239 ?_
          refine e_v (b := 329 * 0) (p := 40) (wk_b (by omega)) rfl (by omega) ⟨_, rfl, ?_⟩
          rw [wk_o (show 254 ≠ 239 by omega)]
          rw [show m 254 (329 * 0 + 40) = nI (qOf (lfR m 0)) from (q40 l4).1]
          refine y_icmp_ge (tgt := 217) dX12_counted_175 (by decide) (fun h175 => ?_) (fun h175 => absurd (nI_le (a := (qOf (lfR m 0))) (b := (qOf (lfR m 0))) (Nat.le_refl _) (by omega)) h175)
          refine y_iload_n dX12_counted_217 rfl rfl ?_
          refine y_bipush (v := 6) dX12_counted_218 (by decide) ?_
          refine y_icmp_ne (tgt := 230) dX12_counted_220 (by decide) (fun h220 => ?_) (fun h220 => absurd h220 (by decide))
          refine y_iload_n dX12_counted_230 rfl rfl ?_
          refine y_ireturn dX12_counted_231 rfl rfl ?_
          rw [show CNT m 2 = (if m 253 0 = 0 then 0 else lfR m 0 38) from rfl] at hQ
          rw [if_neg (by rw [l1]; decide)] at hQ
          exact hQ
        · intro k hk hP
          refine y_iload_n dX12_counted_168 rfl rfl ?_
          refine y_aload_n dX12_counted_169 rfl rfl ?_
          refine y_bipush (v := 40) dX12_counted_170 (by decide) ?_
          refine y_ivI1 dX12_counted_172 mv_X12_160 my_X12_v (Or.inl rfl) sh_239 ?_
          refine e_v (b := 329 * 0) (p := 40) (wk_b (by omega)) rfl (by omega) ⟨_, rfl, ?_⟩
          rw [wk_o (show 254 ≠ 239 by omega)]
          rw [show m 254 (329 * 0 + 40) = nI (qOf (lfR m 0)) from (q40 l4).1]
          refine y_icmp_ge (tgt := 217) dX12_counted_175 (by decide) (fun h175 => absurd h175 (nI_ge (a := k) (b := (qOf (lfR m 0))) hk (by omega))) (fun h175 => ?_)
          refine y_iload_n dX12_counted_178 rfl rfl ?_
          refine y_iload_n dX12_counted_179 rfl rfl ?_
          refine y_iconst (v := 4) dX12_counted_180 (by decide) ?_
          refine y_icmp_ne (tgt := 208) dX12_counted_181 (by decide) (fun h181 => ?_) (fun h181 => absurd h181 (by decide))
          refine y_iconst (v := 0) dX12_counted_208 (by decide) ?_
          refine y_iadd dX12_counted_209 ?_
          try rw [Int32.add_zero]
          refine y_ist4_2 dX12_counted_210 rfl ?_
          refine y_iinc4_3 dX12_counted_211 (nI_1 _) rfl ?_
          refine y_goto (tgt := 168) dX12_counted_214 (by decide) ?_
          exact hP
    · intro k hk hP
      refine y_iload_n dX12_counted_85 rfl rfl ?_
      refine y_bipush (v := 6) dX12_counted_86 (by decide) ?_
      refine y_icmp_ge (tgt := 120) dX12_counted_88 (by decide) (fun h88 => absurd h88 (nI_ge (a := k) (b := 6) hk (by decide))) (fun h88 => ?_)
      refine y_iload_n dX12_counted_91 rfl rfl ?_
      refine y_iload_n dX12_counted_92 rfl rfl ?_
      refine y_bipush (v := 7) dX12_counted_93 (by decide) ?_
      refine y_icmp_ne (tgt := 111) dX12_counted_95 (by decide) (fun h95 => ?_) (fun h95 => absurd h95 (by decide))
      refine y_iconst (v := 0) dX12_counted_111 (by decide) ?_
      refine y_iadd dX12_counted_112 ?_
      try rw [Int32.add_zero]
      refine y_ist4_2 dX12_counted_113 rfl ?_
      refine y_iinc4_3 dX12_counted_114 (nI_1 _) rfl ?_
      refine y_goto (tgt := 85) dX12_counted_117 (by decide) ?_
      exact hP
  · intro k hk hP
    refine y_iload_n dX12_counted_4 rfl rfl ?_
    refine y_iconst (v := 4) dX12_counted_5 (by decide) ?_
    refine y_icmp_ge (tgt := 83) dX12_counted_6 (by decide) (fun h6 => absurd h6 (nI_ge (a := k) (b := 4) hk (by decide))) (fun h6 => ?_)
    refine y_iload_n dX12_counted_9 rfl rfl ?_
    refine y_iload_n dX12_counted_10 rfl rfl ?_
    refine y_if_ne (tgt := 23) dX12_counted_11 (by decide) (fun h11 => ?_) (fun h11 => absurd h11 (by decide))
    refine y_iload_n dX12_counted_23 rfl rfl ?_
    refine y_iconst (v := 1) dX12_counted_24 (by decide) ?_
    refine y_icmp_ne (tgt := 37) dX12_counted_25 (by decide) (fun h25 => ?_) (fun h25 => absurd h25 (by decide))
    refine y_iload_n dX12_counted_37 rfl rfl ?_
    refine y_iconst (v := 5) dX12_counted_38 (by decide) ?_
    refine y_icmp_ne (tgt := 55) dX12_counted_39 (by decide) (fun h39 => ?_) (fun h39 => absurd h39 (by decide))
    refine y_iload_n dX12_counted_55 rfl rfl ?_
    refine y_bipush (v := 8) dX12_counted_56 (by decide) ?_
    refine y_icmp_ne (tgt := 74) dX12_counted_58 (by decide) (fun h58 => ?_) (fun h58 => absurd h58 (by decide))
    refine y_iconst (v := 0) dX12_counted_74 (by decide) ?_
    refine y_iadd dX12_counted_75 ?_
    try rw [Int32.add_zero]
    refine y_ist4_2 dX12_counted_76 rfl ?_
    refine y_iinc4_3 dX12_counted_77 (nI_1 _) rfl ?_
    refine y_goto (tgt := 4) dX12_counted_80 (by decide) ?_
    exact hP
set_option maxHeartbeats 1000000 in
theorem c_X12_counted3 {L : Nat} {xs : Nat → Int32} {d : Nat} {m : sM} {n : sN} {Q : sQ} {x : Int32} (hx : x = 3) (hl : m 253 0 = 0 ∨ (m 253 0 = 1 ∧ sR (lfR m 0))) (hQ : Q (some (.int (CNT m 3))) (wkM m (329 * 0)) n) : sRun (scT L xs) (d + 3) yX12_counted cX12_counted 4 (some .int) [.ref 239, .int x] m n Q := by
  subst hx
  refine y_run (own := "LoafFallModel") rfl (by decide +kernel) (Nat.le_of_ble_eq_true rfl) rfl ?_
  refine y_iconst (v := 0) dX12_counted_0 (by decide) ?_
  refine y_ist4_2 dX12_counted_1 rfl ?_
  refine y_iconst (v := 0) dX12_counted_2 (by decide) ?_
  refine y_ist4_3 dX12_counted_3 rfl ?_
  refine cnt (P := fun k => sV (scT L xs) (d + 2) "LoafFallModel" cX12_counted 4 (some .int) Q 4 [some (.ref 239), some (.int 3), some (.int (0)), some (.int (nI k))] [] m n) 4 ?_ ?_ 0 (by omega)
  · refine y_iload_n dX12_counted_4 rfl rfl ?_
    refine y_iconst (v := 4) dX12_counted_5 (by decide) ?_
    refine y_icmp_ge (tgt := 83) dX12_counted_6 (by decide) (fun h6 => ?_) (fun h6 => absurd (nI_le (a := 4) (b := 4) (Nat.le_refl _) (by decide)) h6)
    refine y_iconst (v := 0) dX12_counted_83 (by decide) ?_
    refine y_ist4_3 dX12_counted_84 rfl ?_
    refine cnt (P := fun k => sV (scT L xs) (d + 2) "LoafFallModel" cX12_counted 4 (some .int) Q 85 [some (.ref 239), some (.int 3), some (.int (0)), some (.int (nI k))] [] m n) 6 ?_ ?_ 0 (by omega)
    · refine y_iload_n dX12_counted_85 rfl rfl ?_
      refine y_bipush (v := 6) dX12_counted_86 (by decide) ?_
      refine y_icmp_ge (tgt := 120) dX12_counted_88 (by decide) (fun h88 => ?_) (fun h88 => absurd (nI_le (a := 6) (b := 6) (Nat.le_refl _) (by decide)) h88)
      refine y_aload_n dX12_counted_120 rfl rfl ?_
      refine y_iconst (v := 0) dX12_counted_121 (by decide) ?_
      refine y_ivV1 dX12_counted_122 mv_X12_174 my_X12_look (Or.inl rfl) sh_239 ?_
      refine c_X12_look (j := 0) rfl ⟨rfl, ?_⟩
      rcases hl with l1 | ⟨l1, l4⟩
      · refine y_aload_n dX12_counted_125 rfl rfl ?_
        refine y_getr dX12_counted_126 gf_X12_51 sh_239 rfl ?_
        refine y_iconst (v := 0) dX12_counted_129 (by decide) ?_
        refine y_zaldN dX12_counted_130 sh_253 rfl (by first | omega | decide) (by decide) ?_
        refine y_if_eq (tgt := 217) dX12_counted_131 (by decide) (fun h131 => ?_) (fun h131 => absurd (by rw [wk_o (by omega)]; exact l1) h131)
        refine y_iload_n dX12_counted_217 rfl rfl ?_
        refine y_bipush (v := 6) dX12_counted_218 (by decide) ?_
        refine y_icmp_ne (tgt := 230) dX12_counted_220 (by decide) (fun h220 => ?_) (fun h220 => absurd h220 (by decide))
        refine y_iload_n dX12_counted_230 rfl rfl ?_
        refine y_ireturn dX12_counted_231 rfl rfl ?_
        rw [show CNT m 3 = (if m 253 0 = 0 then 0 else lfR m 0 40) from rfl] at hQ
        rw [if_pos l1] at hQ
        exact hQ
      · refine y_aload_n dX12_counted_125 rfl rfl ?_
        refine y_getr dX12_counted_126 gf_X12_51 sh_239 rfl ?_
        refine y_iconst (v := 0) dX12_counted_129 (by decide) ?_
        refine y_zaldN dX12_counted_130 sh_253 rfl (by first | omega | decide) (by decide) ?_
        refine y_if_eq (tgt := 217) dX12_counted_131 (by decide) (fun h131 => absurd h131 (by rw [wk_o (by omega)]; rw [l1]; decide)) (fun h131 => ?_)
        refine y_iload_n dX12_counted_134 rfl rfl ?_
        refine y_iload_n dX12_counted_135 rfl rfl ?_
        refine y_iconst (v := 2) dX12_counted_136 (by decide) ?_
        refine y_icmp_ne (tgt := 149) dX12_counted_137 (by decide) (fun h137 => ?_) (fun h137 => absurd h137 (by decide))
        refine y_iload_n dX12_counted_149 rfl rfl ?_
        refine y_iconst (v := 3) dX12_counted_150 (by decide) ?_
        refine y_icmp_ne (tgt := 163) dX12_counted_151 (by decide) (fun h151 => absurd (by decide) h151) (fun h151 => ?_)
        refine y_aload_n dX12_counted_154 rfl rfl ?_
        refine y_bipush (v := 40) dX12_counted_155 (by decide) ?_
        refine y_ivI1 dX12_counted_157 mv_X12_160 my_X12_v (Or.inl rfl) sh_239 ?_
        refine e_v (b := 329 * 0) (p := 40) (wk_b (by omega)) rfl (by omega) ⟨_, rfl, ?_⟩
        rw [wk_o (show 254 ≠ 239 by omega)]
        refine y_goto (tgt := 164) dX12_counted_160 (by decide) ?_
        refine y_iadd dX12_counted_164 ?_
        rw [Int32.zero_add]
        refine y_ist4_2 dX12_counted_165 rfl ?_
        refine y_iconst (v := 0) dX12_counted_166 (by decide) ?_
        refine y_ist4_3 dX12_counted_167 rfl ?_
        have hq24 := (q40 l4).2
        refine cnt (P := fun k => sV (scT L xs) (d + 2) "LoafFallModel" cX12_counted 4 (some .int) Q 168 [some (.ref 239), some (.int 3), some (.int (lfR m 0 40)), some (.int (nI k))] [] (wkM m (329 * 0)) n) (qOf (lfR m 0)) ?_ ?_ 0 (by omega)
        · refine y_iload_n dX12_counted_168 rfl rfl ?_
          refine y_aload_n dX12_counted_169 rfl rfl ?_
          refine y_bipush (v := 40) dX12_counted_170 (by decide) ?_
          refine y_ivI1 dX12_counted_172 mv_X12_160 my_X12_v (Or.inl rfl) sh_239 ?_
          refine e_v (b := 329 * 0) (p := 40) (wk_b (by omega)) rfl (by omega) ⟨_, rfl, ?_⟩
          rw [wk_o (show 254 ≠ 239 by omega)]
          rw [show m 254 (329 * 0 + 40) = nI (qOf (lfR m 0)) from (q40 l4).1]
          refine y_icmp_ge (tgt := 217) dX12_counted_175 (by decide) (fun h175 => ?_) (fun h175 => absurd (nI_le (a := (qOf (lfR m 0))) (b := (qOf (lfR m 0))) (Nat.le_refl _) (by omega)) h175)
          refine y_iload_n dX12_counted_217 rfl rfl ?_
          refine y_bipush (v := 6) dX12_counted_218 (by decide) ?_
          refine y_icmp_ne (tgt := 230) dX12_counted_220 (by decide) (fun h220 => ?_) (fun h220 => absurd h220 (by decide))
          refine y_iload_n dX12_counted_230 rfl rfl ?_
          refine y_ireturn dX12_counted_231 rfl rfl ?_
          rw [show CNT m 3 = (if m 253 0 = 0 then 0 else lfR m 0 40) from rfl] at hQ
          rw [if_neg (by rw [l1]; decide)] at hQ
          exact hQ
        · intro k hk hP
          refine y_iload_n dX12_counted_168 rfl rfl ?_
          refine y_aload_n dX12_counted_169 rfl rfl ?_
          refine y_bipush (v := 40) dX12_counted_170 (by decide) ?_
          refine y_ivI1 dX12_counted_172 mv_X12_160 my_X12_v (Or.inl rfl) sh_239 ?_
          refine e_v (b := 329 * 0) (p := 40) (wk_b (by omega)) rfl (by omega) ⟨_, rfl, ?_⟩
          rw [wk_o (show 254 ≠ 239 by omega)]
          rw [show m 254 (329 * 0 + 40) = nI (qOf (lfR m 0)) from (q40 l4).1]
          refine y_icmp_ge (tgt := 217) dX12_counted_175 (by decide) (fun h175 => absurd h175 (nI_ge (a := k) (b := (qOf (lfR m 0))) hk (by omega))) (fun h175 => ?_)
          refine y_iload_n dX12_counted_178 rfl rfl ?_
          refine y_iload_n dX12_counted_179 rfl rfl ?_
          refine y_iconst (v := 4) dX12_counted_180 (by decide) ?_
          refine y_icmp_ne (tgt := 208) dX12_counted_181 (by decide) (fun h181 => ?_) (fun h181 => absurd h181 (by decide))
          refine y_iconst (v := 0) dX12_counted_208 (by decide) ?_
          refine y_iadd dX12_counted_209 ?_
          try rw [Int32.add_zero]
          refine y_ist4_2 dX12_counted_210 rfl ?_
          refine y_iinc4_3 dX12_counted_211 (nI_1 _) rfl ?_
          refine y_goto (tgt := 168) dX12_counted_214 (by decide) ?_
          exact hP
    · intro k hk hP
      refine y_iload_n dX12_counted_85 rfl rfl ?_
      refine y_bipush (v := 6) dX12_counted_86 (by decide) ?_
      refine y_icmp_ge (tgt := 120) dX12_counted_88 (by decide) (fun h88 => absurd h88 (nI_ge (a := k) (b := 6) hk (by decide))) (fun h88 => ?_)
      refine y_iload_n dX12_counted_91 rfl rfl ?_
      refine y_iload_n dX12_counted_92 rfl rfl ?_
      refine y_bipush (v := 7) dX12_counted_93 (by decide) ?_
      refine y_icmp_ne (tgt := 111) dX12_counted_95 (by decide) (fun h95 => ?_) (fun h95 => absurd h95 (by decide))
      refine y_iconst (v := 0) dX12_counted_111 (by decide) ?_
      refine y_iadd dX12_counted_112 ?_
      try rw [Int32.add_zero]
      refine y_ist4_2 dX12_counted_113 rfl ?_
      refine y_iinc4_3 dX12_counted_114 (nI_1 _) rfl ?_
      refine y_goto (tgt := 85) dX12_counted_117 (by decide) ?_
      exact hP
  · intro k hk hP
    refine y_iload_n dX12_counted_4 rfl rfl ?_
    refine y_iconst (v := 4) dX12_counted_5 (by decide) ?_
    refine y_icmp_ge (tgt := 83) dX12_counted_6 (by decide) (fun h6 => absurd h6 (nI_ge (a := k) (b := 4) hk (by decide))) (fun h6 => ?_)
    refine y_iload_n dX12_counted_9 rfl rfl ?_
    refine y_iload_n dX12_counted_10 rfl rfl ?_
    refine y_if_ne (tgt := 23) dX12_counted_11 (by decide) (fun h11 => ?_) (fun h11 => absurd h11 (by decide))
    refine y_iload_n dX12_counted_23 rfl rfl ?_
    refine y_iconst (v := 1) dX12_counted_24 (by decide) ?_
    refine y_icmp_ne (tgt := 37) dX12_counted_25 (by decide) (fun h25 => ?_) (fun h25 => absurd h25 (by decide))
    refine y_iload_n dX12_counted_37 rfl rfl ?_
    refine y_iconst (v := 5) dX12_counted_38 (by decide) ?_
    refine y_icmp_ne (tgt := 55) dX12_counted_39 (by decide) (fun h39 => ?_) (fun h39 => absurd h39 (by decide))
    refine y_iload_n dX12_counted_55 rfl rfl ?_
    refine y_bipush (v := 8) dX12_counted_56 (by decide) ?_
    refine y_icmp_ne (tgt := 74) dX12_counted_58 (by decide) (fun h58 => ?_) (fun h58 => absurd h58 (by decide))
    refine y_iconst (v := 0) dX12_counted_74 (by decide) ?_
    refine y_iadd dX12_counted_75 ?_
    try rw [Int32.add_zero]
    refine y_ist4_2 dX12_counted_76 rfl ?_
    refine y_iinc4_3 dX12_counted_77 (nI_1 _) rfl ?_
    refine y_goto (tgt := 4) dX12_counted_80 (by decide) ?_
    exact hP
set_option maxHeartbeats 1000000 in
theorem c_X12_counted4 {L : Nat} {xs : Nat → Int32} {d : Nat} {m : sM} {n : sN} {Q : sQ} {x : Int32} (hx : x = 4) (hl : m 253 0 = 0 ∨ (m 253 0 = 1 ∧ sR (lfR m 0))) (hQ : Q (some (.int (CNT m 4))) (wkM m (329 * 0)) n) : sRun (scT L xs) (d + 3) yX12_counted cX12_counted 4 (some .int) [.ref 239, .int x] m n Q := by
  subst hx
  refine y_run (own := "LoafFallModel") rfl (by decide +kernel) (Nat.le_of_ble_eq_true rfl) rfl ?_
  refine y_iconst (v := 0) dX12_counted_0 (by decide) ?_
  refine y_ist4_2 dX12_counted_1 rfl ?_
  refine y_iconst (v := 0) dX12_counted_2 (by decide) ?_
  refine y_ist4_3 dX12_counted_3 rfl ?_
  refine cnt (P := fun k => sV (scT L xs) (d + 2) "LoafFallModel" cX12_counted 4 (some .int) Q 4 [some (.ref 239), some (.int 4), some (.int (0)), some (.int (nI k))] [] m n) 4 ?_ ?_ 0 (by omega)
  · refine y_iload_n dX12_counted_4 rfl rfl ?_
    refine y_iconst (v := 4) dX12_counted_5 (by decide) ?_
    refine y_icmp_ge (tgt := 83) dX12_counted_6 (by decide) (fun h6 => ?_) (fun h6 => absurd (nI_le (a := 4) (b := 4) (Nat.le_refl _) (by decide)) h6)
    refine y_iconst (v := 0) dX12_counted_83 (by decide) ?_
    refine y_ist4_3 dX12_counted_84 rfl ?_
    refine cnt (P := fun k => sV (scT L xs) (d + 2) "LoafFallModel" cX12_counted 4 (some .int) Q 85 [some (.ref 239), some (.int 4), some (.int (0)), some (.int (nI k))] [] m n) 6 ?_ ?_ 0 (by omega)
    · refine y_iload_n dX12_counted_85 rfl rfl ?_
      refine y_bipush (v := 6) dX12_counted_86 (by decide) ?_
      refine y_icmp_ge (tgt := 120) dX12_counted_88 (by decide) (fun h88 => ?_) (fun h88 => absurd (nI_le (a := 6) (b := 6) (Nat.le_refl _) (by decide)) h88)
      refine y_aload_n dX12_counted_120 rfl rfl ?_
      refine y_iconst (v := 0) dX12_counted_121 (by decide) ?_
      refine y_ivV1 dX12_counted_122 mv_X12_174 my_X12_look (Or.inl rfl) sh_239 ?_
      refine c_X12_look (j := 0) rfl ⟨rfl, ?_⟩
      rcases hl with l1 | ⟨l1, l4⟩
      · refine y_aload_n dX12_counted_125 rfl rfl ?_
        refine y_getr dX12_counted_126 gf_X12_51 sh_239 rfl ?_
        refine y_iconst (v := 0) dX12_counted_129 (by decide) ?_
        refine y_zaldN dX12_counted_130 sh_253 rfl (by first | omega | decide) (by decide) ?_
        refine y_if_eq (tgt := 217) dX12_counted_131 (by decide) (fun h131 => ?_) (fun h131 => absurd (by rw [wk_o (by omega)]; exact l1) h131)
        refine y_iload_n dX12_counted_217 rfl rfl ?_
        refine y_bipush (v := 6) dX12_counted_218 (by decide) ?_
        refine y_icmp_ne (tgt := 230) dX12_counted_220 (by decide) (fun h220 => ?_) (fun h220 => absurd h220 (by decide))
        refine y_iload_n dX12_counted_230 rfl rfl ?_
        refine y_ireturn dX12_counted_231 rfl rfl ?_
        rw [show CNT m 4 = (if m 253 0 = 0 then 0 else undS (fun k => lfR m 0 (161 + 7 * k + 0)) (qOf (lfR m 0))) from rfl] at hQ
        rw [if_pos l1] at hQ
        exact hQ
      · refine y_aload_n dX12_counted_125 rfl rfl ?_
        refine y_getr dX12_counted_126 gf_X12_51 sh_239 rfl ?_
        refine y_iconst (v := 0) dX12_counted_129 (by decide) ?_
        refine y_zaldN dX12_counted_130 sh_253 rfl (by first | omega | decide) (by decide) ?_
        refine y_if_eq (tgt := 217) dX12_counted_131 (by decide) (fun h131 => absurd h131 (by rw [wk_o (by omega)]; rw [l1]; decide)) (fun h131 => ?_)
        refine y_iload_n dX12_counted_134 rfl rfl ?_
        refine y_iload_n dX12_counted_135 rfl rfl ?_
        refine y_iconst (v := 2) dX12_counted_136 (by decide) ?_
        refine y_icmp_ne (tgt := 149) dX12_counted_137 (by decide) (fun h137 => ?_) (fun h137 => absurd h137 (by decide))
        refine y_iload_n dX12_counted_149 rfl rfl ?_
        refine y_iconst (v := 3) dX12_counted_150 (by decide) ?_
        refine y_icmp_ne (tgt := 163) dX12_counted_151 (by decide) (fun h151 => ?_) (fun h151 => absurd h151 (by decide))
        refine y_iconst (v := 0) dX12_counted_163 (by decide) ?_
        refine y_iadd dX12_counted_164 ?_
        try rw [Int32.add_zero]
        refine y_ist4_2 dX12_counted_165 rfl ?_
        refine y_iconst (v := 0) dX12_counted_166 (by decide) ?_
        refine y_ist4_3 dX12_counted_167 rfl ?_
        have hq24 := (q40 l4).2
        refine cnt (P := fun k => sV (scT L xs) (d + 2) "LoafFallModel" cX12_counted 4 (some .int) Q 168 [some (.ref 239), some (.int 4), some (.int (undS (fun k => lfR m 0 (161 + 7 * k + 0)) k)), some (.int (nI k))] [] (wkM m (329 * 0)) n) (qOf (lfR m 0)) ?_ ?_ 0 (by omega)
        · refine y_iload_n dX12_counted_168 rfl rfl ?_
          refine y_aload_n dX12_counted_169 rfl rfl ?_
          refine y_bipush (v := 40) dX12_counted_170 (by decide) ?_
          refine y_ivI1 dX12_counted_172 mv_X12_160 my_X12_v (Or.inl rfl) sh_239 ?_
          refine e_v (b := 329 * 0) (p := 40) (wk_b (by omega)) rfl (by omega) ⟨_, rfl, ?_⟩
          rw [wk_o (show 254 ≠ 239 by omega)]
          rw [show m 254 (329 * 0 + 40) = nI (qOf (lfR m 0)) from (q40 l4).1]
          refine y_icmp_ge (tgt := 217) dX12_counted_175 (by decide) (fun h175 => ?_) (fun h175 => absurd (nI_le (a := (qOf (lfR m 0))) (b := (qOf (lfR m 0))) (Nat.le_refl _) (by omega)) h175)
          refine y_iload_n dX12_counted_217 rfl rfl ?_
          refine y_bipush (v := 6) dX12_counted_218 (by decide) ?_
          refine y_icmp_ne (tgt := 230) dX12_counted_220 (by decide) (fun h220 => ?_) (fun h220 => absurd h220 (by decide))
          refine y_iload_n dX12_counted_230 rfl rfl ?_
          refine y_ireturn dX12_counted_231 rfl rfl ?_
          rw [show CNT m 4 = (if m 253 0 = 0 then 0 else undS (fun k => lfR m 0 (161 + 7 * k + 0)) (qOf (lfR m 0))) from rfl] at hQ
          rw [if_neg (by rw [l1]; decide)] at hQ
          exact hQ
        · intro k hk hP
          refine y_iload_n dX12_counted_168 rfl rfl ?_
          refine y_aload_n dX12_counted_169 rfl rfl ?_
          refine y_bipush (v := 40) dX12_counted_170 (by decide) ?_
          refine y_ivI1 dX12_counted_172 mv_X12_160 my_X12_v (Or.inl rfl) sh_239 ?_
          refine e_v (b := 329 * 0) (p := 40) (wk_b (by omega)) rfl (by omega) ⟨_, rfl, ?_⟩
          rw [wk_o (show 254 ≠ 239 by omega)]
          rw [show m 254 (329 * 0 + 40) = nI (qOf (lfR m 0)) from (q40 l4).1]
          refine y_icmp_ge (tgt := 217) dX12_counted_175 (by decide) (fun h175 => absurd h175 (nI_ge (a := k) (b := (qOf (lfR m 0))) hk (by omega))) (fun h175 => ?_)
          refine y_iload_n dX12_counted_178 rfl rfl ?_
          refine y_iload_n dX12_counted_179 rfl rfl ?_
          refine y_iconst (v := 4) dX12_counted_180 (by decide) ?_
          refine y_icmp_ne (tgt := 208) dX12_counted_181 (by decide) (fun h181 => absurd (by decide) h181) (fun h181 => ?_)
          refine y_aload_n dX12_counted_184 rfl rfl ?_
          refine y_iload_n dX12_counted_185 rfl rfl ?_
          refine y_iconst (v := 0) dX12_counted_186 (by decide) ?_
          refine y_ivI2 dX12_counted_187 mv_X12_235 my_X12_f (Or.inl rfl) sh_239 ?_
          refine e_f (b := 329 * 0) (k := k) (j := 0) (wk_b (by omega)) rfl rfl (by have := (q40 l4).2; omega) ⟨_, rfl, ?_⟩
          rw [wk_o (show 254 ≠ 239 by omega)]
          refine y_iconst (v := 4) dX12_counted_190 (by decide) ?_
          refine y_icmp_eq (tgt := 204) dX12_counted_191 (by decide) (fun h191 => ?_) (fun h191 => ?_)
          · refine y_iconst (v := 1) dX12_counted_204 (by decide) ?_
            refine y_goto (tgt := 209) dX12_counted_205 (by decide) ?_
            refine y_iadd dX12_counted_209 ?_
            refine y_ist4_2 dX12_counted_210 rfl ?_
            refine y_iinc4_3 dX12_counted_211 (nI_1 _) rfl ?_
            refine y_goto (tgt := 168) dX12_counted_214 (by decide) ?_
            first
              | (rw [und_p (f := (fun k => lfR m 0 (161 + 7 * k + 0))) (k := k) (Or.inl h191)] at hP; exact hP)
              | (rw [und_p (f := (fun k => lfR m 0 (161 + 7 * k + 0))) (k := k) (Or.inr h201)] at hP; exact hP)
              | (rw [und_n (f := (fun k => lfR m 0 (161 + 7 * k + 0))) (k := k) h191 h201] at hP; exact hP)
          · refine y_aload_n dX12_counted_194 rfl rfl ?_
            refine y_iload_n dX12_counted_195 rfl rfl ?_
            refine y_iconst (v := 0) dX12_counted_196 (by decide) ?_
            refine y_ivI2 dX12_counted_197 mv_X12_235 my_X12_f (Or.inl rfl) sh_239 ?_
            refine e_f (b := 329 * 0) (k := k) (j := 0) (wk_b (by omega)) rfl rfl (by have := (q40 l4).2; omega) ⟨_, rfl, ?_⟩
            rw [wk_o (show 254 ≠ 239 by omega)]
            refine y_iconst (v := 5) dX12_counted_200 (by decide) ?_
            refine y_icmp_ne (tgt := 208) dX12_counted_201 (by decide) (fun h201 => ?_) (fun h201 => ?_)
            · refine y_iconst (v := 0) dX12_counted_208 (by decide) ?_
              refine y_iadd dX12_counted_209 ?_
              refine y_ist4_2 dX12_counted_210 rfl ?_
              refine y_iinc4_3 dX12_counted_211 (nI_1 _) rfl ?_
              refine y_goto (tgt := 168) dX12_counted_214 (by decide) ?_
              first
                | (rw [und_p (f := (fun k => lfR m 0 (161 + 7 * k + 0))) (k := k) (Or.inl h191)] at hP; exact hP)
                | (rw [und_p (f := (fun k => lfR m 0 (161 + 7 * k + 0))) (k := k) (Or.inr h201)] at hP; exact hP)
                | (rw [und_n (f := (fun k => lfR m 0 (161 + 7 * k + 0))) (k := k) h191 h201] at hP; exact hP)
            · refine y_iconst (v := 1) dX12_counted_204 (by decide) ?_
              refine y_goto (tgt := 209) dX12_counted_205 (by decide) ?_
              refine y_iadd dX12_counted_209 ?_
              refine y_ist4_2 dX12_counted_210 rfl ?_
              refine y_iinc4_3 dX12_counted_211 (nI_1 _) rfl ?_
              refine y_goto (tgt := 168) dX12_counted_214 (by decide) ?_
              first
                | (rw [und_p (f := (fun k => lfR m 0 (161 + 7 * k + 0))) (k := k) (Or.inl h191)] at hP; exact hP)
                | (rw [und_p (f := (fun k => lfR m 0 (161 + 7 * k + 0))) (k := k) (Or.inr h201)] at hP; exact hP)
                | (rw [und_n (f := (fun k => lfR m 0 (161 + 7 * k + 0))) (k := k) h191 h201] at hP; exact hP)
    · intro k hk hP
      refine y_iload_n dX12_counted_85 rfl rfl ?_
      refine y_bipush (v := 6) dX12_counted_86 (by decide) ?_
      refine y_icmp_ge (tgt := 120) dX12_counted_88 (by decide) (fun h88 => absurd h88 (nI_ge (a := k) (b := 6) hk (by decide))) (fun h88 => ?_)
      refine y_iload_n dX12_counted_91 rfl rfl ?_
      refine y_iload_n dX12_counted_92 rfl rfl ?_
      refine y_bipush (v := 7) dX12_counted_93 (by decide) ?_
      refine y_icmp_ne (tgt := 111) dX12_counted_95 (by decide) (fun h95 => ?_) (fun h95 => absurd h95 (by decide))
      refine y_iconst (v := 0) dX12_counted_111 (by decide) ?_
      refine y_iadd dX12_counted_112 ?_
      try rw [Int32.add_zero]
      refine y_ist4_2 dX12_counted_113 rfl ?_
      refine y_iinc4_3 dX12_counted_114 (nI_1 _) rfl ?_
      refine y_goto (tgt := 85) dX12_counted_117 (by decide) ?_
      exact hP
  · intro k hk hP
    refine y_iload_n dX12_counted_4 rfl rfl ?_
    refine y_iconst (v := 4) dX12_counted_5 (by decide) ?_
    refine y_icmp_ge (tgt := 83) dX12_counted_6 (by decide) (fun h6 => absurd h6 (nI_ge (a := k) (b := 4) hk (by decide))) (fun h6 => ?_)
    refine y_iload_n dX12_counted_9 rfl rfl ?_
    refine y_iload_n dX12_counted_10 rfl rfl ?_
    refine y_if_ne (tgt := 23) dX12_counted_11 (by decide) (fun h11 => ?_) (fun h11 => absurd h11 (by decide))
    refine y_iload_n dX12_counted_23 rfl rfl ?_
    refine y_iconst (v := 1) dX12_counted_24 (by decide) ?_
    refine y_icmp_ne (tgt := 37) dX12_counted_25 (by decide) (fun h25 => ?_) (fun h25 => absurd h25 (by decide))
    refine y_iload_n dX12_counted_37 rfl rfl ?_
    refine y_iconst (v := 5) dX12_counted_38 (by decide) ?_
    refine y_icmp_ne (tgt := 55) dX12_counted_39 (by decide) (fun h39 => ?_) (fun h39 => absurd h39 (by decide))
    refine y_iload_n dX12_counted_55 rfl rfl ?_
    refine y_bipush (v := 8) dX12_counted_56 (by decide) ?_
    refine y_icmp_ne (tgt := 74) dX12_counted_58 (by decide) (fun h58 => ?_) (fun h58 => absurd h58 (by decide))
    refine y_iconst (v := 0) dX12_counted_74 (by decide) ?_
    refine y_iadd dX12_counted_75 ?_
    try rw [Int32.add_zero]
    refine y_ist4_2 dX12_counted_76 rfl ?_
    refine y_iinc4_3 dX12_counted_77 (nI_1 _) rfl ?_
    refine y_goto (tgt := 4) dX12_counted_80 (by decide) ?_
    exact hP
set_option maxHeartbeats 1000000 in
theorem c_X12_counted5 {L : Nat} {xs : Nat → Int32} {d : Nat} {m : sM} {n : sN} {Q : sQ} {x : Int32} (hx : x = 5) (hl : m 253 0 = 0 ∨ (m 253 0 = 1 ∧ sR (lfR m 0))) (hQ : Q (some (.int (CNT m 5))) (wkM m (329 * 0)) n) : sRun (scT L xs) (d + 3) yX12_counted cX12_counted 4 (some .int) [.ref 239, .int x] m n Q := by
  subst hx
  refine y_run (own := "LoafFallModel") rfl (by decide +kernel) (Nat.le_of_ble_eq_true rfl) rfl ?_
  refine y_iconst (v := 0) dX12_counted_0 (by decide) ?_
  refine y_ist4_2 dX12_counted_1 rfl ?_
  refine y_iconst (v := 0) dX12_counted_2 (by decide) ?_
  refine y_ist4_3 dX12_counted_3 rfl ?_
  refine cnt (P := fun k => sV (scT L xs) (d + 2) "LoafFallModel" cX12_counted 4 (some .int) Q 4 [some (.ref 239), some (.int 5), some (.int (cntZ (kpZ (m 253)) k)), some (.int (nI k))] [] m n) 4 ?_ ?_ 0 (by omega)
  · refine y_iload_n dX12_counted_4 rfl rfl ?_
    refine y_iconst (v := 4) dX12_counted_5 (by decide) ?_
    refine y_icmp_ge (tgt := 83) dX12_counted_6 (by decide) (fun h6 => ?_) (fun h6 => absurd (nI_le (a := 4) (b := 4) (Nat.le_refl _) (by decide)) h6)
    refine y_iconst (v := 0) dX12_counted_83 (by decide) ?_
    refine y_ist4_3 dX12_counted_84 rfl ?_
    refine cnt (P := fun k => sV (scT L xs) (d + 2) "LoafFallModel" cX12_counted 4 (some .int) Q 85 [some (.ref 239), some (.int 5), some (.int (cntZ (kpZ (m 253)) 4)), some (.int (nI k))] [] m n) 6 ?_ ?_ 0 (by omega)
    · refine y_iload_n dX12_counted_85 rfl rfl ?_
      refine y_bipush (v := 6) dX12_counted_86 (by decide) ?_
      refine y_icmp_ge (tgt := 120) dX12_counted_88 (by decide) (fun h88 => ?_) (fun h88 => absurd (nI_le (a := 6) (b := 6) (Nat.le_refl _) (by decide)) h88)
      refine y_aload_n dX12_counted_120 rfl rfl ?_
      refine y_iconst (v := 0) dX12_counted_121 (by decide) ?_
      refine y_ivV1 dX12_counted_122 mv_X12_174 my_X12_look (Or.inl rfl) sh_239 ?_
      refine c_X12_look (j := 0) rfl ⟨rfl, ?_⟩
      rcases hl with l1 | ⟨l1, l4⟩
      · refine y_aload_n dX12_counted_125 rfl rfl ?_
        refine y_getr dX12_counted_126 gf_X12_51 sh_239 rfl ?_
        refine y_iconst (v := 0) dX12_counted_129 (by decide) ?_
        refine y_zaldN dX12_counted_130 sh_253 rfl (by first | omega | decide) (by decide) ?_
        refine y_if_eq (tgt := 217) dX12_counted_131 (by decide) (fun h131 => ?_) (fun h131 => absurd (by rw [wk_o (by omega)]; exact l1) h131)
        refine y_iload_n dX12_counted_217 rfl rfl ?_
        refine y_bipush (v := 6) dX12_counted_218 (by decide) ?_
        refine y_icmp_ne (tgt := 230) dX12_counted_220 (by decide) (fun h220 => ?_) (fun h220 => absurd h220 (by decide))
        refine y_iload_n dX12_counted_230 rfl rfl ?_
        refine y_ireturn dX12_counted_231 rfl rfl ?_
        skip
        exact hQ
      · refine y_aload_n dX12_counted_125 rfl rfl ?_
        refine y_getr dX12_counted_126 gf_X12_51 sh_239 rfl ?_
        refine y_iconst (v := 0) dX12_counted_129 (by decide) ?_
        refine y_zaldN dX12_counted_130 sh_253 rfl (by first | omega | decide) (by decide) ?_
        refine y_if_eq (tgt := 217) dX12_counted_131 (by decide) (fun h131 => absurd h131 (by rw [wk_o (by omega)]; rw [l1]; decide)) (fun h131 => ?_)
        refine y_iload_n dX12_counted_134 rfl rfl ?_
        refine y_iload_n dX12_counted_135 rfl rfl ?_
        refine y_iconst (v := 2) dX12_counted_136 (by decide) ?_
        refine y_icmp_ne (tgt := 149) dX12_counted_137 (by decide) (fun h137 => ?_) (fun h137 => absurd h137 (by decide))
        refine y_iload_n dX12_counted_149 rfl rfl ?_
        refine y_iconst (v := 3) dX12_counted_150 (by decide) ?_
        refine y_icmp_ne (tgt := 163) dX12_counted_151 (by decide) (fun h151 => ?_) (fun h151 => absurd h151 (by decide))
        refine y_iconst (v := 0) dX12_counted_163 (by decide) ?_
        refine y_iadd dX12_counted_164 ?_
        try rw [Int32.add_zero]
        refine y_ist4_2 dX12_counted_165 rfl ?_
        refine y_iconst (v := 0) dX12_counted_166 (by decide) ?_
        refine y_ist4_3 dX12_counted_167 rfl ?_
        have hq24 := (q40 l4).2
        refine cnt (P := fun k => sV (scT L xs) (d + 2) "LoafFallModel" cX12_counted 4 (some .int) Q 168 [some (.ref 239), some (.int 5), some (.int (cntZ (kpZ (m 253)) 4)), some (.int (nI k))] [] (wkM m (329 * 0)) n) (qOf (lfR m 0)) ?_ ?_ 0 (by omega)
        · refine y_iload_n dX12_counted_168 rfl rfl ?_
          refine y_aload_n dX12_counted_169 rfl rfl ?_
          refine y_bipush (v := 40) dX12_counted_170 (by decide) ?_
          refine y_ivI1 dX12_counted_172 mv_X12_160 my_X12_v (Or.inl rfl) sh_239 ?_
          refine e_v (b := 329 * 0) (p := 40) (wk_b (by omega)) rfl (by omega) ⟨_, rfl, ?_⟩
          rw [wk_o (show 254 ≠ 239 by omega)]
          rw [show m 254 (329 * 0 + 40) = nI (qOf (lfR m 0)) from (q40 l4).1]
          refine y_icmp_ge (tgt := 217) dX12_counted_175 (by decide) (fun h175 => ?_) (fun h175 => absurd (nI_le (a := (qOf (lfR m 0))) (b := (qOf (lfR m 0))) (Nat.le_refl _) (by omega)) h175)
          refine y_iload_n dX12_counted_217 rfl rfl ?_
          refine y_bipush (v := 6) dX12_counted_218 (by decide) ?_
          refine y_icmp_ne (tgt := 230) dX12_counted_220 (by decide) (fun h220 => ?_) (fun h220 => absurd h220 (by decide))
          refine y_iload_n dX12_counted_230 rfl rfl ?_
          refine y_ireturn dX12_counted_231 rfl rfl ?_
          exact hQ
        · intro k hk hP
          refine y_iload_n dX12_counted_168 rfl rfl ?_
          refine y_aload_n dX12_counted_169 rfl rfl ?_
          refine y_bipush (v := 40) dX12_counted_170 (by decide) ?_
          refine y_ivI1 dX12_counted_172 mv_X12_160 my_X12_v (Or.inl rfl) sh_239 ?_
          refine e_v (b := 329 * 0) (p := 40) (wk_b (by omega)) rfl (by omega) ⟨_, rfl, ?_⟩
          rw [wk_o (show 254 ≠ 239 by omega)]
          rw [show m 254 (329 * 0 + 40) = nI (qOf (lfR m 0)) from (q40 l4).1]
          refine y_icmp_ge (tgt := 217) dX12_counted_175 (by decide) (fun h175 => absurd h175 (nI_ge (a := k) (b := (qOf (lfR m 0))) hk (by omega))) (fun h175 => ?_)
          refine y_iload_n dX12_counted_178 rfl rfl ?_
          refine y_iload_n dX12_counted_179 rfl rfl ?_
          refine y_iconst (v := 4) dX12_counted_180 (by decide) ?_
          refine y_icmp_ne (tgt := 208) dX12_counted_181 (by decide) (fun h181 => ?_) (fun h181 => absurd h181 (by decide))
          refine y_iconst (v := 0) dX12_counted_208 (by decide) ?_
          refine y_iadd dX12_counted_209 ?_
          try rw [Int32.add_zero]
          refine y_ist4_2 dX12_counted_210 rfl ?_
          refine y_iinc4_3 dX12_counted_211 (nI_1 _) rfl ?_
          refine y_goto (tgt := 168) dX12_counted_214 (by decide) ?_
          exact hP
    · intro k hk hP
      refine y_iload_n dX12_counted_85 rfl rfl ?_
      refine y_bipush (v := 6) dX12_counted_86 (by decide) ?_
      refine y_icmp_ge (tgt := 120) dX12_counted_88 (by decide) (fun h88 => absurd h88 (nI_ge (a := k) (b := 6) hk (by decide))) (fun h88 => ?_)
      refine y_iload_n dX12_counted_91 rfl rfl ?_
      refine y_iload_n dX12_counted_92 rfl rfl ?_
      refine y_bipush (v := 7) dX12_counted_93 (by decide) ?_
      refine y_icmp_ne (tgt := 111) dX12_counted_95 (by decide) (fun h95 => ?_) (fun h95 => absurd h95 (by decide))
      refine y_iconst (v := 0) dX12_counted_111 (by decide) ?_
      refine y_iadd dX12_counted_112 ?_
      try rw [Int32.add_zero]
      refine y_ist4_2 dX12_counted_113 rfl ?_
      refine y_iinc4_3 dX12_counted_114 (nI_1 _) rfl ?_
      refine y_goto (tgt := 85) dX12_counted_117 (by decide) ?_
      exact hP
  · intro k hk hP
    refine y_iload_n dX12_counted_4 rfl rfl ?_
    refine y_iconst (v := 4) dX12_counted_5 (by decide) ?_
    refine y_icmp_ge (tgt := 83) dX12_counted_6 (by decide) (fun h6 => absurd h6 (nI_ge (a := k) (b := 4) hk (by decide))) (fun h6 => ?_)
    refine y_iload_n dX12_counted_9 rfl rfl ?_
    refine y_iload_n dX12_counted_10 rfl rfl ?_
    refine y_if_ne (tgt := 23) dX12_counted_11 (by decide) (fun h11 => ?_) (fun h11 => absurd h11 (by decide))
    refine y_iload_n dX12_counted_23 rfl rfl ?_
    refine y_iconst (v := 1) dX12_counted_24 (by decide) ?_
    refine y_icmp_ne (tgt := 37) dX12_counted_25 (by decide) (fun h25 => ?_) (fun h25 => absurd h25 (by decide))
    refine y_iload_n dX12_counted_37 rfl rfl ?_
    refine y_iconst (v := 5) dX12_counted_38 (by decide) ?_
    refine y_icmp_ne (tgt := 55) dX12_counted_39 (by decide) (fun h39 => absurd (by decide) h39) (fun h39 => ?_)
    refine y_iload_n dX12_counted_42 rfl rfl ?_
    refine y_if_le (tgt := 55) dX12_counted_43 (by decide) (fun h43 => ?_) (fun h43 => ?_)
    · refine y_iload_n dX12_counted_55 rfl rfl ?_
      refine y_bipush (v := 8) dX12_counted_56 (by decide) ?_
      refine y_icmp_ne (tgt := 74) dX12_counted_58 (by decide) (fun h58 => ?_) (fun h58 => absurd h58 (by decide))
      refine y_iconst (v := 0) dX12_counted_74 (by decide) ?_
      refine y_iadd dX12_counted_75 ?_
      refine y_ist4_2 dX12_counted_76 rfl ?_
      refine y_iinc4_3 dX12_counted_77 (nI_1 _) rfl ?_
      refine y_goto (tgt := 4) dX12_counted_80 (by decide) ?_
      first
        | (rw [cntZ_n (f := kpZ (m 253)) (k := k) (kpZ_n h43 h52)] at hP; exact hP)
        | (rw [cntZ_p (f := kpZ (m 253)) (k := k) (kpZ_o h52)] at hP; exact hP)
        | (rw [cntZ_p (f := kpZ (m 253)) (k := k) (kpZ_p h43 hk)] at hP; exact hP)
    · refine y_aload_n dX12_counted_46 rfl rfl ?_
      refine y_getr dX12_counted_47 gf_X12_51 sh_239 rfl ?_
      refine y_iload_n dX12_counted_50 rfl rfl ?_
      refine y_zaldN dX12_counted_51 sh_253 rfl (by first | omega | decide) (by decide) ?_
      refine y_if_ne (tgt := 70) dX12_counted_52 (by decide) (fun h52 => ?_) (fun h52 => ?_)
      · refine y_iconst (v := 1) dX12_counted_70 (by decide) ?_
        refine y_goto (tgt := 75) dX12_counted_71 (by decide) ?_
        refine y_iadd dX12_counted_75 ?_
        refine y_ist4_2 dX12_counted_76 rfl ?_
        refine y_iinc4_3 dX12_counted_77 (nI_1 _) rfl ?_
        refine y_goto (tgt := 4) dX12_counted_80 (by decide) ?_
        first
          | (rw [cntZ_n (f := kpZ (m 253)) (k := k) (kpZ_n h43 h52)] at hP; exact hP)
          | (rw [cntZ_p (f := kpZ (m 253)) (k := k) (kpZ_o h52)] at hP; exact hP)
          | (rw [cntZ_p (f := kpZ (m 253)) (k := k) (kpZ_p h43 hk)] at hP; exact hP)
      · refine y_iload_n dX12_counted_55 rfl rfl ?_
        refine y_bipush (v := 8) dX12_counted_56 (by decide) ?_
        refine y_icmp_ne (tgt := 74) dX12_counted_58 (by decide) (fun h58 => ?_) (fun h58 => absurd h58 (by decide))
        refine y_iconst (v := 0) dX12_counted_74 (by decide) ?_
        refine y_iadd dX12_counted_75 ?_
        refine y_ist4_2 dX12_counted_76 rfl ?_
        refine y_iinc4_3 dX12_counted_77 (nI_1 _) rfl ?_
        refine y_goto (tgt := 4) dX12_counted_80 (by decide) ?_
        first
          | (rw [cntZ_n (f := kpZ (m 253)) (k := k) (kpZ_n h43 h52)] at hP; exact hP)
          | (rw [cntZ_p (f := kpZ (m 253)) (k := k) (kpZ_o h52)] at hP; exact hP)
          | (rw [cntZ_p (f := kpZ (m 253)) (k := k) (kpZ_p h43 hk)] at hP; exact hP)
set_option maxHeartbeats 1000000 in
theorem c_X12_counted6 {L : Nat} {xs : Nat → Int32} {d : Nat} {m : sM} {n : sN} {Q : sQ} {x : Int32} (hx : x = 6) (hl : m 253 0 = 0 ∨ (m 253 0 = 1 ∧ sR (lfR m 0))) (hQ : Q (some (.int (CNT m 6))) (wkM m (329 * 0)) n) : sRun (scT L xs) (d + 3) yX12_counted cX12_counted 4 (some .int) [.ref 239, .int x] m n Q := by
  subst hx
  refine y_run (own := "LoafFallModel") rfl (by decide +kernel) (Nat.le_of_ble_eq_true rfl) rfl ?_
  refine y_iconst (v := 0) dX12_counted_0 (by decide) ?_
  refine y_ist4_2 dX12_counted_1 rfl ?_
  refine y_iconst (v := 0) dX12_counted_2 (by decide) ?_
  refine y_ist4_3 dX12_counted_3 rfl ?_
  refine cnt (P := fun k => sV (scT L xs) (d + 2) "LoafFallModel" cX12_counted 4 (some .int) Q 4 [some (.ref 239), some (.int 6), some (.int (0)), some (.int (nI k))] [] m n) 4 ?_ ?_ 0 (by omega)
  · refine y_iload_n dX12_counted_4 rfl rfl ?_
    refine y_iconst (v := 4) dX12_counted_5 (by decide) ?_
    refine y_icmp_ge (tgt := 83) dX12_counted_6 (by decide) (fun h6 => ?_) (fun h6 => absurd (nI_le (a := 4) (b := 4) (Nat.le_refl _) (by decide)) h6)
    refine y_iconst (v := 0) dX12_counted_83 (by decide) ?_
    refine y_ist4_3 dX12_counted_84 rfl ?_
    refine cnt (P := fun k => sV (scT L xs) (d + 2) "LoafFallModel" cX12_counted 4 (some .int) Q 85 [some (.ref 239), some (.int 6), some (.int (0)), some (.int (nI k))] [] m n) 6 ?_ ?_ 0 (by omega)
    · refine y_iload_n dX12_counted_85 rfl rfl ?_
      refine y_bipush (v := 6) dX12_counted_86 (by decide) ?_
      refine y_icmp_ge (tgt := 120) dX12_counted_88 (by decide) (fun h88 => ?_) (fun h88 => absurd (nI_le (a := 6) (b := 6) (Nat.le_refl _) (by decide)) h88)
      refine y_aload_n dX12_counted_120 rfl rfl ?_
      refine y_iconst (v := 0) dX12_counted_121 (by decide) ?_
      refine y_ivV1 dX12_counted_122 mv_X12_174 my_X12_look (Or.inl rfl) sh_239 ?_
      refine c_X12_look (j := 0) rfl ⟨rfl, ?_⟩
      rcases hl with l1 | ⟨l1, l4⟩
      · refine y_aload_n dX12_counted_125 rfl rfl ?_
        refine y_getr dX12_counted_126 gf_X12_51 sh_239 rfl ?_
        refine y_iconst (v := 0) dX12_counted_129 (by decide) ?_
        refine y_zaldN dX12_counted_130 sh_253 rfl (by first | omega | decide) (by decide) ?_
        refine y_if_eq (tgt := 217) dX12_counted_131 (by decide) (fun h131 => ?_) (fun h131 => absurd (by rw [wk_o (by omega)]; exact l1) h131)
        refine y_iload_n dX12_counted_217 rfl rfl ?_
        refine y_bipush (v := 6) dX12_counted_218 (by decide) ?_
        refine y_icmp_ne (tgt := 230) dX12_counted_220 (by decide) (fun h220 => absurd (by decide) h220) (fun h220 => ?_)
        refine y_aload_n dX12_counted_223 rfl rfl ?_
        refine y_geti dX12_counted_224 gf_X12_310 sh_239 rfl ?_
        refine y_goto (tgt := 231) dX12_counted_227 (by decide) ?_
        refine y_ireturn dX12_counted_231 rfl rfl ?_
        rw [wk_j (by omega)]
        exact hQ
      · refine y_aload_n dX12_counted_125 rfl rfl ?_
        refine y_getr dX12_counted_126 gf_X12_51 sh_239 rfl ?_
        refine y_iconst (v := 0) dX12_counted_129 (by decide) ?_
        refine y_zaldN dX12_counted_130 sh_253 rfl (by first | omega | decide) (by decide) ?_
        refine y_if_eq (tgt := 217) dX12_counted_131 (by decide) (fun h131 => absurd h131 (by rw [wk_o (by omega)]; rw [l1]; decide)) (fun h131 => ?_)
        refine y_iload_n dX12_counted_134 rfl rfl ?_
        refine y_iload_n dX12_counted_135 rfl rfl ?_
        refine y_iconst (v := 2) dX12_counted_136 (by decide) ?_
        refine y_icmp_ne (tgt := 149) dX12_counted_137 (by decide) (fun h137 => ?_) (fun h137 => absurd h137 (by decide))
        refine y_iload_n dX12_counted_149 rfl rfl ?_
        refine y_iconst (v := 3) dX12_counted_150 (by decide) ?_
        refine y_icmp_ne (tgt := 163) dX12_counted_151 (by decide) (fun h151 => ?_) (fun h151 => absurd h151 (by decide))
        refine y_iconst (v := 0) dX12_counted_163 (by decide) ?_
        refine y_iadd dX12_counted_164 ?_
        try rw [Int32.add_zero]
        refine y_ist4_2 dX12_counted_165 rfl ?_
        refine y_iconst (v := 0) dX12_counted_166 (by decide) ?_
        refine y_ist4_3 dX12_counted_167 rfl ?_
        have hq24 := (q40 l4).2
        refine cnt (P := fun k => sV (scT L xs) (d + 2) "LoafFallModel" cX12_counted 4 (some .int) Q 168 [some (.ref 239), some (.int 6), some (.int (0)), some (.int (nI k))] [] (wkM m (329 * 0)) n) (qOf (lfR m 0)) ?_ ?_ 0 (by omega)
        · refine y_iload_n dX12_counted_168 rfl rfl ?_
          refine y_aload_n dX12_counted_169 rfl rfl ?_
          refine y_bipush (v := 40) dX12_counted_170 (by decide) ?_
          refine y_ivI1 dX12_counted_172 mv_X12_160 my_X12_v (Or.inl rfl) sh_239 ?_
          refine e_v (b := 329 * 0) (p := 40) (wk_b (by omega)) rfl (by omega) ⟨_, rfl, ?_⟩
          rw [wk_o (show 254 ≠ 239 by omega)]
          rw [show m 254 (329 * 0 + 40) = nI (qOf (lfR m 0)) from (q40 l4).1]
          refine y_icmp_ge (tgt := 217) dX12_counted_175 (by decide) (fun h175 => ?_) (fun h175 => absurd (nI_le (a := (qOf (lfR m 0))) (b := (qOf (lfR m 0))) (Nat.le_refl _) (by omega)) h175)
          refine y_iload_n dX12_counted_217 rfl rfl ?_
          refine y_bipush (v := 6) dX12_counted_218 (by decide) ?_
          refine y_icmp_ne (tgt := 230) dX12_counted_220 (by decide) (fun h220 => absurd (by decide) h220) (fun h220 => ?_)
          refine y_aload_n dX12_counted_223 rfl rfl ?_
          refine y_geti dX12_counted_224 gf_X12_310 sh_239 rfl ?_
          refine y_goto (tgt := 231) dX12_counted_227 (by decide) ?_
          refine y_ireturn dX12_counted_231 rfl rfl ?_
          rw [wk_j (by omega)]
          exact hQ
        · intro k hk hP
          refine y_iload_n dX12_counted_168 rfl rfl ?_
          refine y_aload_n dX12_counted_169 rfl rfl ?_
          refine y_bipush (v := 40) dX12_counted_170 (by decide) ?_
          refine y_ivI1 dX12_counted_172 mv_X12_160 my_X12_v (Or.inl rfl) sh_239 ?_
          refine e_v (b := 329 * 0) (p := 40) (wk_b (by omega)) rfl (by omega) ⟨_, rfl, ?_⟩
          rw [wk_o (show 254 ≠ 239 by omega)]
          rw [show m 254 (329 * 0 + 40) = nI (qOf (lfR m 0)) from (q40 l4).1]
          refine y_icmp_ge (tgt := 217) dX12_counted_175 (by decide) (fun h175 => absurd h175 (nI_ge (a := k) (b := (qOf (lfR m 0))) hk (by omega))) (fun h175 => ?_)
          refine y_iload_n dX12_counted_178 rfl rfl ?_
          refine y_iload_n dX12_counted_179 rfl rfl ?_
          refine y_iconst (v := 4) dX12_counted_180 (by decide) ?_
          refine y_icmp_ne (tgt := 208) dX12_counted_181 (by decide) (fun h181 => ?_) (fun h181 => absurd h181 (by decide))
          refine y_iconst (v := 0) dX12_counted_208 (by decide) ?_
          refine y_iadd dX12_counted_209 ?_
          try rw [Int32.add_zero]
          refine y_ist4_2 dX12_counted_210 rfl ?_
          refine y_iinc4_3 dX12_counted_211 (nI_1 _) rfl ?_
          refine y_goto (tgt := 168) dX12_counted_214 (by decide) ?_
          exact hP
    · intro k hk hP
      refine y_iload_n dX12_counted_85 rfl rfl ?_
      refine y_bipush (v := 6) dX12_counted_86 (by decide) ?_
      refine y_icmp_ge (tgt := 120) dX12_counted_88 (by decide) (fun h88 => absurd h88 (nI_ge (a := k) (b := 6) hk (by decide))) (fun h88 => ?_)
      refine y_iload_n dX12_counted_91 rfl rfl ?_
      refine y_iload_n dX12_counted_92 rfl rfl ?_
      refine y_bipush (v := 7) dX12_counted_93 (by decide) ?_
      refine y_icmp_ne (tgt := 111) dX12_counted_95 (by decide) (fun h95 => ?_) (fun h95 => absurd h95 (by decide))
      refine y_iconst (v := 0) dX12_counted_111 (by decide) ?_
      refine y_iadd dX12_counted_112 ?_
      try rw [Int32.add_zero]
      refine y_ist4_2 dX12_counted_113 rfl ?_
      refine y_iinc4_3 dX12_counted_114 (nI_1 _) rfl ?_
      refine y_goto (tgt := 85) dX12_counted_117 (by decide) ?_
      exact hP
  · intro k hk hP
    refine y_iload_n dX12_counted_4 rfl rfl ?_
    refine y_iconst (v := 4) dX12_counted_5 (by decide) ?_
    refine y_icmp_ge (tgt := 83) dX12_counted_6 (by decide) (fun h6 => absurd h6 (nI_ge (a := k) (b := 4) hk (by decide))) (fun h6 => ?_)
    refine y_iload_n dX12_counted_9 rfl rfl ?_
    refine y_iload_n dX12_counted_10 rfl rfl ?_
    refine y_if_ne (tgt := 23) dX12_counted_11 (by decide) (fun h11 => ?_) (fun h11 => absurd h11 (by decide))
    refine y_iload_n dX12_counted_23 rfl rfl ?_
    refine y_iconst (v := 1) dX12_counted_24 (by decide) ?_
    refine y_icmp_ne (tgt := 37) dX12_counted_25 (by decide) (fun h25 => ?_) (fun h25 => absurd h25 (by decide))
    refine y_iload_n dX12_counted_37 rfl rfl ?_
    refine y_iconst (v := 5) dX12_counted_38 (by decide) ?_
    refine y_icmp_ne (tgt := 55) dX12_counted_39 (by decide) (fun h39 => ?_) (fun h39 => absurd h39 (by decide))
    refine y_iload_n dX12_counted_55 rfl rfl ?_
    refine y_bipush (v := 8) dX12_counted_56 (by decide) ?_
    refine y_icmp_ne (tgt := 74) dX12_counted_58 (by decide) (fun h58 => ?_) (fun h58 => absurd h58 (by decide))
    refine y_iconst (v := 0) dX12_counted_74 (by decide) ?_
    refine y_iadd dX12_counted_75 ?_
    try rw [Int32.add_zero]
    refine y_ist4_2 dX12_counted_76 rfl ?_
    refine y_iinc4_3 dX12_counted_77 (nI_1 _) rfl ?_
    refine y_goto (tgt := 4) dX12_counted_80 (by decide) ?_
    exact hP
set_option maxHeartbeats 1000000 in
theorem c_X12_counted7 {L : Nat} {xs : Nat → Int32} {d : Nat} {m : sM} {n : sN} {Q : sQ} {x : Int32} (hx : x = 7) (hl : m 253 0 = 0 ∨ (m 253 0 = 1 ∧ sR (lfR m 0))) (hQ : Q (some (.int (CNT m 7))) (wkM m (329 * 0)) n) : sRun (scT L xs) (d + 3) yX12_counted cX12_counted 4 (some .int) [.ref 239, .int x] m n Q := by
  subst hx
  refine y_run (own := "LoafFallModel") rfl (by decide +kernel) (Nat.le_of_ble_eq_true rfl) rfl ?_
  refine y_iconst (v := 0) dX12_counted_0 (by decide) ?_
  refine y_ist4_2 dX12_counted_1 rfl ?_
  refine y_iconst (v := 0) dX12_counted_2 (by decide) ?_
  refine y_ist4_3 dX12_counted_3 rfl ?_
  refine cnt (P := fun k => sV (scT L xs) (d + 2) "LoafFallModel" cX12_counted 4 (some .int) Q 4 [some (.ref 239), some (.int 7), some (.int (0)), some (.int (nI k))] [] m n) 4 ?_ ?_ 0 (by omega)
  · refine y_iload_n dX12_counted_4 rfl rfl ?_
    refine y_iconst (v := 4) dX12_counted_5 (by decide) ?_
    refine y_icmp_ge (tgt := 83) dX12_counted_6 (by decide) (fun h6 => ?_) (fun h6 => absurd (nI_le (a := 4) (b := 4) (Nat.le_refl _) (by decide)) h6)
    refine y_iconst (v := 0) dX12_counted_83 (by decide) ?_
    refine y_ist4_3 dX12_counted_84 rfl ?_
    refine cnt (P := fun k => sV (scT L xs) (d + 2) "LoafFallModel" cX12_counted 4 (some .int) Q 85 [some (.ref 239), some (.int 7), some (.int (cntZ (geZ (m 241)) k)), some (.int (nI k))] [] m n) 6 ?_ ?_ 0 (by omega)
    · refine y_iload_n dX12_counted_85 rfl rfl ?_
      refine y_bipush (v := 6) dX12_counted_86 (by decide) ?_
      refine y_icmp_ge (tgt := 120) dX12_counted_88 (by decide) (fun h88 => ?_) (fun h88 => absurd (nI_le (a := 6) (b := 6) (Nat.le_refl _) (by decide)) h88)
      refine y_aload_n dX12_counted_120 rfl rfl ?_
      refine y_iconst (v := 0) dX12_counted_121 (by decide) ?_
      refine y_ivV1 dX12_counted_122 mv_X12_174 my_X12_look (Or.inl rfl) sh_239 ?_
      refine c_X12_look (j := 0) rfl ⟨rfl, ?_⟩
      rcases hl with l1 | ⟨l1, l4⟩
      · refine y_aload_n dX12_counted_125 rfl rfl ?_
        refine y_getr dX12_counted_126 gf_X12_51 sh_239 rfl ?_
        refine y_iconst (v := 0) dX12_counted_129 (by decide) ?_
        refine y_zaldN dX12_counted_130 sh_253 rfl (by first | omega | decide) (by decide) ?_
        refine y_if_eq (tgt := 217) dX12_counted_131 (by decide) (fun h131 => ?_) (fun h131 => absurd (by rw [wk_o (by omega)]; exact l1) h131)
        refine y_iload_n dX12_counted_217 rfl rfl ?_
        refine y_bipush (v := 6) dX12_counted_218 (by decide) ?_
        refine y_icmp_ne (tgt := 230) dX12_counted_220 (by decide) (fun h220 => ?_) (fun h220 => absurd h220 (by decide))
        refine y_iload_n dX12_counted_230 rfl rfl ?_
        refine y_ireturn dX12_counted_231 rfl rfl ?_
        skip
        exact hQ
      · refine y_aload_n dX12_counted_125 rfl rfl ?_
        refine y_getr dX12_counted_126 gf_X12_51 sh_239 rfl ?_
        refine y_iconst (v := 0) dX12_counted_129 (by decide) ?_
        refine y_zaldN dX12_counted_130 sh_253 rfl (by first | omega | decide) (by decide) ?_
        refine y_if_eq (tgt := 217) dX12_counted_131 (by decide) (fun h131 => absurd h131 (by rw [wk_o (by omega)]; rw [l1]; decide)) (fun h131 => ?_)
        refine y_iload_n dX12_counted_134 rfl rfl ?_
        refine y_iload_n dX12_counted_135 rfl rfl ?_
        refine y_iconst (v := 2) dX12_counted_136 (by decide) ?_
        refine y_icmp_ne (tgt := 149) dX12_counted_137 (by decide) (fun h137 => ?_) (fun h137 => absurd h137 (by decide))
        refine y_iload_n dX12_counted_149 rfl rfl ?_
        refine y_iconst (v := 3) dX12_counted_150 (by decide) ?_
        refine y_icmp_ne (tgt := 163) dX12_counted_151 (by decide) (fun h151 => ?_) (fun h151 => absurd h151 (by decide))
        refine y_iconst (v := 0) dX12_counted_163 (by decide) ?_
        refine y_iadd dX12_counted_164 ?_
        try rw [Int32.add_zero]
        refine y_ist4_2 dX12_counted_165 rfl ?_
        refine y_iconst (v := 0) dX12_counted_166 (by decide) ?_
        refine y_ist4_3 dX12_counted_167 rfl ?_
        have hq24 := (q40 l4).2
        refine cnt (P := fun k => sV (scT L xs) (d + 2) "LoafFallModel" cX12_counted 4 (some .int) Q 168 [some (.ref 239), some (.int 7), some (.int (cntZ (geZ (m 241)) 6)), some (.int (nI k))] [] (wkM m (329 * 0)) n) (qOf (lfR m 0)) ?_ ?_ 0 (by omega)
        · refine y_iload_n dX12_counted_168 rfl rfl ?_
          refine y_aload_n dX12_counted_169 rfl rfl ?_
          refine y_bipush (v := 40) dX12_counted_170 (by decide) ?_
          refine y_ivI1 dX12_counted_172 mv_X12_160 my_X12_v (Or.inl rfl) sh_239 ?_
          refine e_v (b := 329 * 0) (p := 40) (wk_b (by omega)) rfl (by omega) ⟨_, rfl, ?_⟩
          rw [wk_o (show 254 ≠ 239 by omega)]
          rw [show m 254 (329 * 0 + 40) = nI (qOf (lfR m 0)) from (q40 l4).1]
          refine y_icmp_ge (tgt := 217) dX12_counted_175 (by decide) (fun h175 => ?_) (fun h175 => absurd (nI_le (a := (qOf (lfR m 0))) (b := (qOf (lfR m 0))) (Nat.le_refl _) (by omega)) h175)
          refine y_iload_n dX12_counted_217 rfl rfl ?_
          refine y_bipush (v := 6) dX12_counted_218 (by decide) ?_
          refine y_icmp_ne (tgt := 230) dX12_counted_220 (by decide) (fun h220 => ?_) (fun h220 => absurd h220 (by decide))
          refine y_iload_n dX12_counted_230 rfl rfl ?_
          refine y_ireturn dX12_counted_231 rfl rfl ?_
          exact hQ
        · intro k hk hP
          refine y_iload_n dX12_counted_168 rfl rfl ?_
          refine y_aload_n dX12_counted_169 rfl rfl ?_
          refine y_bipush (v := 40) dX12_counted_170 (by decide) ?_
          refine y_ivI1 dX12_counted_172 mv_X12_160 my_X12_v (Or.inl rfl) sh_239 ?_
          refine e_v (b := 329 * 0) (p := 40) (wk_b (by omega)) rfl (by omega) ⟨_, rfl, ?_⟩
          rw [wk_o (show 254 ≠ 239 by omega)]
          rw [show m 254 (329 * 0 + 40) = nI (qOf (lfR m 0)) from (q40 l4).1]
          refine y_icmp_ge (tgt := 217) dX12_counted_175 (by decide) (fun h175 => absurd h175 (nI_ge (a := k) (b := (qOf (lfR m 0))) hk (by omega))) (fun h175 => ?_)
          refine y_iload_n dX12_counted_178 rfl rfl ?_
          refine y_iload_n dX12_counted_179 rfl rfl ?_
          refine y_iconst (v := 4) dX12_counted_180 (by decide) ?_
          refine y_icmp_ne (tgt := 208) dX12_counted_181 (by decide) (fun h181 => ?_) (fun h181 => absurd h181 (by decide))
          refine y_iconst (v := 0) dX12_counted_208 (by decide) ?_
          refine y_iadd dX12_counted_209 ?_
          try rw [Int32.add_zero]
          refine y_ist4_2 dX12_counted_210 rfl ?_
          refine y_iinc4_3 dX12_counted_211 (nI_1 _) rfl ?_
          refine y_goto (tgt := 168) dX12_counted_214 (by decide) ?_
          exact hP
    · intro k hk hP
      refine y_iload_n dX12_counted_85 rfl rfl ?_
      refine y_bipush (v := 6) dX12_counted_86 (by decide) ?_
      refine y_icmp_ge (tgt := 120) dX12_counted_88 (by decide) (fun h88 => absurd h88 (nI_ge (a := k) (b := 6) hk (by decide))) (fun h88 => ?_)
      refine y_iload_n dX12_counted_91 rfl rfl ?_
      refine y_iload_n dX12_counted_92 rfl rfl ?_
      refine y_bipush (v := 7) dX12_counted_93 (by decide) ?_
      refine y_icmp_ne (tgt := 111) dX12_counted_95 (by decide) (fun h95 => absurd (by decide) h95) (fun h95 => ?_)
      refine y_aload_n dX12_counted_98 rfl rfl ?_
      refine y_getr dX12_counted_99 gf_X12_13 sh_239 rfl ?_
      refine y_iload_n dX12_counted_102 rfl rfl ?_
      refine y_ialdN dX12_counted_103 sh_241 rfl (by first | omega | decide) (by decide) ?_
      refine y_if_lt (tgt := 111) dX12_counted_104 (by decide) (fun h104 => ?_) (fun h104 => ?_)
      · refine y_iconst (v := 0) dX12_counted_111 (by decide) ?_
        refine y_iadd dX12_counted_112 ?_
        refine y_ist4_2 dX12_counted_113 rfl ?_
        refine y_iinc4_3 dX12_counted_114 (nI_1 _) rfl ?_
        refine y_goto (tgt := 85) dX12_counted_117 (by decide) ?_
        first
          | (rw [cntZ_n (f := geZ (m 241)) (k := k) (geZ_n h104)] at hP; exact hP)
          | (rw [cntZ_p (f := geZ (m 241)) (k := k) (geZ_p h104)] at hP; exact hP)
      · refine y_iconst (v := 1) dX12_counted_107 (by decide) ?_
        refine y_goto (tgt := 112) dX12_counted_108 (by decide) ?_
        refine y_iadd dX12_counted_112 ?_
        refine y_ist4_2 dX12_counted_113 rfl ?_
        refine y_iinc4_3 dX12_counted_114 (nI_1 _) rfl ?_
        refine y_goto (tgt := 85) dX12_counted_117 (by decide) ?_
        first
          | (rw [cntZ_n (f := geZ (m 241)) (k := k) (geZ_n h104)] at hP; exact hP)
          | (rw [cntZ_p (f := geZ (m 241)) (k := k) (geZ_p h104)] at hP; exact hP)
  · intro k hk hP
    refine y_iload_n dX12_counted_4 rfl rfl ?_
    refine y_iconst (v := 4) dX12_counted_5 (by decide) ?_
    refine y_icmp_ge (tgt := 83) dX12_counted_6 (by decide) (fun h6 => absurd h6 (nI_ge (a := k) (b := 4) hk (by decide))) (fun h6 => ?_)
    refine y_iload_n dX12_counted_9 rfl rfl ?_
    refine y_iload_n dX12_counted_10 rfl rfl ?_
    refine y_if_ne (tgt := 23) dX12_counted_11 (by decide) (fun h11 => ?_) (fun h11 => absurd h11 (by decide))
    refine y_iload_n dX12_counted_23 rfl rfl ?_
    refine y_iconst (v := 1) dX12_counted_24 (by decide) ?_
    refine y_icmp_ne (tgt := 37) dX12_counted_25 (by decide) (fun h25 => ?_) (fun h25 => absurd h25 (by decide))
    refine y_iload_n dX12_counted_37 rfl rfl ?_
    refine y_iconst (v := 5) dX12_counted_38 (by decide) ?_
    refine y_icmp_ne (tgt := 55) dX12_counted_39 (by decide) (fun h39 => ?_) (fun h39 => absurd h39 (by decide))
    refine y_iload_n dX12_counted_55 rfl rfl ?_
    refine y_bipush (v := 8) dX12_counted_56 (by decide) ?_
    refine y_icmp_ne (tgt := 74) dX12_counted_58 (by decide) (fun h58 => ?_) (fun h58 => absurd h58 (by decide))
    refine y_iconst (v := 0) dX12_counted_74 (by decide) ?_
    refine y_iadd dX12_counted_75 ?_
    try rw [Int32.add_zero]
    refine y_ist4_2 dX12_counted_76 rfl ?_
    refine y_iinc4_3 dX12_counted_77 (nI_1 _) rfl ?_
    refine y_goto (tgt := 4) dX12_counted_80 (by decide) ?_
    exact hP
set_option maxHeartbeats 1000000 in
theorem c_X12_counted8 {L : Nat} {xs : Nat → Int32} {d : Nat} {m : sM} {n : sN} {Q : sQ} {x : Int32} (hx : x = 8) (hl : m 253 0 = 0 ∨ (m 253 0 = 1 ∧ sR (lfR m 0))) (hQ : Q (some (.int (CNT m 8))) (wkM m (329 * 0)) n) : sRun (scT L xs) (d + 3) yX12_counted cX12_counted 4 (some .int) [.ref 239, .int x] m n Q := by
  subst hx
  refine y_run (own := "LoafFallModel") rfl (by decide +kernel) (Nat.le_of_ble_eq_true rfl) rfl ?_
  refine y_iconst (v := 0) dX12_counted_0 (by decide) ?_
  refine y_ist4_2 dX12_counted_1 rfl ?_
  refine y_iconst (v := 0) dX12_counted_2 (by decide) ?_
  refine y_ist4_3 dX12_counted_3 rfl ?_
  refine cnt (P := fun k => sV (scT L xs) (d + 2) "LoafFallModel" cX12_counted 4 (some .int) Q 4 [some (.ref 239), some (.int 8), some (.int (cntZ (geZ (m 244)) k)), some (.int (nI k))] [] m n) 4 ?_ ?_ 0 (by omega)
  · refine y_iload_n dX12_counted_4 rfl rfl ?_
    refine y_iconst (v := 4) dX12_counted_5 (by decide) ?_
    refine y_icmp_ge (tgt := 83) dX12_counted_6 (by decide) (fun h6 => ?_) (fun h6 => absurd (nI_le (a := 4) (b := 4) (Nat.le_refl _) (by decide)) h6)
    refine y_iconst (v := 0) dX12_counted_83 (by decide) ?_
    refine y_ist4_3 dX12_counted_84 rfl ?_
    refine cnt (P := fun k => sV (scT L xs) (d + 2) "LoafFallModel" cX12_counted 4 (some .int) Q 85 [some (.ref 239), some (.int 8), some (.int (cntZ (geZ (m 244)) 4)), some (.int (nI k))] [] m n) 6 ?_ ?_ 0 (by omega)
    · refine y_iload_n dX12_counted_85 rfl rfl ?_
      refine y_bipush (v := 6) dX12_counted_86 (by decide) ?_
      refine y_icmp_ge (tgt := 120) dX12_counted_88 (by decide) (fun h88 => ?_) (fun h88 => absurd (nI_le (a := 6) (b := 6) (Nat.le_refl _) (by decide)) h88)
      refine y_aload_n dX12_counted_120 rfl rfl ?_
      refine y_iconst (v := 0) dX12_counted_121 (by decide) ?_
      refine y_ivV1 dX12_counted_122 mv_X12_174 my_X12_look (Or.inl rfl) sh_239 ?_
      refine c_X12_look (j := 0) rfl ⟨rfl, ?_⟩
      rcases hl with l1 | ⟨l1, l4⟩
      · refine y_aload_n dX12_counted_125 rfl rfl ?_
        refine y_getr dX12_counted_126 gf_X12_51 sh_239 rfl ?_
        refine y_iconst (v := 0) dX12_counted_129 (by decide) ?_
        refine y_zaldN dX12_counted_130 sh_253 rfl (by first | omega | decide) (by decide) ?_
        refine y_if_eq (tgt := 217) dX12_counted_131 (by decide) (fun h131 => ?_) (fun h131 => absurd (by rw [wk_o (by omega)]; exact l1) h131)
        refine y_iload_n dX12_counted_217 rfl rfl ?_
        refine y_bipush (v := 6) dX12_counted_218 (by decide) ?_
        refine y_icmp_ne (tgt := 230) dX12_counted_220 (by decide) (fun h220 => ?_) (fun h220 => absurd h220 (by decide))
        refine y_iload_n dX12_counted_230 rfl rfl ?_
        refine y_ireturn dX12_counted_231 rfl rfl ?_
        skip
        exact hQ
      · refine y_aload_n dX12_counted_125 rfl rfl ?_
        refine y_getr dX12_counted_126 gf_X12_51 sh_239 rfl ?_
        refine y_iconst (v := 0) dX12_counted_129 (by decide) ?_
        refine y_zaldN dX12_counted_130 sh_253 rfl (by first | omega | decide) (by decide) ?_
        refine y_if_eq (tgt := 217) dX12_counted_131 (by decide) (fun h131 => absurd h131 (by rw [wk_o (by omega)]; rw [l1]; decide)) (fun h131 => ?_)
        refine y_iload_n dX12_counted_134 rfl rfl ?_
        refine y_iload_n dX12_counted_135 rfl rfl ?_
        refine y_iconst (v := 2) dX12_counted_136 (by decide) ?_
        refine y_icmp_ne (tgt := 149) dX12_counted_137 (by decide) (fun h137 => ?_) (fun h137 => absurd h137 (by decide))
        refine y_iload_n dX12_counted_149 rfl rfl ?_
        refine y_iconst (v := 3) dX12_counted_150 (by decide) ?_
        refine y_icmp_ne (tgt := 163) dX12_counted_151 (by decide) (fun h151 => ?_) (fun h151 => absurd h151 (by decide))
        refine y_iconst (v := 0) dX12_counted_163 (by decide) ?_
        refine y_iadd dX12_counted_164 ?_
        try rw [Int32.add_zero]
        refine y_ist4_2 dX12_counted_165 rfl ?_
        refine y_iconst (v := 0) dX12_counted_166 (by decide) ?_
        refine y_ist4_3 dX12_counted_167 rfl ?_
        have hq24 := (q40 l4).2
        refine cnt (P := fun k => sV (scT L xs) (d + 2) "LoafFallModel" cX12_counted 4 (some .int) Q 168 [some (.ref 239), some (.int 8), some (.int (cntZ (geZ (m 244)) 4)), some (.int (nI k))] [] (wkM m (329 * 0)) n) (qOf (lfR m 0)) ?_ ?_ 0 (by omega)
        · refine y_iload_n dX12_counted_168 rfl rfl ?_
          refine y_aload_n dX12_counted_169 rfl rfl ?_
          refine y_bipush (v := 40) dX12_counted_170 (by decide) ?_
          refine y_ivI1 dX12_counted_172 mv_X12_160 my_X12_v (Or.inl rfl) sh_239 ?_
          refine e_v (b := 329 * 0) (p := 40) (wk_b (by omega)) rfl (by omega) ⟨_, rfl, ?_⟩
          rw [wk_o (show 254 ≠ 239 by omega)]
          rw [show m 254 (329 * 0 + 40) = nI (qOf (lfR m 0)) from (q40 l4).1]
          refine y_icmp_ge (tgt := 217) dX12_counted_175 (by decide) (fun h175 => ?_) (fun h175 => absurd (nI_le (a := (qOf (lfR m 0))) (b := (qOf (lfR m 0))) (Nat.le_refl _) (by omega)) h175)
          refine y_iload_n dX12_counted_217 rfl rfl ?_
          refine y_bipush (v := 6) dX12_counted_218 (by decide) ?_
          refine y_icmp_ne (tgt := 230) dX12_counted_220 (by decide) (fun h220 => ?_) (fun h220 => absurd h220 (by decide))
          refine y_iload_n dX12_counted_230 rfl rfl ?_
          refine y_ireturn dX12_counted_231 rfl rfl ?_
          exact hQ
        · intro k hk hP
          refine y_iload_n dX12_counted_168 rfl rfl ?_
          refine y_aload_n dX12_counted_169 rfl rfl ?_
          refine y_bipush (v := 40) dX12_counted_170 (by decide) ?_
          refine y_ivI1 dX12_counted_172 mv_X12_160 my_X12_v (Or.inl rfl) sh_239 ?_
          refine e_v (b := 329 * 0) (p := 40) (wk_b (by omega)) rfl (by omega) ⟨_, rfl, ?_⟩
          rw [wk_o (show 254 ≠ 239 by omega)]
          rw [show m 254 (329 * 0 + 40) = nI (qOf (lfR m 0)) from (q40 l4).1]
          refine y_icmp_ge (tgt := 217) dX12_counted_175 (by decide) (fun h175 => absurd h175 (nI_ge (a := k) (b := (qOf (lfR m 0))) hk (by omega))) (fun h175 => ?_)
          refine y_iload_n dX12_counted_178 rfl rfl ?_
          refine y_iload_n dX12_counted_179 rfl rfl ?_
          refine y_iconst (v := 4) dX12_counted_180 (by decide) ?_
          refine y_icmp_ne (tgt := 208) dX12_counted_181 (by decide) (fun h181 => ?_) (fun h181 => absurd h181 (by decide))
          refine y_iconst (v := 0) dX12_counted_208 (by decide) ?_
          refine y_iadd dX12_counted_209 ?_
          try rw [Int32.add_zero]
          refine y_ist4_2 dX12_counted_210 rfl ?_
          refine y_iinc4_3 dX12_counted_211 (nI_1 _) rfl ?_
          refine y_goto (tgt := 168) dX12_counted_214 (by decide) ?_
          exact hP
    · intro k hk hP
      refine y_iload_n dX12_counted_85 rfl rfl ?_
      refine y_bipush (v := 6) dX12_counted_86 (by decide) ?_
      refine y_icmp_ge (tgt := 120) dX12_counted_88 (by decide) (fun h88 => absurd h88 (nI_ge (a := k) (b := 6) hk (by decide))) (fun h88 => ?_)
      refine y_iload_n dX12_counted_91 rfl rfl ?_
      refine y_iload_n dX12_counted_92 rfl rfl ?_
      refine y_bipush (v := 7) dX12_counted_93 (by decide) ?_
      refine y_icmp_ne (tgt := 111) dX12_counted_95 (by decide) (fun h95 => ?_) (fun h95 => absurd h95 (by decide))
      refine y_iconst (v := 0) dX12_counted_111 (by decide) ?_
      refine y_iadd dX12_counted_112 ?_
      try rw [Int32.add_zero]
      refine y_ist4_2 dX12_counted_113 rfl ?_
      refine y_iinc4_3 dX12_counted_114 (nI_1 _) rfl ?_
      refine y_goto (tgt := 85) dX12_counted_117 (by decide) ?_
      exact hP
  · intro k hk hP
    refine y_iload_n dX12_counted_4 rfl rfl ?_
    refine y_iconst (v := 4) dX12_counted_5 (by decide) ?_
    refine y_icmp_ge (tgt := 83) dX12_counted_6 (by decide) (fun h6 => absurd h6 (nI_ge (a := k) (b := 4) hk (by decide))) (fun h6 => ?_)
    refine y_iload_n dX12_counted_9 rfl rfl ?_
    refine y_iload_n dX12_counted_10 rfl rfl ?_
    refine y_if_ne (tgt := 23) dX12_counted_11 (by decide) (fun h11 => ?_) (fun h11 => absurd h11 (by decide))
    refine y_iload_n dX12_counted_23 rfl rfl ?_
    refine y_iconst (v := 1) dX12_counted_24 (by decide) ?_
    refine y_icmp_ne (tgt := 37) dX12_counted_25 (by decide) (fun h25 => ?_) (fun h25 => absurd h25 (by decide))
    refine y_iload_n dX12_counted_37 rfl rfl ?_
    refine y_iconst (v := 5) dX12_counted_38 (by decide) ?_
    refine y_icmp_ne (tgt := 55) dX12_counted_39 (by decide) (fun h39 => ?_) (fun h39 => absurd h39 (by decide))
    refine y_iload_n dX12_counted_55 rfl rfl ?_
    refine y_bipush (v := 8) dX12_counted_56 (by decide) ?_
    refine y_icmp_ne (tgt := 74) dX12_counted_58 (by decide) (fun h58 => absurd (by decide) h58) (fun h58 => ?_)
    refine y_aload_n dX12_counted_61 rfl rfl ?_
    refine y_getr dX12_counted_62 gf_X12_22 sh_239 rfl ?_
    refine y_iload_n dX12_counted_65 rfl rfl ?_
    refine y_ialdN dX12_counted_66 sh_244 rfl (by first | omega | decide) (by decide) ?_
    refine y_if_lt (tgt := 74) dX12_counted_67 (by decide) (fun h67 => ?_) (fun h67 => ?_)
    · refine y_iconst (v := 0) dX12_counted_74 (by decide) ?_
      refine y_iadd dX12_counted_75 ?_
      refine y_ist4_2 dX12_counted_76 rfl ?_
      refine y_iinc4_3 dX12_counted_77 (nI_1 _) rfl ?_
      refine y_goto (tgt := 4) dX12_counted_80 (by decide) ?_
      first
        | (rw [cntZ_n (f := geZ (m 244)) (k := k) (geZ_n h67)] at hP; exact hP)
        | (rw [cntZ_p (f := geZ (m 244)) (k := k) (geZ_p h67)] at hP; exact hP)
    · refine y_iconst (v := 1) dX12_counted_70 (by decide) ?_
      refine y_goto (tgt := 75) dX12_counted_71 (by decide) ?_
      refine y_iadd dX12_counted_75 ?_
      refine y_ist4_2 dX12_counted_76 rfl ?_
      refine y_iinc4_3 dX12_counted_77 (nI_1 _) rfl ?_
      refine y_goto (tgt := 4) dX12_counted_80 (by decide) ?_
      first
        | (rw [cntZ_n (f := geZ (m 244)) (k := k) (geZ_n h67)] at hP; exact hP)
        | (rw [cntZ_p (f := geZ (m 244)) (k := k) (geZ_p h67)] at hP; exact hP)
set_option maxHeartbeats 1000000 in
theorem c_X12_counted {L : Nat} {xs : Nat → Int32} {d : Nat} {m : sM} {n : sN} {Q : sQ} {q : Nat} {x : Int32} (hx : x = nI q) (hq : q < 9) (hl : m 253 0 = 0 ∨ (m 253 0 = 1 ∧ sR (lfR m 0))) (hQ : Q (some (.int (CNT m q))) (wkM m (329 * 0)) n) : sRun (scT L xs) (d + 3) yX12_counted cX12_counted 4 (some .int) [.ref 239, .int x] m n Q := by
  have : q = 0 ∨ q = 1 ∨ q = 2 ∨ q = 3 ∨ q = 4 ∨ q = 5 ∨ q = 6 ∨ q = 7 ∨ q = 8 := by omega
  rcases this with rfl | rfl | rfl | rfl | rfl | rfl | rfl | rfl | rfl
  · exact c_X12_counted0 hx hl hQ
  · exact c_X12_counted1 hx hl hQ
  · exact c_X12_counted2 hx hl hQ
  · exact c_X12_counted3 hx hl hQ
  · exact c_X12_counted4 hx hl hQ
  · exact c_X12_counted5 hx hl hQ
  · exact c_X12_counted6 hx hl hQ
  · exact c_X12_counted7 hx hl hQ
  · exact c_X12_counted8 hx hl hQ
theorem Rel.hl {m : sM} {n : sN} (h : Rel m n) : m 253 0 = 0 ∨ (m 253 0 = 1 ∧ sR (lfR m 0)) := by
  rcases h.l.1 with ⟨l1, l2⟩ | ⟨l1, l2, l3, l4, l5, l6, l7⟩
  · exact Or.inl l1
  · exact Or.inr ⟨l1, l4⟩
theorem WQ_ge {m : sM} {a x y M r : Nat} (h : WQ m a x y M r) (hM : M < 100) : ((if m a 1 = -1 then (0 : Int32) else 1) = 0 ↔ geZ (m x) r = 0) := by
  unfold geZ
  rcases h with ⟨h1, h2⟩ | ⟨s, h1, h2, h3, h4⟩
  · rw [if_pos h2, if_pos (by rw [h1]; decide)]
  · rw [if_neg (by rw [h3]; exact nI_m1 (by omega)), if_neg (by rw [h2]; exact nI_pos (by omega))]
theorem CNT_c {m : sM} {n : sN} (h : Rel m n) : cntZ (fun k => m (158 + 2 * k) 1) 4 = CNT m 0 ∧ cntZ (fun k => m (166 + 4 * k) 4) 4 = CNT m 1 ∧ m 13 6 = CNT m 2 ∧ m 13 5 = CNT m 3 ∧ cntZ (fun k => m (182 + 19 * k) 4) 3 = CNT m 5 ∧ m 25 2 = CNT m 6 ∧ cntZ (fun k => if m (138 + 2 * k) 1 = -1 then 0 else 1) 6 = CNT m 7 ∧ cntZ (fun k => if m (150 + 2 * k) 1 = -1 then 0 else 1) 4 = CNT m 8 := by
  refine ⟨cntZ_eq 4 (fun i hi => ?_), cntZ_eq 4 (fun i hi => ?_), ?_, ?_, ?_, ?_, cntZ_eq 6 (fun i hi => WQ_ge (h.w i hi) (by omega)), cntZ_eq 4 (fun i hi => WQ_ge (h.t i hi) (by omega))⟩
  · rcases h.f i hi with ⟨a, b⟩ | ⟨a, b, -⟩
    · exact ⟨fun _ => a, fun _ => b⟩
    · exact ⟨fun z => absurd z (by rw [b]; decide), fun z => absurd z (by rw [a]; decide)⟩
  · rcases h.d i hi with ⟨a, b⟩ | ⟨a, b, -⟩
    · exact ⟨fun _ => a, fun _ => b⟩
    · exact ⟨fun z => absurd z (by rw [b]; decide), fun z => absurd z (by rw [a]; decide)⟩
  · show _ = (if m 253 0 = 0 then 0 else lfR m 0 38)
    rcases h.l.1 with ⟨l1, l2⟩ | ⟨l1, l2, l3, -⟩
    · rw [if_pos l1]; exact (h.l.2 l1).2
    · rw [if_neg (by rw [l1]; decide)]; exact l3.1.2.2.2.1
  · show _ = (if m 253 0 = 0 then 0 else lfR m 0 40)
    rcases h.l.1 with ⟨l1, l2⟩ | ⟨l1, l2, l3, -⟩
    · rw [if_pos l1]; exact (h.l.2 l1).1
    · rw [if_neg (by rw [l1]; decide)]; exact l3.1.2.2.1
  · have e : ∀ k, k < 3 → (m (182 + 19 * k) 4 = 0 ↔ kpZ (m 253) (1 + k) = 0) := fun k hk => by
      have : kpZ (m 253) (1 + k) = m 253 (1 + k) := if_neg (by omega)
      rw [this]
      rcases h.k k hk with ⟨a, b⟩ | ⟨a, b, -⟩
      · exact ⟨fun _ => a, fun _ => b⟩
      · exact ⟨fun z => absurd z (by rw [b]; decide), fun z => absurd z (by rw [a]; decide)⟩
    show _ = cntZ (kpZ (m 253)) 4
    have s : ∀ k, cntZ (kpZ (m 253)) (k + 1) = cntZ (fun i => kpZ (m 253) (1 + i)) k := by
      intro k
      induction k with
      | zero => exact cntZ_p rfl
      | succ k ih => rw [cntZ, ih, cntZ, Nat.add_comm k 1]
    rw [s 3]
    exact cntZ_eq 3 e
  · obtain ⟨s, -, s1, s2, -⟩ := h.s
    exact s1.trans s2.symm
theorem CNT_4 {m : sM} {n : sN} (h : Rel m n) : ∃ q : Nat, q ≤ 24 ∧ m 13 5 = nI q ∧ undS (m 20) q = CNT m 4 := by
  rcases h.l.1 with ⟨l1, l2⟩ | ⟨l1, l2, l3, l4, -⟩
  · refine ⟨0, by omega, (h.l.2 l1).1, ?_⟩
    show _ = (if m 253 0 = 0 then 0 else _)
    rw [if_pos l1]; rfl
  · refine ⟨qOf (lfR m 0), (q40 l4).2, l3.1.2.2.1.trans (q40 l4).1, ?_⟩
    show _ = (if m 253 0 = 0 then 0 else _)
    rw [if_neg (by rw [l1]; decide)]
    exact und_eq _ (fun i hi => (l3.1.2.2.2.2.2 i hi).1)
set_option maxHeartbeats 1000000 in
theorem c_X11_count {L : Nat} {xs : Nat → Int32} {d : Nat} {m : sM} {n : sN} {Q : sQ} {q : Nat} {x : Int32} (h : Rel m n) (hx : x = nI q) (hq : q < 9) (hQ : Q (some (.int (CNT m q))) m n) : sRun (scT L xs) (d + 3) yX11_count cX11_count 2 (some .int) [.ref 0, .int x] m n Q := by
  obtain ⟨e0, e1, e2, e3, e5, e6, e7, e8⟩ := CNT_c h
  obtain ⟨c, c1, c2, e4⟩ := CNT_4 h
  have : q = 0 ∨ q = 1 ∨ q = 2 ∨ q = 3 ∨ q = 4 ∨ q = 5 ∨ q = 6 ∨ q = 7 ∨ q = 8 := by omega
  rcases this with rfl | rfl | rfl | rfl | rfl | rfl | rfl | rfl | rfl
  · subst hx
    refine y_run (own := "LoafFall") rfl (by decide +kernel) (Nat.le_of_ble_eq_true rfl) rfl ?_
    refine y_iload_n dX11_count_0 rfl rfl ?_
    refine y_tabIn (tgt := 52) (off := 51) dX11_count_1 (by decide) (by decide) (by decide) (by decide) ?_
    refine y_aload_n dX11_count_52 rfl rfl ?_
    refine y_ivI0 dX11_count_53 mv_X11_332 my_X11_countFlours (Or.inl rfl) sh_0 ?_
    refine c_X11_countFlours ⟨_, rfl, ?_⟩
    refine y_goto (tgt := 134) dX11_count_56 (by decide) ?_
    refine y_ireturn dX11_count_134 rfl rfl ?_
    rw [e0]
    exact hQ
  · subst hx
    refine y_run (own := "LoafFall") rfl (by decide +kernel) (Nat.le_of_ble_eq_true rfl) rfl ?_
    refine y_iload_n dX11_count_0 rfl rfl ?_
    refine y_tabIn (tgt := 59) (off := 58) dX11_count_1 (by decide) (by decide) (by decide) (by decide) ?_
    refine y_aload_n dX11_count_59 rfl rfl ?_
    refine y_ivI0 dX11_count_60 mv_X11_382 my_X11_countDoings (Or.inl rfl) sh_0 ?_
    refine c_X11_countDoings ⟨_, rfl, ?_⟩
    refine y_goto (tgt := 134) dX11_count_63 (by decide) ?_
    refine y_ireturn dX11_count_134 rfl rfl ?_
    rw [e1]
    exact hQ
  · subst hx
    refine y_run (own := "LoafFall") rfl (by decide +kernel) (Nat.le_of_ble_eq_true rfl) rfl ?_
    refine y_iload_n dX11_count_0 rfl rfl ?_
    refine y_tabIn (tgt := 66) (off := 65) dX11_count_1 (by decide) (by decide) (by decide) (by decide) ?_
    refine y_aload_n dX11_count_66 rfl rfl ?_
    refine y_getr dX11_count_67 gf_X11_40 sh_0 rfl ?_
    refine y_getr dX11_count_70 gf_X11_212 sh_6 rfl ?_
    refine y_geti dX11_count_73 gf_X11_216 sh_13 rfl ?_
    refine y_goto (tgt := 134) dX11_count_76 (by decide) ?_
    refine y_ireturn dX11_count_134 rfl rfl ?_
    rw [e2]
    exact hQ
  · subst hx
    refine y_run (own := "LoafFall") rfl (by decide +kernel) (Nat.le_of_ble_eq_true rfl) rfl ?_
    refine y_iload_n dX11_count_0 rfl rfl ?_
    refine y_tabIn (tgt := 79) (off := 78) dX11_count_1 (by decide) (by decide) (by decide) (by decide) ?_
    refine y_aload_n dX11_count_79 rfl rfl ?_
    refine y_getr dX11_count_80 gf_X11_40 sh_0 rfl ?_
    refine y_getr dX11_count_83 gf_X11_212 sh_6 rfl ?_
    refine y_geti dX11_count_86 gf_X11_273 sh_13 rfl ?_
    refine y_goto (tgt := 134) dX11_count_89 (by decide) ?_
    refine y_ireturn dX11_count_134 rfl rfl ?_
    rw [e3]
    exact hQ
  · subst hx
    refine y_run (own := "LoafFall") rfl (by decide +kernel) (Nat.le_of_ble_eq_true rfl) rfl ?_
    refine y_iload_n dX11_count_0 rfl rfl ?_
    refine y_tabIn (tgt := 92) (off := 91) dX11_count_1 (by decide) (by decide) (by decide) (by decide) ?_
    refine y_aload_n dX11_count_92 rfl rfl ?_
    refine y_getr dX11_count_93 gf_X11_40 sh_0 rfl ?_
    refine y_ivI0 dX11_count_96 mv_X11_385 my_X6_countUndone (Or.inl rfl) sh_6 ?_
    refine c_X6_countUndone lf6 c2 c1 ⟨_, rfl, ?_⟩
    refine y_goto (tgt := 134) dX11_count_99 (by decide) ?_
    refine y_ireturn dX11_count_134 rfl rfl ?_
    rw [e4]
    exact hQ
  · subst hx
    refine y_run (own := "LoafFall") rfl (by decide +kernel) (Nat.le_of_ble_eq_true rfl) rfl ?_
    refine y_iload_n dX11_count_0 rfl rfl ?_
    refine y_tabIn (tgt := 102) (off := 101) dX11_count_1 (by decide) (by decide) (by decide) (by decide) ?_
    refine y_aload_n dX11_count_102 rfl rfl ?_
    refine y_ivI0 dX11_count_103 mv_X11_388 my_X11_countKept (Or.inl rfl) sh_0 ?_
    refine c_X11_countKept ⟨_, rfl, ?_⟩
    refine y_goto (tgt := 134) dX11_count_106 (by decide) ?_
    refine y_ireturn dX11_count_134 rfl rfl ?_
    rw [e5]
    exact hQ
  · subst hx
    refine y_run (own := "LoafFall") rfl (by decide +kernel) (Nat.le_of_ble_eq_true rfl) rfl ?_
    refine y_iload_n dX11_count_0 rfl rfl ?_
    refine y_tabIn (tgt := 109) (off := 108) dX11_count_1 (by decide) (by decide) (by decide) (by decide) ?_
    refine y_aload_n dX11_count_109 rfl rfl ?_
    refine y_getr dX11_count_110 gf_X11_47 sh_0 rfl ?_
    refine y_geti dX11_count_113 gf_X11_355 sh_25 rfl ?_
    refine y_goto (tgt := 134) dX11_count_116 (by decide) ?_
    refine y_ireturn dX11_count_134 rfl rfl ?_
    rw [e6]
    exact hQ
  · subst hx
    refine y_run (own := "LoafFall") rfl (by decide +kernel) (Nat.le_of_ble_eq_true rfl) rfl ?_
    refine y_iload_n dX11_count_0 rfl rfl ?_
    refine y_tabIn (tgt := 119) (off := 118) dX11_count_1 (by decide) (by decide) (by decide) (by decide) ?_
    refine y_aload_n dX11_count_119 rfl rfl ?_
    refine y_ivI0 dX11_count_120 mv_X11_391 my_X11_countRows (Or.inl rfl) sh_0 ?_
    refine c_X11_countRows ⟨_, rfl, ?_⟩
    refine y_goto (tgt := 134) dX11_count_123 (by decide) ?_
    refine y_ireturn dX11_count_134 rfl rfl ?_
    rw [e7]
    exact hQ
  · subst hx
    refine y_run (own := "LoafFall") rfl (by decide +kernel) (Nat.le_of_ble_eq_true rfl) rfl ?_
    refine y_iload_n dX11_count_0 rfl rfl ?_
    refine y_tabIn (tgt := 126) (off := 125) dX11_count_1 (by decide) (by decide) (by decide) (by decide) ?_
    refine y_aload_n dX11_count_126 rfl rfl ?_
    refine y_ivI0 dX11_count_127 mv_X11_394 my_X11_countTexts (Or.inl rfl) sh_0 ?_
    refine c_X11_countTexts ⟨_, rfl, ?_⟩
    refine y_goto (tgt := 134) dX11_count_130 (by decide) ?_
    refine y_ireturn dX11_count_134 rfl rfl ?_
    rw [e8]
    exact hQ
set_option maxHeartbeats 2000000 in
theorem p_count {L : Nat} {xs : Nat → Int32} {d : Nat} {m : sM} {n : sN} {x : Int32} (h : Rel m n) : PI L xs (d + 11) yX11_count cX11_count 2 yX12_count cX12_count 2 [.int x] m n := by
  unfold PI
  by_cases hx : inN x 9
  · obtain ⟨q, hq, rfl⟩ := hx
    have hx : inN (nI q) 9 := ⟨q, hq, rfl⟩
    refine c_X11_count h rfl hq ⟨_, rfl, ?_⟩
    refine y_run (own := "LoafFallModel") rfl (by decide +kernel) (Nat.le_of_ble_eq_true rfl) rfl ?_
    refine y_iload_n dX12_count_0 rfl rfl ?_
    refine y_iconst (v := 0) dX12_count_1 (by decide) ?_
    refine y_bipush (v := 8) dX12_count_2 (by decide) ?_
    refine y_isI3 dX12_count_4 ms_X12_86 my_X12_in (Or.inl rfl) ?_
    refine c_X12_in (fun _ _ => ⟨_, rfl, ?_⟩) (fun a => absurd ((in_le (M := 8) (by decide)).mp hx) a)
    refine y_if_eq (tgt := 18) dX12_count_7 (by decide) (fun h7 => absurd h7 (by decide)) (fun h7 => ?_)
    refine y_aload_n dX12_count_10 rfl rfl ?_
    refine y_iload_n dX12_count_11 rfl rfl ?_
    refine y_ivI1 dX12_count_12 mv_X12_325 my_X12_counted (Or.inl rfl) sh_239 ?_
    refine c_X12_counted rfl hq h.hl ⟨_, rfl, ?_⟩
    refine y_goto (tgt := 19) dX12_count_15 (by decide) ?_
    refine y_ireturn dX12_count_19 rfl rfl ?_
    exact ⟨rfl, Rel_scr h frC.rf h.bk frM.wk⟩
  · refine y_run (own := "LoafFall") rfl (by decide +kernel) (Nat.le_of_ble_eq_true rfl) rfl ?_
    refine y_iload_n dX11_count_0 rfl rfl ?_
    refine y_tabOut (tgt := 133) dX11_count_1 (cntO hx) (by decide) ?_
    refine y_iconst (v := -1) dX11_count_133 (by decide) ?_
    refine y_ireturn dX11_count_134 rfl rfl ?_
    refine ⟨_, rfl, ?_⟩
    refine y_run (own := "LoafFallModel") rfl (by decide +kernel) (Nat.le_of_ble_eq_true rfl) rfl ?_
    refine y_iload_n dX12_count_0 rfl rfl ?_
    refine y_iconst (v := 0) dX12_count_1 (by decide) ?_
    refine y_bipush (v := 8) dX12_count_2 (by decide) ?_
    refine y_isI3 dX12_count_4 ms_X12_86 my_X12_in (Or.inl rfl) ?_
    refine c_X12_in (fun a b => absurd ((in_le (M := 8) (by decide)).mpr ⟨a, b⟩) hx) (fun _ => ⟨_, rfl, ?_⟩)
    refine y_if_eq (tgt := 18) dX12_count_7 (by decide) (fun h7 => ?_) (fun h7 => absurd (by decide) h7)
    refine y_iconst (v := -1) dX12_count_18 (by decide) ?_
    refine y_ireturn dX12_count_19 rfl rfl ?_
    exact ⟨rfl, h⟩
