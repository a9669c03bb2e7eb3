/-! ===== what is told of a dough ===== -/
theorem DD.g {m : sM} {a : Nat} {R : Nat → Int32} (h : DD m a R) {k : Nat} (hk : k < 24) : m (a + 1) k = R (41 + 5 * k + 0) := (h.1 k hk).1
theorem DD.s {m : sM} {a : Nat} {R : Nat → Int32} (h : DD m a R) {k : Nat} (hk : k < 24) : m (a + 4) k = R (41 + 5 * k + 3) := (h.1 k hk).2.2.2.1
theorem DD.o {m : sM} {a : Nat} {R : Nat → Int32} (h : DD m a R) {k : Nat} (hk : k < 24) : m (a + 5) k = R (41 + 5 * k + 4) := (h.1 k hk).2.2.2.2
theorem tornS_N {R : Nat → Int32} (h : tnR R) : ∀ k, k ≤ 24 → tornS R k = nI (tornN R k) := by
  intro k
  induction k with
  | zero => intro _; exact nI_0.symm
  | succ k ih =>
    intro hk
    unfold tornS tornN
    rw [ih (by omega)]
    rcases h k (by omega) with e | e
    · rw [e, if_pos rfl, ← nI_0, nI_add]
    · rw [e, if_neg (by decide), nI_1]
theorem hgt_OB {R R' : Nat → Int32} (h : OB R R') : ∀ k, k ≤ 12 → hgt R' k = hgt R k := by
  intro k
  induction k with
  | zero => intro _; rfl
  | succ k ih =>
    intro hk
    unfold hgt
    rw [ih (by omega), (h.1 (2 * k) (by omega)).1, (h.1 (2 * k + 1) (by omega)).1, (h.1 (2 * k) (by omega)).2.1, (h.1 (2 * k + 1) (by omega)).2.1]
theorem tornS_OB {R R' : Nat → Int32} (h : OB R R') : ∀ k, k ≤ 24 → tornS R' k = tornS R k := by
  intro k
  induction k with
  | zero => intro _; rfl
  | succ k ih =>
    intro hk
    unfold tornS
    rw [ih (by omega), (h.1 k (by omega)).2.1]
theorem doneS_OB {R R' : Nat → Int32} (h : OB R R') : ∀ k, k ≤ 24 → doneS R' k = doneS R k := by
  intro k
  induction k with
  | zero => intro _; rfl
  | succ k ih =>
    intro hk
    unfold doneS
    rw [ih (by omega), (h.1 k (by omega)).2.1]
    by_cases z : R (41 + 5 * k + 4) = 0
    · rw [(h.1 k (by omega)).2.2 z]
    · rw [if_neg (fun q => z q.1), if_neg (fun q => z q.1)]
theorem worth_OB {R R' : Nat → Int32} (h : OB R R') : worthF R' = worthF R := by
  unfold worthF
  rw [hgt_OB h 12 (Nat.le_refl _), doneS_OB h 24 (Nat.le_refl _), tornS_OB h 24 (Nat.le_refl _)]
theorem cut_OB {R R' : Nat → Int32} (h : OB R R') (ht : tnR R) {k : Nat} (hk : k < 24) : cutF R' k = cutF R k := by
  unfold cutF
  rw [(h.1 k hk).2.1]
  rcases ht k hk with e | e
  · rw [(h.1 k hk).2.2 e]
  · rw [if_pos e, if_pos e]
def unlS (f g : Nat → Int32) : Nat → Int32
  | 0 => 0
  | k + 1 => unlS f g k + (if f k = g k then 0 else 1)
def spoS (f : Nat → Int32) : Nat → Int32
  | 0 => 0
  | k + 1 => spoS f k + (if f k = 0 then 0 else 1)
def undS (f : Nat → Int32) : Nat → Int32
  | 0 => 0
  | k + 1 => undS f k + (if f k = 4 ∨ f k = 5 then 1 else 0)
def ofKind (x kind : Int32) : Prop := x = kind ∨ (x = 6 ∧ kind = 1) ∨ (x = 5 ∧ kind = 4)
set_option maxHeartbeats 1000000 in
theorem c_X2_heightNow {L : Nat} {xs : Nat → Int32} {d : Nat} {m : sM} {n : sN} {Q : sQ} {D0 : Nat} {R : Nat → Int32} (hD : isDh D0) (h : DD m D0 R) (hQ : Q (some (.int (hgt R 12))) m n) : sRun (scT L xs) (d + 1) yX2_heightNow cX2_heightNow 3 (some .int) [.ref D0] m n Q := by
  refine y_run (own := "LoafFall$Dough") rfl (by decide +kernel) (Nat.le_of_ble_eq_true rfl) rfl ?_
  refine y_iconst (v := 0) dX2_heightNow_0 (by decide) ?_
  refine y_ist3_1 dX2_heightNow_1 rfl ?_
  refine y_iconst (v := 0) dX2_heightNow_2 (by decide) ?_
  refine y_ist3_2 dX2_heightNow_3 rfl ?_
  refine cnt (P := fun k => sV (scT L xs) d "LoafFall$Dough" cX2_heightNow 3 (some .int) Q 4 [some (.ref D0), some (.int (hgt R k)), some (.int (nI (2 * k)))] [] m n) 12 ?_ ?_ 0 (by omega)
  · refine y_iload_n dX2_heightNow_4 rfl rfl ?_
    refine y_bipush (v := 24) dX2_heightNow_5 (by decide) ?_
    refine y_icmp_ge (tgt := 58) dX2_heightNow_7 (by decide) (fun h7 => ?_) (fun h7 => absurd (nI_le (a := 24) (b := 2 * 12) (by omega) (by omega)) h7)
    refine y_iload_n dX2_heightNow_58 rfl rfl ?_
    refine y_ireturn dX2_heightNow_59 rfl rfl ?_
    exact hQ
  · intro k hk hP
    refine y_iload_n dX2_heightNow_4 rfl rfl ?_
    refine y_bipush (v := 24) dX2_heightNow_5 (by decide) ?_
    refine y_icmp_ge (tgt := 58) dX2_heightNow_7 (by decide) (fun h7 => absurd h7 (nI_ge (a := 2 * k) (b := 24) (by omega) (by omega))) (fun h7 => ?_)
    refine y_iload_n dX2_heightNow_10 rfl rfl ?_
    refine y_bipush (v := 10) dX2_heightNow_11 (by decide) ?_
    refine y_aload_n dX2_heightNow_13 rfl rfl ?_
    refine y_getr dX2_heightNow_14 gf_X2_9 hD.1 rfl ?_
    refine y_iload_n dX2_heightNow_17 rfl rfl ?_
    refine y_ialdN dX2_heightNow_18 hD.2.1 rfl (by first | omega | decide) (by decide) ?_
    rw [h.g (by omega)]
    refine y_aload_n dX2_heightNow_19 rfl rfl ?_
    refine y_getr dX2_heightNow_20 gf_X2_9 hD.1 rfl ?_
    refine y_iload_n dX2_heightNow_23 rfl rfl ?_
    refine y_iconst (v := 1) dX2_heightNow_24 (by decide) ?_
    refine y_iaddN (a := 2 * k) (b := 1) dX2_heightNow_25 rfl rfl ?_
    refine y_ialdN dX2_heightNow_26 hD.2.1 rfl (by first | omega | decide) (by decide) ?_
    rw [h.g (by omega)]
    refine y_iadd dX2_heightNow_27 ?_
    refine y_bipush (v := 20) dX2_heightNow_28 (by decide) ?_
    refine y_idiv dX2_heightNow_30 (by decide) ?_
    refine y_iadd dX2_heightNow_31 ?_
    refine y_iconst (v := 3) dX2_heightNow_32 (by decide) ?_
    refine y_aload_n dX2_heightNow_33 rfl rfl ?_
    refine y_getr dX2_heightNow_34 gf_X2_24 hD.1 rfl ?_
    refine y_iload_n dX2_heightNow_37 rfl rfl ?_
    refine y_ialdN dX2_heightNow_38 hD.2.2.2.2.2 rfl (by first | omega | decide) (by decide) ?_
    rw [h.o (by omega)]
    refine y_aload_n dX2_heightNow_39 rfl rfl ?_
    refine y_getr dX2_heightNow_40 gf_X2_24 hD.1 rfl ?_
    refine y_iload_n dX2_heightNow_43 rfl rfl ?_
    refine y_iconst (v := 1) dX2_heightNow_44 (by decide) ?_
    refine y_iaddN (a := 2 * k) (b := 1) dX2_heightNow_45 rfl rfl ?_
    refine y_ialdN dX2_heightNow_46 hD.2.2.2.2.2 rfl (by first | omega | decide) (by decide) ?_
    rw [h.o (by omega)]
    refine y_iadd dX2_heightNow_47 ?_
    refine y_imul dX2_heightNow_48 ?_
    refine y_isub dX2_heightNow_49 ?_
    refine y_iadd dX2_heightNow_50 ?_
    refine y_ist3_1 dX2_heightNow_51 rfl ?_
    refine y_iinc3_2 dX2_heightNow_52 (show nI (2 * k) + 2 = nI (2 * (k + 1)) from nI_add (2 * k) 2) rfl ?_
    refine y_goto (tgt := 4) dX2_heightNow_55 (by decide) ?_
    exact hP
set_option maxHeartbeats 1000000 in
theorem c_X2_lookOf {L : Nat} {xs : Nat → Int32} {d : Nat} {m : sM} {n : sN} {Q : sQ} {D0 k : Nat} {c0 : Int32} {R : Nat → Int32} (hD : isDh D0) (h : DD m D0 R) (ht : tnR R) (hc0 : c0 = nI k) (hk : k < 24) (hQ : Q (some (.int (cutF R k))) m n) : sRun (scT L xs) (d + 1) yX2_lookOf cX2_lookOf 2 (some .int) [.ref D0, .int c0] m n Q := by
  subst hc0
  refine y_run (own := "LoafFall$Dough") rfl (by decide +kernel) (Nat.le_of_ble_eq_true rfl) rfl ?_
  refine y_aload_n dX2_lookOf_0 rfl rfl ?_
  refine y_getr dX2_lookOf_1 gf_X2_24 hD.1 rfl ?_
  refine y_iload_n dX2_lookOf_4 rfl rfl ?_
  refine y_ialdN dX2_lookOf_5 hD.2.2.2.2.2 rfl (by first | omega | decide) (by decide) ?_
  rw [h.o hk]
  refine y_if_eq (tgt := 11) dX2_lookOf_6 (by decide) (fun h6 => ?_) (fun h6 => ?_)
  · refine y_aload_n dX2_lookOf_11 rfl rfl ?_
    refine y_getr dX2_lookOf_12 gf_X2_21 hD.1 rfl ?_
    refine y_iload_n dX2_lookOf_15 rfl rfl ?_
    refine y_ialdN dX2_lookOf_16 hD.2.2.2.2.1 rfl (by first | omega | decide) (by decide) ?_
    rw [h.s hk]
    refine y_bipush (v := 50) dX2_lookOf_17 (by decide) ?_
    refine y_icmp_ge (tgt := 26) dX2_lookOf_19 (by decide) (fun h19 => ?_) (fun h19 => ?_)
    · refine y_iconst (v := 0) dX2_lookOf_26 (by decide) ?_
      refine y_ireturn dX2_lookOf_27 rfl rfl ?_
      unfold cutF at hQ
      first
        | (rw [if_pos ((ht k hk).resolve_left h6)] at hQ; exact hQ)
        | (rw [if_neg (by rw [h6]; decide), if_neg (Int32.not_lt.mpr h19)] at hQ; exact hQ)
        | (rw [if_neg (by rw [h6]; decide), if_pos (Int32.not_le.mp h19)] at hQ; exact hQ)
    · refine y_iconst (v := 2) dX2_lookOf_22 (by decide) ?_
      refine y_goto (tgt := 27) dX2_lookOf_23 (by decide) ?_
      refine y_ireturn dX2_lookOf_27 rfl rfl ?_
      unfold cutF at hQ
      first
        | (rw [if_pos ((ht k hk).resolve_left h6)] at hQ; exact hQ)
        | (rw [if_neg (by rw [h6]; decide), if_neg (Int32.not_lt.mpr h19)] at hQ; exact hQ)
        | (rw [if_neg (by rw [h6]; decide), if_pos (Int32.not_le.mp h19)] at hQ; exact hQ)
  · refine y_iconst (v := 1) dX2_lookOf_9 (by decide) ?_
    refine y_ireturn dX2_lookOf_10 rfl rfl ?_
    unfold cutF at hQ
    first
      | (rw [if_pos ((ht k hk).resolve_left h6)] at hQ; exact hQ)
      | (rw [if_neg (by rw [h6]; decide), if_neg (Int32.not_lt.mpr h19)] at hQ; exact hQ)
      | (rw [if_neg (by rw [h6]; decide), if_pos (Int32.not_le.mp h19)] at hQ; exact hQ)
set_option maxHeartbeats 1000000 in
theorem c_X2_worthNow {L : Nat} {xs : Nat → Int32} {d : Nat} {m : sM} {n : sN} {Q : sQ} {D0 : Nat} {R : Nat → Int32} (hD : isDh D0) (h : DD m D0 R) (hi : iR R) (hQ : Q (some (.int (worthF R))) m n) : sRun (scT L xs) (d + 2) yX2_worthNow cX2_worthNow 3 (some .int) [.ref D0] m n Q := by
  refine y_run (own := "LoafFall$Dough") rfl (by decide +kernel) (Nat.le_of_ble_eq_true rfl) rfl ?_
  refine y_iconst (v := 0) dX2_worthNow_0 (by decide) ?_
  refine y_ist3_1 dX2_worthNow_1 rfl ?_
  refine y_iconst (v := 0) dX2_worthNow_2 (by decide) ?_
  refine y_ist3_2 dX2_worthNow_3 rfl ?_
  refine cnt (P := fun k => sV (scT L xs) (d + 1) "LoafFall$Dough" cX2_worthNow 3 (some .int) Q 4 [some (.ref D0), some (.int (doneS R k)), some (.int (nI k))] [] m n) 24 ?_ ?_ 0 (by omega)
  · refine y_iload_n dX2_worthNow_4 rfl rfl ?_
    refine y_bipush (v := 24) dX2_worthNow_5 (by decide) ?_
    refine y_icmp_ge (tgt := 44) dX2_worthNow_7 (by decide) (fun h7 => ?_) (fun h7 => absurd (nI_le (a := 24) (b := 24) (Nat.le_refl _) (by decide)) h7)
    refine y_iconst (v := 0) dX2_worthNow_44 (by decide) ?_
    refine y_aload_n dX2_worthNow_45 rfl rfl ?_
    refine y_ivI0 dX2_worthNow_46 mv_X2_50 my_X2_heightNow (Or.inl rfl) hD.1 ?_
    refine c_X2_heightNow hD h ⟨_, rfl, ?_⟩
    refine y_iload_n dX2_worthNow_49 rfl rfl ?_
    refine y_iadd dX2_worthNow_50 ?_
    refine y_iconst (v := 5) dX2_worthNow_51 (by decide) ?_
    refine y_aload_n dX2_worthNow_52 rfl rfl ?_
    refine y_geti dX2_worthNow_53 gf_X2_27 hD.1 rfl ?_
    refine y_imul dX2_worthNow_56 ?_
    refine y_isub dX2_worthNow_57 ?_
    refine y_mmax dX2_worthNow_58 mm_X2_54 (Nat.le_of_ble_eq_true rfl) ?_
    rw [max0, h.2.1, hi.wf, ← tornS_N hi.2.2.1 24 (Nat.le_refl _)]
    refine y_ireturn dX2_worthNow_61 rfl rfl ?_
    exact hQ
  · intro k hk hP
    refine y_iload_n dX2_worthNow_4 rfl rfl ?_
    refine y_bipush (v := 24) dX2_worthNow_5 (by decide) ?_
    refine y_icmp_ge (tgt := 44) dX2_worthNow_7 (by decide) (fun h7 => absurd h7 (nI_ge (a := k) (b := 24) hk (by decide))) (fun h7 => ?_)
    refine y_iload_n dX2_worthNow_10 rfl rfl ?_
    refine y_aload_n dX2_worthNow_11 rfl rfl ?_
    refine y_getr dX2_worthNow_12 gf_X2_24 hD.1 rfl ?_
    refine y_iload_n dX2_worthNow_15 rfl rfl ?_
    refine y_ialdN dX2_worthNow_16 hD.2.2.2.2.2 rfl (by first | omega | decide) (by decide) ?_
    rw [h.o hk]
    refine y_if_ne (tgt := 35) dX2_worthNow_17 (by decide) (fun h17 => ?_) (fun h17 => ?_)
    · refine y_iconst (v := 0) dX2_worthNow_35 (by decide) ?_
      refine y_iadd dX2_worthNow_36 ?_
      refine y_ist3_1 dX2_worthNow_37 rfl ?_
      refine y_iinc3_2 dX2_worthNow_38 (nI_1 _) rfl ?_
      refine y_goto (tgt := 4) dX2_worthNow_41 (by decide) ?_
      first
        | (rw [show doneS R (k + 1) = doneS R k + 0 from by rw [doneS, if_neg (fun q => h17 q.1)]] at hP; exact hP)
        | (rw [show doneS R (k + 1) = doneS R k + 0 from by rw [doneS, if_neg (fun q => absurd h28 (Int32.not_lt.mpr q.2))]] at hP; exact hP)
        | (rw [show doneS R (k + 1) = doneS R k + 1 from by rw [doneS, if_pos ⟨h17, Int32.not_lt.mp h28⟩]] at hP; exact hP)
    · refine y_aload_n dX2_worthNow_20 rfl rfl ?_
      refine y_getr dX2_worthNow_21 gf_X2_21 hD.1 rfl ?_
      refine y_iload_n dX2_worthNow_24 rfl rfl ?_
      refine y_ialdN dX2_worthNow_25 hD.2.2.2.2.1 rfl (by first | omega | decide) (by decide) ?_
      rw [h.s hk]
      refine y_bipush (v := 50) dX2_worthNow_26 (by decide) ?_
      refine y_icmp_lt (tgt := 35) dX2_worthNow_28 (by decide) (fun h28 => ?_) (fun h28 => ?_)
      · refine y_iconst (v := 0) dX2_worthNow_35 (by decide) ?_
        refine y_iadd dX2_worthNow_36 ?_
        refine y_ist3_1 dX2_worthNow_37 rfl ?_
        refine y_iinc3_2 dX2_worthNow_38 (nI_1 _) rfl ?_
        refine y_goto (tgt := 4) dX2_worthNow_41 (by decide) ?_
        first
          | (rw [show doneS R (k + 1) = doneS R k + 0 from by rw [doneS, if_neg (fun q => h17 q.1)]] at hP; exact hP)
          | (rw [show doneS R (k + 1) = doneS R k + 0 from by rw [doneS, if_neg (fun q => absurd h28 (Int32.not_lt.mpr q.2))]] at hP; exact hP)
          | (rw [show doneS R (k + 1) = doneS R k + 1 from by rw [doneS, if_pos ⟨h17, Int32.not_lt.mp h28⟩]] at hP; exact hP)
      · refine y_iconst (v := 1) dX2_worthNow_31 (by decide) ?_
        refine y_goto (tgt := 36) dX2_worthNow_32 (by decide) ?_
        refine y_iadd dX2_worthNow_36 ?_
        refine y_ist3_1 dX2_worthNow_37 rfl ?_
        refine y_iinc3_2 dX2_worthNow_38 (nI_1 _) rfl ?_
        refine y_goto (tgt := 4) dX2_worthNow_41 (by decide) ?_
        first
          | (rw [show doneS R (k + 1) = doneS R k + 0 from by rw [doneS, if_neg (fun q => h17 q.1)]] at hP; exact hP)
          | (rw [show doneS R (k + 1) = doneS R k + 0 from by rw [doneS, if_neg (fun q => absurd h28 (Int32.not_lt.mpr q.2))]] at hP; exact hP)
          | (rw [show doneS R (k + 1) = doneS R k + 1 from by rw [doneS, if_pos ⟨h17, Int32.not_lt.mp h28⟩]] at hP; exact hP)
set_option maxHeartbeats 1000000 in
theorem c_X2_spoiledCells {L : Nat} {xs : Nat → Int32} {d : Nat} {m : sM} {n : sN} {Q : sQ} {D0 : Nat} {R : Nat → Int32} (hD : isDh D0) (h : DD m D0 R) (ht : tnR R) (hQ : Q (some (.int (spoS (cutF R) 24))) m n) : sRun (scT L xs) (d + 2) yX2_spoiledCells cX2_spoiledCells 3 (some .int) [.ref D0] m n Q := by
  refine y_run (own := "LoafFall$Dough") rfl (by decide +kernel) (Nat.le_of_ble_eq_true rfl) rfl ?_
  refine y_iconst (v := 0) dX2_spoiledCells_0 (by decide) ?_
  refine y_ist3_1 dX2_spoiledCells_1 rfl ?_
  refine y_iconst (v := 0) dX2_spoiledCells_2 (by decide) ?_
  refine y_ist3_2 dX2_spoiledCells_3 rfl ?_
  refine cnt (P := fun k => sV (scT L xs) (d + 1) "LoafFall$Dough" cX2_spoiledCells 3 (some .int) Q 4 [some (.ref D0), some (.int (spoS (cutF R) k)), some (.int (nI k))] [] m n) 24 ?_ ?_ 0 (by omega)
  · refine y_iload_n dX2_spoiledCells_4 rfl rfl ?_
    refine y_bipush (v := 24) dX2_spoiledCells_5 (by decide) ?_
    refine y_icmp_ge (tgt := 32) dX2_spoiledCells_7 (by decide) (fun h7 => ?_) (fun h7 => absurd (nI_le (a := 24) (b := 24) (Nat.le_refl _) (by decide)) h7)
    refine y_iload_n dX2_spoiledCells_32 rfl rfl ?_
    refine y_ireturn dX2_spoiledCells_33 rfl rfl ?_
    exact hQ
  · intro k hk hP
    refine y_iload_n dX2_spoiledCells_4 rfl rfl ?_
    refine y_bipush (v := 24) dX2_spoiledCells_5 (by decide) ?_
    refine y_icmp_ge (tgt := 32) dX2_spoiledCells_7 (by decide) (fun h7 => absurd h7 (nI_ge (a := k) (b := 24) hk (by decide))) (fun h7 => ?_)
    refine y_iload_n dX2_spoiledCells_10 rfl rfl ?_
    refine y_aload_n dX2_spoiledCells_11 rfl rfl ?_
    refine y_iload_n dX2_spoiledCells_12 rfl rfl ?_
    refine y_ivI1 dX2_spoiledCells_13 mv_X2_60 my_X2_lookOf (Or.inl rfl) hD.1 ?_
    refine c_X2_lookOf (k := k) hD h ht rfl hk ⟨_, rfl, ?_⟩
    refine y_if_eq (tgt := 23) dX2_spoiledCells_16 (by decide) (fun h16 => ?_) (fun h16 => ?_)
    · refine y_iconst (v := 0) dX2_spoiledCells_23 (by decide) ?_
      refine y_iadd dX2_spoiledCells_24 ?_
      refine y_ist3_1 dX2_spoiledCells_25 rfl ?_
      refine y_iinc3_2 dX2_spoiledCells_26 (nI_1 _) rfl ?_
      refine y_goto (tgt := 4) dX2_spoiledCells_29 (by decide) ?_
      first
        | (rw [show spoS (cutF R) (k + 1) = spoS (cutF R) k + 0 from by rw [spoS, if_pos h16]] at hP; exact hP)
        | (rw [show spoS (cutF R) (k + 1) = spoS (cutF R) k + 1 from by rw [spoS, if_neg h16]] at hP; exact hP)
    · refine y_iconst (v := 1) dX2_spoiledCells_19 (by decide) ?_
      refine y_goto (tgt := 24) dX2_spoiledCells_20 (by decide) ?_
      refine y_iadd dX2_spoiledCells_24 ?_
      refine y_ist3_1 dX2_spoiledCells_25 rfl ?_
      refine y_iinc3_2 dX2_spoiledCells_26 (nI_1 _) rfl ?_
      refine y_goto (tgt := 4) dX2_spoiledCells_29 (by decide) ?_
      first
        | (rw [show spoS (cutF R) (k + 1) = spoS (cutF R) k + 0 from by rw [spoS, if_pos h16]] at hP; exact hP)
        | (rw [show spoS (cutF R) (k + 1) = spoS (cutF R) k + 1 from by rw [spoS, if_neg h16]] at hP; exact hP)
set_option maxHeartbeats 1000000 in
theorem c_X2_unlikeTo {L : Nat} {xs : Nat → Int32} {d : Nat} {m : sM} {n : sN} {Q : sQ} {D0 W0 : Nat} {R : Nat → Int32} (hD : isDh D0) (hW : isRw W0) (h : DD m D0 R) (ht : tnR R) (hQ : Q (some (.int (unlS (cutF R) (m (W0 + 1)) 24))) m n) : sRun (scT L xs) (d + 2) yX2_unlikeTo cX2_unlikeTo 4 (some .int) [.ref D0, .ref W0] m n Q := by
  refine y_run (own := "LoafFall$Dough") rfl (by decide +kernel) (Nat.le_of_ble_eq_true rfl) rfl ?_
  refine y_iconst (v := 0) dX2_unlikeTo_0 (by decide) ?_
  refine y_ist4_2 dX2_unlikeTo_1 rfl ?_
  refine y_iconst (v := 0) dX2_unlikeTo_2 (by decide) ?_
  refine y_ist4_3 dX2_unlikeTo_3 rfl ?_
  refine cnt (P := fun k => sV (scT L xs) (d + 1) "LoafFall$Dough" cX2_unlikeTo 4 (some .int) Q 4 [some (.ref D0), some (.ref W0), some (.int (unlS (cutF R) (m (W0 + 1)) k)), some (.int (nI k))] [] m n) 24 ?_ ?_ 0 (by omega)
  · refine y_iload_n dX2_unlikeTo_4 rfl rfl ?_
    refine y_bipush (v := 24) dX2_unlikeTo_5 (by decide) ?_
    refine y_icmp_ge (tgt := 38) dX2_unlikeTo_7 (by decide) (fun h7 => ?_) (fun h7 => absurd (nI_le (a := 24) (b := 24) (Nat.le_refl _) (by decide)) h7)
    refine y_iload_n dX2_unlikeTo_38 rfl rfl ?_
    refine y_ireturn dX2_unlikeTo_39 rfl rfl ?_
    exact hQ
  · intro k hk hP
    refine y_iload_n dX2_unlikeTo_4 rfl rfl ?_
    refine y_bipush (v := 24) dX2_unlikeTo_5 (by decide) ?_
    refine y_icmp_ge (tgt := 38) dX2_unlikeTo_7 (by decide) (fun h7 => absurd h7 (nI_ge (a := k) (b := 24) hk (by decide))) (fun h7 => ?_)
    refine y_iload_n dX2_unlikeTo_10 rfl rfl ?_
    refine y_aload_n dX2_unlikeTo_11 rfl rfl ?_
    refine y_iload_n dX2_unlikeTo_12 rfl rfl ?_
    refine y_ivI1 dX2_unlikeTo_13 mv_X2_60 my_X2_lookOf (Or.inl rfl) hD.1 ?_
    refine c_X2_lookOf (k := k) hD h ht rfl hk ⟨_, rfl, ?_⟩
    refine y_aload_n dX2_unlikeTo_16 rfl rfl ?_
    refine y_getr dX2_unlikeTo_17 gf_X2_64 hW.1 rfl ?_
    refine y_iload_n dX2_unlikeTo_20 rfl rfl ?_
    refine y_ialdN dX2_unlikeTo_21 hW.2 rfl (by first | omega | decide) (by decide) ?_
    refine y_icmp_eq (tgt := 29) dX2_unlikeTo_22 (by decide) (fun h22 => ?_) (fun h22 => ?_)
    · refine y_iconst (v := 0) dX2_unlikeTo_29 (by decide) ?_
      refine y_iadd dX2_unlikeTo_30 ?_
      refine y_ist4_2 dX2_unlikeTo_31 rfl ?_
      refine y_iinc4_3 dX2_unlikeTo_32 (nI_1 _) rfl ?_
      refine y_goto (tgt := 4) dX2_unlikeTo_35 (by decide) ?_
      first
        | (rw [show unlS (cutF R) (m (W0 + 1)) (k + 1) = unlS (cutF R) (m (W0 + 1)) k + 0 from by rw [unlS, if_pos h22]] at hP; exact hP)
        | (rw [show unlS (cutF R) (m (W0 + 1)) (k + 1) = unlS (cutF R) (m (W0 + 1)) k + 1 from by rw [unlS, if_neg h22]] at hP; exact hP)
    · refine y_iconst (v := 1) dX2_unlikeTo_25 (by decide) ?_
      refine y_goto (tgt := 30) dX2_unlikeTo_26 (by decide) ?_
      refine y_iadd dX2_unlikeTo_30 ?_
      refine y_ist4_2 dX2_unlikeTo_31 rfl ?_
      refine y_iinc4_3 dX2_unlikeTo_32 (nI_1 _) rfl ?_
      refine y_goto (tgt := 4) dX2_unlikeTo_35 (by decide) ?_
      first
        | (rw [show unlS (cutF R) (m (W0 + 1)) (k + 1) = unlS (cutF R) (m (W0 + 1)) k + 0 from by rw [unlS, if_pos h22]] at hP; exact hP)
        | (rw [show unlS (cutF R) (m (W0 + 1)) (k + 1) = unlS (cutF R) (m (W0 + 1)) k + 1 from by rw [unlS, if_neg h22]] at hP; exact hP)
set_option maxHeartbeats 1000000 in
theorem c_X2_factOf {L : Nat} {xs : Nat → Int32} {d : Nat} {m : sM} {n : sN} {Q : sQ} {D0 k q : Nat} {c0 w0 : Int32} (hD : isDh D0) (hc0 : c0 = nI k) (hk : k < 24) (hw0 : w0 = nI q) (hq : q < 5) (hQ : Q (some (.int (m (D0 + 1 + q) k))) m n) : sRun (scT L xs) (d + 1) yX2_factOf cX2_factOf 3 (some .int) [.ref D0, .int c0, .int w0] m n Q := by
  subst hc0
  subst hw0
  refine y_run (own := "LoafFall$Dough") rfl (by decide +kernel) (Nat.le_of_ble_eq_true rfl) rfl ?_
  have : q = 0 ∨ q = 1 ∨ q = 2 ∨ q = 3 ∨ q = 4 := by omega
  rcases this with rfl | rfl | rfl | rfl | rfl
  · refine y_iload_n dX2_factOf_0 rfl rfl ?_
    refine y_tabIn (tgt := 32) (off := 31) dX2_factOf_1 (by decide) (by decide) rfl (by decide) ?_
    refine y_aload_n dX2_factOf_32 rfl rfl ?_
    refine y_getr dX2_factOf_33 gf_X2_9 hD.1 rfl ?_
    refine y_iload_n dX2_factOf_36 rfl rfl ?_
    refine y_ialdN dX2_factOf_37 hD.2.1 rfl (by first | omega | decide) (by decide) ?_
    refine y_goto (tgt := 74) dX2_factOf_38 (by decide) ?_
    refine y_ireturn dX2_factOf_74 rfl rfl ?_
    exact hQ
  · refine y_iload_n dX2_factOf_0 rfl rfl ?_
    refine y_tabIn (tgt := 41) (off := 40) dX2_factOf_1 (by decide) (by decide) rfl (by decide) ?_
    refine y_aload_n dX2_factOf_41 rfl rfl ?_
    refine y_getr dX2_factOf_42 gf_X2_15 hD.1 rfl ?_
    refine y_iload_n dX2_factOf_45 rfl rfl ?_
    refine y_ialdN dX2_factOf_46 hD.2.2.1 rfl (by first | omega | decide) (by decide) ?_
    refine y_goto (tgt := 74) dX2_factOf_47 (by decide) ?_
    refine y_ireturn dX2_factOf_74 rfl rfl ?_
    exact hQ
  · refine y_iload_n dX2_factOf_0 rfl rfl ?_
    refine y_tabIn (tgt := 50) (off := 49) dX2_factOf_1 (by decide) (by decide) rfl (by decide) ?_
    refine y_aload_n dX2_factOf_50 rfl rfl ?_
    refine y_getr dX2_factOf_51 gf_X2_18 hD.1 rfl ?_
    refine y_iload_n dX2_factOf_54 rfl rfl ?_
    refine y_ialdN dX2_factOf_55 hD.2.2.2.1 rfl (by first | omega | decide) (by decide) ?_
    refine y_goto (tgt := 74) dX2_factOf_56 (by decide) ?_
    refine y_ireturn dX2_factOf_74 rfl rfl ?_
    exact hQ
  · refine y_iload_n dX2_factOf_0 rfl rfl ?_
    refine y_tabIn (tgt := 59) (off := 58) dX2_factOf_1 (by decide) (by decide) rfl (by decide) ?_
    refine y_aload_n dX2_factOf_59 rfl rfl ?_
    refine y_getr dX2_factOf_60 gf_X2_21 hD.1 rfl ?_
    refine y_iload_n dX2_factOf_63 rfl rfl ?_
    refine y_ialdN dX2_factOf_64 hD.2.2.2.2.1 rfl (by first | omega | decide) (by decide) ?_
    refine y_goto (tgt := 74) dX2_factOf_65 (by decide) ?_
    refine y_ireturn dX2_factOf_74 rfl rfl ?_
    exact hQ
  · refine y_iload_n dX2_factOf_0 rfl rfl ?_
    refine y_tabOut (tgt := 68) dX2_factOf_1 (by decide) (by decide) ?_
    refine y_aload_n dX2_factOf_68 rfl rfl ?_
    refine y_getr dX2_factOf_69 gf_X2_24 hD.1 rfl ?_
    refine y_iload_n dX2_factOf_72 rfl rfl ?_
    refine y_ialdN dX2_factOf_73 hD.2.2.2.2.2 rfl (by first | omega | decide) (by decide) ?_
    refine y_ireturn dX2_factOf_74 rfl rfl ?_
    exact hQ
set_option maxHeartbeats 1000000 in
theorem c_X3_factOf {L : Nat} {xs : Nat → Int32} {d : Nat} {m : sM} {n : sN} {Q : sQ} {D0 k q : Nat} {c0 w0 : Int32} (hD : isFs D0) (hc0 : c0 = nI k) (hk : k < 24) (hw0 : w0 = nI q) (hq : q < 4) (hQ : Q (some (.int (m (D0 + 1 + q) k))) m n) : sRun (scT L xs) (d + 1) yX3_factOf cX3_factOf 3 (some .int) [.ref D0, .int c0, .int w0] m n Q := by
  subst hc0
  subst hw0
  refine y_run (own := "LoafFall$Falls") rfl (by decide +kernel) (Nat.le_of_ble_eq_true rfl) rfl ?_
  have : q = 0 ∨ q = 1 ∨ q = 2 ∨ q = 3 := by omega
  rcases this with rfl | rfl | rfl | rfl
  · refine y_iload_n dX3_factOf_0 rfl rfl ?_
    refine y_tabIn (tgt := 28) (off := 27) dX3_factOf_1 (by decide) (by decide) rfl (by decide) ?_
    refine y_aload_n dX3_factOf_28 rfl rfl ?_
    refine y_getr dX3_factOf_29 gf_X3_9 hD.1 rfl ?_
    refine y_iload_n dX3_factOf_32 rfl rfl ?_
    refine y_ialdN dX3_factOf_33 hD.2.1 rfl (by first | omega | decide) (by decide) ?_
    refine y_goto (tgt := 61) dX3_factOf_34 (by decide) ?_
    refine y_ireturn dX3_factOf_61 rfl rfl ?_
    exact hQ
  · refine y_iload_n dX3_factOf_0 rfl rfl ?_
    refine y_tabIn (tgt := 37) (off := 36) dX3_factOf_1 (by decide) (by decide) rfl (by decide) ?_
    refine y_aload_n dX3_factOf_37 rfl rfl ?_
    refine y_getr dX3_factOf_38 gf_X3_15 hD.1 rfl ?_
    refine y_iload_n dX3_factOf_41 rfl rfl ?_
    refine y_ialdN dX3_factOf_42 hD.2.2.1 rfl (by first | omega | decide) (by decide) ?_
    refine y_goto (tgt := 61) dX3_factOf_43 (by decide) ?_
    refine y_ireturn dX3_factOf_61 rfl rfl ?_
    exact hQ
  · refine y_iload_n dX3_factOf_0 rfl rfl ?_
    refine y_tabIn (tgt := 46) (off := 45) dX3_factOf_1 (by decide) (by decide) rfl (by decide) ?_
    refine y_aload_n dX3_factOf_46 rfl rfl ?_
    refine y_getr dX3_factOf_47 gf_X3_18 hD.1 rfl ?_
    refine y_iload_n dX3_factOf_50 rfl rfl ?_
    refine y_ialdN dX3_factOf_51 hD.2.2.2.1 rfl (by first | omega | decide) (by decide) ?_
    refine y_goto (tgt := 61) dX3_factOf_52 (by decide) ?_
    refine y_ireturn dX3_factOf_61 rfl rfl ?_
    exact hQ
  · refine y_iload_n dX3_factOf_0 rfl rfl ?_
    refine y_tabOut (tgt := 55) dX3_factOf_1 (by decide) (by decide) ?_
    refine y_aload_n dX3_factOf_55 rfl rfl ?_
    refine y_getr dX3_factOf_56 gf_X3_21 hD.1 rfl ?_
    refine y_iload_n dX3_factOf_59 rfl rfl ?_
    refine y_ialdN dX3_factOf_60 hD.2.2.2.2.1 rfl (by first | omega | decide) (by decide) ?_
    refine y_ireturn dX3_factOf_61 rfl rfl ?_
    exact hQ
set_option maxHeartbeats 1000000 in
theorem c_X3_isOfKind {L : Nat} {xs : Nat → Int32} {d : Nat} {m : sM} {n : sN} {Q : sQ} {D0 k : Nat} {c0 kd : Int32} (hD : isFs D0) (hc0 : c0 = nI k) (hk : k < 24) (hQ1 : ofKind (m (D0 + 1) k) kd → Q (some (.int 1)) m n) (hQ0 : ¬ ofKind (m (D0 + 1) k) kd → Q (some (.int 0)) m n) : sRun (scT L xs) (d + 1) yX3_isOfKind cX3_isOfKind 4 (some .boolean) [.ref D0, .int c0, .int kd] m n Q := by
  subst hc0
  refine y_run (own := "LoafFall$Falls") rfl (by decide +kernel) (Nat.le_of_ble_eq_true rfl) rfl ?_
  refine y_aload_n dX3_isOfKind_0 rfl rfl ?_
  refine y_getr dX3_isOfKind_1 gf_X3_9 hD.1 rfl ?_
  refine y_iload_n dX3_isOfKind_4 rfl rfl ?_
  refine y_ialdN dX3_isOfKind_5 hD.2.1 rfl (by first | omega | decide) (by decide) ?_
  refine y_ist4_3 dX3_isOfKind_6 rfl ?_
  refine y_iload_n dX3_isOfKind_7 rfl rfl ?_
  refine y_iload_n dX3_isOfKind_8 rfl rfl ?_
  refine y_icmp_eq (tgt := 33) dX3_isOfKind_9 (by decide) (fun h9 => ?_) (fun h9 => ?_)
  · refine y_iconst (v := 1) dX3_isOfKind_33 (by decide) ?_
    refine y_goto (tgt := 38) dX3_isOfKind_34 (by decide) ?_
    refine y_ireturn dX3_isOfKind_38 rfl rfl ?_
    unfold ofKind at hQ1 hQ0
    first
      | exact hQ1 (Or.inl h9)
      | exact hQ1 (Or.inr (Or.inl ⟨h15, h20⟩))
      | exact hQ1 (Or.inr (Or.inr ⟨h25, h30⟩))
      | exact hQ0 (fun z => z.elim h9 (fun z => z.elim (fun z => h15 z.1) (fun z => h25 z.1)))
      | exact hQ0 (fun z => z.elim h9 (fun z => z.elim (fun z => h15 z.1) (fun z => h30 z.2)))
      | exact hQ0 (fun z => z.elim h9 (fun z => z.elim (fun z => h20 z.2) (fun z => h25 z.1)))
      | exact hQ0 (fun z => z.elim h9 (fun z => z.elim (fun z => h20 z.2) (fun z => h30 z.2)))
  · refine y_iload_n dX3_isOfKind_12 rfl rfl ?_
    refine y_bipush (v := 6) dX3_isOfKind_13 (by decide) ?_
    refine y_icmp_ne (tgt := 23) dX3_isOfKind_15 (by decide) (fun h15 => ?_) (fun h15 => ?_)
    · refine y_iload_n dX3_isOfKind_23 rfl rfl ?_
      refine y_iconst (v := 5) dX3_isOfKind_24 (by decide) ?_
      refine y_icmp_ne (tgt := 37) dX3_isOfKind_25 (by decide) (fun h25 => ?_) (fun h25 => ?_)
      · refine y_iconst (v := 0) dX3_isOfKind_37 (by decide) ?_
        refine y_ireturn dX3_isOfKind_38 rfl rfl ?_
        unfold ofKind at hQ1 hQ0
        first
          | exact hQ1 (Or.inl h9)
          | exact hQ1 (Or.inr (Or.inl ⟨h15, h20⟩))
          | exact hQ1 (Or.inr (Or.inr ⟨h25, h30⟩))
          | exact hQ0 (fun z => z.elim h9 (fun z => z.elim (fun z => h15 z.1) (fun z => h25 z.1)))
          | exact hQ0 (fun z => z.elim h9 (fun z => z.elim (fun z => h15 z.1) (fun z => h30 z.2)))
          | exact hQ0 (fun z => z.elim h9 (fun z => z.elim (fun z => h20 z.2) (fun z => h25 z.1)))
          | exact hQ0 (fun z => z.elim h9 (fun z => z.elim (fun z => h20 z.2) (fun z => h30 z.2)))
      · refine y_iload_n dX3_isOfKind_28 rfl rfl ?_
        refine y_iconst (v := 4) dX3_isOfKind_29 (by decide) ?_
        refine y_icmp_ne (tgt := 37) dX3_isOfKind_30 (by decide) (fun h30 => ?_) (fun h30 => ?_)
        · refine y_iconst (v := 0) dX3_isOfKind_37 (by decide) ?_
          refine y_ireturn dX3_isOfKind_38 rfl rfl ?_
          unfold ofKind at hQ1 hQ0
          first
            | exact hQ1 (Or.inl h9)
            | exact hQ1 (Or.inr (Or.inl ⟨h15, h20⟩))
            | exact hQ1 (Or.inr (Or.inr ⟨h25, h30⟩))
            | exact hQ0 (fun z => z.elim h9 (fun z => z.elim (fun z => h15 z.1) (fun z => h25 z.1)))
            | exact hQ0 (fun z => z.elim h9 (fun z => z.elim (fun z => h15 z.1) (fun z => h30 z.2)))
            | exact hQ0 (fun z => z.elim h9 (fun z => z.elim (fun z => h20 z.2) (fun z => h25 z.1)))
            | exact hQ0 (fun z => z.elim h9 (fun z => z.elim (fun z => h20 z.2) (fun z => h30 z.2)))
        · refine y_iconst (v := 1) dX3_isOfKind_33 (by decide) ?_
          refine y_goto (tgt := 38) dX3_isOfKind_34 (by decide) ?_
          refine y_ireturn dX3_isOfKind_38 rfl rfl ?_
          unfold ofKind at hQ1 hQ0
          first
            | exact hQ1 (Or.inl h9)
            | exact hQ1 (Or.inr (Or.inl ⟨h15, h20⟩))
            | exact hQ1 (Or.inr (Or.inr ⟨h25, h30⟩))
            | exact hQ0 (fun z => z.elim h9 (fun z => z.elim (fun z => h15 z.1) (fun z => h25 z.1)))
            | exact hQ0 (fun z => z.elim h9 (fun z => z.elim (fun z => h15 z.1) (fun z => h30 z.2)))
            | exact hQ0 (fun z => z.elim h9 (fun z => z.elim (fun z => h20 z.2) (fun z => h25 z.1)))
            | exact hQ0 (fun z => z.elim h9 (fun z => z.elim (fun z => h20 z.2) (fun z => h30 z.2)))
    · refine y_iload_n dX3_isOfKind_18 rfl rfl ?_
      refine y_iconst (v := 1) dX3_isOfKind_19 (by decide) ?_
      refine y_icmp_eq (tgt := 33) dX3_isOfKind_20 (by decide) (fun h20 => ?_) (fun h20 => ?_)
      · refine y_iconst (v := 1) dX3_isOfKind_33 (by decide) ?_
        refine y_goto (tgt := 38) dX3_isOfKind_34 (by decide) ?_
        refine y_ireturn dX3_isOfKind_38 rfl rfl ?_
        unfold ofKind at hQ1 hQ0
        first
          | exact hQ1 (Or.inl h9)
          | exact hQ1 (Or.inr (Or.inl ⟨h15, h20⟩))
          | exact hQ1 (Or.inr (Or.inr ⟨h25, h30⟩))
          | exact hQ0 (fun z => z.elim h9 (fun z => z.elim (fun z => h15 z.1) (fun z => h25 z.1)))
          | exact hQ0 (fun z => z.elim h9 (fun z => z.elim (fun z => h15 z.1) (fun z => h30 z.2)))
          | exact hQ0 (fun z => z.elim h9 (fun z => z.elim (fun z => h20 z.2) (fun z => h25 z.1)))
          | exact hQ0 (fun z => z.elim h9 (fun z => z.elim (fun z => h20 z.2) (fun z => h30 z.2)))
      · refine y_iload_n dX3_isOfKind_23 rfl rfl ?_
        refine y_iconst (v := 5) dX3_isOfKind_24 (by decide) ?_
        refine y_icmp_ne (tgt := 37) dX3_isOfKind_25 (by decide) (fun h25 => ?_) (fun h25 => ?_)
        · refine y_iconst (v := 0) dX3_isOfKind_37 (by decide) ?_
          refine y_ireturn dX3_isOfKind_38 rfl rfl ?_
          unfold ofKind at hQ1 hQ0
          first
            | exact hQ1 (Or.inl h9)
            | exact hQ1 (Or.inr (Or.inl ⟨h15, h20⟩))
            | exact hQ1 (Or.inr (Or.inr ⟨h25, h30⟩))
            | exact hQ0 (fun z => z.elim h9 (fun z => z.elim (fun z => h15 z.1) (fun z => h25 z.1)))
            | exact hQ0 (fun z => z.elim h9 (fun z => z.elim (fun z => h15 z.1) (fun z => h30 z.2)))
            | exact hQ0 (fun z => z.elim h9 (fun z => z.elim (fun z => h20 z.2) (fun z => h25 z.1)))
            | exact hQ0 (fun z => z.elim h9 (fun z => z.elim (fun z => h20 z.2) (fun z => h30 z.2)))
        · refine y_iload_n dX3_isOfKind_28 rfl rfl ?_
          refine y_iconst (v := 4) dX3_isOfKind_29 (by decide) ?_
          refine y_icmp_ne (tgt := 37) dX3_isOfKind_30 (by decide) (fun h30 => ?_) (fun h30 => ?_)
          · refine y_iconst (v := 0) dX3_isOfKind_37 (by decide) ?_
            refine y_ireturn dX3_isOfKind_38 rfl rfl ?_
            unfold ofKind at hQ1 hQ0
            first
              | exact hQ1 (Or.inl h9)
              | exact hQ1 (Or.inr (Or.inl ⟨h15, h20⟩))
              | exact hQ1 (Or.inr (Or.inr ⟨h25, h30⟩))
              | exact hQ0 (fun z => z.elim h9 (fun z => z.elim (fun z => h15 z.1) (fun z => h25 z.1)))
              | exact hQ0 (fun z => z.elim h9 (fun z => z.elim (fun z => h15 z.1) (fun z => h30 z.2)))
              | exact hQ0 (fun z => z.elim h9 (fun z => z.elim (fun z => h20 z.2) (fun z => h25 z.1)))
              | exact hQ0 (fun z => z.elim h9 (fun z => z.elim (fun z => h20 z.2) (fun z => h30 z.2)))
          · refine y_iconst (v := 1) dX3_isOfKind_33 (by decide) ?_
            refine y_goto (tgt := 38) dX3_isOfKind_34 (by decide) ?_
            refine y_ireturn dX3_isOfKind_38 rfl rfl ?_
            unfold ofKind at hQ1 hQ0
            first
              | exact hQ1 (Or.inl h9)
              | exact hQ1 (Or.inr (Or.inl ⟨h15, h20⟩))
              | exact hQ1 (Or.inr (Or.inr ⟨h25, h30⟩))
              | exact hQ0 (fun z => z.elim h9 (fun z => z.elim (fun z => h15 z.1) (fun z => h25 z.1)))
              | exact hQ0 (fun z => z.elim h9 (fun z => z.elim (fun z => h15 z.1) (fun z => h30 z.2)))
              | exact hQ0 (fun z => z.elim h9 (fun z => z.elim (fun z => h20 z.2) (fun z => h25 z.1)))
              | exact hQ0 (fun z => z.elim h9 (fun z => z.elim (fun z => h20 z.2) (fun z => h30 z.2)))
set_option maxHeartbeats 1000000 in
theorem c_X6_countUndone {L : Nat} {xs : Nat → Int32} {d : Nat} {m : sM} {n : sN} {Q : sQ} {L0 q : Nat} (hL : isLf L0) (hq : m (L0 + 7) 5 = nI q) (hq2 : q ≤ 24) (hQ : Q (some (.int (undS (m (L0 + 14)) q))) m n) : sRun (scT L xs) (d + 2) yX6_countUndone cX6_countUndone 3 (some .int) [.ref L0] m n Q := by
  refine y_run (own := "LoafFall$Loaf") rfl (by decide +kernel) (Nat.le_of_ble_eq_true rfl) rfl ?_
  refine y_iconst (v := 0) dX6_countUndone_0 (by decide) ?_
  refine y_ist3_1 dX6_countUndone_1 rfl ?_
  refine y_iconst (v := 0) dX6_countUndone_2 (by decide) ?_
  refine y_ist3_2 dX6_countUndone_3 rfl ?_
  refine cnt (P := fun k => sV (scT L xs) (d + 1) "LoafFall$Loaf" cX6_countUndone 3 (some .int) Q 4 [some (.ref L0), some (.int (undS (m (L0 + 14)) k)), some (.int (nI k))] [] m n) q ?_ ?_ 0 (by omega)
  · refine y_iload_n dX6_countUndone_4 rfl rfl ?_
    refine y_aload_n dX6_countUndone_5 rfl rfl ?_
    refine y_getr dX6_countUndone_6 gf_X6_28 hL.1 rfl ?_
    refine y_geti dX6_countUndone_9 gf_X6_64 hL.2.2.2.1.1 rfl ?_
    rw [hq]
    refine y_icmp_ge (tgt := 41) dX6_countUndone_12 (by decide) (fun h12 => ?_) (fun h12 => absurd (nI_le (a := q) (b := q) (Nat.le_refl _) (by omega)) h12)
    refine y_iload_n dX6_countUndone_41 rfl rfl ?_
    refine y_ireturn dX6_countUndone_42 rfl rfl ?_
    exact hQ
  · intro k hk hP
    refine y_iload_n dX6_countUndone_4 rfl rfl ?_
    refine y_aload_n dX6_countUndone_5 rfl rfl ?_
    refine y_getr dX6_countUndone_6 gf_X6_28 hL.1 rfl ?_
    refine y_geti dX6_countUndone_9 gf_X6_64 hL.2.2.2.1.1 rfl ?_
    rw [hq]
    refine y_icmp_ge (tgt := 41) dX6_countUndone_12 (by decide) (fun h12 => absurd h12 (nI_ge (a := k) (b := q) hk (by omega))) (fun h12 => ?_)
    refine y_iload_n dX6_countUndone_15 rfl rfl ?_
    refine y_aload_n dX6_countUndone_16 rfl rfl ?_
    refine y_getr dX6_countUndone_17 gf_X6_35 hL.1 rfl ?_
    refine y_iload_n dX6_countUndone_20 rfl rfl ?_
    refine y_iconst (v := 4) dX6_countUndone_21 (by decide) ?_
    refine y_ivI2 dX6_countUndone_22 mv_X6_68 my_X3_isOfKind (Or.inl rfl) hL.2.2.2.2.1 ?_
    refine c_X3_isOfKind (k := k) hL.2.2.2.2 rfl (by omega) (fun hk1 => ⟨_, rfl, ?_⟩) (fun hk1 => ⟨_, rfl, ?_⟩)
    · have hu : m (L0 + 14) k = 4 ∨ m (L0 + 14) k = 5 := hk1.elim Or.inl (fun z => z.elim (fun z => absurd z.2 (by decide)) (fun z => Or.inr z.1))
      refine y_if_eq (tgt := 32) dX6_countUndone_25 (by decide) (fun h25 => absurd h25 (by decide)) (fun h25 => ?_)
      refine y_iconst (v := 1) dX6_countUndone_28 (by decide) ?_
      refine y_goto (tgt := 33) dX6_countUndone_29 (by decide) ?_
      refine y_iadd dX6_countUndone_33 ?_
      refine y_ist3_1 dX6_countUndone_34 rfl ?_
      refine y_iinc3_2 dX6_countUndone_35 (nI_1 _) rfl ?_
      refine y_goto (tgt := 4) dX6_countUndone_38 (by decide) ?_
      first
        | (rw [show undS (m (L0 + 14)) (k + 1) = undS (m (L0 + 14)) k + 1 from by rw [undS, if_pos hu]] at hP; exact hP)
        | (rw [show undS (m (L0 + 14)) (k + 1) = undS (m (L0 + 14)) k + 0 from by rw [undS, if_neg hu]] at hP; exact hP)
    · have hu : ¬ (m (L0 + 14) k = 4 ∨ m (L0 + 14) k = 5) := fun z => hk1 (z.elim Or.inl (fun z => Or.inr (Or.inr ⟨z, rfl⟩)))
      refine y_if_eq (tgt := 32) dX6_countUndone_25 (by decide) (fun h25 => ?_) (fun h25 => absurd (by decide) h25)
      refine y_iconst (v := 0) dX6_countUndone_32 (by decide) ?_
      refine y_iadd dX6_countUndone_33 ?_
      refine y_ist3_1 dX6_countUndone_34 rfl ?_
      refine y_iinc3_2 dX6_countUndone_35 (nI_1 _) rfl ?_
      refine y_goto (tgt := 4) dX6_countUndone_38 (by decide) ?_
      first
        | (rw [show undS (m (L0 + 14)) (k + 1) = undS (m (L0 + 14)) k + 1 from by rw [undS, if_pos hu]] at hP; exact hP)
        | (rw [show undS (m (L0 + 14)) (k + 1) = undS (m (L0 + 14)) k + 0 from by rw [undS, if_neg hu]] at hP; exact hP)
