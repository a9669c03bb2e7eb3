/-! ===== taking and starting ===== -/
def FlT (m m' : sM) (a b : Nat) : Prop := (∀ c, c ≠ a → c ≠ a + 1 → m' c = m c) ∧ (∀ i, i < 5 → m' (a + 1) i = m (b + 1) i) ∧ m' a 1 = m b 1
def DgT (m m' : sM) (a b s : Nat) : Prop := (∀ c, c < a ∨ a + 4 ≤ c → m' c = m c) ∧ (∀ i, i < s → m' (a + 1) i = m (b + 1) i ∧ m' (a + 2) i = m (b + 2) i ∧ m' (a + 3) i = m (b + 3) i) ∧ m' a 3 = m b 3 ∧ m' a 4 = m b 4
def DhT (m m' : sM) (a b : Nat) : Prop := (∀ c, c < a ∨ a + 6 ≤ c → m' c = m c) ∧ (∀ k, k < 24 → m' (a + 1) k = m (b + 1) k ∧ m' (a + 2) k = m (b + 2) k ∧ m' (a + 3) k = m (b + 3) k ∧ m' (a + 4) k = m (b + 4) k ∧ m' (a + 5) k = m (b + 5) k) ∧ m' a 5 = m b 5 ∧ m' a 6 = m b 6 ∧ m' a 7 = m b 7 ∧ m' a 8 = m b 8 ∧ m' a 9 = m b 9
def FsT (m m' : sM) (a b : Nat) : Prop := (∀ c, c < a + 1 ∨ a + 6 ≤ c → m' c = m c) ∧ (∀ k, k < 24 → m' (a + 1) k = m (b + 1) k ∧ m' (a + 2) k = m (b + 2) k ∧ m' (a + 3) k = m (b + 3) k ∧ m' (a + 4) k = m (b + 4) k ∧ m' (a + 5) k = m (b + 5) k)
theorem bnar {x : Int32} (h : x = 0 ∨ x = 1) : narrow .boolean (.int x) = .int x := by
  rcases h with e | e <;> rw [e] <;> rfl
theorem bfit {x : Int32} (h : x = 0 ∨ x = 1) : fits .boolean (.int x) = true := by
  rcases h with e | e <;> rw [e] <;> rfl
theorem cpy0 {f g : Nat → Int32} {u k : Nat} (h : k < u) : va_cpy f g 0 0 u k = f k := by
  rw [pk_cpy_in (by omega) (by omega)]
  exact congrArg f (by omega)
set_option maxHeartbeats 1000000 in
theorem c_X4_take {L : Nat} {xs : Nat → Int32} {d : Nat} {m : sM} {n : sN} {Q : sQ} {F0 F1 : Nat} (hF : isFl F0) (hG : isFl F1) (hd : F0 + 2 ≤ F1 ∨ F1 + 2 ≤ F0) (hb : m F1 1 = 0 ∨ m F1 1 = 1) (hQ : ∀ m', FlT m m' F0 F1 → Q none m' n) : sRun (scT L xs) (d + 1) yX4_take cX4_take 2 none [.ref F0, .ref F1] m n Q := by
  refine y_run (own := "LoafFall$Flour") rfl (by decide +kernel) (Nat.le_of_ble_eq_true rfl) rfl ?_
  refine y_aload_n dX4_take_0 rfl rfl ?_
  refine y_getr dX4_take_1 gf_X4_9 hG.1 rfl ?_
  refine y_iconst (v := 0) dX4_take_4 (by decide) ?_
  refine y_aload_n dX4_take_5 rfl rfl ?_
  refine y_getr dX4_take_6 gf_X4_9 hF.1 rfl ?_
  refine y_iconst (v := 0) dX4_take_9 (by decide) ?_
  refine y_iconst (v := 5) dX4_take_10 (by decide) ?_
  refine y_copyN dX4_take_11 cp_X4_18 hG.2 hF.2 rfl rfl rfl (by omega) (by omega) (by decide) (s := 0) (t := 0) (u := 5) ?_
  refine y_aload_n dX4_take_14 rfl rfl ?_
  refine y_aload_n dX4_take_15 rfl rfl ?_
  refine y_geti dX4_take_16 gf_X4_24 hG.1 rfl ?_
  rw [s_upN (show F1 ≠ F0 + 1 by omega)]
  refine y_puti dX4_take_19 pf_X4_24 hF.1 rfl (bnar hb) (bfit hb) ?_
  refine y_return dX4_take_22 rfl ?_
  refine hQ _ ⟨fun c h1 h2 => ?_, fun i hi => ?_, ?_⟩
  · repeat (first | rw [s_upS] | rw [s_upN (by omega)] | rw [updS] | rw [updN (by omega)] | rw [cpy0 (by omega)])
  · repeat (first | rw [s_upS] | rw [s_upN (by omega)] | rw [updS] | rw [updN (by omega)] | rw [cpy0 (by omega)])
  · repeat (first | rw [s_upS] | rw [s_upN (by omega)] | rw [updS] | rw [updN (by omega)] | rw [cpy0 (by omega)])
set_option maxHeartbeats 1000000 in
theorem c_X1_take {L : Nat} {xs : Nat → Int32} {d : Nat} {m : sM} {n : sN} {Q : sQ} {F0 F1 s : Nat} (hF : isDg F0) (hG : isDg F1) (hd : F0 + 4 ≤ F1 ∨ F1 + 4 ≤ F0) (hs : m F1 3 = nI s) (hs2 : s ≤ 10) (hb : m F1 4 = 0 ∨ m F1 4 = 1) (hQ : ∀ m', DgT m m' F0 F1 s → Q none m' n) : sRun (scT L xs) (d + 1) yX1_take cX1_take 2 none [.ref F0, .ref F1] m n Q := by
  refine y_run (own := "LoafFall$Doing") rfl (by decide +kernel) (Nat.le_of_ble_eq_true rfl) rfl ?_
  refine y_aload_n dX1_take_0 rfl rfl ?_
  refine y_getr dX1_take_1 gf_X1_9 hG.1 rfl ?_
  refine y_iconst (v := 0) dX1_take_4 (by decide) ?_
  refine y_aload_n dX1_take_5 rfl rfl ?_
  refine y_getr dX1_take_6 gf_X1_9 hF.1 rfl ?_
  refine y_iconst (v := 0) dX1_take_9 (by decide) ?_
  refine y_aload_n dX1_take_10 rfl rfl ?_
  refine y_geti dX1_take_11 gf_X1_21 hG.1 rfl ?_
  refine y_copyN dX1_take_14 cp_X1_25 hG.2.1 hF.2.1 rfl rfl hs (by omega) (by omega) (by decide) (s := 0) (t := 0) (u := s) ?_
  refine y_aload_n dX1_take_17 rfl rfl ?_
  refine y_getr dX1_take_18 gf_X1_15 hG.1 rfl ?_
  refine y_iconst (v := 0) dX1_take_21 (by decide) ?_
  refine y_aload_n dX1_take_22 rfl rfl ?_
  refine y_getr dX1_take_23 gf_X1_15 hF.1 rfl ?_
  refine y_iconst (v := 0) dX1_take_26 (by decide) ?_
  refine y_aload_n dX1_take_27 rfl rfl ?_
  refine y_geti dX1_take_28 gf_X1_21 hG.1 rfl ?_
  rw [s_upN (show F1 ≠ F0 + 1 by omega)]
  refine y_copyN dX1_take_31 cp_X1_25 hG.2.2.1 hF.2.2.1 rfl rfl hs (by omega) (by omega) (by decide) (s := 0) (t := 0) (u := s) ?_
  refine y_aload_n dX1_take_34 rfl rfl ?_
  refine y_getr dX1_take_35 gf_X1_18 hG.1 rfl ?_
  refine y_iconst (v := 0) dX1_take_38 (by decide) ?_
  refine y_aload_n dX1_take_39 rfl rfl ?_
  refine y_getr dX1_take_40 gf_X1_18 hF.1 rfl ?_
  refine y_iconst (v := 0) dX1_take_43 (by decide) ?_
  refine y_aload_n dX1_take_44 rfl rfl ?_
  refine y_geti dX1_take_45 gf_X1_21 hG.1 rfl ?_
  rw [s_upN (show F1 ≠ F0 + 2 by omega), s_upN (show F1 ≠ F0 + 1 by omega)]
  refine y_copyN dX1_take_48 cp_X1_25 hG.2.2.2 hF.2.2.2 rfl rfl hs (by omega) (by omega) (by decide) (s := 0) (t := 0) (u := s) ?_
  refine y_aload_n dX1_take_51 rfl rfl ?_
  refine y_aload_n dX1_take_52 rfl rfl ?_
  refine y_geti dX1_take_53 gf_X1_21 hG.1 rfl ?_
  rw [s_upN (show F1 ≠ F0 + 3 by omega), s_upN (show F1 ≠ F0 + 2 by omega), s_upN (show F1 ≠ F0 + 1 by omega)]
  refine y_puti dX1_take_56 pf_X1_21 hF.1 rfl rfl rfl ?_
  refine y_aload_n dX1_take_59 rfl rfl ?_
  refine y_aload_n dX1_take_60 rfl rfl ?_
  refine y_geti dX1_take_61 gf_X1_31 hG.1 rfl ?_
  rw [s_upN (show F1 ≠ F0 by omega), s_upN (show F1 ≠ F0 + 3 by omega), s_upN (show F1 ≠ F0 + 2 by omega), s_upN (show F1 ≠ F0 + 1 by omega)]
  refine y_puti dX1_take_64 pf_X1_31 hF.1 rfl (bnar hb) (bfit hb) ?_
  refine y_return dX1_take_67 rfl ?_
  refine hQ _ ⟨fun c h1 => ?_, fun i hi => ⟨?_, ?_, ?_⟩, ?_, ?_⟩
  · repeat (first | rw [s_upS] | rw [s_upN (by omega)] | rw [updS] | rw [updN (by omega)] | rw [cpy0 (by omega)])
  · repeat (first | rw [s_upS] | rw [s_upN (by omega)] | rw [updS] | rw [updN (by omega)] | rw [cpy0 (by omega)])
  · repeat (first | rw [s_upS] | rw [s_upN (by omega)] | rw [updS] | rw [updN (by omega)] | rw [cpy0 (by omega)])
  · repeat (first | rw [s_upS] | rw [s_upN (by omega)] | rw [updS] | rw [updN (by omega)] | rw [cpy0 (by omega)])
  · repeat (first | rw [s_upS] | rw [s_upN (by omega)] | rw [updS] | rw [updN (by omega)] | rw [cpy0 (by omega)])
  · repeat (first | rw [s_upS] | rw [s_upN (by omega)] | rw [updS] | rw [updN (by omega)] | rw [cpy0 (by omega)])
set_option maxHeartbeats 1000000 in
theorem c_X2_take {L : Nat} {xs : Nat → Int32} {d : Nat} {m : sM} {n : sN} {Q : sQ} {F0 F1 : Nat} (hF : isDh F0) (hG : isDh F1) (hd : F0 + 6 ≤ F1 ∨ F1 + 6 ≤ F0) (hb : m F1 9 = 0 ∨ m F1 9 = 1) (hQ : ∀ m', DhT m m' F0 F1 → Q none m' n) : sRun (scT L xs) (d + 1) yX2_take cX2_take 2 none [.ref F0, .ref F1] m n Q := by
  refine y_run (own := "LoafFall$Dough") rfl (by decide +kernel) (Nat.le_of_ble_eq_true rfl) rfl ?_
  refine y_aload_n dX2_take_0 rfl rfl ?_
  refine y_getr dX2_take_1 gf_X2_9 hG.1 rfl ?_
  refine y_iconst (v := 0) dX2_take_4 (by decide) ?_
  refine y_aload_n dX2_take_5 rfl rfl ?_
  refine y_getr dX2_take_6 gf_X2_9 hF.1 rfl ?_
  refine y_iconst (v := 0) dX2_take_9 (by decide) ?_
  refine y_bipush (v := 24) dX2_take_10 (by decide) ?_
  refine y_copyN dX2_take_12 cp_X2_44 hG.2.1 hF.2.1 rfl rfl rfl (by omega) (by omega) (by decide) (s := 0) (t := 0) (u := 24) ?_
  refine y_aload_n dX2_take_15 rfl rfl ?_
  refine y_getr dX2_take_16 gf_X2_15 hG.1 rfl ?_
  refine y_iconst (v := 0) dX2_take_19 (by decide) ?_
  refine y_aload_n dX2_take_20 rfl rfl ?_
  refine y_getr dX2_take_21 gf_X2_15 hF.1 rfl ?_
  refine y_iconst (v := 0) dX2_take_24 (by decide) ?_
  refine y_bipush (v := 24) dX2_take_25 (by decide) ?_
  refine y_copyN dX2_take_27 cp_X2_44 hG.2.2.1 hF.2.2.1 rfl rfl rfl (by omega) (by omega) (by decide) (s := 0) (t := 0) (u := 24) ?_
  refine y_aload_n dX2_take_30 rfl rfl ?_
  refine y_getr dX2_take_31 gf_X2_18 hG.1 rfl ?_
  refine y_iconst (v := 0) dX2_take_34 (by decide) ?_
  refine y_aload_n dX2_take_35 rfl rfl ?_
  refine y_getr dX2_take_36 gf_X2_18 hF.1 rfl ?_
  refine y_iconst (v := 0) dX2_take_39 (by decide) ?_
  refine y_bipush (v := 24) dX2_take_40 (by decide) ?_
  refine y_copyN dX2_take_42 cp_X2_44 hG.2.2.2.1 hF.2.2.2.1 rfl rfl rfl (by omega) (by omega) (by decide) (s := 0) (t := 0) (u := 24) ?_
  refine y_aload_n dX2_take_45 rfl rfl ?_
  refine y_getr dX2_take_46 gf_X2_21 hG.1 rfl ?_
  refine y_iconst (v := 0) dX2_take_49 (by decide) ?_
  refine y_aload_n dX2_take_50 rfl rfl ?_
  refine y_getr dX2_take_51 gf_X2_21 hF.1 rfl ?_
  refine y_iconst (v := 0) dX2_take_54 (by decide) ?_
  refine y_bipush (v := 24) dX2_take_55 (by decide) ?_
  refine y_copyN dX2_take_57 cp_X2_44 hG.2.2.2.2.1 hF.2.2.2.2.1 rfl rfl rfl (by omega) (by omega) (by decide) (s := 0) (t := 0) (u := 24) ?_
  refine y_aload_n dX2_take_60 rfl rfl ?_
  refine y_getr dX2_take_61 gf_X2_24 hG.1 rfl ?_
  refine y_iconst (v := 0) dX2_take_64 (by decide) ?_
  refine y_aload_n dX2_take_65 rfl rfl ?_
  refine y_getr dX2_take_66 gf_X2_24 hF.1 rfl ?_
  refine y_iconst (v := 0) dX2_take_69 (by decide) ?_
  refine y_bipush (v := 24) dX2_take_70 (by decide) ?_
  refine y_copyN dX2_take_72 cp_X2_44 hG.2.2.2.2.2 hF.2.2.2.2.2 rfl rfl rfl (by omega) (by omega) (by decide) (s := 0) (t := 0) (u := 24) ?_
  refine y_aload_n dX2_take_75 rfl rfl ?_
  refine y_aload_n dX2_take_76 rfl rfl ?_
  refine y_geti dX2_take_77 gf_X2_27 hG.1 rfl ?_
  rw [s_upN (show F1 ≠ F0 + 5 by omega), s_upN (show F1 ≠ F0 + 4 by omega), s_upN (show F1 ≠ F0 + 3 by omega), s_upN (show F1 ≠ F0 + 2 by omega), s_upN (show F1 ≠ F0 + 1 by omega)]
  refine y_puti dX2_take_80 pf_X2_27 hF.1 rfl rfl rfl ?_
  refine y_aload_n dX2_take_83 rfl rfl ?_
  refine y_aload_n dX2_take_84 rfl rfl ?_
  refine y_geti dX2_take_85 gf_X2_31 hG.1 rfl ?_
  rw [s_upN (show F1 ≠ F0 by omega), s_upN (show F1 ≠ F0 + 5 by omega), s_upN (show F1 ≠ F0 + 4 by omega), s_upN (show F1 ≠ F0 + 3 by omega), s_upN (show F1 ≠ F0 + 2 by omega), s_upN (show F1 ≠ F0 + 1 by omega)]
  refine y_puti dX2_take_88 pf_X2_31 hF.1 rfl rfl rfl ?_
  refine y_aload_n dX2_take_91 rfl rfl ?_
  refine y_aload_n dX2_take_92 rfl rfl ?_
  refine y_geti dX2_take_93 gf_X2_34 hG.1 rfl ?_
  rw [s_upN (show F1 ≠ F0 by omega), s_upN (show F1 ≠ F0 by omega), s_upN (show F1 ≠ F0 + 5 by omega), s_upN (show F1 ≠ F0 + 4 by omega), s_upN (show F1 ≠ F0 + 3 by omega), s_upN (show F1 ≠ F0 + 2 by omega), s_upN (show F1 ≠ F0 + 1 by omega)]
  refine y_puti dX2_take_96 pf_X2_34 hF.1 rfl rfl rfl ?_
  refine y_aload_n dX2_take_99 rfl rfl ?_
  refine y_aload_n dX2_take_100 rfl rfl ?_
  refine y_geti dX2_take_101 gf_X2_37 hG.1 rfl ?_
  rw [s_upN (show F1 ≠ F0 by omega), s_upN (show F1 ≠ F0 by omega), s_upN (show F1 ≠ F0 by omega), s_upN (show F1 ≠ F0 + 5 by omega), s_upN (show F1 ≠ F0 + 4 by omega), s_upN (show F1 ≠ F0 + 3 by omega), s_upN (show F1 ≠ F0 + 2 by omega), s_upN (show F1 ≠ F0 + 1 by omega)]
  refine y_puti dX2_take_104 pf_X2_37 hF.1 rfl rfl rfl ?_
  refine y_aload_n dX2_take_107 rfl rfl ?_
  refine y_aload_n dX2_take_108 rfl rfl ?_
  refine y_geti dX2_take_109 gf_X2_40 hG.1 rfl ?_
  rw [s_upN (show F1 ≠ F0 by omega), s_upN (show F1 ≠ F0 by omega), s_upN (show F1 ≠ F0 by omega), s_upN (show F1 ≠ F0 by omega), s_upN (show F1 ≠ F0 + 5 by omega), s_upN (show F1 ≠ F0 + 4 by omega), s_upN (show F1 ≠ F0 + 3 by omega), s_upN (show F1 ≠ F0 + 2 by omega), s_upN (show F1 ≠ F0 + 1 by omega)]
  refine y_puti dX2_take_112 pf_X2_40 hF.1 rfl (bnar hb) (bfit hb) ?_
  refine y_return dX2_take_115 rfl ?_
  refine hQ _ ⟨fun c h1 => ?_, fun i hi => ⟨?_, ?_, ?_, ?_, ?_⟩, ?_, ?_, ?_, ?_, ?_⟩
  · repeat (first | rw [s_upS] | rw [s_upN (by omega)] | rw [updS] | rw [updN (by omega)] | rw [cpy0 (by omega)])
  · repeat (first | rw [s_upS] | rw [s_upN (by omega)] | rw [updS] | rw [updN (by omega)] | rw [cpy0 (by omega)])
  · repeat (first | rw [s_upS] | rw [s_upN (by omega)] | rw [updS] | rw [updN (by omega)] | rw [cpy0 (by omega)])
  · repeat (first | rw [s_upS] | rw [s_upN (by omega)] | rw [updS] | rw [updN (by omega)] | rw [cpy0 (by omega)])
  · repeat (first | rw [s_upS] | rw [s_upN (by omega)] | rw [updS] | rw [updN (by omega)] | rw [cpy0 (by omega)])
  · repeat (first | rw [s_upS] | rw [s_upN (by omega)] | rw [updS] | rw [updN (by omega)] | rw [cpy0 (by omega)])
  · repeat (first | rw [s_upS] | rw [s_upN (by omega)] | rw [updS] | rw [updN (by omega)] | rw [cpy0 (by omega)])
  · repeat (first | rw [s_upS] | rw [s_upN (by omega)] | rw [updS] | rw [updN (by omega)] | rw [cpy0 (by omega)])
  · repeat (first | rw [s_upS] | rw [s_upN (by omega)] | rw [updS] | rw [updN (by omega)] | rw [cpy0 (by omega)])
  · repeat (first | rw [s_upS] | rw [s_upN (by omega)] | rw [updS] | rw [updN (by omega)] | rw [cpy0 (by omega)])
  · repeat (first | rw [s_upS] | rw [s_upN (by omega)] | rw [updS] | rw [updN (by omega)] | rw [cpy0 (by omega)])
set_option maxHeartbeats 1000000 in
theorem c_X3_take {L : Nat} {xs : Nat → Int32} {d : Nat} {m : sM} {n : sN} {Q : sQ} {F0 F1 : Nat} (hF : isFs F0) (hG : isFs F1) (hd : F0 + 6 ≤ F1 ∨ F1 + 6 ≤ F0) (hQ : ∀ m', FsT m m' F0 F1 → Q none m' n) : sRun (scT L xs) (d + 1) yX3_take cX3_take 2 none [.ref F0, .ref F1] m n Q := by
  refine y_run (own := "LoafFall$Falls") rfl (by decide +kernel) (Nat.le_of_ble_eq_true rfl) rfl ?_
  refine y_aload_n dX3_take_0 rfl rfl ?_
  refine y_getr dX3_take_1 gf_X3_9 hG.1 rfl ?_
  refine y_iconst (v := 0) dX3_take_4 (by decide) ?_
  refine y_aload_n dX3_take_5 rfl rfl ?_
  refine y_getr dX3_take_6 gf_X3_9 hF.1 rfl ?_
  refine y_iconst (v := 0) dX3_take_9 (by decide) ?_
  refine y_bipush (v := 24) dX3_take_10 (by decide) ?_
  refine y_copyN dX3_take_12 cp_X3_27 hG.2.1 hF.2.1 rfl rfl rfl (by omega) (by omega) (by decide) (s := 0) (t := 0) (u := 24) ?_
  refine y_aload_n dX3_take_15 rfl rfl ?_
  refine y_getr dX3_take_16 gf_X3_15 hG.1 rfl ?_
  refine y_iconst (v := 0) dX3_take_19 (by decide) ?_
  refine y_aload_n dX3_take_20 rfl rfl ?_
  refine y_getr dX3_take_21 gf_X3_15 hF.1 rfl ?_
  refine y_iconst (v := 0) dX3_take_24 (by decide) ?_
  refine y_bipush (v := 24) dX3_take_25 (by decide) ?_
  refine y_copyN dX3_take_27 cp_X3_27 hG.2.2.1 hF.2.2.1 rfl rfl rfl (by omega) (by omega) (by decide) (s := 0) (t := 0) (u := 24) ?_
  refine y_aload_n dX3_take_30 rfl rfl ?_
  refine y_getr dX3_take_31 gf_X3_18 hG.1 rfl ?_
  refine y_iconst (v := 0) dX3_take_34 (by decide) ?_
  refine y_aload_n dX3_take_35 rfl rfl ?_
  refine y_getr dX3_take_36 gf_X3_18 hF.1 rfl ?_
  refine y_iconst (v := 0) dX3_take_39 (by decide) ?_
  refine y_bipush (v := 24) dX3_take_40 (by decide) ?_
  refine y_copyN dX3_take_42 cp_X3_27 hG.2.2.2.1 hF.2.2.2.1 rfl rfl rfl (by omega) (by omega) (by decide) (s := 0) (t := 0) (u := 24) ?_
  refine y_aload_n dX3_take_45 rfl rfl ?_
  refine y_getr dX3_take_46 gf_X3_21 hG.1 rfl ?_
  refine y_iconst (v := 0) dX3_take_49 (by decide) ?_
  refine y_aload_n dX3_take_50 rfl rfl ?_
  refine y_getr dX3_take_51 gf_X3_21 hF.1 rfl ?_
  refine y_iconst (v := 0) dX3_take_54 (by decide) ?_
  refine y_bipush (v := 24) dX3_take_55 (by decide) ?_
  refine y_copyN dX3_take_57 cp_X3_27 hG.2.2.2.2.1 hF.2.2.2.2.1 rfl rfl rfl (by omega) (by omega) (by decide) (s := 0) (t := 0) (u := 24) ?_
  refine y_aload_n dX3_take_60 rfl rfl ?_
  refine y_getr dX3_take_61 gf_X3_24 hG.1 rfl ?_
  refine y_iconst (v := 0) dX3_take_64 (by decide) ?_
  refine y_aload_n dX3_take_65 rfl rfl ?_
  refine y_getr dX3_take_66 gf_X3_24 hF.1 rfl ?_
  refine y_iconst (v := 0) dX3_take_69 (by decide) ?_
  refine y_bipush (v := 24) dX3_take_70 (by decide) ?_
  refine y_copyN dX3_take_72 cp_X3_27 hG.2.2.2.2.2 hF.2.2.2.2.2 rfl rfl rfl (by omega) (by omega) (by decide) (s := 0) (t := 0) (u := 24) ?_
  refine y_return dX3_take_75 rfl ?_
  refine hQ _ ⟨fun c h1 => ?_, fun i hi => ⟨?_, ?_, ?_, ?_, ?_⟩⟩
  · repeat (first | rw [s_upS] | rw [s_upN (by omega)] | rw [updS] | rw [updN (by omega)] | rw [cpy0 (by omega)])
  · repeat (first | rw [s_upS] | rw [s_upN (by omega)] | rw [updS] | rw [updN (by omega)] | rw [cpy0 (by omega)])
  · repeat (first | rw [s_upS] | rw [s_upN (by omega)] | rw [updS] | rw [updN (by omega)] | rw [cpy0 (by omega)])
  · repeat (first | rw [s_upS] | rw [s_upN (by omega)] | rw [updS] | rw [updN (by omega)] | rw [cpy0 (by omega)])
  · repeat (first | rw [s_upS] | rw [s_upN (by omega)] | rw [updS] | rw [updN (by omega)] | rw [cpy0 (by omega)])
  · repeat (first | rw [s_upS] | rw [s_upN (by omega)] | rw [updS] | rw [updN (by omega)] | rw [cpy0 (by omega)])
/-- all of a loaf's block but the doing's further steps -/
theorem LA_take {m m1 m2 m3 m4 m5 : sM} {a b s : Nat} {R : Nat → Int32} (h : LA m b R) (hs : s = cOf R) (hc : cOf R ≤ 10) (hq : qOf R ≤ 24) (hd : a + 19 ≤ b ∨ b + 19 ≤ a) (t1 : FlT m m1 (a + 1) (b + 1)) (t2 : DgT m1 m2 (a + 3) (b + 3) s) (t3 : DhT m2 m3 (a + 7) (b + 7)) (t4 : FsT m3 m4 (a + 13) (b + 13)) (t5 : ∀ c, c ≠ a → m5 c = m4 c) : LA m5 a R ∧ ∀ c, c < a ∨ a + 19 ≤ c → m5 c = m c := by
  subst hs
  obtain ⟨⟨r1, r2, r3, r4, r5, r6⟩, d1, d2, d3, d4⟩ := h
  have u0 : ∀ i, i < 5 → m5 (a + 2) i = m (b + 2) i := fun i hi => by
    rw [t5 _ (by omega), t4.1 _ (by omega), t3.1 _ (by omega), t2.1 _ (by omega)]
    exact t1.2.1 i hi
  have b1 : ∀ c, b + 3 ≤ c → c < b + 19 → m1 c = m c := fun c h1 h2 => t1.1 c (by omega) (by omega)
  have b2 : ∀ c, b + 7 ≤ c → c < b + 19 → m2 c = m c := fun c h1 h2 => (t2.1 c (by omega)).trans (b1 c (by omega) (by omega))
  have b3 : ∀ c, b + 13 ≤ c → c < b + 19 → m3 c = m c := fun c h1 h2 => (t3.1 c (by omega)).trans (b2 c (by omega) (by omega))
  have u1 : ∀ c, a + 3 ≤ c → c < a + 7 → m5 c = m2 c := fun c h1 h2 => by rw [t5 _ (by omega), t4.1 _ (by omega), t3.1 _ (by omega)]
  have u2 : ∀ c, a + 7 ≤ c → c < a + 13 → m5 c = m3 c := fun c h1 h2 => by rw [t5 _ (by omega), t4.1 _ (by omega)]
  have u3 : ∀ c, a + 13 ≤ c → c < a + 19 → m5 c = m4 c := fun c h1 h2 => t5 _ (by omega)
  refine ⟨⟨⟨fun i hi => (u0 i hi).trans (r1 i hi), fun k hk => ?_, ?_, ?_, ?_, fun k hk => ?_⟩, fun i hi => ?_, ?_, ?_, ?_⟩, fun c hc => ?_⟩
  · obtain ⟨e1, e2, e3, e4, e5⟩ := t3.2.1 k hk
    rw [u2 _ (by omega) (by omega), u2 _ (by omega) (by omega), u2 _ (by omega) (by omega), u2 _ (by omega) (by omega), u2 _ (by omega) (by omega)]
    refine ⟨e1.trans ?_, e2.trans ?_, e3.trans ?_, e4.trans ?_, e5.trans ?_⟩
    · rw [b2 _ (by omega) (by omega)]; exact (r2 k hk).1
    · rw [b2 _ (by omega) (by omega)]; exact (r2 k hk).2.1
    · rw [b2 _ (by omega) (by omega)]; exact (r2 k hk).2.2.1
    · rw [b2 _ (by omega) (by omega)]; exact (r2 k hk).2.2.2.1
    · rw [b2 _ (by omega) (by omega)]; exact (r2 k hk).2.2.2.2
  · rw [u2 _ (by omega) (by omega), t3.2.2.1, b2 _ (by omega) (by omega)]; exact r3
  · rw [u2 _ (by omega) (by omega), t3.2.2.2.1, b2 _ (by omega) (by omega)]; exact r4
  · rw [u2 _ (by omega) (by omega), t3.2.2.2.2.2.2, b2 _ (by omega) (by omega)]; exact r5
  · obtain ⟨e1, e2, e3, e4, e5⟩ := t4.2 k (by omega)
    rw [u3 _ (by omega) (by omega), u3 _ (by omega) (by omega), u3 _ (by omega) (by omega), u3 _ (by omega) (by omega), u3 _ (by omega) (by omega)]
    refine ⟨e1.trans ?_, e2.trans ?_, e3.trans ?_, e4.trans ?_, e5.trans ?_⟩
    · rw [b3 _ (by omega) (by omega)]; exact (r6 k hk).1
    · rw [b3 _ (by omega) (by omega)]; exact (r6 k hk).2.1
    · rw [b3 _ (by omega) (by omega)]; exact (r6 k hk).2.2.1
    · rw [b3 _ (by omega) (by omega)]; exact (r6 k hk).2.2.2.1
    · rw [b3 _ (by omega) (by omega)]; exact (r6 k hk).2.2.2.2
  · obtain ⟨e1, e2, e3⟩ := t2.2.1 i hi
    rw [u1 _ (by omega) (by omega), u1 _ (by omega) (by omega), u1 _ (by omega) (by omega)]
    refine ⟨e1.trans ?_, e2.trans ?_, e3.trans ?_⟩
    · rw [b1 _ (by omega) (by omega)]; exact (d1 i hi).1
    · rw [b1 _ (by omega) (by omega)]; exact (d1 i hi).2.1
    · rw [b1 _ (by omega) (by omega)]; exact (d1 i hi).2.2
  · rw [u1 _ (by omega) (by omega), t2.2.2.1, b1 _ (by omega) (by omega)]; exact d2
  · rw [u2 _ (by omega) (by omega), t3.2.2.2.2.1, b2 _ (by omega) (by omega)]; exact d3
  · rw [u2 _ (by omega) (by omega), t3.2.2.2.2.2.1, b2 _ (by omega) (by omega)]; exact d4
  · rw [t5 _ (by omega), t4.1 _ (by omega), t3.1 _ (by omega), t2.1 _ (by omega), t1.1 _ (by omega) (by omega)]
set_option maxHeartbeats 1000000 in
theorem c_X6_take {L : Nat} {xs : Nat → Int32} {d : Nat} {m : sM} {n : sN} {Q : sQ} {F0 F1 : Nat} {R : Nat → Int32} (hF : isLf F0) (hG : isLf F1) (hd : F0 + 19 ≤ F1 ∨ F1 + 19 ≤ F0) (h : LA m F1 R) (hs : sR R) (hb1 : m (F1 + 1) 1 = 0 ∨ m (F1 + 1) 1 = 1) (hb2 : m (F1 + 3) 4 = 0 ∨ m (F1 + 3) 4 = 1) (hb3 : m F1 4 = 0 ∨ m F1 4 = 1) (hQ : ∀ m', LA m' F0 R → (∀ c, c < F0 ∨ F0 + 19 ≤ c → m' c = m c) → m' F0 4 = m F1 4 → m' (F0 + 1) 1 = m (F1 + 1) 1 → m' (F0 + 3) 4 = m (F1 + 3) 4 → Q none m' n) : sRun (scT L xs) (d + 2) yX6_take cX6_take 2 none [.ref F0, .ref F1] m n Q := by
  refine y_run (own := "LoafFall$Loaf") rfl (by decide +kernel) (Nat.le_of_ble_eq_true rfl) rfl ?_
  refine y_aload_n dX6_take_0 rfl rfl ?_
  refine y_getr dX6_take_1 gf_X6_12 hF.1 rfl ?_
  refine y_aload_n dX6_take_4 rfl rfl ?_
  refine y_getr dX6_take_5 gf_X6_12 hG.1 rfl ?_
  refine y_ivV1 dX6_take_8 mv_X6_39 my_X4_take (Or.inl rfl) hF.2.1.1 ?_
  refine c_X4_take hF.2.1 hG.2.1 (by omega) hb1 (fun m1 t1 => ⟨rfl, ?_⟩)
  refine y_aload_n dX6_take_11 rfl rfl ?_
  refine y_getr dX6_take_12 gf_X6_21 hF.1 rfl ?_
  refine y_aload_n dX6_take_15 rfl rfl ?_
  refine y_getr dX6_take_16 gf_X6_21 hG.1 rfl ?_
  refine y_ivV1 dX6_take_19 mv_X6_43 my_X1_take (Or.inl rfl) hF.2.2.1.1 ?_
  refine c_X1_take (s := cOf R) hF.2.2.1 hG.2.2.1 (by omega) (by rw [t1.1 _ (by omega) (by omega)]; exact h.2.2.1.trans hs.2.1.2.1) hs.2.1.2.2.2 (by rw [t1.1 _ (by omega) (by omega)]; exact hb2) (fun m2 t2 => ⟨rfl, ?_⟩)
  refine y_aload_n dX6_take_22 rfl rfl ?_
  refine y_getr dX6_take_23 gf_X6_28 hF.1 rfl ?_
  refine y_aload_n dX6_take_26 rfl rfl ?_
  refine y_getr dX6_take_27 gf_X6_28 hG.1 rfl ?_
  refine y_ivV1 dX6_take_30 mv_X6_58 my_X2_take (Or.inl rfl) hF.2.2.2.1.1 ?_
  refine c_X2_take hF.2.2.2.1 hG.2.2.2.1 (by omega) (by rw [t2.1 _ (by omega), t1.1 _ (by omega) (by omega), h.1.2.2.2.2.1]; exact hs.1.2.2.2.1) (fun m3 t3 => ⟨rfl, ?_⟩)
  refine y_aload_n dX6_take_33 rfl rfl ?_
  refine y_getr dX6_take_34 gf_X6_35 hF.1 rfl ?_
  refine y_aload_n dX6_take_37 rfl rfl ?_
  refine y_getr dX6_take_38 gf_X6_35 hG.1 rfl ?_
  refine y_ivV1 dX6_take_41 mv_X6_61 my_X3_take (Or.inl rfl) hF.2.2.2.2.1 ?_
  refine c_X3_take hF.2.2.2.2 hG.2.2.2.2 (by omega) (fun m4 t4 => ⟨rfl, ?_⟩)
  refine y_aload_n dX6_take_44 rfl rfl ?_
  refine y_aload_n dX6_take_45 rfl rfl ?_
  refine y_geti dX6_take_46 gf_X6_54 hG.1 rfl ?_
  have e4 : m4 F1 4 = m F1 4 := by rw [t4.1 _ (by omega), t3.1 _ (by omega), t2.1 _ (by omega), t1.1 _ (by omega) (by omega)]
  rw [e4]
  refine y_puti dX6_take_49 pf_X6_54 hF.1 rfl (bnar hb3) (bfit hb3) ?_
  refine y_return dX6_take_52 rfl ?_
  have hT := LA_take (m5 := s_up m4 F0 (upd (m4 F0) 4 (m F1 4))) h rfl hs.2.1.2.2.2 (wfR_q hs.1.wf).2 hd t1 t2 t3 t4 (fun c hc => s_upN hc)
  refine hQ _ hT.1 hT.2 (by rw [s_upS, updS]) ?_ ?_
  · rw [s_upN (by omega), t4.1 _ (by omega), t3.1 _ (by omega), t2.1 _ (by omega), t1.2.2]
  · rw [s_upN (by omega), t4.1 _ (by omega), t3.1 _ (by omega), t2.2.2.2, t1.1 _ (by omega) (by omega)]
