/-! ===== starting ===== -/
theorem fresh_at {R : Nat → Int32} : ∀ n, n ≤ 24 → (∀ k, k < 24 → foldR freshC n R (41 + 5 * k + 1) = (if k < n then R 1 else R (41 + 5 * k + 1)) ∧ foldR freshC n R (41 + 5 * k + 2) = (if k < n then 20 else R (41 + 5 * k + 2))) ∧ ∀ p, (p < 41 ∨ 161 ≤ p ∨ ((p - 41) % 5 ≠ 1 ∧ (p - 41) % 5 ≠ 2)) → foldR freshC n R p = R p := by
  intro n
  induction n with
  | zero => intro _; exact ⟨fun k hk => ⟨by rw [if_neg (by omega)]; rfl, by rw [if_neg (by omega)]; rfl⟩, fun _ _ => rfl⟩
  | succ n ih =>
    intro hn
    obtain ⟨i1, i2⟩ := ih (by omega)
    refine ⟨fun k hk => ⟨?_, ?_⟩, fun p hp => ?_⟩
    · show upd (upd (foldR freshC n R) (41 + 5 * n + 1) (foldR freshC n R 1)) (41 + 5 * n + 2) 20 (41 + 5 * k + 1) = _
      rw [updN (by omega)]
      by_cases e : k = n
      · rw [e, updS, if_pos (by omega), i2 1 (by omega)]
      · rw [updN (by omega), (i1 k hk).1]
        by_cases q : k < n
        · rw [if_pos q, if_pos (by omega)]
        · rw [if_neg q, if_neg (by omega)]
    · show upd (upd (foldR freshC n R) (41 + 5 * n + 1) (foldR freshC n R 1)) (41 + 5 * n + 2) 20 (41 + 5 * k + 2) = _
      by_cases e : k = n
      · rw [e, updS, if_pos (by omega)]
      · rw [updN (by omega), updN (by omega), (i1 k hk).2]
        by_cases q : k < n
        · rw [if_pos q, if_pos (by omega)]
        · rw [if_neg q, if_neg (by omega)]
    · show upd (upd (foldR freshC n R) (41 + 5 * n + 1) (foldR freshC n R 1)) (41 + 5 * n + 2) 20 p = _
      rw [updN (by omega), updN (by omega)]
      exact i2 p hp
theorem begins_c {R : Nat → Int32} {k : Nat} (hk : k < 24) : beginsF R (41 + 5 * k + 0) = 0 ∧ beginsF R (41 + 5 * k + 1) = R 1 ∧ beginsF R (41 + 5 * k + 2) = 20 ∧ beginsF R (41 + 5 * k + 3) = 0 ∧ beginsF R (41 + 5 * k + 4) = 0 := by
  obtain ⟨f1, f2⟩ := fresh_at (R := zr 329 R) 24 (Nat.le_refl _)
  have z : ∀ p, 36 ≤ p → p < 329 → zr 329 R p = 0 := fun p h1 h2 => if_pos ⟨h1, h2⟩
  have z1 : zr 329 R 1 = R 1 := if_neg (by omega)
  unfold beginsF
  refine ⟨(f2 _ (by omega)).trans (z _ (by omega) (by omega)), ?_, ?_, (f2 _ (by omega)).trans (z _ (by omega) (by omega)), (f2 _ (by omega)).trans (z _ (by omega) (by omega))⟩
  · rw [(f1 k hk).1, if_pos hk, z1]
  · rw [(f1 k hk).2, if_pos hk]
theorem s_begins {R : Nat → Int32} {c : Nat} (hf : flR R) (h5 : R 5 = nI c) (hc : c ≤ 10) (hst : stOK R) : sR (beginsF R) := by
  have ec : cOf R = c := by unfold cOf; rw [h5, nI_clamp (by omega)]
  have i : iR (beginsF R) := by
    refine ⟨fun j hj => ?_, fun j hj => ?_, fun j hj => Or.inl (begins_c hj).2.2.2.2, Or.inl (begins_0 (by omega) (by omega)), fl_low hf (fun p hp => begins_low (by omega)), wf_begins R⟩
    · rw [(begins_c hj).1]
      exact ⟨⟨0, nI_0.symm, by omega⟩, fun _ => rfl⟩
    · rw [(begins_c hj).2.1, (begins_c hj).2.2.1, (begins_c hj).2.2.2.1]
      obtain ⟨s, s1, s2, s3⟩ := hf.2.1
      exact ⟨⟨s, s1, s3⟩, ⟨20, rfl, by omega⟩, ⟨0, nI_0.symm, by omega⟩⟩
  exact ⟨i, wfA_begins h5 hc, st_low hst (fun p hp => begins_low hp) (by omega), 0, by rw [begins_0 (by omega) (by omega)]; exact nI_0.symm, Or.inl rfl⟩
theorem put_ap {m : sM} {a k b j : Nat} {x : Int32} : s_up m a (upd (m a) k x) b j = if b = a ∧ j = k then x else m b j := by
  unfold s_up upd
  by_cases e : b = a
  · rw [if_pos e]
    by_cases e2 : j = k
    · rw [if_pos e2, if_pos ⟨e, e2⟩]
    · rw [if_neg e2, if_neg (fun q => e2 q.2), e]
  · rw [if_neg e, if_neg (fun q => e q.1)]
def DhC (m m' : sM) (a : Nat) (v : Int32) (k : Nat) : Prop := (∀ c, c < a + 1 ∨ a + 6 ≤ c → m' c = m c) ∧ ∀ j, j < k → m' (a + 1) j = 0 ∧ m' (a + 2) j = v ∧ m' (a + 3) j = 20 ∧ m' (a + 4) j = 0 ∧ m' (a + 5) j = 0
def DhS (m m' : sM) (a : Nat) (v : Int32) : Prop := (∀ c, c < a ∨ a + 6 ≤ c → m' c = m c) ∧ (∀ j, j < 24 → m' (a + 1) j = 0 ∧ m' (a + 2) j = v ∧ m' (a + 3) j = 20 ∧ m' (a + 4) j = 0 ∧ m' (a + 5) j = 0) ∧ m' a 5 = 0 ∧ m' a 6 = 0 ∧ m' a 7 = 0 ∧ m' a 8 = 0 ∧ m' a 9 = 0
set_option maxHeartbeats 1000000 in
theorem c_X2_start {L : Nat} {xs : Nat → Int32} {d : Nat} {m : sM} {n : sN} {Q : sQ} {F0 : Nat} {v : Int32} (hF : isDh F0) (hQ : ∀ m', DhS m m' F0 v → Q none m' n) : sRun (scT L xs) (d + 1) yX2_start cX2_start 3 none [.ref F0, .int v] m n Q := by
  refine y_run (own := "LoafFall$Dough") rfl (by decide +kernel) (Nat.le_of_ble_eq_true rfl) rfl ?_
  refine y_iconst (v := 0) dX2_start_0 (by decide) ?_
  refine y_ist3_2 dX2_start_1 rfl ?_
  refine cnt (P := fun k => ∀ m' : sM, DhC m m' F0 v k → sV (scT L xs) d "LoafFall$Dough" cX2_start 3 none Q 2 [some (.ref F0), some (.int v), some (.int (nI k))] [] m' n) 24 ?_ ?_ 0 (by omega) m ⟨fun _ _ => rfl, fun j hj => absurd hj (by omega)⟩
  · intro m' h1
    refine y_iload_n dX2_start_2 rfl rfl ?_
    refine y_bipush (v := 24) dX2_start_3 (by decide) ?_
    refine y_icmp_ge (tgt := 50) dX2_start_5 (by decide) (fun h5 => ?_) (fun h5 => absurd (nI_le (a := 24) (b := 24) (Nat.le_refl _) (by decide)) h5)
    refine y_aload_n dX2_start_50 rfl rfl ?_
    refine y_iconst (v := 0) dX2_start_51 (by decide) ?_
    refine y_puti dX2_start_52 pf_X2_27 hF.1 rfl rfl rfl ?_
    refine y_aload_n dX2_start_55 rfl rfl ?_
    refine y_iconst (v := 0) dX2_start_56 (by decide) ?_
    refine y_puti dX2_start_57 pf_X2_31 hF.1 rfl rfl rfl ?_
    refine y_aload_n dX2_start_60 rfl rfl ?_
    refine y_iconst (v := 0) dX2_start_61 (by decide) ?_
    refine y_puti dX2_start_62 pf_X2_34 hF.1 rfl rfl rfl ?_
    refine y_aload_n dX2_start_65 rfl rfl ?_
    refine y_iconst (v := 0) dX2_start_66 (by decide) ?_
    refine y_puti dX2_start_67 pf_X2_37 hF.1 rfl rfl rfl ?_
    refine y_aload_n dX2_start_70 rfl rfl ?_
    refine y_iconst (v := 0) dX2_start_71 (by decide) ?_
    refine y_puti dX2_start_72 pf_X2_40 hF.1 rfl rfl rfl ?_
    refine y_return dX2_start_75 rfl ?_
    refine hQ _ ⟨fun c hc => ?_, fun j hj => ?_, ?_, ?_, ?_, ?_, ?_⟩
    · rw [s_upN (by omega), s_upN (by omega), s_upN (by omega), s_upN (by omega), s_upN (by omega)]
      exact h1.1 c (by omega)
    · rw [s_upN (by omega), s_upN (by omega), s_upN (by omega), s_upN (by omega), s_upN (by omega)]
      rw [s_upN (by omega), s_upN (by omega), s_upN (by omega), s_upN (by omega), s_upN (by omega)]
      rw [s_upN (by omega), s_upN (by omega), s_upN (by omega), s_upN (by omega), s_upN (by omega)]
      rw [s_upN (by omega), s_upN (by omega), s_upN (by omega), s_upN (by omega), s_upN (by omega)]
      rw [s_upN (by omega), s_upN (by omega), s_upN (by omega), s_upN (by omega), s_upN (by omega)]
      exact h1.2 j hj
    · (repeat (first | rw [put_ap] | rw [if_neg (by omega)] | rw [if_pos (by omega)]))
    · (repeat (first | rw [put_ap] | rw [if_neg (by omega)] | rw [if_pos (by omega)]))
    · (repeat (first | rw [put_ap] | rw [if_neg (by omega)] | rw [if_pos (by omega)]))
    · (repeat (first | rw [put_ap] | rw [if_neg (by omega)] | rw [if_pos (by omega)]))
    · (repeat (first | rw [put_ap] | rw [if_neg (by omega)] | rw [if_pos (by omega)]))
  · intro k hk hP
    intro m' h1
    refine y_iload_n dX2_start_2 rfl rfl ?_
    refine y_bipush (v := 24) dX2_start_3 (by decide) ?_
    refine y_icmp_ge (tgt := 50) dX2_start_5 (by decide) (fun h5 => absurd h5 (nI_ge (a := k) (b := 24) hk (by decide))) (fun h5 => ?_)
    refine y_aload_n dX2_start_8 rfl rfl ?_
    refine y_getr dX2_start_9 gf_X2_9 hF.1 rfl ?_
    refine y_iload_n dX2_start_12 rfl rfl ?_
    refine y_iconst (v := 0) dX2_start_13 (by decide) ?_
    refine y_iastN dX2_start_14 hF.2.1 rfl (by first | omega | decide) (by decide) ?_
    refine y_aload_n dX2_start_15 rfl rfl ?_
    refine y_getr dX2_start_16 gf_X2_15 hF.1 rfl ?_
    refine y_iload_n dX2_start_19 rfl rfl ?_
    refine y_iload_n dX2_start_20 rfl rfl ?_
    refine y_iastN dX2_start_21 hF.2.2.1 rfl (by first | omega | decide) (by decide) ?_
    refine y_aload_n dX2_start_22 rfl rfl ?_
    refine y_getr dX2_start_23 gf_X2_18 hF.1 rfl ?_
    refine y_iload_n dX2_start_26 rfl rfl ?_
    refine y_bipush (v := 20) dX2_start_27 (by decide) ?_
    refine y_iastN dX2_start_29 hF.2.2.2.1 rfl (by first | omega | decide) (by decide) ?_
    refine y_aload_n dX2_start_30 rfl rfl ?_
    refine y_getr dX2_start_31 gf_X2_21 hF.1 rfl ?_
    refine y_iload_n dX2_start_34 rfl rfl ?_
    refine y_iconst (v := 0) dX2_start_35 (by decide) ?_
    refine y_iastN dX2_start_36 hF.2.2.2.2.1 rfl (by first | omega | decide) (by decide) ?_
    refine y_aload_n dX2_start_37 rfl rfl ?_
    refine y_getr dX2_start_38 gf_X2_24 hF.1 rfl ?_
    refine y_iload_n dX2_start_41 rfl rfl ?_
    refine y_iconst (v := 0) dX2_start_42 (by decide) ?_
    refine y_iastN dX2_start_43 hF.2.2.2.2.2 rfl (by first | omega | decide) (by decide) ?_
    refine y_iinc3_2 dX2_start_44 (nI_1 _) rfl ?_
    refine y_goto (tgt := 2) dX2_start_47 (by decide) ?_
    refine hP _ ⟨fun c hc => ?_, fun j hj => ?_⟩
    · rw [s_upN (by omega), s_upN (by omega), s_upN (by omega), s_upN (by omega), s_upN (by omega)]
      exact h1.1 c hc
    · by_cases e : j = k
      · refine ⟨?_, ?_, ?_, ?_, ?_⟩
        · (repeat (first | rw [put_ap] | rw [if_neg (by omega)] | rw [if_pos (by omega)]))
        · (repeat (first | rw [put_ap] | rw [if_neg (by omega)] | rw [if_pos (by omega)]))
        · (repeat (first | rw [put_ap] | rw [if_neg (by omega)] | rw [if_pos (by omega)]))
        · (repeat (first | rw [put_ap] | rw [if_neg (by omega)] | rw [if_pos (by omega)]))
        · (repeat (first | rw [put_ap] | rw [if_neg (by omega)] | rw [if_pos (by omega)]))
      · obtain ⟨e1, e2, e3, e4, e5⟩ := h1.2 j (by omega)
        refine ⟨?_, ?_, ?_, ?_, ?_⟩
        · (repeat (first | rw [put_ap] | rw [if_neg (by omega)] | rw [if_pos (by omega)])); exact e1
        · (repeat (first | rw [put_ap] | rw [if_neg (by omega)] | rw [if_pos (by omega)])); exact e2
        · (repeat (first | rw [put_ap] | rw [if_neg (by omega)] | rw [if_pos (by omega)])); exact e3
        · (repeat (first | rw [put_ap] | rw [if_neg (by omega)] | rw [if_pos (by omega)])); exact e4
        · (repeat (first | rw [put_ap] | rw [if_neg (by omega)] | rw [if_pos (by omega)])); exact e5
/-- the flour at F, the doing at G are those of the row R -/
def FR (m : sM) (a : Nat) (R : Nat → Int32) : Prop := ∀ i, i < 5 → m (a + 1) i = R i
def DR (m : sM) (a : Nat) (R : Nat → Int32) : Prop := (∀ i, i < cOf R → m (a + 1) i = R (6 + 3 * i + 0) ∧ m (a + 2) i = R (6 + 3 * i + 1) ∧ m (a + 3) i = R (6 + 3 * i + 2)) ∧ m a 3 = R 5
set_option maxHeartbeats 1000000 in
theorem c_X6_start {L : Nat} {xs : Nat → Int32} {d : Nat} {m : sM} {n : sN} {Q : sQ} {F0 F1 F2 c : Nat} {R : Nat → Int32} (hF : isLf F0) (hG : isFl F1) (hH : isDg F2) (hd : F0 + 19 ≤ F1 ∨ F1 + 2 ≤ F0) (he : F0 + 19 ≤ F2 ∨ F2 + 4 ≤ F0) (h : FR m F1 R) (h2 : DR m F2 R) (hc : R 5 = nI c) (hc2 : c ≤ 10) (hb1 : m F1 1 = 0 ∨ m F1 1 = 1) (hb2 : m F2 4 = 0 ∨ m F2 4 = 1) (hQ : ∀ m', LA m' F0 (beginsF R) → (∀ c, c < F0 ∨ F0 + 19 ≤ c → m' c = m c) → m' F0 4 = 1 → m' (F0 + 1) 1 = m F1 1 → m' (F0 + 3) 4 = m F2 4 → Q none m' n) : sRun (scT L xs) (d + 2) yX6_start cX6_start 3 none [.ref F0, .ref F1, .ref F2] m n Q := by
  refine y_run (own := "LoafFall$Loaf") rfl (by decide +kernel) (Nat.le_of_ble_eq_true rfl) rfl ?_
  refine y_aload_n dX6_start_0 rfl rfl ?_
  refine y_getr dX6_start_1 gf_X6_12 hF.1 rfl ?_
  refine y_aload_n dX6_start_4 rfl rfl ?_
  refine y_ivV1 dX6_start_5 mv_X6_39 my_X4_take (Or.inl rfl) hF.2.1.1 ?_
  refine c_X4_take hF.2.1 hG (by omega) hb1 (fun m1 t1 => ⟨rfl, ?_⟩)
  refine y_aload_n dX6_start_8 rfl rfl ?_
  refine y_getr dX6_start_9 gf_X6_21 hF.1 rfl ?_
  refine y_aload_n dX6_start_12 rfl rfl ?_
  refine y_ivV1 dX6_start_13 mv_X6_43 my_X1_take (Or.inl rfl) hF.2.2.1.1 ?_
  refine c_X1_take (s := c) hF.2.2.1 hH (by omega) (by rw [t1.1 _ (by omega) (by omega)]; exact h2.2.trans hc) hc2 (by rw [t1.1 _ (by omega) (by omega)]; exact hb2) (fun m2 t2 => ⟨rfl, ?_⟩)
  refine y_aload_n dX6_start_16 rfl rfl ?_
  refine y_getr dX6_start_17 gf_X6_28 hF.1 rfl ?_
  refine y_aload_n dX6_start_20 rfl rfl ?_
  refine y_getr dX6_start_21 gf_X6_12 hF.1 rfl ?_
  refine y_getr dX6_start_24 gf_X6_46 hF.2.1.1 rfl ?_
  refine y_iconst (v := 1) dX6_start_27 (by decide) ?_
  refine y_ialdN dX6_start_28 hF.2.1.2 rfl (by first | omega | decide) (by decide) ?_
  rw [show m2 (F0 + 1 + 1) 1 = R 1 from by rw [t2.1 _ (by omega), t1.2.1 1 (by omega)]; exact h 1 (by omega)]
  refine y_ivV1 dX6_start_29 mv_X6_50 my_X2_start (Or.inl rfl) hF.2.2.2.1.1 ?_
  refine c_X2_start hF.2.2.2.1 (fun m3 t3 => ⟨rfl, ?_⟩)
  refine y_aload_n dX6_start_32 rfl rfl ?_
  refine y_iconst (v := 1) dX6_start_33 (by decide) ?_
  refine y_puti dX6_start_34 pf_X6_54 hF.1 rfl rfl rfl ?_
  refine y_return dX6_start_37 rfl ?_
  have ec : cOf R = c := by unfold cOf; rw [hc, nI_clamp (by omega)]
  have ecB : cOf (beginsF R) = c := by unfold cOf; rw [begins_low (by omega), hc, nI_clamp (by omega)]
  have eqB : qOf (beginsF R) = 0 := by unfold qOf; rw [begins_0 (by omega) (by omega)]; rfl
  refine hQ _ ⟨⟨fun i hi => ?_, fun k hk => ?_, ?_, ?_, ?_, fun k hk => absurd hk (by omega)⟩, fun i hi => ?_, ?_, ?_, ?_⟩ (fun c hc => ?_) (by rw [s_upS, updS]) ?_ ?_
  · rw [s_upN (by omega), t3.1 _ (by omega), t2.1 _ (by omega), begins_low (by omega), ← h i hi]
    exact t1.2.1 i hi
  · obtain ⟨g1, g2, g3, g4, g5⟩ := begins_c (R := R) hk
    rw [s_upN (by omega), s_upN (by omega), s_upN (by omega), s_upN (by omega), s_upN (by omega), g1, g2, g3, g4, g5]
    exact t3.2.1 k hk
  · rw [s_upN (by omega), begins_0 (by omega) (by omega)]; exact t3.2.2.1
  · rw [s_upN (by omega), begins_0 (by omega) (by omega)]; exact t3.2.2.2.1
  · rw [s_upN (by omega), begins_0 (by omega) (by omega)]; exact t3.2.2.2.2.2.2
  · rw [ecB] at hi
    obtain ⟨e1, e2, e3⟩ := t2.2.1 i hi
    obtain ⟨z1, z2, z3⟩ := h2.1 i (by omega)
    rw [s_upN (by omega), s_upN (by omega), s_upN (by omega), t3.1 _ (by omega), t3.1 _ (by omega), t3.1 _ (by omega), begins_low (by omega), begins_low (by omega), begins_low (by omega)]
    refine ⟨e1.trans ?_, e2.trans ?_, e3.trans ?_⟩
    · rw [t1.1 _ (by omega) (by omega)]; exact z1
    · rw [t1.1 _ (by omega) (by omega)]; exact z2
    · rw [t1.1 _ (by omega) (by omega)]; exact z3
  · rw [s_upN (by omega), t3.1 _ (by omega), t2.2.2.1, t1.1 _ (by omega) (by omega), begins_low (by omega)]; exact h2.2
  · rw [s_upN (by omega), begins_0 (by omega) (by omega)]; exact t3.2.2.2.2.1
  · rw [s_upN (by omega), begins_0 (by omega) (by omega)]; exact t3.2.2.2.2.2.1
  · rw [s_upN (by omega), t3.1 _ (by omega), t2.1 _ (by omega), t1.1 _ (by omega) (by omega)]
  · rw [s_upN (by omega), t3.1 _ (by omega), t2.1 _ (by omega), t1.2.2]
  · rw [s_upN (by omega), t3.1 _ (by omega), t2.2.2.2, t1.1 _ (by omega) (by omega)]
