/-! ===== rows ===== -/
theorem in_s {x : Int32} {s : Nat} (hs : s < 2 ^ 30) : inN x s ↔ (0 ≤ x ∧ x ≤ nI s - 1) := by
  rcases Nat.eq_zero_or_pos s with z | z
  · subst z
    constructor
    · rintro ⟨k, hk, -⟩; omega
    · rintro ⟨h1, h2⟩
      have : (0 : Int32) ≤ nI 0 - 1 := Int32.le_trans h1 h2
      exact absurd this (by decide)
  · obtain ⟨t, rfl⟩ : ∃ t, s = t + 1 := ⟨s - 1, by omega⟩
    rw [nI_pred]
    exact in_le (by omega)
theorem nI_m1 {s : Nat} (h : s < 2 ^ 31) : ¬ nI s = -1 := fun e => by
  have := nI_pos' h
  rw [e] at this
  exact absurd this (by decide)
theorem WQ_r {m m' : sM} {a x y M r : Nat} (h : WQ m a x y M r) (e0 : m' a = m a) (e1 : m' (a + 1) = m (a + 1)) (ex : m' x r = m x r) (ey : ∀ i, i < M → m' y (M * r + i) = m y (M * r + i)) : WQ m' a x y M r := by
  rcases h with ⟨h1, h2⟩ | ⟨s, h1, h2, h3, h4⟩
  · exact Or.inl ⟨ex.trans h1, by rw [e0]; exact h2⟩
  · exact Or.inr ⟨s, h1, ex.trans h2, by rw [e0]; exact h3, fun i hi => by rw [e1, ey i (by omega)]; exact h4 i hi⟩
theorem RA_tell {m m2 : sM} {n : sN} {v : Int32} (h : RA m n) (e0 : m2 0 = upd (m 0) 17 v) (e9 : m2 239 = upd (m 239) 2 v) (e1 : m2 137 = m 137) (e2 : m2 240 = m 240) : RA m2 n := by
  obtain ⟨h1, h2, h3, h4⟩ := h
  refine ⟨by rw [e0, e9, updN (by omega), updN (by omega)]; exact h1, by rw [e0, e9, updS, updS], by rw [e1, e2]; exact h3, h4⟩
theorem RA_id {m m2 : sM} {n : sN} (h : RA m n) (e0 : m2 0 = m 0) (e9 : m2 239 = m 239) (e1 : m2 137 = m 137) (e2 : m2 240 = m 240) : RA m2 n := by
  unfold RA
  rw [e0, e9, e1, e2]
  exact h
theorem Rel_W {m m2 : sM} {n n2 : sN} {k : Nat} (h : Rel m n) (hA : RA m2 n2) (e : ∀ a, (6 ≤ a ∧ a < 137) ∨ (150 ≤ a ∧ a < 239) ∨ (244 ≤ a ∧ a < 255) ∨ a = 259 → m2 a = m a) (e28 : m2 239 28 = m 239 28) (e1 : ∀ r, r < 6 → r ≠ k → m2 (138 + 2 * r) = m (138 + 2 * r) ∧ m2 (138 + 2 * r + 1) = m (138 + 2 * r + 1) ∧ m2 241 r = m 241 r ∧ ∀ i, i < 40 → m2 242 (40 * r + i) = m 242 (40 * r + i)) (hq : WQ m2 (138 + 2 * k) 241 242 40 k) : Rel m2 n2 := by
  obtain ⟨-, h2, h3, h4, h5, h6, h7, h8, h9⟩ := h
  refine ⟨hA, fun r hr => ?_, RT_m h3 (fun a ha => e a (by omega)), RF_m h4 (fun a ha => e a (by omega)), RD_m h5 (fun a ha => e a (by omega)), RLo_m h6 (fun a ha => e a (by omega)) (by rw [e 253 (by omega)]) (fun p hp => by rw [e 254 (by omega)]), RK_m h7 (fun a ha => e a (by omega)) (fun k hk => by rw [e 253 (by omega)]) (fun p h1 h2 => by rw [e 254 (by omega)]), RS_m h8 (fun a ha => e a (by omega)) e28, BK_m h9 (fun c h1 h2 => e c (by omega))⟩
  by_cases z : r = k
  · rw [z]; exact hq
  · obtain ⟨q1, q2, q3, q4⟩ := e1 r hr z
    exact WQ_r (h2 r hr) q1 q2 q3 q4
theorem Rel_T {m m2 : sM} {n n2 : sN} {k : Nat} (h : Rel m n) (hA : RA m2 n2) (e : ∀ a, (6 ≤ a ∧ a < 137) ∨ (138 ≤ a ∧ a < 150) ∨ (158 ≤ a ∧ a < 239) ∨ (241 ≤ a ∧ a < 255 ∧ a ≠ 244 ∧ a ≠ 245) ∨ a = 259 → m2 a = m a) (e28 : m2 239 28 = m 239 28) (e1 : ∀ r, r < 4 → r ≠ k → m2 (150 + 2 * r) = m (150 + 2 * r) ∧ m2 (150 + 2 * r + 1) = m (150 + 2 * r + 1) ∧ m2 244 r = m 244 r ∧ ∀ i, i < 80 → m2 245 (80 * r + i) = m 245 (80 * r + i)) (hq : WQ m2 (150 + 2 * k) 244 245 80 k) : Rel m2 n2 := by
  obtain ⟨-, h2, h3, h4, h5, h6, h7, h8, h9⟩ := h
  refine ⟨hA, RW_m h2 (fun a ha => e a (by omega)), fun r hr => ?_, RF_m h4 (fun a ha => e a (by omega)), RD_m h5 (fun a ha => e a (by omega)), RLo_m h6 (fun a ha => e a (by omega)) (by rw [e 253 (by omega)]) (fun p hp => by rw [e 254 (by omega)]), RK_m h7 (fun a ha => e a (by omega)) (fun k hk => by rw [e 253 (by omega)]) (fun p h1 h2 => by rw [e 254 (by omega)]), RS_m h8 (fun a ha => e a (by omega)) e28, BK_m h9 (fun c h1 h2 => e c (by omega))⟩
  by_cases z : r = k
  · rw [z]; exact hq
  · obtain ⟨q1, q2, q3, q4⟩ := e1 r hr z
    exact WQ_r (h3 r hr) q1 q2 q3 q4
set_option maxHeartbeats 1000000 in
theorem c_X11_lackOfPlace {L : Nat} {xs : Nat → Int32} {d : Nat} {m : sM} {n : sN} {Q : sQ} {k : Nat} {r x : Int32} (hr : r = nI k) (hk : k < 6) (hQ1 : m (138 + 2 * k) 1 = -1 → Q (some (.int 1)) m n) (hQ0 : ¬ m (138 + 2 * k) 1 = -1 → ¬ x < 0 → x < m (138 + 2 * k) 1 → Q (some (.int 0)) m n) (hQ2 : ¬ m (138 + 2 * k) 1 = -1 → (x < 0 ∨ m (138 + 2 * k) 1 ≤ x) → Q (some (.int 2)) m n) : sRun (scT L xs) (d + 2) yX11_lackOfPlace cX11_lackOfPlace 3 (some .int) [.ref 0, .int r, .int x] m n Q := by
  subst hr
  refine y_run (own := "LoafFall") rfl (by decide +kernel) (Nat.le_of_ble_eq_true rfl) rfl ?_
  refine y_aload_n dX11_lackOfPlace_0 rfl rfl ?_
  refine y_getr dX11_lackOfPlace_1 gf_X11_11 sh_0 rfl ?_
  refine y_iload_n dX11_lackOfPlace_4 rfl rfl ?_
  refine y_aaldN dX11_lackOfPlace_5 (by decide) sh_1 rfl (rwA (k := k) (by omega)) (by decide) ?_
  refine y_ivI0 dX11_lackOfPlace_6 mv_X11_123 my_X8_isThere (Or.inl rfl) (rwI (k := k) (by omega)).1 ?_
  refine c_X8_isThere (rwI hk) (fun a => ⟨_, rfl, ?_⟩) (fun a => ⟨_, rfl, ?_⟩)
  · refine y_if_ne (tgt := 14) dX11_lackOfPlace_9 (by decide) (fun h9 => ?_) (fun h9 => absurd h9 (by decide))
    refine y_aload_n dX11_lackOfPlace_14 rfl rfl ?_
    refine y_getr dX11_lackOfPlace_15 gf_X11_11 sh_0 rfl ?_
    refine y_iload_n dX11_lackOfPlace_18 rfl rfl ?_
    refine y_aaldN dX11_lackOfPlace_19 (by decide) sh_1 rfl (rwA (k := k) (by omega)) (by decide) ?_
    refine y_iload_n dX11_lackOfPlace_20 rfl rfl ?_
    refine y_ivI1 dX11_lackOfPlace_21 mv_X11_423 my_X8_has (Or.inl rfl) (rwI (k := k) (by omega)).1 ?_
    refine c_X8_has (rwI hk) (fun b c => ⟨_, rfl, ?_⟩) (fun b => ⟨_, rfl, ?_⟩)
    · refine y_if_eq (tgt := 31) dX11_lackOfPlace_24 (by decide) (fun h24 => absurd h24 (by decide)) (fun h24 => ?_)
      refine y_iconst (v := 0) dX11_lackOfPlace_27 (by decide) ?_
      refine y_goto (tgt := 32) dX11_lackOfPlace_28 (by decide) ?_
      refine y_ireturn dX11_lackOfPlace_32 rfl rfl ?_
      first | exact hQ1 a | exact hQ0 a b c | exact hQ2 a b
    · refine y_if_eq (tgt := 31) dX11_lackOfPlace_24 (by decide) (fun h24 => ?_) (fun h24 => absurd (by decide) h24)
      refine y_iconst (v := 2) dX11_lackOfPlace_31 (by decide) ?_
      refine y_ireturn dX11_lackOfPlace_32 rfl rfl ?_
      first | exact hQ1 a | exact hQ0 a b c | exact hQ2 a b
  · refine y_if_ne (tgt := 14) dX11_lackOfPlace_9 (by decide) (fun h9 => absurd (by decide) h9) (fun h9 => ?_)
    refine y_iconst (v := 1) dX11_lackOfPlace_12 (by decide) ?_
    refine y_ireturn dX11_lackOfPlace_13 rfl rfl ?_
    first | exact hQ1 a | exact hQ0 a b c | exact hQ2 a b
set_option maxHeartbeats 1000000 in
theorem c_X12_row_ok {L : Nat} {xs : Nat → Int32} {d : Nat} {m : sM} {n : sN} {Q : sQ} {k s : Nat} {r q : Int32} (hr : r = nI k) (hk : k < 6) (hq : q = nI s) (hs : s ≤ 40) (hQ : Q (some (.int (nI s))) (s_up (s_up m 241 (upd (m 241) k (nI s))) 242 (layN (fun _ => 0) (40 * k) (40 * k + 40) (m 242))) n) : sRun (scT L xs) (d + 4) yX12_row cX12_row 4 (some .int) [.ref 239, .int r, .int q] m n Q := by
  subst hr hq
  refine y_run (own := "LoafFallModel") rfl (by decide +kernel) (Nat.le_of_ble_eq_true rfl) rfl ?_
  refine y_iload_n dX12_row_0 rfl rfl ?_
  refine y_isI1 dX12_row_1 ms_X12_96 my_X12_isRow (Or.inl rfl) ?_
  refine c_X12_isRow (fun _ => ⟨_, rfl, ?_⟩) (fun z => absurd ⟨k, hk, rfl⟩ z)
  refine y_if_eq (tgt := 13) dX12_row_4 (by decide) (fun h4 => absurd h4 (by decide)) (fun h4 => ?_)
  refine y_iload_n dX12_row_7 rfl rfl ?_
  refine y_bipush (v := 40) dX12_row_8 (by decide) ?_
  refine y_icmp_le (tgt := 15) dX12_row_10 (by decide) (fun h10 => ?_) (fun h10 => absurd (nI_le (b := 40) hs (by decide)) h10)
  refine y_iload_n dX12_row_15 rfl rfl ?_
  refine y_if_ge (tgt := 25) dX12_row_16 (by decide) (fun h16 => ?_) (fun h16 => absurd (nI_pos' (by omega)) h16)
  refine y_aload_n dX12_row_25 rfl rfl ?_
  refine y_getr dX12_row_26 gf_X12_13 sh_239 rfl ?_
  refine y_iload_n dX12_row_29 rfl rfl ?_
  refine y_iload_n dX12_row_30 rfl rfl ?_
  refine y_iastN dX12_row_31 sh_241 rfl (by first | omega | decide) (by decide) ?_
  refine y_iconst (v := 0) dX12_row_32 (by decide) ?_
  refine y_ist4_3 dX12_row_33 rfl ?_
  obtain ⟨m0, em⟩ : ∃ m0, m0 = s_up m 241 (upd (m 241) k (nI s)) := ⟨_, rfl⟩
  rw [← em] at hQ ⊢
  have e0 : s_up m0 242 (layN (fun _ => 0) (40 * k) (40 * k + 0) (m0 242)) = m0 := by rw [layN_0]; exact s_id
  refine cnt (P := fun j => ∀ m' : sM, m' = s_up m0 242 (layN (fun _ => 0) (40 * k) (40 * k + j) (m0 242)) → sV (scT L xs) (d + 3) "LoafFallModel" cX12_row 4 (some .int) Q 34 [some (.ref 239), some (.int (nI k)), some (.int (nI s)), some (.int (nI j))] [] m' n) 40 ?_ ?_ 0 (by omega) m0 e0.symm
  · intro m' hm
    refine y_iload_n dX12_row_34 rfl rfl ?_
    refine y_bipush (v := 40) dX12_row_35 (by decide) ?_
    refine y_icmp_ge (tgt := 58) dX12_row_37 (by decide) (fun h37 => ?_) (fun h37 => absurd (nI_le (a := 40) (b := 40) (Nat.le_refl _) (by decide)) h37)
    refine y_iload_n dX12_row_58 rfl rfl ?_
    refine y_ireturn dX12_row_59 rfl rfl ?_
    rw [hm, show m0 242 = m 242 from by rw [em]; exact s_upN (by decide)]
    exact hQ
  · intro j hk hP
    intro m' hm
    refine y_iload_n dX12_row_34 rfl rfl ?_
    refine y_bipush (v := 40) dX12_row_35 (by decide) ?_
    refine y_icmp_ge (tgt := 58) dX12_row_37 (by decide) (fun h37 => absurd h37 (nI_ge (a := j) (b := 40) hk (by decide))) (fun h37 => ?_)
    refine y_aload_n dX12_row_40 rfl rfl ?_
    refine y_getr dX12_row_41 gf_X12_16 sh_239 rfl ?_
    refine y_bipush (v := 40) dX12_row_44 (by decide) ?_
    refine y_iload_n dX12_row_46 rfl rfl ?_
    refine y_imulN (a := 40) (b := k) dX12_row_47 rfl rfl ?_
    refine y_iload_n dX12_row_48 rfl rfl ?_
    refine y_iaddN (a := 40 * k) (b := j) dX12_row_49 rfl rfl ?_
    refine y_iconst (v := 0) dX12_row_50 (by decide) ?_
    refine y_iastN dX12_row_51 sh_242 rfl (by first | omega | decide) (by decide) ?_
    refine y_iinc4_3 dX12_row_52 (nI_1 _) rfl ?_
    refine y_goto (tgt := 34) dX12_row_55 (by decide) ?_
    refine hP _ ?_
    rw [hm, s_upS, s_up2, ← layN_S (g := fun _ => 0)]
set_option maxHeartbeats 2000000 in
theorem p_row {L : Nat} {xs : Nat → Int32} {d : Nat} {m : sM} {n : sN} {r q : Int32} (h : Rel m n) : PI L xs (d + 11) yX11_row cX11_row 3 yX12_row cX12_row 4 [.int r, .int q] m n := by
  unfold PI
  by_cases hr : inN r 6
  · by_cases hq : 40 < q
    · refine y_run (own := "LoafFall") rfl (by decide +kernel) (Nat.le_of_ble_eq_true rfl) rfl ?_
      refine y_iload_n dX11_row_0 rfl rfl ?_
      refine y_isI1 dX11_row_1 ms_X11_101 my_X11_isRow (Or.inl rfl) ?_
      refine c_X11_isRow (fun _ => ⟨_, rfl, ?_⟩) (fun z => absurd hr z)
      refine y_if_eq (tgt := 13) dX11_row_4 (by decide) (fun h4 => absurd h4 (by decide)) (fun h4 => ?_)
      refine y_iload_n dX11_row_7 rfl rfl ?_
      refine y_bipush (v := 40) dX11_row_8 (by decide) ?_
      refine y_icmp_le (tgt := 15) dX11_row_10 (by decide) (fun h10 => absurd h10 (Int32.not_le.mpr hq)) (fun h10 => ?_)
      refine y_iconst (v := -1) dX11_row_13 (by decide) ?_
      refine y_ireturn dX11_row_14 rfl rfl ?_
      refine ⟨_, rfl, ?_⟩
      refine y_run (own := "LoafFallModel") rfl (by decide +kernel) (Nat.le_of_ble_eq_true rfl) rfl ?_
      refine y_iload_n dX12_row_0 rfl rfl ?_
      refine y_isI1 dX12_row_1 ms_X12_96 my_X12_isRow (Or.inl rfl) ?_
      refine c_X12_isRow (fun _ => ⟨_, rfl, ?_⟩) (fun z => absurd hr z)
      refine y_if_eq (tgt := 13) dX12_row_4 (by decide) (fun h4 => absurd h4 (by decide)) (fun h4 => ?_)
      refine y_iload_n dX12_row_7 rfl rfl ?_
      refine y_bipush (v := 40) dX12_row_8 (by decide) ?_
      refine y_icmp_le (tgt := 15) dX12_row_10 (by decide) (fun h10 => absurd h10 (Int32.not_le.mpr hq)) (fun h10 => ?_)
      refine y_iconst (v := -1) dX12_row_13 (by decide) ?_
      refine y_ireturn dX12_row_14 rfl rfl ?_
      exact ⟨rfl, h⟩
    · by_cases hn : q < 0
      · refine y_run (own := "LoafFall") rfl (by decide +kernel) (Nat.le_of_ble_eq_true rfl) rfl ?_
        refine y_iload_n dX11_row_0 rfl rfl ?_
        refine y_isI1 dX11_row_1 ms_X11_101 my_X11_isRow (Or.inl rfl) ?_
        refine c_X11_isRow (fun _ => ⟨_, rfl, ?_⟩) (fun z => absurd hr z)
        refine y_if_eq (tgt := 13) dX11_row_4 (by decide) (fun h4 => absurd h4 (by decide)) (fun h4 => ?_)
        refine y_iload_n dX11_row_7 rfl rfl ?_
        refine y_bipush (v := 40) dX11_row_8 (by decide) ?_
        refine y_icmp_le (tgt := 15) dX11_row_10 (by decide) (fun h10 => ?_) (fun h10 => absurd (Int32.not_lt.mp hq) h10)
        refine y_iload_n dX11_row_15 rfl rfl ?_
        refine y_if_ge (tgt := 25) dX11_row_16 (by decide) (fun h16 => absurd h16 (Int32.not_le.mpr hn)) (fun h16 => ?_)
        refine y_aload_n dX11_row_19 rfl rfl ?_
        refine y_iconst (v := 5) dX11_row_20 (by decide) ?_
        refine y_ivI1 dX11_row_21 mv_X11_105 my_X11_found (Or.inl rfl) sh_0 ?_
        refine c_X11_found (f := 5) rfl (by omega) (by omega) ⟨_, rfl, ?_⟩
        refine y_ireturn dX11_row_24 rfl rfl ?_
        refine ⟨_, rfl, ?_⟩
        obtain ⟨m1, em⟩ : ∃ m1, m1 = foundM m 5 := ⟨_, rfl⟩
        rw [← em]
        have g : ∀ a, 138 ≤ a → m1 a = m a := fun a ha => by rw [em]; exact found_o (by omega) (by omega)
        refine y_run (own := "LoafFallModel") rfl (by decide +kernel) (Nat.le_of_ble_eq_true rfl) rfl ?_
        refine y_iload_n dX12_row_0 rfl rfl ?_
        refine y_isI1 dX12_row_1 ms_X12_96 my_X12_isRow (Or.inl rfl) ?_
        refine c_X12_isRow (fun _ => ⟨_, rfl, ?_⟩) (fun z => absurd hr z)
        refine y_if_eq (tgt := 13) dX12_row_4 (by decide) (fun h4 => absurd h4 (by decide)) (fun h4 => ?_)
        refine y_iload_n dX12_row_7 rfl rfl ?_
        refine y_bipush (v := 40) dX12_row_8 (by decide) ?_
        refine y_icmp_le (tgt := 15) dX12_row_10 (by decide) (fun h10 => ?_) (fun h10 => absurd (Int32.not_lt.mp hq) h10)
        refine y_iload_n dX12_row_15 rfl rfl ?_
        refine y_if_ge (tgt := 25) dX12_row_16 (by decide) (fun h16 => absurd h16 (Int32.not_le.mpr hn)) (fun h16 => ?_)
        refine y_aload_n dX12_row_19 rfl rfl ?_
        refine y_iconst (v := 5) dX12_row_20 (by decide) ?_
        refine y_ivI1 dX12_row_21 mv_X12_100 my_X12_meets (Or.inl rfl) sh_239 ?_
        refine c_X12_meets (f := 5) rfl (by omega) ⟨_, rfl, ?_⟩
        refine y_ireturn dX12_row_24 rfl rfl ?_
        exact ⟨rfl, by rw [em]; exact Rel_met h⟩
      · obtain ⟨s, hs, rfl⟩ := nI_of2 (M := 40) (n := 40) (by decide) hn (Int32.not_lt.mp hq)
        obtain ⟨k, hk, rfl⟩ := hr
        have hr : inN (nI k) 6 := ⟨k, hk, rfl⟩
        refine y_run (own := "LoafFall") rfl (by decide +kernel) (Nat.le_of_ble_eq_true rfl) rfl ?_
        refine y_iload_n dX11_row_0 rfl rfl ?_
        refine y_isI1 dX11_row_1 ms_X11_101 my_X11_isRow (Or.inl rfl) ?_
        refine c_X11_isRow (fun _ => ⟨_, rfl, ?_⟩) (fun z => absurd hr z)
        refine y_if_eq (tgt := 13) dX11_row_4 (by decide) (fun h4 => absurd h4 (by decide)) (fun h4 => ?_)
        refine y_iload_n dX11_row_7 rfl rfl ?_
        refine y_bipush (v := 40) dX11_row_8 (by decide) ?_
        refine y_icmp_le (tgt := 15) dX11_row_10 (by decide) (fun h10 => ?_) (fun h10 => absurd (Int32.not_lt.mp hq) h10)
        refine y_iload_n dX11_row_15 rfl rfl ?_
        refine y_if_ge (tgt := 25) dX11_row_16 (by decide) (fun h16 => ?_) (fun h16 => absurd (Int32.not_lt.mp hn) h16)
        refine y_aload_n dX11_row_25 rfl rfl ?_
        refine y_getr dX11_row_26 gf_X11_11 sh_0 rfl ?_
        refine y_iload_n dX11_row_29 rfl rfl ?_
        refine y_aaldN dX11_row_30 (by decide) sh_1 rfl (rwA (k := k) (by omega)) (by decide) ?_
        refine y_iload_n dX11_row_31 rfl rfl ?_
        refine y_ivV1 dX11_row_32 mv_X11_109 my_X8_renew (Or.inl rfl) (rwI (k := k) (by omega)).1 ?_
        refine c_X8_renew (rwI hk) rfl hs (fun m1 f1 f2 f3 f4 => ⟨rfl, ?_⟩)
        refine y_iload_n dX11_row_35 rfl rfl ?_
        refine y_ireturn dX11_row_36 rfl rfl ?_
        refine ⟨_, rfl, ?_⟩
        refine c_X12_row_ok rfl hk rfl hs ⟨rfl, ?_⟩
        have el : layN (fun _ => 0) (40 * k) (40 * k + 40) (m1 242) = layN (fun _ => 0) (40 * k) (40 * k + 40) (m 242) := by rw [f1 _ (by omega) (by omega)]
        refine Rel_W (k := k) h (RA_id h.1 ?_ ?_ ?_ ?_) (fun a ha => ?_) ?_ (fun r hr hne => ⟨?_, ?_, ?_, fun i hi => ?_⟩) (Or.inr ⟨s, hs, ?_, ?_, fun i hi => ?_⟩)
        · rw [s_upN (by omega), s_upN (by omega), f1 _ (by omega) (by omega)]
        · rw [s_upN (by omega), s_upN (by omega), f1 _ (by omega) (by omega)]
        · rw [s_upN (by omega), s_upN (by omega), f1 _ (by omega) (by omega)]
        · rw [s_upN (by omega), s_upN (by omega), f1 _ (by omega) (by omega)]
        · rw [s_upN (by omega), s_upN (by omega), f1 _ (by omega) (by omega)]
        · rw [s_upN (by omega), s_upN (by omega), f1 _ (by omega) (by omega)]
        · rw [s_upN (by omega), s_upN (by omega), f1 _ (by omega) (by omega)]
        · rw [s_upN (by omega), s_upN (by omega), f1 _ (by omega) (by omega)]
        · rw [s_upN (by omega), s_upS, updN hne, f1 _ (by omega) (by omega)]
        · rw [s_upS, layN_o (by omega), f1 _ (by omega) (by omega)]
        · rw [s_upN (by omega), s_upS, updS]
        · rw [s_upN (by omega), s_upN (by omega)]; exact f2
        · rw [s_upN (by omega), s_upN (by omega), s_upS, f3 i hi]
          unfold layN
          rw [if_pos (by omega)]
  · refine y_run (own := "LoafFall") rfl (by decide +kernel) (Nat.le_of_ble_eq_true rfl) rfl ?_
    refine y_iload_n dX11_row_0 rfl rfl ?_
    refine y_isI1 dX11_row_1 ms_X11_101 my_X11_isRow (Or.inl rfl) ?_
    refine c_X11_isRow (fun z => absurd z hr) (fun _ => ⟨_, rfl, ?_⟩)
    refine y_if_eq (tgt := 13) dX11_row_4 (by decide) (fun h4 => ?_) (fun h4 => absurd (by decide) h4)
    refine y_iconst (v := -1) dX11_row_13 (by decide) ?_
    refine y_ireturn dX11_row_14 rfl rfl ?_
    refine ⟨_, rfl, ?_⟩
    refine y_run (own := "LoafFallModel") rfl (by decide +kernel) (Nat.le_of_ble_eq_true rfl) rfl ?_
    refine y_iload_n dX12_row_0 rfl rfl ?_
    refine y_isI1 dX12_row_1 ms_X12_96 my_X12_isRow (Or.inl rfl) ?_
    refine c_X12_isRow (fun z => absurd z hr) (fun _ => ⟨_, rfl, ?_⟩)
    refine y_if_eq (tgt := 13) dX12_row_4 (by decide) (fun h4 => ?_) (fun h4 => absurd (by decide) h4)
    refine y_iconst (v := -1) dX12_row_13 (by decide) ?_
    refine y_ireturn dX12_row_14 rfl rfl ?_
    exact ⟨rfl, h⟩
set_option maxHeartbeats 1000000 in
theorem c_X12_text_ok {L : Nat} {xs : Nat → Int32} {d : Nat} {m : sM} {n : sN} {Q : sQ} {k s : Nat} {r q : Int32} (hr : r = nI k) (hk : k < 4) (hq : q = nI s) (hs : s ≤ 80) (hQ : Q (some (.int (nI s))) (s_up (s_up m 244 (upd (m 244) k (nI s))) 245 (layN (fun _ => 32) (80 * k) (80 * k + 80) (m 245))) n) : sRun (scT L xs) (d + 4) yX12_text cX12_text 4 (some .int) [.ref 239, .int r, .int q] m n Q := by
  subst hr hq
  refine y_run (own := "LoafFallModel") rfl (by decide +kernel) (Nat.le_of_ble_eq_true rfl) rfl ?_
  refine y_iload_n dX12_text_0 rfl rfl ?_
  refine y_isI1 dX12_text_1 ms_X12_111 my_X12_isText (Or.inl rfl) ?_
  refine c_X12_isText (fun _ => ⟨_, rfl, ?_⟩) (fun z => absurd ⟨k, hk, rfl⟩ z)
  refine y_if_eq (tgt := 13) dX12_text_4 (by decide) (fun h4 => absurd h4 (by decide)) (fun h4 => ?_)
  refine y_iload_n dX12_text_7 rfl rfl ?_
  refine y_bipush (v := 80) dX12_text_8 (by decide) ?_
  refine y_icmp_le (tgt := 15) dX12_text_10 (by decide) (fun h10 => ?_) (fun h10 => absurd (nI_le (b := 80) hs (by decide)) h10)
  refine y_iload_n dX12_text_15 rfl rfl ?_
  refine y_if_ge (tgt := 25) dX12_text_16 (by decide) (fun h16 => ?_) (fun h16 => absurd (nI_pos' (by omega)) h16)
  refine y_aload_n dX12_text_25 rfl rfl ?_
  refine y_getr dX12_text_26 gf_X12_22 sh_239 rfl ?_
  refine y_iload_n dX12_text_29 rfl rfl ?_
  refine y_iload_n dX12_text_30 rfl rfl ?_
  refine y_iastN dX12_text_31 sh_244 rfl (by first | omega | decide) (by decide) ?_
  refine y_iconst (v := 0) dX12_text_32 (by decide) ?_
  refine y_ist4_3 dX12_text_33 rfl ?_
  obtain ⟨m0, em⟩ : ∃ m0, m0 = s_up m 244 (upd (m 244) k (nI s)) := ⟨_, rfl⟩
  rw [← em] at hQ ⊢
  have e0 : s_up m0 245 (layN (fun _ => 32) (80 * k) (80 * k + 0) (m0 245)) = m0 := by rw [layN_0]; exact s_id
  refine cnt (P := fun j => ∀ m' : sM, m' = s_up m0 245 (layN (fun _ => 32) (80 * k) (80 * k + j) (m0 245)) → sV (scT L xs) (d + 3) "LoafFallModel" cX12_text 4 (some .int) Q 34 [some (.ref 239), some (.int (nI k)), some (.int (nI s)), some (.int (nI j))] [] m' n) 80 ?_ ?_ 0 (by omega) m0 e0.symm
  · intro m' hm
    refine y_iload_n dX12_text_34 rfl rfl ?_
    refine y_bipush (v := 80) dX12_text_35 (by decide) ?_
    refine y_icmp_ge (tgt := 59) dX12_text_37 (by decide) (fun h37 => ?_) (fun h37 => absurd (nI_le (a := 80) (b := 80) (Nat.le_refl _) (by decide)) h37)
    refine y_iload_n dX12_text_59 rfl rfl ?_
    refine y_ireturn dX12_text_60 rfl rfl ?_
    rw [hm, show m0 245 = m 245 from by rw [em]; exact s_upN (by decide)]
    exact hQ
  · intro j hk hP
    intro m' hm
    refine y_iload_n dX12_text_34 rfl rfl ?_
    refine y_bipush (v := 80) dX12_text_35 (by decide) ?_
    refine y_icmp_ge (tgt := 59) dX12_text_37 (by decide) (fun h37 => absurd h37 (nI_ge (a := j) (b := 80) hk (by decide))) (fun h37 => ?_)
    refine y_aload_n dX12_text_40 rfl rfl ?_
    refine y_getr dX12_text_41 gf_X12_25 sh_239 rfl ?_
    refine y_bipush (v := 80) dX12_text_44 (by decide) ?_
    refine y_iload_n dX12_text_46 rfl rfl ?_
    refine y_imulN (a := 80) (b := k) dX12_text_47 rfl rfl ?_
    refine y_iload_n dX12_text_48 rfl rfl ?_
    refine y_iaddN (a := 80 * k) (b := j) dX12_text_49 rfl rfl ?_
    refine y_bipush (v := 32) dX12_text_50 (by decide) ?_
    refine y_bastN dX12_text_52 sh_245 rfl (by first | omega | decide) (by decide) rfl ?_
    refine y_iinc4_3 dX12_text_53 (nI_1 _) rfl ?_
    refine y_goto (tgt := 34) dX12_text_56 (by decide) ?_
    refine hP _ ?_
    rw [hm, s_upS, s_up2, ← layN_S (g := fun _ => 32)]
set_option maxHeartbeats 2000000 in
theorem p_text {L : Nat} {xs : Nat → Int32} {d : Nat} {m : sM} {n : sN} {r q : Int32} (h : Rel m n) : PI L xs (d + 11) yX11_text cX11_text 3 yX12_text cX12_text 4 [.int r, .int q] m n := by
  unfold PI
  by_cases hr : inN r 4
  · by_cases hq : 80 < q
    · refine y_run (own := "LoafFall") rfl (by decide +kernel) (Nat.le_of_ble_eq_true rfl) rfl ?_
      refine y_iload_n dX11_text_0 rfl rfl ?_
      refine y_isI1 dX11_text_1 ms_X11_141 my_X11_isText (Or.inl rfl) ?_
      refine c_X11_isText (fun _ => ⟨_, rfl, ?_⟩) (fun z => absurd hr z)
      refine y_if_eq (tgt := 13) dX11_text_4 (by decide) (fun h4 => absurd h4 (by decide)) (fun h4 => ?_)
      refine y_iload_n dX11_text_7 rfl rfl ?_
      refine y_bipush (v := 80) dX11_text_8 (by decide) ?_
      refine y_icmp_le (tgt := 15) dX11_text_10 (by decide) (fun h10 => absurd h10 (Int32.not_le.mpr hq)) (fun h10 => ?_)
      refine y_iconst (v := -1) dX11_text_13 (by decide) ?_
      refine y_ireturn dX11_text_14 rfl rfl ?_
      refine ⟨_, rfl, ?_⟩
      refine y_run (own := "LoafFallModel") rfl (by decide +kernel) (Nat.le_of_ble_eq_true rfl) rfl ?_
      refine y_iload_n dX12_text_0 rfl rfl ?_
      refine y_isI1 dX12_text_1 ms_X12_111 my_X12_isText (Or.inl rfl) ?_
      refine c_X12_isText (fun _ => ⟨_, rfl, ?_⟩) (fun z => absurd hr z)
      refine y_if_eq (tgt := 13) dX12_text_4 (by decide) (fun h4 => absurd h4 (by decide)) (fun h4 => ?_)
      refine y_iload_n dX12_text_7 rfl rfl ?_
      refine y_bipush (v := 80) dX12_text_8 (by decide) ?_
      refine y_icmp_le (tgt := 15) dX12_text_10 (by decide) (fun h10 => absurd h10 (Int32.not_le.mpr hq)) (fun h10 => ?_)
      refine y_iconst (v := -1) dX12_text_13 (by decide) ?_
      refine y_ireturn dX12_text_14 rfl rfl ?_
      exact ⟨rfl, h⟩
    · by_cases hn : q < 0
      · refine y_run (own := "LoafFall") rfl (by decide +kernel) (Nat.le_of_ble_eq_true rfl) rfl ?_
        refine y_iload_n dX11_text_0 rfl rfl ?_
        refine y_isI1 dX11_text_1 ms_X11_141 my_X11_isText (Or.inl rfl) ?_
        refine c_X11_isText (fun _ => ⟨_, rfl, ?_⟩) (fun z => absurd hr z)
        refine y_if_eq (tgt := 13) dX11_text_4 (by decide) (fun h4 => absurd h4 (by decide)) (fun h4 => ?_)
        refine y_iload_n dX11_text_7 rfl rfl ?_
        refine y_bipush (v := 80) dX11_text_8 (by decide) ?_
        refine y_icmp_le (tgt := 15) dX11_text_10 (by decide) (fun h10 => ?_) (fun h10 => absurd (Int32.not_lt.mp hq) h10)
        refine y_iload_n dX11_text_15 rfl rfl ?_
        refine y_if_ge (tgt := 25) dX11_text_16 (by decide) (fun h16 => absurd h16 (Int32.not_le.mpr hn)) (fun h16 => ?_)
        refine y_aload_n dX11_text_19 rfl rfl ?_
        refine y_iconst (v := 5) dX11_text_20 (by decide) ?_
        refine y_ivI1 dX11_text_21 mv_X11_105 my_X11_found (Or.inl rfl) sh_0 ?_
        refine c_X11_found (f := 5) rfl (by omega) (by omega) ⟨_, rfl, ?_⟩
        refine y_ireturn dX11_text_24 rfl rfl ?_
        refine ⟨_, rfl, ?_⟩
        obtain ⟨m1, em⟩ : ∃ m1, m1 = foundM m 5 := ⟨_, rfl⟩
        rw [← em]
        have g : ∀ a, 138 ≤ a → m1 a = m a := fun a ha => by rw [em]; exact found_o (by omega) (by omega)
        refine y_run (own := "LoafFallModel") rfl (by decide +kernel) (Nat.le_of_ble_eq_true rfl) rfl ?_
        refine y_iload_n dX12_text_0 rfl rfl ?_
        refine y_isI1 dX12_text_1 ms_X12_111 my_X12_isText (Or.inl rfl) ?_
        refine c_X12_isText (fun _ => ⟨_, rfl, ?_⟩) (fun z => absurd hr z)
        refine y_if_eq (tgt := 13) dX12_text_4 (by decide) (fun h4 => absurd h4 (by decide)) (fun h4 => ?_)
        refine y_iload_n dX12_text_7 rfl rfl ?_
        refine y_bipush (v := 80) dX12_text_8 (by decide) ?_
        refine y_icmp_le (tgt := 15) dX12_text_10 (by decide) (fun h10 => ?_) (fun h10 => absurd (Int32.not_lt.mp hq) h10)
        refine y_iload_n dX12_text_15 rfl rfl ?_
        refine y_if_ge (tgt := 25) dX12_text_16 (by decide) (fun h16 => absurd h16 (Int32.not_le.mpr hn)) (fun h16 => ?_)
        refine y_aload_n dX12_text_19 rfl rfl ?_
        refine y_iconst (v := 5) dX12_text_20 (by decide) ?_
        refine y_ivI1 dX12_text_21 mv_X12_100 my_X12_meets (Or.inl rfl) sh_239 ?_
        refine c_X12_meets (f := 5) rfl (by omega) ⟨_, rfl, ?_⟩
        refine y_ireturn dX12_text_24 rfl rfl ?_
        exact ⟨rfl, by rw [em]; exact Rel_met h⟩
      · obtain ⟨s, hs, rfl⟩ := nI_of2 (M := 80) (n := 80) (by decide) hn (Int32.not_lt.mp hq)
        obtain ⟨k, hk, rfl⟩ := hr
        have hr : inN (nI k) 4 := ⟨k, hk, rfl⟩
        refine y_run (own := "LoafFall") rfl (by decide +kernel) (Nat.le_of_ble_eq_true rfl) rfl ?_
        refine y_iload_n dX11_text_0 rfl rfl ?_
        refine y_isI1 dX11_text_1 ms_X11_141 my_X11_isText (Or.inl rfl) ?_
        refine c_X11_isText (fun _ => ⟨_, rfl, ?_⟩) (fun z => absurd hr z)
        refine y_if_eq (tgt := 13) dX11_text_4 (by decide) (fun h4 => absurd h4 (by decide)) (fun h4 => ?_)
        refine y_iload_n dX11_text_7 rfl rfl ?_
        refine y_bipush (v := 80) dX11_text_8 (by decide) ?_
        refine y_icmp_le (tgt := 15) dX11_text_10 (by decide) (fun h10 => ?_) (fun h10 => absurd (Int32.not_lt.mp hq) h10)
        refine y_iload_n dX11_text_15 rfl rfl ?_
        refine y_if_ge (tgt := 25) dX11_text_16 (by decide) (fun h16 => ?_) (fun h16 => absurd (Int32.not_lt.mp hn) h16)
        refine y_aload_n dX11_text_25 rfl rfl ?_
        refine y_getr dX11_text_26 gf_X11_17 sh_0 rfl ?_
        refine y_iload_n dX11_text_29 rfl rfl ?_
        refine y_aaldN dX11_text_30 (by decide) sh_2 rfl (txA (k := k) (by omega)) (by decide) ?_
        refine y_iload_n dX11_text_31 rfl rfl ?_
        refine y_ivV1 dX11_text_32 mv_X11_144 my_X10_renew (Or.inl rfl) (txI (k := k) (by omega)).1 ?_
        refine c_X10_renew (txI hk) rfl hs (fun m1 f1 f2 f3 f4 => ⟨rfl, ?_⟩)
        refine y_iload_n dX11_text_35 rfl rfl ?_
        refine y_ireturn dX11_text_36 rfl rfl ?_
        refine ⟨_, rfl, ?_⟩
        refine c_X12_text_ok rfl hk rfl hs ⟨rfl, ?_⟩
        have el : layN (fun _ => 32) (80 * k) (80 * k + 80) (m1 245) = layN (fun _ => 32) (80 * k) (80 * k + 80) (m 245) := by rw [f1 _ (by omega) (by omega)]
        refine Rel_T (k := k) h (RA_id h.1 ?_ ?_ ?_ ?_) (fun a ha => ?_) ?_ (fun r hr hne => ⟨?_, ?_, ?_, fun i hi => ?_⟩) (Or.inr ⟨s, hs, ?_, ?_, fun i hi => ?_⟩)
        · rw [s_upN (by omega), s_upN (by omega), f1 _ (by omega) (by omega)]
        · rw [s_upN (by omega), s_upN (by omega), f1 _ (by omega) (by omega)]
        · rw [s_upN (by omega), s_upN (by omega), f1 _ (by omega) (by omega)]
        · rw [s_upN (by omega), s_upN (by omega), f1 _ (by omega) (by omega)]
        · rw [s_upN (by omega), s_upN (by omega), f1 _ (by omega) (by omega)]
        · rw [s_upN (by omega), s_upN (by omega), f1 _ (by omega) (by omega)]
        · rw [s_upN (by omega), s_upN (by omega), f1 _ (by omega) (by omega)]
        · rw [s_upN (by omega), s_upN (by omega), f1 _ (by omega) (by omega)]
        · rw [s_upN (by omega), s_upS, updN hne, f1 _ (by omega) (by omega)]
        · rw [s_upS, layN_o (by omega), f1 _ (by omega) (by omega)]
        · rw [s_upN (by omega), s_upS, updS]
        · rw [s_upN (by omega), s_upN (by omega)]; exact f2
        · rw [s_upN (by omega), s_upN (by omega), s_upS, f3 i hi]
          unfold layN
          rw [if_pos (by omega)]
  · refine y_run (own := "LoafFall") rfl (by decide +kernel) (Nat.le_of_ble_eq_true rfl) rfl ?_
    refine y_iload_n dX11_text_0 rfl rfl ?_
    refine y_isI1 dX11_text_1 ms_X11_141 my_X11_isText (Or.inl rfl) ?_
    refine c_X11_isText (fun z => absurd z hr) (fun _ => ⟨_, rfl, ?_⟩)
    refine y_if_eq (tgt := 13) dX11_text_4 (by decide) (fun h4 => ?_) (fun h4 => absurd (by decide) h4)
    refine y_iconst (v := -1) dX11_text_13 (by decide) ?_
    refine y_ireturn dX11_text_14 rfl rfl ?_
    refine ⟨_, rfl, ?_⟩
    refine y_run (own := "LoafFallModel") rfl (by decide +kernel) (Nat.le_of_ble_eq_true rfl) rfl ?_
    refine y_iload_n dX12_text_0 rfl rfl ?_
    refine y_isI1 dX12_text_1 ms_X12_111 my_X12_isText (Or.inl rfl) ?_
    refine c_X12_isText (fun z => absurd z hr) (fun _ => ⟨_, rfl, ?_⟩)
    refine y_if_eq (tgt := 13) dX12_text_4 (by decide) (fun h4 => ?_) (fun h4 => absurd (by decide) h4)
    refine y_iconst (v := -1) dX12_text_13 (by decide) ?_
    refine y_ireturn dX12_text_14 rfl rfl ?_
    exact ⟨rfl, h⟩
