/-! ===== height, cell, fall, mark ===== -/
theorem wk_eta (m : sM) (j : Nat) : wkM m (329 * j) = stR (wkM m (329 * j)) (m 255) (329 * j) (lfR m j) := by
  have e := stR_eta (wkM m (329 * j)) (329 * j)
  rw [wk_o (show 255 ≠ 239 by omega)] at e
  rw [show (fun p => wkM m (329 * j) 254 (329 * j + p)) = lfR m j from by funext p; rw [wk_o (show 254 ≠ 239 by omega)]; rfl] at e
  exact e.symm
theorem LR.fact {m : sM} {L : Nat} {R : Nat → Int32} (h : LR m L R) {k q : Nat} (hk : k < 24) (hq : q < 5) : m (L + 7 + 1 + q) k = R (41 + 5 * k + q) := by
  have : q = 0 ∨ q = 1 ∨ q = 2 ∨ q = 3 ∨ q = 4 := by omega
  rcases this with rfl | rfl | rfl | rfl | rfl
  · exact h.g hk
  · exact h.t hk
  · exact h.h hk
  · exact h.s hk
  · exact h.o hk
theorem LR.fall {m : sM} {L : Nat} {R : Nat → Int32} (h : LR m L R) {k q : Nat} (hk : k < qOf R) (hq : q < 4) : m (L + 13 + 1 + q) k = R (161 + 7 * k + q) := by
  obtain ⟨a, b, c, e, -⟩ := h.2.2.2.2.2 k hk
  have : q = 0 ∨ q = 1 ∨ q = 2 ∨ q = 3 := by omega
  rcases this with rfl | rfl | rfl | rfl
  · exact a
  · exact b
  · exact c
  · exact e
theorem lfR_m {m m' : sM} {j : Nat} (e : m' 254 = m 254) : lfR m' j = lfR m j := by unfold lfR; rw [e]
theorem q40 {m : sM} (h : sR (lfR m 0)) : lfR m 0 40 = nI (qOf (lfR m 0)) ∧ qOf (lfR m 0) ≤ 24 := wfR_q h.1.wf
theorem one_le {x : Int32} (h : 0 < x) : 1 ≤ x := by
  rw [Int32.lt_iff_toInt_lt] at h
  rw [Int32.le_iff_toInt_le]
  have : (0 : Int32).toInt = 0 := by decide
  have : (1 : Int32).toInt = 1 := by decide
  omega
set_option maxHeartbeats 2000000 in
theorem p_height {L : Nat} {xs : Nat → Int32} {d : Nat} {m : sM} {n : sN} (h : Rel m n) : PI L xs (d + 11) yX11_height cX11_height 1 yX12_height cX12_height 1 [] m n := by
  unfold PI
  rcases h.l.1 with ⟨l1, l2⟩ | ⟨l1, l2, l3, l4, l5, l6, l7⟩
  · refine y_run (own := "LoafFall") rfl (by decide +kernel) (Nat.le_of_ble_eq_true rfl) rfl ?_
    refine y_aload_n dX11_height_0 rfl rfl ?_
    refine y_getr dX11_height_1 gf_X11_40 sh_0 rfl ?_
    refine y_geti dX11_height_4 gf_X11_211 sh_6 rfl ?_
    refine y_if_ne (tgt := 13) dX11_height_7 (by decide) (fun h7 => absurd l2 h7) (fun h7 => ?_)
    refine y_bipush (v := -4) dX11_height_10 (by decide) ?_
    refine y_ireturn dX11_height_12 rfl rfl ?_
    refine ⟨_, rfl, ?_⟩
    refine y_run (own := "LoafFallModel") rfl (by decide +kernel) (Nat.le_of_ble_eq_true rfl) rfl ?_
    refine y_aload_n dX12_height_0 rfl rfl ?_
    refine y_getr dX12_height_1 gf_X12_51 sh_239 rfl ?_
    refine y_iconst (v := 0) dX12_height_4 (by decide) ?_
    refine y_zaldN dX12_height_5 sh_253 rfl (by first | omega | decide) (by decide) ?_
    refine y_if_ne (tgt := 12) dX12_height_6 (by decide) (fun h6 => absurd l1 h6) (fun h6 => ?_)
    refine y_bipush (v := -4) dX12_height_9 (by decide) ?_
    refine y_ireturn dX12_height_11 rfl rfl ?_
    exact ⟨rfl, h⟩
  · refine y_run (own := "LoafFall") rfl (by decide +kernel) (Nat.le_of_ble_eq_true rfl) rfl ?_
    refine y_aload_n dX11_height_0 rfl rfl ?_
    refine y_getr dX11_height_1 gf_X11_40 sh_0 rfl ?_
    refine y_geti dX11_height_4 gf_X11_211 sh_6 rfl ?_
    refine y_if_ne (tgt := 13) dX11_height_7 (by decide) (fun h7 => ?_) (fun h7 => absurd h7 (by rw [l2]; decide))
    refine y_aload_n dX11_height_13 rfl rfl ?_
    refine y_aload_n dX11_height_14 rfl rfl ?_
    refine y_getr dX11_height_15 gf_X11_40 sh_0 rfl ?_
    refine y_getr dX11_height_18 gf_X11_212 sh_6 rfl ?_
    refine y_ivI0 dX11_height_21 mv_X11_255 my_X2_worthNow (Or.inl rfl) sh_13 ?_
    refine c_X2_worthNow (R := lfR m 0) lf6.2.2.2.1 l3.1.d.2 l4.1 ⟨_, rfl, ?_⟩
    refine y_puti dX11_height_24 pf_X11_194 sh_0 rfl rfl rfl ?_
    refine y_aload_n dX11_height_27 rfl rfl ?_
    refine y_getr dX11_height_28 gf_X11_40 sh_0 rfl ?_
    refine y_getr dX11_height_31 gf_X11_212 sh_6 rfl ?_
    refine y_ivI0 dX11_height_34 mv_X11_258 my_X2_heightNow (Or.inl rfl) sh_13 ?_
    refine c_X2_heightNow (R := lfR m 0) lf6.2.2.2.1 (DD_m l3.1.d.2 (fun c h1 h2 => s_upN (by omega))) ⟨_, rfl, ?_⟩
    refine y_ireturn dX11_height_37 rfl rfl ?_
    refine ⟨_, rfl, ?_⟩
    generalize em : s_up m 0 (upd (m 0) 17 (worthF (lfR m 0))) = m1
    have g : ∀ a, 239 ≤ a → m1 a = m a := fun a ha => by rw [← em, s_upN (by omega)]
    refine y_run (own := "LoafFallModel") rfl (by decide +kernel) (Nat.le_of_ble_eq_true rfl) rfl ?_
    refine y_aload_n dX12_height_0 rfl rfl ?_
    refine y_getr dX12_height_1 gf_X12_51 sh_239 rfl ?_
    refine y_iconst (v := 0) dX12_height_4 (by decide) ?_
    refine y_zaldN dX12_height_5 sh_253 rfl (by first | omega | decide) (by decide) ?_
    refine y_if_ne (tgt := 12) dX12_height_6 (by decide) (fun h6 => ?_) (fun h6 => absurd h6 (by rw [g _ (by omega), l1]; decide))
    refine y_aload_n dX12_height_12 rfl rfl ?_
    refine y_iconst (v := 0) dX12_height_13 (by decide) ?_
    refine y_ivV1 dX12_height_14 mv_X12_174 my_X12_look (Or.inl rfl) sh_239 ?_
    refine c_X12_look (j := 0) rfl ⟨rfl, ?_⟩
    rw [wk_eta]
    have hb : bAt (wkM m1 (329 * 0)) (329 * 0) := wk_b (by omega)
    refine y_aload_n dX12_height_17 rfl rfl ?_
    refine y_aload_n dX12_height_18 rfl rfl ?_
    refine y_ivI0 dX12_height_19 mv_X12_247 my_X12_worthNow (Or.inl rfl) sh_239 ?_
    refine c_X12_worthNow hb ⟨_, rfl, ?_⟩
    refine y_aload_n dX12_height_22 rfl rfl ?_
    refine y_ivI0 dX12_height_23 mv_X12_241 my_X12_heightNow (Or.inl rfl) sh_239 ?_
    refine c_X12_heightNow hb ⟨_, rfl, ?_⟩
    refine y_ivI2 dX12_height_26 mv_X12_108 my_X12_tells (Or.inl rfl) sh_239 ?_
    refine c_X12_tells ⟨_, rfl, ?_⟩
    refine y_ireturn dX12_height_29 rfl rfl ?_
    rw [← wk_eta, lfR_m (g 254 (by omega)), ← em]
    exact ⟨rfl, Rel_tell h frC.rf h.bk frM.wk⟩
set_option maxHeartbeats 2000000 in
theorem p_cell {L : Nat} {xs : Nat → Int32} {d : Nat} {m : sM} {n : sN} {r x : Int32} (h : Rel m n) : PI L xs (d + 11) yX11_cell cX11_cell 3 yX12_cell cX12_cell 3 [.int r, .int x] m n := by
  unfold PI
  by_cases hr : inN r 24
  · obtain ⟨k, hk, rfl⟩ := hr
    have hr : inN (nI k) 24 := ⟨k, hk, rfl⟩
    by_cases hx : inN x 5
    · obtain ⟨q, hq, rfl⟩ := hx
      have hx : inN (nI q) 5 := ⟨q, hq, rfl⟩
      rcases h.l.1 with ⟨l1, l2⟩ | ⟨l1, l2, l3, l4, l5, l6, l7⟩
      · refine y_run (own := "LoafFall") rfl (by decide +kernel) (Nat.le_of_ble_eq_true rfl) rfl ?_
        refine y_iload_n dX11_cell_0 rfl rfl ?_
        refine y_if_lt (tgt := 19) dX11_cell_1 (by decide) (fun h1 => absurd h1 (nI_pos (by omega))) (fun h1 => ?_)
        refine y_iload_n dX11_cell_4 rfl rfl ?_
        refine y_bipush (v := 24) dX11_cell_5 (by decide) ?_
        refine y_icmp_ge (tgt := 19) dX11_cell_7 (by decide) (fun h7 => absurd h7 (nI_ge (b := 24) (by omega) (by omega))) (fun h7 => ?_)
        refine y_iload_n dX11_cell_10 rfl rfl ?_
        refine y_if_lt (tgt := 19) dX11_cell_11 (by decide) (fun h11 => absurd h11 (nI_pos (by omega))) (fun h11 => ?_)
        refine y_iload_n dX11_cell_14 rfl rfl ?_
        refine y_iconst (v := 5) dX11_cell_15 (by decide) ?_
        refine y_icmp_lt (tgt := 21) dX11_cell_16 (by decide) (fun h16 => ?_) (fun h16 => absurd (nI_lt (b := 5) (by omega) (by omega)) h16)
        refine y_aload_n dX11_cell_21 rfl rfl ?_
        refine y_getr dX11_cell_22 gf_X11_40 sh_0 rfl ?_
        refine y_geti dX11_cell_25 gf_X11_211 sh_6 rfl ?_
        refine y_if_eq (tgt := 50) dX11_cell_28 (by decide) (fun h28 => ?_) (fun h28 => absurd l2 h28)
        refine y_bipush (v := -4) dX11_cell_50 (by decide) ?_
        refine y_ireturn dX11_cell_52 rfl rfl ?_
        refine ⟨_, rfl, ?_⟩
        refine y_run (own := "LoafFallModel") rfl (by decide +kernel) (Nat.le_of_ble_eq_true rfl) rfl ?_
        refine y_iload_n dX12_cell_0 rfl rfl ?_
        refine y_iconst (v := 0) dX12_cell_1 (by decide) ?_
        refine y_bipush (v := 23) dX12_cell_2 (by decide) ?_
        refine y_isI3 dX12_cell_4 ms_X12_86 my_X12_in (Or.inl rfl) ?_
        refine c_X12_in (fun _ _ => ⟨_, rfl, ?_⟩) (fun a => absurd ((in_le (M := 23) (by decide)).mp hr) a)
        refine y_if_eq (tgt := 19) dX12_cell_7 (by decide) (fun h7 => absurd h7 (by decide)) (fun h7 => ?_)
        refine y_iload_n dX12_cell_10 rfl rfl ?_
        refine y_iconst (v := 0) dX12_cell_11 (by decide) ?_
        refine y_iconst (v := 4) dX12_cell_12 (by decide) ?_
        refine y_isI3 dX12_cell_13 ms_X12_86 my_X12_in (Or.inl rfl) ?_
        refine c_X12_in (fun _ _ => ⟨_, rfl, ?_⟩) (fun a => absurd ((in_le (M := 4) (by decide)).mp hx) a)
        refine y_if_ne (tgt := 21) dX12_cell_16 (by decide) (fun h16 => ?_) (fun h16 => absurd h16 (by decide))
        refine y_aload_n dX12_cell_21 rfl rfl ?_
        refine y_getr dX12_cell_22 gf_X12_51 sh_239 rfl ?_
        refine y_iconst (v := 0) dX12_cell_25 (by decide) ?_
        refine y_zaldN dX12_cell_26 sh_253 rfl (by first | omega | decide) (by decide) ?_
        refine y_if_ne (tgt := 33) dX12_cell_27 (by decide) (fun h27 => absurd l1 h27) (fun h27 => ?_)
        refine y_bipush (v := -4) dX12_cell_30 (by decide) ?_
        refine y_ireturn dX12_cell_32 rfl rfl ?_
        exact ⟨rfl, h⟩
      · refine y_run (own := "LoafFall") rfl (by decide +kernel) (Nat.le_of_ble_eq_true rfl) rfl ?_
        refine y_iload_n dX11_cell_0 rfl rfl ?_
        refine y_if_lt (tgt := 19) dX11_cell_1 (by decide) (fun h1 => absurd h1 (nI_pos (by omega))) (fun h1 => ?_)
        refine y_iload_n dX11_cell_4 rfl rfl ?_
        refine y_bipush (v := 24) dX11_cell_5 (by decide) ?_
        refine y_icmp_ge (tgt := 19) dX11_cell_7 (by decide) (fun h7 => absurd h7 (nI_ge (b := 24) (by omega) (by omega))) (fun h7 => ?_)
        refine y_iload_n dX11_cell_10 rfl rfl ?_
        refine y_if_lt (tgt := 19) dX11_cell_11 (by decide) (fun h11 => absurd h11 (nI_pos (by omega))) (fun h11 => ?_)
        refine y_iload_n dX11_cell_14 rfl rfl ?_
        refine y_iconst (v := 5) dX11_cell_15 (by decide) ?_
        refine y_icmp_lt (tgt := 21) dX11_cell_16 (by decide) (fun h16 => ?_) (fun h16 => absurd (nI_lt (b := 5) (by omega) (by omega)) h16)
        refine y_aload_n dX11_cell_21 rfl rfl ?_
        refine y_getr dX11_cell_22 gf_X11_40 sh_0 rfl ?_
        refine y_geti dX11_cell_25 gf_X11_211 sh_6 rfl ?_
        refine y_if_eq (tgt := 50) dX11_cell_28 (by decide) (fun h28 => absurd h28 (by rw [l2]; decide)) (fun h28 => ?_)
        refine y_aload_n dX11_cell_31 rfl rfl ?_
        refine y_aload_n dX11_cell_32 rfl rfl ?_
        refine y_getr dX11_cell_33 gf_X11_40 sh_0 rfl ?_
        refine y_getr dX11_cell_36 gf_X11_212 sh_6 rfl ?_
        refine y_iload_n dX11_cell_39 rfl rfl ?_
        refine y_iload_n dX11_cell_40 rfl rfl ?_
        refine y_ivI2 dX11_cell_41 mv_X11_224 my_X2_factOf (Or.inl rfl) sh_13 ?_
        refine c_X2_factOf (k := k) (q := q) lf6.2.2.2.1 rfl hk rfl hq ⟨_, rfl, ?_⟩
        refine y_ivI1 dX11_cell_44 mv_X11_120 my_X11_tell (Or.inl rfl) sh_0 ?_
        refine c_X11_tell ⟨_, rfl, ?_⟩
        refine y_goto (tgt := 52) dX11_cell_47 (by decide) ?_
        refine y_ireturn dX11_cell_52 rfl rfl ?_
        refine ⟨_, rfl, ?_⟩
        generalize em : tellM m (m (6 + 7 + 1 + q) k) = m1
        have g : ∀ a, 239 ≤ a → m1 a = m a := fun a ha => by rw [← em, tell_o (by omega)]
        refine y_run (own := "LoafFallModel") rfl (by decide +kernel) (Nat.le_of_ble_eq_true rfl) rfl ?_
        refine y_iload_n dX12_cell_0 rfl rfl ?_
        refine y_iconst (v := 0) dX12_cell_1 (by decide) ?_
        refine y_bipush (v := 23) dX12_cell_2 (by decide) ?_
        refine y_isI3 dX12_cell_4 ms_X12_86 my_X12_in (Or.inl rfl) ?_
        refine c_X12_in (fun _ _ => ⟨_, rfl, ?_⟩) (fun a => absurd ((in_le (M := 23) (by decide)).mp hr) a)
        refine y_if_eq (tgt := 19) dX12_cell_7 (by decide) (fun h7 => absurd h7 (by decide)) (fun h7 => ?_)
        refine y_iload_n dX12_cell_10 rfl rfl ?_
        refine y_iconst (v := 0) dX12_cell_11 (by decide) ?_
        refine y_iconst (v := 4) dX12_cell_12 (by decide) ?_
        refine y_isI3 dX12_cell_13 ms_X12_86 my_X12_in (Or.inl rfl) ?_
        refine c_X12_in (fun _ _ => ⟨_, rfl, ?_⟩) (fun a => absurd ((in_le (M := 4) (by decide)).mp hx) a)
        refine y_if_ne (tgt := 21) dX12_cell_16 (by decide) (fun h16 => ?_) (fun h16 => absurd h16 (by decide))
        refine y_aload_n dX12_cell_21 rfl rfl ?_
        refine y_getr dX12_cell_22 gf_X12_51 sh_239 rfl ?_
        refine y_iconst (v := 0) dX12_cell_25 (by decide) ?_
        refine y_zaldN dX12_cell_26 sh_253 rfl (by first | omega | decide) (by decide) ?_
        refine y_if_ne (tgt := 33) dX12_cell_27 (by decide) (fun h27 => ?_) (fun h27 => absurd h27 (by rw [g _ (by omega), l1]; decide))
        refine y_aload_n dX12_cell_33 rfl rfl ?_
        refine y_iconst (v := 0) dX12_cell_34 (by decide) ?_
        refine y_ivV1 dX12_cell_35 mv_X12_174 my_X12_look (Or.inl rfl) sh_239 ?_
        refine c_X12_look (j := 0) rfl ⟨rfl, ?_⟩
        rw [wk_eta]
        have hb : bAt (wkM m1 (329 * 0)) (329 * 0) := wk_b (by omega)
        refine y_aload_n dX12_cell_38 rfl rfl ?_
        refine y_aload_n dX12_cell_39 rfl rfl ?_
        refine y_iload_n dX12_cell_40 rfl rfl ?_
        refine y_iload_n dX12_cell_41 rfl rfl ?_
        refine y_ivI2 dX12_cell_42 mv_X12_191 my_X12_c (Or.inl rfl) sh_239 ?_
        refine c_X12_c hb (k := k) (j := q) rfl rfl (by omega) ⟨_, rfl, ?_⟩
        refine y_iconst (v := 1) dX12_cell_45 (by decide) ?_
        refine y_ivI2 dX12_cell_46 mv_X12_108 my_X12_tells (Or.inl rfl) sh_239 ?_
        refine c_X12_tells ⟨_, rfl, ?_⟩
        refine y_ireturn dX12_cell_49 rfl rfl ?_
        rw [← wk_eta, lfR_m (g 254 (by omega)), ← l3.1.fact hk hq, ← em]
        exact ⟨rfl, Rel_tell h frC.rf h.bk frM.wk⟩
    · refine y_run (own := "LoafFall") rfl (by decide +kernel) (Nat.le_of_ble_eq_true rfl) rfl ?_
      refine y_iload_n dX11_cell_0 rfl rfl ?_
      refine y_if_lt (tgt := 19) dX11_cell_1 (by decide) (fun h1 => absurd h1 (nI_pos (by omega))) (fun h1 => ?_)
      refine y_iload_n dX11_cell_4 rfl rfl ?_
      refine y_bipush (v := 24) dX11_cell_5 (by decide) ?_
      refine y_icmp_ge (tgt := 19) dX11_cell_7 (by decide) (fun h7 => absurd h7 (nI_ge (b := 24) (by omega) (by omega))) (fun h7 => ?_)
      refine y_iload_n dX11_cell_10 rfl rfl ?_
      refine y_if_lt (tgt := 19) dX11_cell_11 (by decide) (fun h11 => ?_) (fun h11 => ?_)
      · refine y_iconst (v := -1) dX11_cell_19 (by decide) ?_
        refine y_ireturn dX11_cell_20 rfl rfl ?_
        refine ⟨_, rfl, ?_⟩
        refine y_run (own := "LoafFallModel") rfl (by decide +kernel) (Nat.le_of_ble_eq_true rfl) rfl ?_
        refine y_iload_n dX12_cell_0 rfl rfl ?_
        refine y_iconst (v := 0) dX12_cell_1 (by decide) ?_
        refine y_bipush (v := 23) dX12_cell_2 (by decide) ?_
        refine y_isI3 dX12_cell_4 ms_X12_86 my_X12_in (Or.inl rfl) ?_
        refine c_X12_in (fun _ _ => ⟨_, rfl, ?_⟩) (fun a => absurd ((in_le (M := 23) (by decide)).mp hr) a)
        refine y_if_eq (tgt := 19) dX12_cell_7 (by decide) (fun h7 => absurd h7 (by decide)) (fun h7 => ?_)
        refine y_iload_n dX12_cell_10 rfl rfl ?_
        refine y_iconst (v := 0) dX12_cell_11 (by decide) ?_
        refine y_iconst (v := 4) dX12_cell_12 (by decide) ?_
        refine y_isI3 dX12_cell_13 ms_X12_86 my_X12_in (Or.inl rfl) ?_
        refine c_X12_in (fun a b => absurd ((in_le (M := 4) (by decide)).mpr ⟨a, b⟩) hx) (fun _ => ⟨_, rfl, ?_⟩)
        refine y_if_ne (tgt := 21) dX12_cell_16 (by decide) (fun h16 => absurd (by decide) h16) (fun h16 => ?_)
        refine y_iconst (v := -1) dX12_cell_19 (by decide) ?_
        refine y_ireturn dX12_cell_20 rfl rfl ?_
        exact ⟨rfl, h⟩
      · refine y_iload_n dX11_cell_14 rfl rfl ?_
        refine y_iconst (v := 5) dX11_cell_15 (by decide) ?_
        refine y_icmp_lt (tgt := 21) dX11_cell_16 (by decide) (fun h16 => absurd h16 (fun z => hx ((in_lt (M := 5) (by decide)).mpr ⟨h11, z⟩))) (fun h16 => ?_)
        refine y_iconst (v := -1) dX11_cell_19 (by decide) ?_
        refine y_ireturn dX11_cell_20 rfl rfl ?_
        refine ⟨_, rfl, ?_⟩
        refine y_run (own := "LoafFallModel") rfl (by decide +kernel) (Nat.le_of_ble_eq_true rfl) rfl ?_
        refine y_iload_n dX12_cell_0 rfl rfl ?_
        refine y_iconst (v := 0) dX12_cell_1 (by decide) ?_
        refine y_bipush (v := 23) dX12_cell_2 (by decide) ?_
        refine y_isI3 dX12_cell_4 ms_X12_86 my_X12_in (Or.inl rfl) ?_
        refine c_X12_in (fun _ _ => ⟨_, rfl, ?_⟩) (fun a => absurd ((in_le (M := 23) (by decide)).mp hr) a)
        refine y_if_eq (tgt := 19) dX12_cell_7 (by decide) (fun h7 => absurd h7 (by decide)) (fun h7 => ?_)
        refine y_iload_n dX12_cell_10 rfl rfl ?_
        refine y_iconst (v := 0) dX12_cell_11 (by decide) ?_
        refine y_iconst (v := 4) dX12_cell_12 (by decide) ?_
        refine y_isI3 dX12_cell_13 ms_X12_86 my_X12_in (Or.inl rfl) ?_
        refine c_X12_in (fun a b => absurd ((in_le (M := 4) (by decide)).mpr ⟨a, b⟩) hx) (fun _ => ⟨_, rfl, ?_⟩)
        refine y_if_ne (tgt := 21) dX12_cell_16 (by decide) (fun h16 => absurd (by decide) h16) (fun h16 => ?_)
        refine y_iconst (v := -1) dX12_cell_19 (by decide) ?_
        refine y_ireturn dX12_cell_20 rfl rfl ?_
        exact ⟨rfl, h⟩
  · refine y_run (own := "LoafFall") rfl (by decide +kernel) (Nat.le_of_ble_eq_true rfl) rfl ?_
    refine y_iload_n dX11_cell_0 rfl rfl ?_
    refine y_if_lt (tgt := 19) dX11_cell_1 (by decide) (fun h1 => ?_) (fun h1 => ?_)
    · refine y_iconst (v := -1) dX11_cell_19 (by decide) ?_
      refine y_ireturn dX11_cell_20 rfl rfl ?_
      refine ⟨_, rfl, ?_⟩
      refine y_run (own := "LoafFallModel") rfl (by decide +kernel) (Nat.le_of_ble_eq_true rfl) rfl ?_
      refine y_iload_n dX12_cell_0 rfl rfl ?_
      refine y_iconst (v := 0) dX12_cell_1 (by decide) ?_
      refine y_bipush (v := 23) dX12_cell_2 (by decide) ?_
      refine y_isI3 dX12_cell_4 ms_X12_86 my_X12_in (Or.inl rfl) ?_
      refine c_X12_in (fun a b => absurd ((in_le (M := 23) (by decide)).mpr ⟨a, b⟩) hr) (fun _ => ⟨_, rfl, ?_⟩)
      refine y_if_eq (tgt := 19) dX12_cell_7 (by decide) (fun h7 => ?_) (fun h7 => absurd (by decide) h7)
      refine y_iconst (v := -1) dX12_cell_19 (by decide) ?_
      refine y_ireturn dX12_cell_20 rfl rfl ?_
      exact ⟨rfl, h⟩
    · refine y_iload_n dX11_cell_4 rfl rfl ?_
      refine y_bipush (v := 24) dX11_cell_5 (by decide) ?_
      refine y_icmp_ge (tgt := 19) dX11_cell_7 (by decide) (fun h7 => ?_) (fun h7 => absurd (Int32.not_lt.mp (fun z => hr ((in_lt (M := 24) (by decide)).mpr ⟨h1, z⟩))) h7)
      refine y_iconst (v := -1) dX11_cell_19 (by decide) ?_
      refine y_ireturn dX11_cell_20 rfl rfl ?_
      refine ⟨_, rfl, ?_⟩
      refine y_run (own := "LoafFallModel") rfl (by decide +kernel) (Nat.le_of_ble_eq_true rfl) rfl ?_
      refine y_iload_n dX12_cell_0 rfl rfl ?_
      refine y_iconst (v := 0) dX12_cell_1 (by decide) ?_
      refine y_bipush (v := 23) dX12_cell_2 (by decide) ?_
      refine y_isI3 dX12_cell_4 ms_X12_86 my_X12_in (Or.inl rfl) ?_
      refine c_X12_in (fun a b => absurd ((in_le (M := 23) (by decide)).mpr ⟨a, b⟩) hr) (fun _ => ⟨_, rfl, ?_⟩)
      refine y_if_eq (tgt := 19) dX12_cell_7 (by decide) (fun h7 => ?_) (fun h7 => absurd (by decide) h7)
      refine y_iconst (v := -1) dX12_cell_19 (by decide) ?_
      refine y_ireturn dX12_cell_20 rfl rfl ?_
      exact ⟨rfl, h⟩
set_option maxHeartbeats 1000000 in
theorem c_X11_isFall {L : Nat} {xs : Nat → Int32} {d : Nat} {m : sM} {n : sN} {Q : sQ} {x : Int32} {q : Nat} (hq : m 13 5 = nI q) (hq2 : q ≤ 24) (hQ1 : inN x q → Q (some (.int 1)) m n) (hQ0 : ¬ inN x q → Q (some (.int 0)) m n) : sRun (scT L xs) (d + 1) yX11_isFall cX11_isFall 2 (some .boolean) [.ref 0, .int x] m n Q := by
  refine y_run (own := "LoafFall") rfl (by decide +kernel) (Nat.le_of_ble_eq_true rfl) rfl ?_
  refine y_iload_n dX11_isFall_0 rfl rfl ?_
  refine y_if_lt (tgt := 22) dX11_isFall_1 (by decide) (fun h1 => ?_) (fun h1 => ?_)
  · refine y_iconst (v := 0) dX11_isFall_22 (by decide) ?_
    refine y_ireturn dX11_isFall_23 rfl rfl ?_
    first
      | exact hQ0 (fun z => absurd h1 ((in_lt (by omega)).mp z).1)
      | exact hQ0 (fun z => absurd h15 (by rw [hq]; exact Int32.not_le.mpr ((in_lt (by omega)).mp z).2))
      | exact hQ1 ((in_lt (by omega)).mpr ⟨h1, by rw [hq] at h15; exact Int32.not_le.mp h15⟩)
  · refine y_iload_n dX11_isFall_4 rfl rfl ?_
    refine y_aload_n dX11_isFall_5 rfl rfl ?_
    refine y_getr dX11_isFall_6 gf_X11_40 sh_0 rfl ?_
    refine y_getr dX11_isFall_9 gf_X11_212 sh_6 rfl ?_
    refine y_geti dX11_isFall_12 gf_X11_273 sh_13 rfl ?_
    refine y_icmp_ge (tgt := 22) dX11_isFall_15 (by decide) (fun h15 => ?_) (fun h15 => ?_)
    · refine y_iconst (v := 0) dX11_isFall_22 (by decide) ?_
      refine y_ireturn dX11_isFall_23 rfl rfl ?_
      first
        | exact hQ0 (fun z => absurd h1 ((in_lt (by omega)).mp z).1)
        | exact hQ0 (fun z => absurd h15 (by rw [hq]; exact Int32.not_le.mpr ((in_lt (by omega)).mp z).2))
        | exact hQ1 ((in_lt (by omega)).mpr ⟨h1, by rw [hq] at h15; exact Int32.not_le.mp h15⟩)
    · refine y_iconst (v := 1) dX11_isFall_18 (by decide) ?_
      refine y_goto (tgt := 23) dX11_isFall_19 (by decide) ?_
      refine y_ireturn dX11_isFall_23 rfl rfl ?_
      first
        | exact hQ0 (fun z => absurd h1 ((in_lt (by omega)).mp z).1)
        | exact hQ0 (fun z => absurd h15 (by rw [hq]; exact Int32.not_le.mpr ((in_lt (by omega)).mp z).2))
        | exact hQ1 ((in_lt (by omega)).mpr ⟨h1, by rw [hq] at h15; exact Int32.not_le.mp h15⟩)
set_option maxHeartbeats 1000000 in
theorem c_X12_isFall {L : Nat} {xs : Nat → Int32} {d : Nat} {m : sM} {n : sN} {Q : sQ} {x : Int32} {q : Nat} (hl : (m 253 0 = 0 ∧ q = 0) ∨ (m 253 0 = 1 ∧ lfR m 0 40 = nI q)) (hq2 : q ≤ 24) (hQ1 : inN x q → Q (some (.int 1)) (wkM m (329 * 0)) n) (hQ0 : ¬ inN x q → Q (some (.int 0)) (wkM m (329 * 0)) n) : sRun (scT L xs) (d + 4) yX12_isFall cX12_isFall 2 (some .boolean) [.ref 239, .int x] m n Q := by
  rcases hl with ⟨l1, l2⟩ | ⟨l1, l2⟩
  · refine y_run (own := "LoafFallModel") rfl (by decide +kernel) (Nat.le_of_ble_eq_true rfl) rfl ?_
    refine y_aload_n dX12_isFall_0 rfl rfl ?_
    refine y_iconst (v := 0) dX12_isFall_1 (by decide) ?_
    refine y_ivV1 dX12_isFall_2 mv_X12_174 my_X12_look (Or.inl rfl) sh_239 ?_
    refine c_X12_look (j := 0) rfl ⟨rfl, ?_⟩
    rw [wk_eta]
    have hb : bAt (wkM m (329 * 0)) (329 * 0) := wk_b (by omega)
    refine y_aload_n dX12_isFall_5 rfl rfl ?_
    refine y_getr dX12_isFall_6 gf_X12_51 sh_239 rfl ?_
    refine y_iconst (v := 0) dX12_isFall_9 (by decide) ?_
    refine y_zaldN dX12_isFall_10 sh_253 rfl (by first | omega | decide) (by decide) ?_
    refine y_if_eq (tgt := 34) dX12_isFall_11 (by decide) (fun h11 => ?_) (fun h11 => absurd (by rw [stR_o (by decide) (by decide), wk_o (by omega)]; exact l1) h11)
    refine y_iconst (v := 0) dX12_isFall_34 (by decide) ?_
    refine y_ireturn dX12_isFall_35 rfl rfl ?_
    rw [← wk_eta]
    exact hQ0 (fun ⟨k, hk, _⟩ => by omega)
  · refine y_run (own := "LoafFallModel") rfl (by decide +kernel) (Nat.le_of_ble_eq_true rfl) rfl ?_
    refine y_aload_n dX12_isFall_0 rfl rfl ?_
    refine y_iconst (v := 0) dX12_isFall_1 (by decide) ?_
    refine y_ivV1 dX12_isFall_2 mv_X12_174 my_X12_look (Or.inl rfl) sh_239 ?_
    refine c_X12_look (j := 0) rfl ⟨rfl, ?_⟩
    rw [wk_eta]
    have hb : bAt (wkM m (329 * 0)) (329 * 0) := wk_b (by omega)
    refine y_aload_n dX12_isFall_5 rfl rfl ?_
    refine y_getr dX12_isFall_6 gf_X12_51 sh_239 rfl ?_
    refine y_iconst (v := 0) dX12_isFall_9 (by decide) ?_
    refine y_zaldN dX12_isFall_10 sh_253 rfl (by first | omega | decide) (by decide) ?_
    refine y_if_eq (tgt := 34) dX12_isFall_11 (by decide) (fun h11 => absurd h11 (by rw [stR_o (by decide) (by decide), wk_o (by omega)]; rw [l1]; decide)) (fun h11 => ?_)
    refine y_iload_n dX12_isFall_14 rfl rfl ?_
    refine y_iconst (v := 0) dX12_isFall_15 (by decide) ?_
    refine y_aload_n dX12_isFall_16 rfl rfl ?_
    refine y_bipush (v := 40) dX12_isFall_17 (by decide) ?_
    refine y_ivI1 dX12_isFall_19 mv_X12_160 my_X12_v (Or.inl rfl) sh_239 ?_
    refine c_X12_v hb (p := 40) rfl (by omega) ⟨_, rfl, ?_⟩
    refine y_iconst (v := 1) dX12_isFall_22 (by decide) ?_
    refine y_isub dX12_isFall_23 ?_
    refine y_isI3 dX12_isFall_24 ms_X12_86 my_X12_in (Or.inl rfl) ?_
    refine c_X12_in (fun a b => ⟨_, rfl, ?_⟩) (fun a => ⟨_, rfl, ?_⟩)
    · refine y_if_eq (tgt := 34) dX12_isFall_27 (by decide) (fun h27 => absurd h27 (by decide)) (fun h27 => ?_)
      refine y_iconst (v := 1) dX12_isFall_30 (by decide) ?_
      refine y_goto (tgt := 35) dX12_isFall_31 (by decide) ?_
      refine y_ireturn dX12_isFall_35 rfl rfl ?_
      rw [← wk_eta]
      first
        | exact hQ1 ((in_s (by omega)).mpr ⟨a, by rw [l2] at b; exact b⟩)
        | exact hQ0 (fun z => a (by rw [l2]; exact (in_s (by omega)).mp z))
    · refine y_if_eq (tgt := 34) dX12_isFall_27 (by decide) (fun h27 => ?_) (fun h27 => absurd (by decide) h27)
      refine y_iconst (v := 0) dX12_isFall_34 (by decide) ?_
      refine y_ireturn dX12_isFall_35 rfl rfl ?_
      rw [← wk_eta]
      first
        | exact hQ1 ((in_s (by omega)).mpr ⟨a, by rw [l2] at b; exact b⟩)
        | exact hQ0 (fun z => a (by rw [l2]; exact (in_s (by omega)).mp z))
theorem fall_q {m : sM} {n : sN} (h : Rel m n) : ∃ q : Nat, q ≤ 24 ∧ m 13 5 = nI q ∧ ((m 253 0 = 0 ∧ q = 0) ∨ (m 253 0 = 1 ∧ lfR m 0 40 = nI q)) ∧ (0 < q → LA m 6 (lfR m 0) ∧ sR (lfR m 0) ∧ q = qOf (lfR m 0)) := by
  rcases h.l.1 with ⟨l1, l2⟩ | ⟨l1, l2, l3, l4, l5, l6, l7⟩
  · exact ⟨0, by omega, (h.l.2 l1).1, Or.inl ⟨l1, rfl⟩, fun z => absurd z (by omega)⟩
  · exact ⟨qOf (lfR m 0), (q40 l4).2, l3.1.2.2.1.trans (q40 l4).1, Or.inr ⟨l1, (q40 l4).1⟩, fun _ => ⟨l3, l4, rfl⟩⟩
set_option maxHeartbeats 2000000 in
theorem p_fall {L : Nat} {xs : Nat → Int32} {d : Nat} {m : sM} {n : sN} {r x : Int32} (h : Rel m n) : PI L xs (d + 11) yX11_fall cX11_fall 3 yX12_fall cX12_fall 3 [.int r, .int x] m n := by
  unfold PI
  obtain ⟨q, q1, q2, q3, q4⟩ := fall_q h
  by_cases hr : inN r q
  · obtain ⟨k, hk, rfl⟩ := hr
    have hr : inN (nI k) q := ⟨k, hk, rfl⟩
    obtain ⟨l3, l4, l5⟩ := q4 (by omega)
    by_cases hx : inN x 4
    · obtain ⟨j, hj, rfl⟩ := hx
      have hx : inN (nI j) 4 := ⟨j, hj, rfl⟩
      refine y_run (own := "LoafFall") rfl (by decide +kernel) (Nat.le_of_ble_eq_true rfl) rfl ?_
      refine y_aload_n dX11_fall_0 rfl rfl ?_
      refine y_iload_n dX11_fall_1 rfl rfl ?_
      refine y_ivI1 dX11_fall_2 mv_X11_227 my_X11_isFall (Or.inl rfl) sh_0 ?_
      refine c_X11_isFall q2 q1 (fun _ => ⟨_, rfl, ?_⟩) (fun z => absurd hr z)
      refine y_if_eq (tgt := 17) dX11_fall_5 (by decide) (fun h5 => absurd h5 (by decide)) (fun h5 => ?_)
      refine y_iload_n dX11_fall_8 rfl rfl ?_
      refine y_if_lt (tgt := 17) dX11_fall_9 (by decide) (fun h9 => absurd h9 (nI_pos (by omega))) (fun h9 => ?_)
      refine y_iload_n dX11_fall_12 rfl rfl ?_
      refine y_iconst (v := 4) dX11_fall_13 (by decide) ?_
      refine y_icmp_lt (tgt := 19) dX11_fall_14 (by decide) (fun h14 => ?_) (fun h14 => absurd (nI_lt (b := 4) (by omega) (by omega)) h14)
      refine y_aload_n dX11_fall_19 rfl rfl ?_
      refine y_aload_n dX11_fall_20 rfl rfl ?_
      refine y_getr dX11_fall_21 gf_X11_40 sh_0 rfl ?_
      refine y_getr dX11_fall_24 gf_X11_230 sh_6 rfl ?_
      refine y_iload_n dX11_fall_27 rfl rfl ?_
      refine y_iload_n dX11_fall_28 rfl rfl ?_
      refine y_ivI2 dX11_fall_29 mv_X11_234 my_X3_factOf (Or.inl rfl) sh_19 ?_
      refine c_X3_factOf (k := k) (q := j) lf6.2.2.2.2 rfl (by omega) rfl hj ⟨_, rfl, ?_⟩
      refine y_ivI1 dX11_fall_32 mv_X11_120 my_X11_tell (Or.inl rfl) sh_0 ?_
      refine c_X11_tell ⟨_, rfl, ?_⟩
      refine y_ireturn dX11_fall_35 rfl rfl ?_
      refine ⟨_, rfl, ?_⟩
      generalize em : tellM m (m (6 + 13 + 1 + j) k) = m1
      have g : ∀ a, 239 ≤ a → m1 a = m a := fun a ha => by rw [← em, tell_o (by omega)]
      refine y_run (own := "LoafFallModel") rfl (by decide +kernel) (Nat.le_of_ble_eq_true rfl) rfl ?_
      refine y_aload_n dX12_fall_0 rfl rfl ?_
      refine y_iload_n dX12_fall_1 rfl rfl ?_
      refine y_ivI1 dX12_fall_2 mv_X12_232 my_X12_isFall (Or.inl rfl) sh_239 ?_
      refine c_X12_isFall (by rw [g 253 (by omega), lfR_m (g 254 (by omega))]; exact q3) q1 (fun _ => ⟨_, rfl, ?_⟩) (fun z => absurd hr z)
      rw [wk_eta]
      have hb : bAt (wkM m1 (329 * 0)) (329 * 0) := wk_b (by omega)
      refine y_if_eq (tgt := 31) dX12_fall_5 (by decide) (fun h5 => absurd h5 (by decide)) (fun h5 => ?_)
      refine y_iload_n dX12_fall_8 rfl rfl ?_
      refine y_iconst (v := 0) dX12_fall_9 (by decide) ?_
      refine y_iconst (v := 3) dX12_fall_10 (by decide) ?_
      refine y_isI3 dX12_fall_11 ms_X12_86 my_X12_in (Or.inl rfl) ?_
      refine c_X12_in (fun _ _ => ⟨_, rfl, ?_⟩) (fun a => absurd ((in_le (M := 3) (by decide)).mp hx) a)
      refine y_if_eq (tgt := 31) dX12_fall_14 (by decide) (fun h14 => absurd h14 (by decide)) (fun h14 => ?_)
      refine y_aload_n dX12_fall_17 rfl rfl ?_
      refine y_aload_n dX12_fall_18 rfl rfl ?_
      refine y_iload_n dX12_fall_19 rfl rfl ?_
      refine y_iload_n dX12_fall_20 rfl rfl ?_
      refine y_ivI2 dX12_fall_21 mv_X12_235 my_X12_f (Or.inl rfl) sh_239 ?_
      refine c_X12_f hb (k := k) (j := j) rfl rfl (by omega) ⟨_, rfl, ?_⟩
      refine y_iconst (v := 1) dX12_fall_24 (by decide) ?_
      refine y_ivI2 dX12_fall_25 mv_X12_108 my_X12_tells (Or.inl rfl) sh_239 ?_
      refine c_X12_tells ⟨_, rfl, ?_⟩
      refine y_goto (tgt := 32) dX12_fall_28 (by decide) ?_
      refine y_ireturn dX12_fall_32 rfl rfl ?_
      rw [← wk_eta, lfR_m (g 254 (by omega)), ← l3.1.fall (by omega) hj, ← em]
      exact ⟨rfl, Rel_tell h frC.rf h.bk frM.wk⟩
    · refine y_run (own := "LoafFall") rfl (by decide +kernel) (Nat.le_of_ble_eq_true rfl) rfl ?_
      refine y_aload_n dX11_fall_0 rfl rfl ?_
      refine y_iload_n dX11_fall_1 rfl rfl ?_
      refine y_ivI1 dX11_fall_2 mv_X11_227 my_X11_isFall (Or.inl rfl) sh_0 ?_
      refine c_X11_isFall q2 q1 (fun _ => ⟨_, rfl, ?_⟩) (fun z => absurd hr z)
      refine y_if_eq (tgt := 17) dX11_fall_5 (by decide) (fun h5 => absurd h5 (by decide)) (fun h5 => ?_)
      refine y_iload_n dX11_fall_8 rfl rfl ?_
      refine y_if_lt (tgt := 17) dX11_fall_9 (by decide) (fun h9 => ?_) (fun h9 => ?_)
      · refine y_iconst (v := -1) dX11_fall_17 (by decide) ?_
        refine y_ireturn dX11_fall_18 rfl rfl ?_
        refine ⟨_, rfl, ?_⟩
        refine y_run (own := "LoafFallModel") rfl (by decide +kernel) (Nat.le_of_ble_eq_true rfl) rfl ?_
        refine y_aload_n dX12_fall_0 rfl rfl ?_
        refine y_iload_n dX12_fall_1 rfl rfl ?_
        refine y_ivI1 dX12_fall_2 mv_X12_232 my_X12_isFall (Or.inl rfl) sh_239 ?_
        refine c_X12_isFall q3 q1 (fun _ => ⟨_, rfl, ?_⟩) (fun z => absurd hr z)
        
        refine y_if_eq (tgt := 31) dX12_fall_5 (by decide) (fun h5 => absurd h5 (by decide)) (fun h5 => ?_)
        refine y_iload_n dX12_fall_8 rfl rfl ?_
        refine y_iconst (v := 0) dX12_fall_9 (by decide) ?_
        refine y_iconst (v := 3) dX12_fall_10 (by decide) ?_
        refine y_isI3 dX12_fall_11 ms_X12_86 my_X12_in (Or.inl rfl) ?_
        refine c_X12_in (fun a b => absurd ((in_le (M := 3) (by decide)).mpr ⟨a, b⟩) hx) (fun _ => ⟨_, rfl, ?_⟩)
        refine y_if_eq (tgt := 31) dX12_fall_14 (by decide) (fun h14 => ?_) (fun h14 => absurd (by decide) h14)
        refine y_iconst (v := -1) dX12_fall_31 (by decide) ?_
        refine y_ireturn dX12_fall_32 rfl rfl ?_
        exact ⟨rfl, Rel_scr h frC.rf h.bk frM.wk⟩
      · refine y_iload_n dX11_fall_12 rfl rfl ?_
        refine y_iconst (v := 4) dX11_fall_13 (by decide) ?_
        refine y_icmp_lt (tgt := 19) dX11_fall_14 (by decide) (fun h14 => absurd h14 (fun z => hx ((in_lt (M := 4) (by decide)).mpr ⟨h9, z⟩))) (fun h14 => ?_)
        refine y_iconst (v := -1) dX11_fall_17 (by decide) ?_
        refine y_ireturn dX11_fall_18 rfl rfl ?_
        refine ⟨_, rfl, ?_⟩
        refine y_run (own := "LoafFallModel") rfl (by decide +kernel) (Nat.le_of_ble_eq_true rfl) rfl ?_
        refine y_aload_n dX12_fall_0 rfl rfl ?_
        refine y_iload_n dX12_fall_1 rfl rfl ?_
        refine y_ivI1 dX12_fall_2 mv_X12_232 my_X12_isFall (Or.inl rfl) sh_239 ?_
        refine c_X12_isFall q3 q1 (fun _ => ⟨_, rfl, ?_⟩) (fun z => absurd hr z)
        
        refine y_if_eq (tgt := 31) dX12_fall_5 (by decide) (fun h5 => absurd h5 (by decide)) (fun h5 => ?_)
        refine y_iload_n dX12_fall_8 rfl rfl ?_
        refine y_iconst (v := 0) dX12_fall_9 (by decide) ?_
        refine y_iconst (v := 3) dX12_fall_10 (by decide) ?_
        refine y_isI3 dX12_fall_11 ms_X12_86 my_X12_in (Or.inl rfl) ?_
        refine c_X12_in (fun a b => absurd ((in_le (M := 3) (by decide)).mpr ⟨a, b⟩) hx) (fun _ => ⟨_, rfl, ?_⟩)
        refine y_if_eq (tgt := 31) dX12_fall_14 (by decide) (fun h14 => ?_) (fun h14 => absurd (by decide) h14)
        refine y_iconst (v := -1) dX12_fall_31 (by decide) ?_
        refine y_ireturn dX12_fall_32 rfl rfl ?_
        exact ⟨rfl, Rel_scr h frC.rf h.bk frM.wk⟩
  · refine y_run (own := "LoafFall") rfl (by decide +kernel) (Nat.le_of_ble_eq_true rfl) rfl ?_
    refine y_aload_n dX11_fall_0 rfl rfl ?_
    refine y_iload_n dX11_fall_1 rfl rfl ?_
    refine y_ivI1 dX11_fall_2 mv_X11_227 my_X11_isFall (Or.inl rfl) sh_0 ?_
    refine c_X11_isFall q2 q1 (fun z => absurd z hr) (fun _ => ⟨_, rfl, ?_⟩)
    refine y_if_eq (tgt := 17) dX11_fall_5 (by decide) (fun h5 => ?_) (fun h5 => absurd (by decide) h5)
    refine y_iconst (v := -1) dX11_fall_17 (by decide) ?_
    refine y_ireturn dX11_fall_18 rfl rfl ?_
    refine ⟨_, rfl, ?_⟩
    refine y_run (own := "LoafFallModel") rfl (by decide +kernel) (Nat.le_of_ble_eq_true rfl) rfl ?_
    refine y_aload_n dX12_fall_0 rfl rfl ?_
    refine y_iload_n dX12_fall_1 rfl rfl ?_
    refine y_ivI1 dX12_fall_2 mv_X12_232 my_X12_isFall (Or.inl rfl) sh_239 ?_
    refine c_X12_isFall q3 q1 (fun z => absurd z hr) (fun _ => ⟨_, rfl, ?_⟩)
    refine y_if_eq (tgt := 31) dX12_fall_5 (by decide) (fun h5 => ?_) (fun h5 => absurd (by decide) h5)
    refine y_iconst (v := -1) dX12_fall_31 (by decide) ?_
    refine y_ireturn dX12_fall_32 rfl rfl ?_
    exact ⟨rfl, Rel_scr h frC.rf h.bk frM.wk⟩
theorem in16 {x : Int32} : (1 ≤ x ∧ x ≤ 6) ↔ (x = 1 ∨ x = 2 ∨ x = 3 ∨ x = 4 ∨ x = 5 ∨ x = 6) := by
  constructor
  · rintro ⟨h1, h2⟩
    obtain ⟨k, hk, rfl⟩ := (in_le (x := x) (M := 6) (by decide)).mpr ⟨Int32.le_trans (by decide) h1, h2⟩
    have := (nI_leI (a := 1) (by decide) (by omega)).mp h1
    have : k = 1 ∨ k = 2 ∨ k = 3 ∨ k = 4 ∨ k = 5 ∨ k = 6 := by omega
    rcases this with rfl | rfl | rfl | rfl | rfl | rfl
    · exact Or.inl rfl
    · exact Or.inr (Or.inl rfl)
    · exact Or.inr (Or.inr (Or.inl rfl))
    · exact Or.inr (Or.inr (Or.inr (Or.inl rfl)))
    · exact Or.inr (Or.inr (Or.inr (Or.inr (Or.inl rfl))))
    · exact Or.inr (Or.inr (Or.inr (Or.inr (Or.inr rfl))))
  · rintro (rfl | rfl | rfl | rfl | rfl | rfl) <;> exact ⟨by decide, by decide⟩
theorem mk_at {m : sM} {L k : Nat} {R : Nat → Int32} (h : LR m L R) (hk : k < qOf R) {x : Int32} (ho : ofKind (m (L + 14) k) x) : (x = 1 → m (L + 18) k = R (161 + 7 * k + 4)) ∧ (x = 2 → m (L + 18) k = R (161 + 7 * k + 5)) ∧ (x = 3 → m (L + 18) k = R (161 + 7 * k + 2) - R (161 + 7 * k + 4)) ∧ (x = 4 → m (L + 18) k = 50 - R (161 + 7 * k + 6)) := by
  obtain ⟨a, b, c, e, f⟩ := h.2.2.2.2.2 k hk
  rw [a] at ho
  unfold mkF mkOf at f
  refine ⟨fun z => ?_, fun z => ?_, fun z => ?_, fun z => ?_⟩ <;> subst z
  · rcases ho with o | ⟨o, -⟩ | ⟨o, z⟩
    · rw [f, if_pos (Or.inl o)]
    · rw [f, if_pos (Or.inr o)]
    · exact absurd z (by decide)
  · rcases ho with o | ⟨o, z⟩ | ⟨o, z⟩
    · rw [f, o, if_neg (by decide), if_neg (by decide), if_neg (by decide)]
    · exact absurd z (by decide)
    · exact absurd z (by decide)
  · rcases ho with o | ⟨o, z⟩ | ⟨o, z⟩
    · rw [f, o, if_neg (by decide), if_pos (by decide)]
    · exact absurd z (by decide)
    · exact absurd z (by decide)
  · rcases ho with o | ⟨o, z⟩ | ⟨o, z⟩
    · rw [f, o, if_neg (by decide), if_neg (by decide), if_pos (by decide)]
    · exact absurd z (by decide)
    · rw [f, o, if_neg (by decide), if_neg (by decide), if_pos (by decide)]
set_option maxHeartbeats 2000000 in
theorem p_mark {L : Nat} {xs : Nat → Int32} {d : Nat} {m : sM} {n : sN} {r x : Int32} (h : Rel m n) : PI L xs (d + 11) yX11_mark cX11_mark 3 yX12_mark cX12_mark 5 [.int r, .int x] m n := by
  unfold PI
  obtain ⟨q, q1, q2, q3, q4⟩ := fall_q h
  by_cases hr : inN r q
  · obtain ⟨k, hk, rfl⟩ := hr
    have hr : inN (nI k) q := ⟨k, hk, rfl⟩
    obtain ⟨l3, l4, l5⟩ := q4 (by omega)
    have hkq : k < qOf (lfR m 0) := by omega
    by_cases hx : 1 ≤ x ∧ x ≤ 6
    · have kd : m 20 k = lfR m 0 (161 + 7 * k + 0) := l3.1.fall (q := 0) hkq (by omega)
      have hx6 := in16.mp hx
      by_cases ho : ofKind (m 20 k) x
      · rw [kd] at ho
        obtain ⟨e1, e2, e3, e4⟩ := mk_at l3.1 hkq (by rw [← kd] at ho; exact ho)
        have e5 : m (6 + 2) 2 = lfR m 0 2 := l3.1.1 2 (by omega)
        have e6 : m 21 k = lfR m 0 (161 + 7 * k + 1) := l3.1.fall (q := 1) hkq (by omega)
        rcases hx6 with rfl | rfl | rfl | rfl | rfl | rfl
        · refine y_run (own := "LoafFall") rfl (by decide +kernel) (Nat.le_of_ble_eq_true rfl) rfl ?_
          refine y_aload_n dX11_mark_0 rfl rfl ?_
          refine y_iload_n dX11_mark_1 rfl rfl ?_
          refine y_ivI1 dX11_mark_2 mv_X11_227 my_X11_isFall (Or.inl rfl) sh_0 ?_
          refine c_X11_isFall q2 q1 (fun _ => ⟨_, rfl, ?_⟩) (fun z => absurd hr z)
          refine y_if_eq (tgt := 18) dX11_mark_5 (by decide) (fun h5 => absurd h5 (by decide)) (fun h5 => ?_)
          refine y_iload_n dX11_mark_8 rfl rfl ?_
          refine y_if_le (tgt := 18) dX11_mark_9 (by decide) (fun h9 => absurd h9 (fun z => absurd hx.1 (Int32.not_le.mpr (Int32.lt_of_le_of_lt z (by decide))))) (fun h9 => ?_)
          refine y_iload_n dX11_mark_12 rfl rfl ?_
          refine y_bipush (v := 6) dX11_mark_13 (by decide) ?_
          refine y_icmp_le (tgt := 20) dX11_mark_15 (by decide) (fun h15 => ?_) (fun h15 => absurd hx.2 h15)
          refine y_aload_n dX11_mark_20 rfl rfl ?_
          refine y_getr dX11_mark_21 gf_X11_40 sh_0 rfl ?_
          refine y_getr dX11_mark_24 gf_X11_230 sh_6 rfl ?_
          refine y_iload_n dX11_mark_27 rfl rfl ?_
          refine y_iload_n dX11_mark_28 rfl rfl ?_
          refine y_ivI2 dX11_mark_29 mv_X11_237 my_X3_isOfKind (Or.inl rfl) sh_19 ?_
          refine c_X3_isOfKind (k := k) lf6.2.2.2.2 rfl (by omega) (fun _ => ⟨_, rfl, ?_⟩) (fun z => absurd (by rw [← kd] at ho; exact ho) z)
          refine y_if_ne (tgt := 41) dX11_mark_32 (by decide) (fun h32 => ?_) (fun h32 => absurd h32 (by decide))
          refine y_iload_n dX11_mark_41 rfl rfl ?_
          refine y_iconst (v := 5) dX11_mark_42 (by decide) ?_
          refine y_icmp_ne (tgt := 59) dX11_mark_43 (by decide) (fun h43 => ?_) (fun h43 => absurd h43 (by decide))
          refine y_iload_n dX11_mark_59 rfl rfl ?_
          refine y_bipush (v := 6) dX11_mark_60 (by decide) ?_
          refine y_icmp_ne (tgt := 82) dX11_mark_62 (by decide) (fun h62 => ?_) (fun h62 => absurd h62 (by decide))
          refine y_aload_n dX11_mark_82 rfl rfl ?_
          refine y_getr dX11_mark_83 gf_X11_40 sh_0 rfl ?_
          refine y_getr dX11_mark_86 gf_X11_230 sh_6 rfl ?_
          refine y_getr dX11_mark_89 gf_X11_246 sh_19 rfl ?_
          refine y_iload_n dX11_mark_92 rfl rfl ?_
          refine y_ialdN dX11_mark_93 sh_24 rfl (by first | omega | decide) (by decide) ?_
          refine y_ireturn dX11_mark_94 rfl rfl ?_
          refine ⟨_, rfl, ?_⟩
          refine y_run (own := "LoafFallModel") rfl (by decide +kernel) (Nat.le_of_ble_eq_true rfl) rfl ?_
          refine y_aload_n dX12_mark_0 rfl rfl ?_
          refine y_iload_n dX12_mark_1 rfl rfl ?_
          refine y_ivI1 dX12_mark_2 mv_X12_232 my_X12_isFall (Or.inl rfl) sh_239 ?_
          refine c_X12_isFall q3 q1 (fun _ => ⟨_, rfl, ?_⟩) (fun z => absurd hr z)
          rw [wk_eta]
          have hb : bAt (wkM m (329 * 0)) (329 * 0) := wk_b (by omega)
          refine y_if_eq (tgt := 18) dX12_mark_5 (by decide) (fun h5 => absurd h5 (by decide)) (fun h5 => ?_)
          refine y_iload_n dX12_mark_8 rfl rfl ?_
          refine y_iconst (v := 1) dX12_mark_9 (by decide) ?_
          refine y_bipush (v := 6) dX12_mark_10 (by decide) ?_
          refine y_isI3 dX12_mark_12 ms_X12_86 my_X12_in (Or.inl rfl) ?_
          refine c_X12_in (fun _ _ => ⟨_, rfl, ?_⟩) (fun a => absurd hx a)
          refine y_if_ne (tgt := 20) dX12_mark_15 (by decide) (fun h15 => ?_) (fun h15 => absurd h15 (by decide))
          refine y_aload_n dX12_mark_20 rfl rfl ?_
          refine y_iload_n dX12_mark_21 rfl rfl ?_
          refine y_iconst (v := 0) dX12_mark_22 (by decide) ?_
          refine y_ivI2 dX12_mark_23 mv_X12_235 my_X12_f (Or.inl rfl) sh_239 ?_
          refine c_X12_f hb (k := k) (j := 0) rfl rfl (by omega) ⟨_, rfl, ?_⟩
          refine y_ist5_3 dX12_mark_26 rfl ?_
          refine y_iload_n dX12_mark_27 rfl rfl ?_
          refine y_iload_n dX12_mark_28 rfl rfl ?_
          refine y_icmp_eq (tgt := 53) dX12_mark_29 (by decide) (fun h29 => ?_) (fun h29 => ?_)
          · refine y_iconst (v := 1) dX12_mark_53 (by decide) ?_
            refine y_goto (tgt := 58) dX12_mark_54 (by decide) ?_
            refine y_ist5_4 dX12_mark_58 rfl ?_
            refine y_iload dX12_mark_60 rfl ?_
            refine y_if_ne (tgt := 71) dX12_mark_62 (by decide) (fun h62 => ?_) (fun h62 => absurd h62 (by decide))
            refine y_iload_n dX12_mark_71 rfl rfl ?_
            refine y_tabIn (tgt := 108) (off := 36) dX12_mark_72 (by decide) (by decide) (by decide) (by decide) ?_
            refine y_aload_n dX12_mark_108 rfl rfl ?_
            refine y_iload_n dX12_mark_109 rfl rfl ?_
            refine y_iconst (v := 4) dX12_mark_110 (by decide) ?_
            refine y_ivI2 dX12_mark_111 mv_X12_235 my_X12_f (Or.inl rfl) sh_239 ?_
            refine c_X12_f hb (k := k) (j := 4) rfl rfl (by omega) ⟨_, rfl, ?_⟩
            refine y_ireturn dX12_mark_114 rfl rfl ?_
            rw [← wk_eta]
            exact ⟨by rw [e1 rfl], Rel_scr h frC.rf h.bk frM.wk⟩
          · refine y_iload_n dX12_mark_32 rfl rfl ?_
            refine y_iconst (v := 1) dX12_mark_33 (by decide) ?_
            refine y_icmp_ne (tgt := 43) dX12_mark_34 (by decide) (fun h34 => absurd rfl h34) (fun h34 => ?_)
            refine y_iload_n dX12_mark_37 rfl rfl ?_
            refine y_bipush (v := 6) dX12_mark_38 (by decide) ?_
            refine y_icmp_eq (tgt := 53) dX12_mark_40 (by decide) (fun h40 => ?_) (fun h40 => ?_)
            · refine y_iconst (v := 1) dX12_mark_53 (by decide) ?_
              refine y_goto (tgt := 58) dX12_mark_54 (by decide) ?_
              refine y_ist5_4 dX12_mark_58 rfl ?_
              refine y_iload dX12_mark_60 rfl ?_
              refine y_if_ne (tgt := 71) dX12_mark_62 (by decide) (fun h62 => ?_) (fun h62 => absurd h62 (by decide))
              refine y_iload_n dX12_mark_71 rfl rfl ?_
              refine y_tabIn (tgt := 108) (off := 36) dX12_mark_72 (by decide) (by decide) (by decide) (by decide) ?_
              refine y_aload_n dX12_mark_108 rfl rfl ?_
              refine y_iload_n dX12_mark_109 rfl rfl ?_
              refine y_iconst (v := 4) dX12_mark_110 (by decide) ?_
              refine y_ivI2 dX12_mark_111 mv_X12_235 my_X12_f (Or.inl rfl) sh_239 ?_
              refine c_X12_f hb (k := k) (j := 4) rfl rfl (by omega) ⟨_, rfl, ?_⟩
              refine y_ireturn dX12_mark_114 rfl rfl ?_
              rw [← wk_eta]
              exact ⟨by rw [e1 rfl], Rel_scr h frC.rf h.bk frM.wk⟩
            · refine y_iload_n dX12_mark_43 rfl rfl ?_
              refine y_iconst (v := 4) dX12_mark_44 (by decide) ?_
              refine y_icmp_ne (tgt := 57) dX12_mark_45 (by decide) (fun h45 => ?_) (fun h45 => absurd h45 (by decide))
              exact absurd ho (fun z => z.elim (fun z => h29 z) (fun z => z.elim (fun z => h40 z.1) (fun z => absurd z.2 (by decide))))
        · refine y_run (own := "LoafFall") rfl (by decide +kernel) (Nat.le_of_ble_eq_true rfl) rfl ?_
          refine y_aload_n dX11_mark_0 rfl rfl ?_
          refine y_iload_n dX11_mark_1 rfl rfl ?_
          refine y_ivI1 dX11_mark_2 mv_X11_227 my_X11_isFall (Or.inl rfl) sh_0 ?_
          refine c_X11_isFall q2 q1 (fun _ => ⟨_, rfl, ?_⟩) (fun z => absurd hr z)
          refine y_if_eq (tgt := 18) dX11_mark_5 (by decide) (fun h5 => absurd h5 (by decide)) (fun h5 => ?_)
          refine y_iload_n dX11_mark_8 rfl rfl ?_
          refine y_if_le (tgt := 18) dX11_mark_9 (by decide) (fun h9 => absurd h9 (fun z => absurd hx.1 (Int32.not_le.mpr (Int32.lt_of_le_of_lt z (by decide))))) (fun h9 => ?_)
          refine y_iload_n dX11_mark_12 rfl rfl ?_
          refine y_bipush (v := 6) dX11_mark_13 (by decide) ?_
          refine y_icmp_le (tgt := 20) dX11_mark_15 (by decide) (fun h15 => ?_) (fun h15 => absurd hx.2 h15)
          refine y_aload_n dX11_mark_20 rfl rfl ?_
          refine y_getr dX11_mark_21 gf_X11_40 sh_0 rfl ?_
          refine y_getr dX11_mark_24 gf_X11_230 sh_6 rfl ?_
          refine y_iload_n dX11_mark_27 rfl rfl ?_
          refine y_iload_n dX11_mark_28 rfl rfl ?_
          refine y_ivI2 dX11_mark_29 mv_X11_237 my_X3_isOfKind (Or.inl rfl) sh_19 ?_
          refine c_X3_isOfKind (k := k) lf6.2.2.2.2 rfl (by omega) (fun _ => ⟨_, rfl, ?_⟩) (fun z => absurd (by rw [← kd] at ho; exact ho) z)
          refine y_if_ne (tgt := 41) dX11_mark_32 (by decide) (fun h32 => ?_) (fun h32 => absurd h32 (by decide))
          refine y_iload_n dX11_mark_41 rfl rfl ?_
          refine y_iconst (v := 5) dX11_mark_42 (by decide) ?_
          refine y_icmp_ne (tgt := 59) dX11_mark_43 (by decide) (fun h43 => ?_) (fun h43 => absurd h43 (by decide))
          refine y_iload_n dX11_mark_59 rfl rfl ?_
          refine y_bipush (v := 6) dX11_mark_60 (by decide) ?_
          refine y_icmp_ne (tgt := 82) dX11_mark_62 (by decide) (fun h62 => ?_) (fun h62 => absurd h62 (by decide))
          refine y_aload_n dX11_mark_82 rfl rfl ?_
          refine y_getr dX11_mark_83 gf_X11_40 sh_0 rfl ?_
          refine y_getr dX11_mark_86 gf_X11_230 sh_6 rfl ?_
          refine y_getr dX11_mark_89 gf_X11_246 sh_19 rfl ?_
          refine y_iload_n dX11_mark_92 rfl rfl ?_
          refine y_ialdN dX11_mark_93 sh_24 rfl (by first | omega | decide) (by decide) ?_
          refine y_ireturn dX11_mark_94 rfl rfl ?_
          refine ⟨_, rfl, ?_⟩
          refine y_run (own := "LoafFallModel") rfl (by decide +kernel) (Nat.le_of_ble_eq_true rfl) rfl ?_
          refine y_aload_n dX12_mark_0 rfl rfl ?_
          refine y_iload_n dX12_mark_1 rfl rfl ?_
          refine y_ivI1 dX12_mark_2 mv_X12_232 my_X12_isFall (Or.inl rfl) sh_239 ?_
          refine c_X12_isFall q3 q1 (fun _ => ⟨_, rfl, ?_⟩) (fun z => absurd hr z)
          rw [wk_eta]
          have hb : bAt (wkM m (329 * 0)) (329 * 0) := wk_b (by omega)
          refine y_if_eq (tgt := 18) dX12_mark_5 (by decide) (fun h5 => absurd h5 (by decide)) (fun h5 => ?_)
          refine y_iload_n dX12_mark_8 rfl rfl ?_
          refine y_iconst (v := 1) dX12_mark_9 (by decide) ?_
          refine y_bipush (v := 6) dX12_mark_10 (by decide) ?_
          refine y_isI3 dX12_mark_12 ms_X12_86 my_X12_in (Or.inl rfl) ?_
          refine c_X12_in (fun _ _ => ⟨_, rfl, ?_⟩) (fun a => absurd hx a)
          refine y_if_ne (tgt := 20) dX12_mark_15 (by decide) (fun h15 => ?_) (fun h15 => absurd h15 (by decide))
          refine y_aload_n dX12_mark_20 rfl rfl ?_
          refine y_iload_n dX12_mark_21 rfl rfl ?_
          refine y_iconst (v := 0) dX12_mark_22 (by decide) ?_
          refine y_ivI2 dX12_mark_23 mv_X12_235 my_X12_f (Or.inl rfl) sh_239 ?_
          refine c_X12_f hb (k := k) (j := 0) rfl rfl (by omega) ⟨_, rfl, ?_⟩
          refine y_ist5_3 dX12_mark_26 rfl ?_
          refine y_iload_n dX12_mark_27 rfl rfl ?_
          refine y_iload_n dX12_mark_28 rfl rfl ?_
          refine y_icmp_eq (tgt := 53) dX12_mark_29 (by decide) (fun h29 => ?_) (fun h29 => ?_)
          · refine y_iconst (v := 1) dX12_mark_53 (by decide) ?_
            refine y_goto (tgt := 58) dX12_mark_54 (by decide) ?_
            refine y_ist5_4 dX12_mark_58 rfl ?_
            refine y_iload dX12_mark_60 rfl ?_
            refine y_if_ne (tgt := 71) dX12_mark_62 (by decide) (fun h62 => ?_) (fun h62 => absurd h62 (by decide))
            refine y_iload_n dX12_mark_71 rfl rfl ?_
            refine y_tabIn (tgt := 115) (off := 43) dX12_mark_72 (by decide) (by decide) (by decide) (by decide) ?_
            refine y_aload_n dX12_mark_115 rfl rfl ?_
            refine y_iload_n dX12_mark_116 rfl rfl ?_
            refine y_iconst (v := 5) dX12_mark_117 (by decide) ?_
            refine y_ivI2 dX12_mark_118 mv_X12_235 my_X12_f (Or.inl rfl) sh_239 ?_
            refine c_X12_f hb (k := k) (j := 5) rfl rfl (by omega) ⟨_, rfl, ?_⟩
            refine y_ireturn dX12_mark_121 rfl rfl ?_
            rw [← wk_eta]
            exact ⟨by rw [e2 rfl], Rel_scr h frC.rf h.bk frM.wk⟩
          · refine y_iload_n dX12_mark_32 rfl rfl ?_
            refine y_iconst (v := 1) dX12_mark_33 (by decide) ?_
            refine y_icmp_ne (tgt := 43) dX12_mark_34 (by decide) (fun h34 => ?_) (fun h34 => absurd h34 (by decide))
            refine y_iload_n dX12_mark_43 rfl rfl ?_
            refine y_iconst (v := 4) dX12_mark_44 (by decide) ?_
            refine y_icmp_ne (tgt := 57) dX12_mark_45 (by decide) (fun h45 => ?_) (fun h45 => absurd h45 (by decide))
            exact absurd ho (fun z => z.elim (fun z => h29 z) (fun z => z.elim (fun z => absurd z.2 (by decide)) (fun z => absurd z.2 (by decide))))
        · refine y_run (own := "LoafFall") rfl (by decide +kernel) (Nat.le_of_ble_eq_true rfl) rfl ?_
          refine y_aload_n dX11_mark_0 rfl rfl ?_
          refine y_iload_n dX11_mark_1 rfl rfl ?_
          refine y_ivI1 dX11_mark_2 mv_X11_227 my_X11_isFall (Or.inl rfl) sh_0 ?_
          refine c_X11_isFall q2 q1 (fun _ => ⟨_, rfl, ?_⟩) (fun z => absurd hr z)
          refine y_if_eq (tgt := 18) dX11_mark_5 (by decide) (fun h5 => absurd h5 (by decide)) (fun h5 => ?_)
          refine y_iload_n dX11_mark_8 rfl rfl ?_
          refine y_if_le (tgt := 18) dX11_mark_9 (by decide) (fun h9 => absurd h9 (fun z => absurd hx.1 (Int32.not_le.mpr (Int32.lt_of_le_of_lt z (by decide))))) (fun h9 => ?_)
          refine y_iload_n dX11_mark_12 rfl rfl ?_
          refine y_bipush (v := 6) dX11_mark_13 (by decide) ?_
          refine y_icmp_le (tgt := 20) dX11_mark_15 (by decide) (fun h15 => ?_) (fun h15 => absurd hx.2 h15)
          refine y_aload_n dX11_mark_20 rfl rfl ?_
          refine y_getr dX11_mark_21 gf_X11_40 sh_0 rfl ?_
          refine y_getr dX11_mark_24 gf_X11_230 sh_6 rfl ?_
          refine y_iload_n dX11_mark_27 rfl rfl ?_
          refine y_iload_n dX11_mark_28 rfl rfl ?_
          refine y_ivI2 dX11_mark_29 mv_X11_237 my_X3_isOfKind (Or.inl rfl) sh_19 ?_
          refine c_X3_isOfKind (k := k) lf6.2.2.2.2 rfl (by omega) (fun _ => ⟨_, rfl, ?_⟩) (fun z => absurd (by rw [← kd] at ho; exact ho) z)
          refine y_if_ne (tgt := 41) dX11_mark_32 (by decide) (fun h32 => ?_) (fun h32 => absurd h32 (by decide))
          refine y_iload_n dX11_mark_41 rfl rfl ?_
          refine y_iconst (v := 5) dX11_mark_42 (by decide) ?_
          refine y_icmp_ne (tgt := 59) dX11_mark_43 (by decide) (fun h43 => ?_) (fun h43 => absurd h43 (by decide))
          refine y_iload_n dX11_mark_59 rfl rfl ?_
          refine y_bipush (v := 6) dX11_mark_60 (by decide) ?_
          refine y_icmp_ne (tgt := 82) dX11_mark_62 (by decide) (fun h62 => ?_) (fun h62 => absurd h62 (by decide))
          refine y_aload_n dX11_mark_82 rfl rfl ?_
          refine y_getr dX11_mark_83 gf_X11_40 sh_0 rfl ?_
          refine y_getr dX11_mark_86 gf_X11_230 sh_6 rfl ?_
          refine y_getr dX11_mark_89 gf_X11_246 sh_19 rfl ?_
          refine y_iload_n dX11_mark_92 rfl rfl ?_
          refine y_ialdN dX11_mark_93 sh_24 rfl (by first | omega | decide) (by decide) ?_
          refine y_ireturn dX11_mark_94 rfl rfl ?_
          refine ⟨_, rfl, ?_⟩
          refine y_run (own := "LoafFallModel") rfl (by decide +kernel) (Nat.le_of_ble_eq_true rfl) rfl ?_
          refine y_aload_n dX12_mark_0 rfl rfl ?_
          refine y_iload_n dX12_mark_1 rfl rfl ?_
          refine y_ivI1 dX12_mark_2 mv_X12_232 my_X12_isFall (Or.inl rfl) sh_239 ?_
          refine c_X12_isFall q3 q1 (fun _ => ⟨_, rfl, ?_⟩) (fun z => absurd hr z)
          rw [wk_eta]
          have hb : bAt (wkM m (329 * 0)) (329 * 0) := wk_b (by omega)
          refine y_if_eq (tgt := 18) dX12_mark_5 (by decide) (fun h5 => absurd h5 (by decide)) (fun h5 => ?_)
          refine y_iload_n dX12_mark_8 rfl rfl ?_
          refine y_iconst (v := 1) dX12_mark_9 (by decide) ?_
          refine y_bipush (v := 6) dX12_mark_10 (by decide) ?_
          refine y_isI3 dX12_mark_12 ms_X12_86 my_X12_in (Or.inl rfl) ?_
          refine c_X12_in (fun _ _ => ⟨_, rfl, ?_⟩) (fun a => absurd hx a)
          refine y_if_ne (tgt := 20) dX12_mark_15 (by decide) (fun h15 => ?_) (fun h15 => absurd h15 (by decide))
          refine y_aload_n dX12_mark_20 rfl rfl ?_
          refine y_iload_n dX12_mark_21 rfl rfl ?_
          refine y_iconst (v := 0) dX12_mark_22 (by decide) ?_
          refine y_ivI2 dX12_mark_23 mv_X12_235 my_X12_f (Or.inl rfl) sh_239 ?_
          refine c_X12_f hb (k := k) (j := 0) rfl rfl (by omega) ⟨_, rfl, ?_⟩
          refine y_ist5_3 dX12_mark_26 rfl ?_
          refine y_iload_n dX12_mark_27 rfl rfl ?_
          refine y_iload_n dX12_mark_28 rfl rfl ?_
          refine y_icmp_eq (tgt := 53) dX12_mark_29 (by decide) (fun h29 => ?_) (fun h29 => ?_)
          · refine y_iconst (v := 1) dX12_mark_53 (by decide) ?_
            refine y_goto (tgt := 58) dX12_mark_54 (by decide) ?_
            refine y_ist5_4 dX12_mark_58 rfl ?_
            refine y_iload dX12_mark_60 rfl ?_
            refine y_if_ne (tgt := 71) dX12_mark_62 (by decide) (fun h62 => ?_) (fun h62 => absurd h62 (by decide))
            refine y_iload_n dX12_mark_71 rfl rfl ?_
            refine y_tabIn (tgt := 122) (off := 50) dX12_mark_72 (by decide) (by decide) (by decide) (by decide) ?_
            refine y_aload_n dX12_mark_122 rfl rfl ?_
            refine y_iload_n dX12_mark_123 rfl rfl ?_
            refine y_iconst (v := 2) dX12_mark_124 (by decide) ?_
            refine y_ivI2 dX12_mark_125 mv_X12_235 my_X12_f (Or.inl rfl) sh_239 ?_
            refine c_X12_f hb (k := k) (j := 2) rfl rfl (by omega) ⟨_, rfl, ?_⟩
            refine y_aload_n dX12_mark_128 rfl rfl ?_
            refine y_iload_n dX12_mark_129 rfl rfl ?_
            refine y_iconst (v := 4) dX12_mark_130 (by decide) ?_
            refine y_ivI2 dX12_mark_131 mv_X12_235 my_X12_f (Or.inl rfl) sh_239 ?_
            refine c_X12_f hb (k := k) (j := 4) rfl rfl (by omega) ⟨_, rfl, ?_⟩
            refine y_isub dX12_mark_134 ?_
            refine y_ireturn dX12_mark_135 rfl rfl ?_
            rw [← wk_eta]
            exact ⟨by rw [e3 rfl], Rel_scr h frC.rf h.bk frM.wk⟩
          · refine y_iload_n dX12_mark_32 rfl rfl ?_
            refine y_iconst (v := 1) dX12_mark_33 (by decide) ?_
            refine y_icmp_ne (tgt := 43) dX12_mark_34 (by decide) (fun h34 => ?_) (fun h34 => absurd h34 (by decide))
            refine y_iload_n dX12_mark_43 rfl rfl ?_
            refine y_iconst (v := 4) dX12_mark_44 (by decide) ?_
            refine y_icmp_ne (tgt := 57) dX12_mark_45 (by decide) (fun h45 => ?_) (fun h45 => absurd h45 (by decide))
            exact absurd ho (fun z => z.elim (fun z => h29 z) (fun z => z.elim (fun z => absurd z.2 (by decide)) (fun z => absurd z.2 (by decide))))
        · refine y_run (own := "LoafFall") rfl (by decide +kernel) (Nat.le_of_ble_eq_true rfl) rfl ?_
          refine y_aload_n dX11_mark_0 rfl rfl ?_
          refine y_iload_n dX11_mark_1 rfl rfl ?_
          refine y_ivI1 dX11_mark_2 mv_X11_227 my_X11_isFall (Or.inl rfl) sh_0 ?_
          refine c_X11_isFall q2 q1 (fun _ => ⟨_, rfl, ?_⟩) (fun z => absurd hr z)
          refine y_if_eq (tgt := 18) dX11_mark_5 (by decide) (fun h5 => absurd h5 (by decide)) (fun h5 => ?_)
          refine y_iload_n dX11_mark_8 rfl rfl ?_
          refine y_if_le (tgt := 18) dX11_mark_9 (by decide) (fun h9 => absurd h9 (fun z => absurd hx.1 (Int32.not_le.mpr (Int32.lt_of_le_of_lt z (by decide))))) (fun h9 => ?_)
          refine y_iload_n dX11_mark_12 rfl rfl ?_
          refine y_bipush (v := 6) dX11_mark_13 (by decide) ?_
          refine y_icmp_le (tgt := 20) dX11_mark_15 (by decide) (fun h15 => ?_) (fun h15 => absurd hx.2 h15)
          refine y_aload_n dX11_mark_20 rfl rfl ?_
          refine y_getr dX11_mark_21 gf_X11_40 sh_0 rfl ?_
          refine y_getr dX11_mark_24 gf_X11_230 sh_6 rfl ?_
          refine y_iload_n dX11_mark_27 rfl rfl ?_
          refine y_iload_n dX11_mark_28 rfl rfl ?_
          refine y_ivI2 dX11_mark_29 mv_X11_237 my_X3_isOfKind (Or.inl rfl) sh_19 ?_
          refine c_X3_isOfKind (k := k) lf6.2.2.2.2 rfl (by omega) (fun _ => ⟨_, rfl, ?_⟩) (fun z => absurd (by rw [← kd] at ho; exact ho) z)
          refine y_if_ne (tgt := 41) dX11_mark_32 (by decide) (fun h32 => ?_) (fun h32 => absurd h32 (by decide))
          refine y_iload_n dX11_mark_41 rfl rfl ?_
          refine y_iconst (v := 5) dX11_mark_42 (by decide) ?_
          refine y_icmp_ne (tgt := 59) dX11_mark_43 (by decide) (fun h43 => ?_) (fun h43 => absurd h43 (by decide))
          refine y_iload_n dX11_mark_59 rfl rfl ?_
          refine y_bipush (v := 6) dX11_mark_60 (by decide) ?_
          refine y_icmp_ne (tgt := 82) dX11_mark_62 (by decide) (fun h62 => ?_) (fun h62 => absurd h62 (by decide))
          refine y_aload_n dX11_mark_82 rfl rfl ?_
          refine y_getr dX11_mark_83 gf_X11_40 sh_0 rfl ?_
          refine y_getr dX11_mark_86 gf_X11_230 sh_6 rfl ?_
          refine y_getr dX11_mark_89 gf_X11_246 sh_19 rfl ?_
          refine y_iload_n dX11_mark_92 rfl rfl ?_
          refine y_ialdN dX11_mark_93 sh_24 rfl (by first | omega | decide) (by decide) ?_
          refine y_ireturn dX11_mark_94 rfl rfl ?_
          refine ⟨_, rfl, ?_⟩
          refine y_run (own := "LoafFallModel") rfl (by decide +kernel) (Nat.le_of_ble_eq_true rfl) rfl ?_
          refine y_aload_n dX12_mark_0 rfl rfl ?_
          refine y_iload_n dX12_mark_1 rfl rfl ?_
          refine y_ivI1 dX12_mark_2 mv_X12_232 my_X12_isFall (Or.inl rfl) sh_239 ?_
          refine c_X12_isFall q3 q1 (fun _ => ⟨_, rfl, ?_⟩) (fun z => absurd hr z)
          rw [wk_eta]
          have hb : bAt (wkM m (329 * 0)) (329 * 0) := wk_b (by omega)
          refine y_if_eq (tgt := 18) dX12_mark_5 (by decide) (fun h5 => absurd h5 (by decide)) (fun h5 => ?_)
          refine y_iload_n dX12_mark_8 rfl rfl ?_
          refine y_iconst (v := 1) dX12_mark_9 (by decide) ?_
          refine y_bipush (v := 6) dX12_mark_10 (by decide) ?_
          refine y_isI3 dX12_mark_12 ms_X12_86 my_X12_in (Or.inl rfl) ?_
          refine c_X12_in (fun _ _ => ⟨_, rfl, ?_⟩) (fun a => absurd hx a)
          refine y_if_ne (tgt := 20) dX12_mark_15 (by decide) (fun h15 => ?_) (fun h15 => absurd h15 (by decide))
          refine y_aload_n dX12_mark_20 rfl rfl ?_
          refine y_iload_n dX12_mark_21 rfl rfl ?_
          refine y_iconst (v := 0) dX12_mark_22 (by decide) ?_
          refine y_ivI2 dX12_mark_23 mv_X12_235 my_X12_f (Or.inl rfl) sh_239 ?_
          refine c_X12_f hb (k := k) (j := 0) rfl rfl (by omega) ⟨_, rfl, ?_⟩
          refine y_ist5_3 dX12_mark_26 rfl ?_
          refine y_iload_n dX12_mark_27 rfl rfl ?_
          refine y_iload_n dX12_mark_28 rfl rfl ?_
          refine y_icmp_eq (tgt := 53) dX12_mark_29 (by decide) (fun h29 => ?_) (fun h29 => ?_)
          · refine y_iconst (v := 1) dX12_mark_53 (by decide) ?_
            refine y_goto (tgt := 58) dX12_mark_54 (by decide) ?_
            refine y_ist5_4 dX12_mark_58 rfl ?_
            refine y_iload dX12_mark_60 rfl ?_
            refine y_if_ne (tgt := 71) dX12_mark_62 (by decide) (fun h62 => ?_) (fun h62 => absurd h62 (by decide))
            refine y_iload_n dX12_mark_71 rfl rfl ?_
            refine y_tabIn (tgt := 136) (off := 64) dX12_mark_72 (by decide) (by decide) (by decide) (by decide) ?_
            refine y_bipush (v := 50) dX12_mark_136 (by decide) ?_
            refine y_aload_n dX12_mark_138 rfl rfl ?_
            refine y_iload_n dX12_mark_139 rfl rfl ?_
            refine y_bipush (v := 6) dX12_mark_140 (by decide) ?_
            refine y_ivI2 dX12_mark_142 mv_X12_235 my_X12_f (Or.inl rfl) sh_239 ?_
            refine c_X12_f hb (k := k) (j := 6) rfl rfl (by omega) ⟨_, rfl, ?_⟩
            refine y_isub dX12_mark_145 ?_
            refine y_ireturn dX12_mark_146 rfl rfl ?_
            rw [← wk_eta]
            exact ⟨by rw [e4 rfl], Rel_scr h frC.rf h.bk frM.wk⟩
          · refine y_iload_n dX12_mark_32 rfl rfl ?_
            refine y_iconst (v := 1) dX12_mark_33 (by decide) ?_
            refine y_icmp_ne (tgt := 43) dX12_mark_34 (by decide) (fun h34 => ?_) (fun h34 => absurd h34 (by decide))
            refine y_iload_n dX12_mark_43 rfl rfl ?_
            refine y_iconst (v := 4) dX12_mark_44 (by decide) ?_
            refine y_icmp_ne (tgt := 57) dX12_mark_45 (by decide) (fun h45 => absurd rfl h45) (fun h45 => ?_)
            refine y_iload_n dX12_mark_48 rfl rfl ?_
            refine y_iconst (v := 5) dX12_mark_49 (by decide) ?_
            refine y_icmp_ne (tgt := 57) dX12_mark_50 (by decide) (fun h50 => ?_) (fun h50 => ?_)
            · exact absurd ho (fun z => z.elim (fun z => h29 z) (fun z => z.elim (fun z => absurd z.2 (by decide)) (fun z => h50 z.1)))
            · refine y_iconst (v := 1) dX12_mark_53 (by decide) ?_
              refine y_goto (tgt := 58) dX12_mark_54 (by decide) ?_
              refine y_ist5_4 dX12_mark_58 rfl ?_
              refine y_iload dX12_mark_60 rfl ?_
              refine y_if_ne (tgt := 71) dX12_mark_62 (by decide) (fun h62 => ?_) (fun h62 => absurd h62 (by decide))
              refine y_iload_n dX12_mark_71 rfl rfl ?_
              refine y_tabIn (tgt := 136) (off := 64) dX12_mark_72 (by decide) (by decide) (by decide) (by decide) ?_
              refine y_bipush (v := 50) dX12_mark_136 (by decide) ?_
              refine y_aload_n dX12_mark_138 rfl rfl ?_
              refine y_iload_n dX12_mark_139 rfl rfl ?_
              refine y_bipush (v := 6) dX12_mark_140 (by decide) ?_
              refine y_ivI2 dX12_mark_142 mv_X12_235 my_X12_f (Or.inl rfl) sh_239 ?_
              refine c_X12_f hb (k := k) (j := 6) rfl rfl (by omega) ⟨_, rfl, ?_⟩
              refine y_isub dX12_mark_145 ?_
              refine y_ireturn dX12_mark_146 rfl rfl ?_
              rw [← wk_eta]
              exact ⟨by rw [e4 rfl], Rel_scr h frC.rf h.bk frM.wk⟩
        · refine y_run (own := "LoafFall") rfl (by decide +kernel) (Nat.le_of_ble_eq_true rfl) rfl ?_
          refine y_aload_n dX11_mark_0 rfl rfl ?_
          refine y_iload_n dX11_mark_1 rfl rfl ?_
          refine y_ivI1 dX11_mark_2 mv_X11_227 my_X11_isFall (Or.inl rfl) sh_0 ?_
          refine c_X11_isFall q2 q1 (fun _ => ⟨_, rfl, ?_⟩) (fun z => absurd hr z)
          refine y_if_eq (tgt := 18) dX11_mark_5 (by decide) (fun h5 => absurd h5 (by decide)) (fun h5 => ?_)
          refine y_iload_n dX11_mark_8 rfl rfl ?_
          refine y_if_le (tgt := 18) dX11_mark_9 (by decide) (fun h9 => absurd h9 (fun z => absurd hx.1 (Int32.not_le.mpr (Int32.lt_of_le_of_lt z (by decide))))) (fun h9 => ?_)
          refine y_iload_n dX11_mark_12 rfl rfl ?_
          refine y_bipush (v := 6) dX11_mark_13 (by decide) ?_
          refine y_icmp_le (tgt := 20) dX11_mark_15 (by decide) (fun h15 => ?_) (fun h15 => absurd hx.2 h15)
          refine y_aload_n dX11_mark_20 rfl rfl ?_
          refine y_getr dX11_mark_21 gf_X11_40 sh_0 rfl ?_
          refine y_getr dX11_mark_24 gf_X11_230 sh_6 rfl ?_
          refine y_iload_n dX11_mark_27 rfl rfl ?_
          refine y_iload_n dX11_mark_28 rfl rfl ?_
          refine y_ivI2 dX11_mark_29 mv_X11_237 my_X3_isOfKind (Or.inl rfl) sh_19 ?_
          refine c_X3_isOfKind (k := k) lf6.2.2.2.2 rfl (by omega) (fun _ => ⟨_, rfl, ?_⟩) (fun z => absurd (by rw [← kd] at ho; exact ho) z)
          refine y_if_ne (tgt := 41) dX11_mark_32 (by decide) (fun h32 => ?_) (fun h32 => absurd h32 (by decide))
          refine y_iload_n dX11_mark_41 rfl rfl ?_
          refine y_iconst (v := 5) dX11_mark_42 (by decide) ?_
          refine y_icmp_ne (tgt := 59) dX11_mark_43 (by decide) (fun h43 => absurd rfl h43) (fun h43 => ?_)
          refine y_aload_n dX11_mark_46 rfl rfl ?_
          refine y_getr dX11_mark_47 gf_X11_40 sh_0 rfl ?_
          refine y_getr dX11_mark_50 gf_X11_240 sh_6 rfl ?_
          refine y_getr dX11_mark_53 gf_X11_187 sh_7 rfl ?_
          refine y_iconst (v := 2) dX11_mark_56 (by decide) ?_
          refine y_ialdN dX11_mark_57 sh_8 rfl (by first | omega | decide) (by decide) ?_
          refine y_ireturn dX11_mark_58 rfl rfl ?_
          refine ⟨_, rfl, ?_⟩
          refine y_run (own := "LoafFallModel") rfl (by decide +kernel) (Nat.le_of_ble_eq_true rfl) rfl ?_
          refine y_aload_n dX12_mark_0 rfl rfl ?_
          refine y_iload_n dX12_mark_1 rfl rfl ?_
          refine y_ivI1 dX12_mark_2 mv_X12_232 my_X12_isFall (Or.inl rfl) sh_239 ?_
          refine c_X12_isFall q3 q1 (fun _ => ⟨_, rfl, ?_⟩) (fun z => absurd hr z)
          rw [wk_eta]
          have hb : bAt (wkM m (329 * 0)) (329 * 0) := wk_b (by omega)
          refine y_if_eq (tgt := 18) dX12_mark_5 (by decide) (fun h5 => absurd h5 (by decide)) (fun h5 => ?_)
          refine y_iload_n dX12_mark_8 rfl rfl ?_
          refine y_iconst (v := 1) dX12_mark_9 (by decide) ?_
          refine y_bipush (v := 6) dX12_mark_10 (by decide) ?_
          refine y_isI3 dX12_mark_12 ms_X12_86 my_X12_in (Or.inl rfl) ?_
          refine c_X12_in (fun _ _ => ⟨_, rfl, ?_⟩) (fun a => absurd hx a)
          refine y_if_ne (tgt := 20) dX12_mark_15 (by decide) (fun h15 => ?_) (fun h15 => absurd h15 (by decide))
          refine y_aload_n dX12_mark_20 rfl rfl ?_
          refine y_iload_n dX12_mark_21 rfl rfl ?_
          refine y_iconst (v := 0) dX12_mark_22 (by decide) ?_
          refine y_ivI2 dX12_mark_23 mv_X12_235 my_X12_f (Or.inl rfl) sh_239 ?_
          refine c_X12_f hb (k := k) (j := 0) rfl rfl (by omega) ⟨_, rfl, ?_⟩
          refine y_ist5_3 dX12_mark_26 rfl ?_
          refine y_iload_n dX12_mark_27 rfl rfl ?_
          refine y_iload_n dX12_mark_28 rfl rfl ?_
          refine y_icmp_eq (tgt := 53) dX12_mark_29 (by decide) (fun h29 => ?_) (fun h29 => ?_)
          · refine y_iconst (v := 1) dX12_mark_53 (by decide) ?_
            refine y_goto (tgt := 58) dX12_mark_54 (by decide) ?_
            refine y_ist5_4 dX12_mark_58 rfl ?_
            refine y_iload dX12_mark_60 rfl ?_
            refine y_if_ne (tgt := 71) dX12_mark_62 (by decide) (fun h62 => ?_) (fun h62 => absurd h62 (by decide))
            refine y_iload_n dX12_mark_71 rfl rfl ?_
            refine y_tabIn (tgt := 147) (off := 75) dX12_mark_72 (by decide) (by decide) (by decide) (by decide) ?_
            refine y_aload_n dX12_mark_147 rfl rfl ?_
            refine y_iconst (v := 2) dX12_mark_148 (by decide) ?_
            refine y_ivI1 dX12_mark_149 mv_X12_160 my_X12_v (Or.inl rfl) sh_239 ?_
            refine c_X12_v hb (p := 2) rfl (by omega) ⟨_, rfl, ?_⟩
            refine y_ireturn dX12_mark_152 rfl rfl ?_
            rw [← wk_eta]
            exact ⟨by rw [e5], Rel_scr h frC.rf h.bk frM.wk⟩
          · refine y_iload_n dX12_mark_32 rfl rfl ?_
            refine y_iconst (v := 1) dX12_mark_33 (by decide) ?_
            refine y_icmp_ne (tgt := 43) dX12_mark_34 (by decide) (fun h34 => ?_) (fun h34 => absurd h34 (by decide))
            refine y_iload_n dX12_mark_43 rfl rfl ?_
            refine y_iconst (v := 4) dX12_mark_44 (by decide) ?_
            refine y_icmp_ne (tgt := 57) dX12_mark_45 (by decide) (fun h45 => ?_) (fun h45 => absurd h45 (by decide))
            exact absurd ho (fun z => z.elim (fun z => h29 z) (fun z => z.elim (fun z => absurd z.2 (by decide)) (fun z => absurd z.2 (by decide))))
        · refine y_run (own := "LoafFall") rfl (by decide +kernel) (Nat.le_of_ble_eq_true rfl) rfl ?_
          refine y_aload_n dX11_mark_0 rfl rfl ?_
          refine y_iload_n dX11_mark_1 rfl rfl ?_
          refine y_ivI1 dX11_mark_2 mv_X11_227 my_X11_isFall (Or.inl rfl) sh_0 ?_
          refine c_X11_isFall q2 q1 (fun _ => ⟨_, rfl, ?_⟩) (fun z => absurd hr z)
          refine y_if_eq (tgt := 18) dX11_mark_5 (by decide) (fun h5 => absurd h5 (by decide)) (fun h5 => ?_)
          refine y_iload_n dX11_mark_8 rfl rfl ?_
          refine y_if_le (tgt := 18) dX11_mark_9 (by decide) (fun h9 => absurd h9 (fun z => absurd hx.1 (Int32.not_le.mpr (Int32.lt_of_le_of_lt z (by decide))))) (fun h9 => ?_)
          refine y_iload_n dX11_mark_12 rfl rfl ?_
          refine y_bipush (v := 6) dX11_mark_13 (by decide) ?_
          refine y_icmp_le (tgt := 20) dX11_mark_15 (by decide) (fun h15 => ?_) (fun h15 => absurd hx.2 h15)
          refine y_aload_n dX11_mark_20 rfl rfl ?_
          refine y_getr dX11_mark_21 gf_X11_40 sh_0 rfl ?_
          refine y_getr dX11_mark_24 gf_X11_230 sh_6 rfl ?_
          refine y_iload_n dX11_mark_27 rfl rfl ?_
          refine y_iload_n dX11_mark_28 rfl rfl ?_
          refine y_ivI2 dX11_mark_29 mv_X11_237 my_X3_isOfKind (Or.inl rfl) sh_19 ?_
          refine c_X3_isOfKind (k := k) lf6.2.2.2.2 rfl (by omega) (fun _ => ⟨_, rfl, ?_⟩) (fun z => absurd (by rw [← kd] at ho; exact ho) z)
          refine y_if_ne (tgt := 41) dX11_mark_32 (by decide) (fun h32 => ?_) (fun h32 => absurd h32 (by decide))
          refine y_iload_n dX11_mark_41 rfl rfl ?_
          refine y_iconst (v := 5) dX11_mark_42 (by decide) ?_
          refine y_icmp_ne (tgt := 59) dX11_mark_43 (by decide) (fun h43 => ?_) (fun h43 => absurd h43 (by decide))
          refine y_iload_n dX11_mark_59 rfl rfl ?_
          refine y_bipush (v := 6) dX11_mark_60 (by decide) ?_
          refine y_icmp_ne (tgt := 82) dX11_mark_62 (by decide) (fun h62 => absurd rfl h62) (fun h62 => ?_)
          refine y_aload_n dX11_mark_65 rfl rfl ?_
          refine y_getr dX11_mark_66 gf_X11_40 sh_0 rfl ?_
          refine y_getr dX11_mark_69 gf_X11_230 sh_6 rfl ?_
          refine y_getr dX11_mark_72 gf_X11_243 sh_19 rfl ?_
          refine y_iload_n dX11_mark_75 rfl rfl ?_
          refine y_ialdN dX11_mark_76 sh_21 rfl (by first | omega | decide) (by decide) ?_
          refine y_iconst (v := 2) dX11_mark_77 (by decide) ?_
          refine y_idiv dX11_mark_78 (by decide) ?_
          refine y_goto (tgt := 94) dX11_mark_79 (by decide) ?_
          refine y_ireturn dX11_mark_94 rfl rfl ?_
          refine ⟨_, rfl, ?_⟩
          refine y_run (own := "LoafFallModel") rfl (by decide +kernel) (Nat.le_of_ble_eq_true rfl) rfl ?_
          refine y_aload_n dX12_mark_0 rfl rfl ?_
          refine y_iload_n dX12_mark_1 rfl rfl ?_
          refine y_ivI1 dX12_mark_2 mv_X12_232 my_X12_isFall (Or.inl rfl) sh_239 ?_
          refine c_X12_isFall q3 q1 (fun _ => ⟨_, rfl, ?_⟩) (fun z => absurd hr z)
          rw [wk_eta]
          have hb : bAt (wkM m (329 * 0)) (329 * 0) := wk_b (by omega)
          refine y_if_eq (tgt := 18) dX12_mark_5 (by decide) (fun h5 => absurd h5 (by decide)) (fun h5 => ?_)
          refine y_iload_n dX12_mark_8 rfl rfl ?_
          refine y_iconst (v := 1) dX12_mark_9 (by decide) ?_
          refine y_bipush (v := 6) dX12_mark_10 (by decide) ?_
          refine y_isI3 dX12_mark_12 ms_X12_86 my_X12_in (Or.inl rfl) ?_
          refine c_X12_in (fun _ _ => ⟨_, rfl, ?_⟩) (fun a => absurd hx a)
          refine y_if_ne (tgt := 20) dX12_mark_15 (by decide) (fun h15 => ?_) (fun h15 => absurd h15 (by decide))
          refine y_aload_n dX12_mark_20 rfl rfl ?_
          refine y_iload_n dX12_mark_21 rfl rfl ?_
          refine y_iconst (v := 0) dX12_mark_22 (by decide) ?_
          refine y_ivI2 dX12_mark_23 mv_X12_235 my_X12_f (Or.inl rfl) sh_239 ?_
          refine c_X12_f hb (k := k) (j := 0) rfl rfl (by omega) ⟨_, rfl, ?_⟩
          refine y_ist5_3 dX12_mark_26 rfl ?_
          refine y_iload_n dX12_mark_27 rfl rfl ?_
          refine y_iload_n dX12_mark_28 rfl rfl ?_
          refine y_icmp_eq (tgt := 53) dX12_mark_29 (by decide) (fun h29 => ?_) (fun h29 => ?_)
          · refine y_iconst (v := 1) dX12_mark_53 (by decide) ?_
            refine y_goto (tgt := 58) dX12_mark_54 (by decide) ?_
            refine y_ist5_4 dX12_mark_58 rfl ?_
            refine y_iload dX12_mark_60 rfl ?_
            refine y_if_ne (tgt := 71) dX12_mark_62 (by decide) (fun h62 => ?_) (fun h62 => absurd h62 (by decide))
            refine y_iload_n dX12_mark_71 rfl rfl ?_
            refine y_tabOut (tgt := 153) dX12_mark_72 (by decide) (by decide) ?_
            refine y_aload_n dX12_mark_153 rfl rfl ?_
            refine y_iload_n dX12_mark_154 rfl rfl ?_
            refine y_iconst (v := 1) dX12_mark_155 (by decide) ?_
            refine y_ivI2 dX12_mark_156 mv_X12_235 my_X12_f (Or.inl rfl) sh_239 ?_
            refine c_X12_f hb (k := k) (j := 1) rfl rfl (by omega) ⟨_, rfl, ?_⟩
            refine y_iconst (v := 2) dX12_mark_159 (by decide) ?_
            refine y_idiv dX12_mark_160 (by decide) ?_
            refine y_ireturn dX12_mark_161 rfl rfl ?_
            rw [← wk_eta]
            exact ⟨by rw [e6], Rel_scr h frC.rf h.bk frM.wk⟩
          · refine y_iload_n dX12_mark_32 rfl rfl ?_
            refine y_iconst (v := 1) dX12_mark_33 (by decide) ?_
            refine y_icmp_ne (tgt := 43) dX12_mark_34 (by decide) (fun h34 => ?_) (fun h34 => absurd h34 (by decide))
            refine y_iload_n dX12_mark_43 rfl rfl ?_
            refine y_iconst (v := 4) dX12_mark_44 (by decide) ?_
            refine y_icmp_ne (tgt := 57) dX12_mark_45 (by decide) (fun h45 => ?_) (fun h45 => absurd h45 (by decide))
            exact absurd ho (fun z => z.elim (fun z => h29 z) (fun z => z.elim (fun z => absurd z.2 (by decide)) (fun z => absurd z.2 (by decide))))
      · refine y_run (own := "LoafFall") rfl (by decide +kernel) (Nat.le_of_ble_eq_true rfl) rfl ?_
        refine y_aload_n dX11_mark_0 rfl rfl ?_
        refine y_iload_n dX11_mark_1 rfl rfl ?_
        refine y_ivI1 dX11_mark_2 mv_X11_227 my_X11_isFall (Or.inl rfl) sh_0 ?_
        refine c_X11_isFall q2 q1 (fun _ => ⟨_, rfl, ?_⟩) (fun z => absurd hr z)
        refine y_if_eq (tgt := 18) dX11_mark_5 (by decide) (fun h5 => absurd h5 (by decide)) (fun h5 => ?_)
        refine y_iload_n dX11_mark_8 rfl rfl ?_
        refine y_if_le (tgt := 18) dX11_mark_9 (by decide) (fun h9 => absurd h9 (fun z => absurd hx.1 (Int32.not_le.mpr (Int32.lt_of_le_of_lt z (by decide))))) (fun h9 => ?_)
        refine y_iload_n dX11_mark_12 rfl rfl ?_
        refine y_bipush (v := 6) dX11_mark_13 (by decide) ?_
        refine y_icmp_le (tgt := 20) dX11_mark_15 (by decide) (fun h15 => ?_) (fun h15 => absurd hx.2 h15)
        refine y_aload_n dX11_mark_20 rfl rfl ?_
        refine y_getr dX11_mark_21 gf_X11_40 sh_0 rfl ?_
        refine y_getr dX11_mark_24 gf_X11_230 sh_6 rfl ?_
        refine y_iload_n dX11_mark_27 rfl rfl ?_
        refine y_iload_n dX11_mark_28 rfl rfl ?_
        refine y_ivI2 dX11_mark_29 mv_X11_237 my_X3_isOfKind (Or.inl rfl) sh_19 ?_
        refine c_X3_isOfKind (k := k) lf6.2.2.2.2 rfl (by omega) (fun z => absurd z ho) (fun _ => ⟨_, rfl, ?_⟩)
        refine y_if_ne (tgt := 41) dX11_mark_32 (by decide) (fun h32 => absurd (by decide) h32) (fun h32 => ?_)
        refine y_aload_n dX11_mark_35 rfl rfl ?_
        refine y_iconst (v := 3) dX11_mark_36 (by decide) ?_
        refine y_ivI1 dX11_mark_37 mv_X11_105 my_X11_found (Or.inl rfl) sh_0 ?_
        refine c_X11_found (f := 3) rfl (by omega) (by omega) ⟨_, rfl, ?_⟩
        refine y_ireturn dX11_mark_40 rfl rfl ?_
        refine ⟨_, rfl, ?_⟩
        obtain ⟨m1, em⟩ : ∃ m1, m1 = foundM m 3 := ⟨_, rfl⟩
        rw [← em]
        have g : ∀ a, 138 ≤ a → m1 a = m a := fun a ha => by rw [em]; exact found_o (by omega) (by omega)
        refine y_run (own := "LoafFallModel") rfl (by decide +kernel) (Nat.le_of_ble_eq_true rfl) rfl ?_
        refine y_aload_n dX12_mark_0 rfl rfl ?_
        refine y_iload_n dX12_mark_1 rfl rfl ?_
        refine y_ivI1 dX12_mark_2 mv_X12_232 my_X12_isFall (Or.inl rfl) sh_239 ?_
        refine c_X12_isFall (by rw [g 253 (by omega), lfR_m (g 254 (by omega))]; exact q3) q1 (fun _ => ⟨_, rfl, ?_⟩) (fun z => absurd hr z)
        rw [wk_eta]
        have hb : bAt (wkM m1 (329 * 0)) (329 * 0) := wk_b (by omega)
        refine y_if_eq (tgt := 18) dX12_mark_5 (by decide) (fun h5 => absurd h5 (by decide)) (fun h5 => ?_)
        refine y_iload_n dX12_mark_8 rfl rfl ?_
        refine y_iconst (v := 1) dX12_mark_9 (by decide) ?_
        refine y_bipush (v := 6) dX12_mark_10 (by decide) ?_
        refine y_isI3 dX12_mark_12 ms_X12_86 my_X12_in (Or.inl rfl) ?_
        refine c_X12_in (fun _ _ => ⟨_, rfl, ?_⟩) (fun a => absurd hx a)
        refine y_if_ne (tgt := 20) dX12_mark_15 (by decide) (fun h15 => ?_) (fun h15 => absurd h15 (by decide))
        refine y_aload_n dX12_mark_20 rfl rfl ?_
        refine y_iload_n dX12_mark_21 rfl rfl ?_
        refine y_iconst (v := 0) dX12_mark_22 (by decide) ?_
        refine y_ivI2 dX12_mark_23 mv_X12_235 my_X12_f (Or.inl rfl) sh_239 ?_
        refine c_X12_f hb (k := k) (j := 0) rfl rfl (by omega) ⟨_, rfl, ?_⟩
        refine y_ist5_3 dX12_mark_26 rfl ?_
        refine y_iload_n dX12_mark_27 rfl rfl ?_
        refine y_iload_n dX12_mark_28 rfl rfl ?_
        refine y_icmp_eq (tgt := 53) dX12_mark_29 (by decide) (fun h29 => ?_) (fun h29 => ?_)
        · exact absurd (by
            rw [kd, ← lfR_m (g 254 (by omega))]
            first
              | exact Or.inl h29
              | exact Or.inr (Or.inl ⟨h40, h34⟩)
              | exact Or.inr (Or.inr ⟨h50, h45⟩)) ho
        · refine y_iload_n dX12_mark_32 rfl rfl ?_
          refine y_iconst (v := 1) dX12_mark_33 (by decide) ?_
          refine y_icmp_ne (tgt := 43) dX12_mark_34 (by decide) (fun h34 => ?_) (fun h34 => ?_)
          · refine y_iload_n dX12_mark_43 rfl rfl ?_
            refine y_iconst (v := 4) dX12_mark_44 (by decide) ?_
            refine y_icmp_ne (tgt := 57) dX12_mark_45 (by decide) (fun h45 => ?_) (fun h45 => ?_)
            · refine y_iconst (v := 0) dX12_mark_57 (by decide) ?_
              refine y_ist5_4 dX12_mark_58 rfl ?_
              refine y_iload dX12_mark_60 rfl ?_
              refine y_if_ne (tgt := 71) dX12_mark_62 (by decide) (fun h62 => absurd (by decide) h62) (fun h62 => ?_)
              refine y_aload_n dX12_mark_65 rfl rfl ?_
              refine y_iconst (v := 3) dX12_mark_66 (by decide) ?_
              refine y_ivI1 dX12_mark_67 mv_X12_100 my_X12_meets (Or.inl rfl) sh_239 ?_
              refine c_X12_meets (f := 3) rfl (by omega) ⟨_, rfl, ?_⟩
              refine y_ireturn dX12_mark_70 rfl rfl ?_
              rw [← wk_eta, em]
              exact ⟨rfl, Rel_meet h frC.rf h.bk frM.wk⟩
            · refine y_iload_n dX12_mark_48 rfl rfl ?_
              refine y_iconst (v := 5) dX12_mark_49 (by decide) ?_
              refine y_icmp_ne (tgt := 57) dX12_mark_50 (by decide) (fun h50 => ?_) (fun h50 => ?_)
              · refine y_iconst (v := 0) dX12_mark_57 (by decide) ?_
                refine y_ist5_4 dX12_mark_58 rfl ?_
                refine y_iload dX12_mark_60 rfl ?_
                refine y_if_ne (tgt := 71) dX12_mark_62 (by decide) (fun h62 => absurd (by decide) h62) (fun h62 => ?_)
                refine y_aload_n dX12_mark_65 rfl rfl ?_
                refine y_iconst (v := 3) dX12_mark_66 (by decide) ?_
                refine y_ivI1 dX12_mark_67 mv_X12_100 my_X12_meets (Or.inl rfl) sh_239 ?_
                refine c_X12_meets (f := 3) rfl (by omega) ⟨_, rfl, ?_⟩
                refine y_ireturn dX12_mark_70 rfl rfl ?_
                rw [← wk_eta, em]
                exact ⟨rfl, Rel_meet h frC.rf h.bk frM.wk⟩
              · exact absurd (by
                  rw [kd, ← lfR_m (g 254 (by omega))]
                  first
                    | exact Or.inl h29
                    | exact Or.inr (Or.inl ⟨h40, h34⟩)
                    | exact Or.inr (Or.inr ⟨h50, h45⟩)) ho
          · refine y_iload_n dX12_mark_37 rfl rfl ?_
            refine y_bipush (v := 6) dX12_mark_38 (by decide) ?_
            refine y_icmp_eq (tgt := 53) dX12_mark_40 (by decide) (fun h40 => ?_) (fun h40 => ?_)
            · exact absurd (by
                rw [kd, ← lfR_m (g 254 (by omega))]
                first
                  | exact Or.inl h29
                  | exact Or.inr (Or.inl ⟨h40, h34⟩)
                  | exact Or.inr (Or.inr ⟨h50, h45⟩)) ho
            · refine y_iload_n dX12_mark_43 rfl rfl ?_
              refine y_iconst (v := 4) dX12_mark_44 (by decide) ?_
              refine y_icmp_ne (tgt := 57) dX12_mark_45 (by decide) (fun h45 => ?_) (fun h45 => ?_)
              · refine y_iconst (v := 0) dX12_mark_57 (by decide) ?_
                refine y_ist5_4 dX12_mark_58 rfl ?_
                refine y_iload dX12_mark_60 rfl ?_
                refine y_if_ne (tgt := 71) dX12_mark_62 (by decide) (fun h62 => absurd (by decide) h62) (fun h62 => ?_)
                refine y_aload_n dX12_mark_65 rfl rfl ?_
                refine y_iconst (v := 3) dX12_mark_66 (by decide) ?_
                refine y_ivI1 dX12_mark_67 mv_X12_100 my_X12_meets (Or.inl rfl) sh_239 ?_
                refine c_X12_meets (f := 3) rfl (by omega) ⟨_, rfl, ?_⟩
                refine y_ireturn dX12_mark_70 rfl rfl ?_
                rw [← wk_eta, em]
                exact ⟨rfl, Rel_meet h frC.rf h.bk frM.wk⟩
              · refine y_iload_n dX12_mark_48 rfl rfl ?_
                refine y_iconst (v := 5) dX12_mark_49 (by decide) ?_
                refine y_icmp_ne (tgt := 57) dX12_mark_50 (by decide) (fun h50 => ?_) (fun h50 => ?_)
                · refine y_iconst (v := 0) dX12_mark_57 (by decide) ?_
                  refine y_ist5_4 dX12_mark_58 rfl ?_
                  refine y_iload dX12_mark_60 rfl ?_
                  refine y_if_ne (tgt := 71) dX12_mark_62 (by decide) (fun h62 => absurd (by decide) h62) (fun h62 => ?_)
                  refine y_aload_n dX12_mark_65 rfl rfl ?_
                  refine y_iconst (v := 3) dX12_mark_66 (by decide) ?_
                  refine y_ivI1 dX12_mark_67 mv_X12_100 my_X12_meets (Or.inl rfl) sh_239 ?_
                  refine c_X12_meets (f := 3) rfl (by omega) ⟨_, rfl, ?_⟩
                  refine y_ireturn dX12_mark_70 rfl rfl ?_
                  rw [← wk_eta, em]
                  exact ⟨rfl, Rel_meet h frC.rf h.bk frM.wk⟩
                · exact absurd (by
                    rw [kd, ← lfR_m (g 254 (by omega))]
                    first
                      | exact Or.inl h29
                      | exact Or.inr (Or.inl ⟨h40, h34⟩)
                      | exact Or.inr (Or.inr ⟨h50, h45⟩)) ho
    · refine y_run (own := "LoafFall") rfl (by decide +kernel) (Nat.le_of_ble_eq_true rfl) rfl ?_
      refine y_aload_n dX11_mark_0 rfl rfl ?_
      refine y_iload_n dX11_mark_1 rfl rfl ?_
      refine y_ivI1 dX11_mark_2 mv_X11_227 my_X11_isFall (Or.inl rfl) sh_0 ?_
      refine c_X11_isFall q2 q1 (fun _ => ⟨_, rfl, ?_⟩) (fun z => absurd hr z)
      refine y_if_eq (tgt := 18) dX11_mark_5 (by decide) (fun h5 => absurd h5 (by decide)) (fun h5 => ?_)
      refine y_iload_n dX11_mark_8 rfl rfl ?_
      refine y_if_le (tgt := 18) dX11_mark_9 (by decide) (fun h9 => ?_) (fun h9 => ?_)
      · refine y_iconst (v := -1) dX11_mark_18 (by decide) ?_
        refine y_ireturn dX11_mark_19 rfl rfl ?_
        refine ⟨_, rfl, ?_⟩
        refine y_run (own := "LoafFallModel") rfl (by decide +kernel) (Nat.le_of_ble_eq_true rfl) rfl ?_
        refine y_aload_n dX12_mark_0 rfl rfl ?_
        refine y_iload_n dX12_mark_1 rfl rfl ?_
        refine y_ivI1 dX12_mark_2 mv_X12_232 my_X12_isFall (Or.inl rfl) sh_239 ?_
        refine c_X12_isFall q3 q1 (fun _ => ⟨_, rfl, ?_⟩) (fun z => absurd hr z)
        
        refine y_if_eq (tgt := 18) dX12_mark_5 (by decide) (fun h5 => absurd h5 (by decide)) (fun h5 => ?_)
        refine y_iload_n dX12_mark_8 rfl rfl ?_
        refine y_iconst (v := 1) dX12_mark_9 (by decide) ?_
        refine y_bipush (v := 6) dX12_mark_10 (by decide) ?_
        refine y_isI3 dX12_mark_12 ms_X12_86 my_X12_in (Or.inl rfl) ?_
        refine c_X12_in (fun a b => absurd ⟨a, b⟩ hx) (fun _ => ⟨_, rfl, ?_⟩)
        refine y_if_ne (tgt := 20) dX12_mark_15 (by decide) (fun h15 => absurd (by decide) h15) (fun h15 => ?_)
        refine y_iconst (v := -1) dX12_mark_18 (by decide) ?_
        refine y_ireturn dX12_mark_19 rfl rfl ?_
        exact ⟨rfl, Rel_scr h frC.rf h.bk frM.wk⟩
      · refine y_iload_n dX11_mark_12 rfl rfl ?_
        refine y_bipush (v := 6) dX11_mark_13 (by decide) ?_
        refine y_icmp_le (tgt := 20) dX11_mark_15 (by decide) (fun h15 => absurd h15 (fun z => hx ⟨by have := Int32.not_le.mp h9; exact one_le this, z⟩)) (fun h15 => ?_)
        refine y_iconst (v := -1) dX11_mark_18 (by decide) ?_
        refine y_ireturn dX11_mark_19 rfl rfl ?_
        refine ⟨_, rfl, ?_⟩
        refine y_run (own := "LoafFallModel") rfl (by decide +kernel) (Nat.le_of_ble_eq_true rfl) rfl ?_
        refine y_aload_n dX12_mark_0 rfl rfl ?_
        refine y_iload_n dX12_mark_1 rfl rfl ?_
        refine y_ivI1 dX12_mark_2 mv_X12_232 my_X12_isFall (Or.inl rfl) sh_239 ?_
        refine c_X12_isFall q3 q1 (fun _ => ⟨_, rfl, ?_⟩) (fun z => absurd hr z)
        
        refine y_if_eq (tgt := 18) dX12_mark_5 (by decide) (fun h5 => absurd h5 (by decide)) (fun h5 => ?_)
        refine y_iload_n dX12_mark_8 rfl rfl ?_
        refine y_iconst (v := 1) dX12_mark_9 (by decide) ?_
        refine y_bipush (v := 6) dX12_mark_10 (by decide) ?_
        refine y_isI3 dX12_mark_12 ms_X12_86 my_X12_in (Or.inl rfl) ?_
        refine c_X12_in (fun a b => absurd ⟨a, b⟩ hx) (fun _ => ⟨_, rfl, ?_⟩)
        refine y_if_ne (tgt := 20) dX12_mark_15 (by decide) (fun h15 => absurd (by decide) h15) (fun h15 => ?_)
        refine y_iconst (v := -1) dX12_mark_18 (by decide) ?_
        refine y_ireturn dX12_mark_19 rfl rfl ?_
        exact ⟨rfl, Rel_scr h frC.rf h.bk frM.wk⟩
  · refine y_run (own := "LoafFall") rfl (by decide +kernel) (Nat.le_of_ble_eq_true rfl) rfl ?_
    refine y_aload_n dX11_mark_0 rfl rfl ?_
    refine y_iload_n dX11_mark_1 rfl rfl ?_
    refine y_ivI1 dX11_mark_2 mv_X11_227 my_X11_isFall (Or.inl rfl) sh_0 ?_
    refine c_X11_isFall q2 q1 (fun z => absurd z hr) (fun _ => ⟨_, rfl, ?_⟩)
    refine y_if_eq (tgt := 18) dX11_mark_5 (by decide) (fun h5 => ?_) (fun h5 => absurd (by decide) h5)
    refine y_iconst (v := -1) dX11_mark_18 (by decide) ?_
    refine y_ireturn dX11_mark_19 rfl rfl ?_
    refine ⟨_, rfl, ?_⟩
    refine y_run (own := "LoafFallModel") rfl (by decide +kernel) (Nat.le_of_ble_eq_true rfl) rfl ?_
    refine y_aload_n dX12_mark_0 rfl rfl ?_
    refine y_iload_n dX12_mark_1 rfl rfl ?_
    refine y_ivI1 dX12_mark_2 mv_X12_232 my_X12_isFall (Or.inl rfl) sh_239 ?_
    refine c_X12_isFall q3 q1 (fun z => absurd z hr) (fun _ => ⟨_, rfl, ?_⟩)
    refine y_if_eq (tgt := 18) dX12_mark_5 (by decide) (fun h5 => ?_) (fun h5 => absurd (by decide) h5)
    refine y_iconst (v := -1) dX12_mark_18 (by decide) ?_
    refine y_ireturn dX12_mark_19 rfl rfl ?_
    exact ⟨rfl, Rel_scr h frC.rf h.bk frM.wk⟩
