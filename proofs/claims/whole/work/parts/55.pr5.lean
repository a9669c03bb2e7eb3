/-! ===== about, step, slip, told ===== -/
theorem dg_5 {m : sM} {k : Nat} : dgR m k 5 = m 249 k := if_pos rfl
theorem dg_s {m : sM} {k i j : Nat} : dgR m k (6 + 3 * i + j) = m 250 (30 * k + 3 * i + j) := by
  unfold dgR
  rw [if_neg (by omega), show 30 * k + (6 + 3 * i + j - 6) = 30 * k + 3 * i + j by omega]
set_option maxHeartbeats 2000000 in
theorem p_about {L : Nat} {xs : Nat → Int32} {d : Nat} {m : sM} {n : sN} {r x : Int32} (h : Rel m n) : PI L xs (d + 11) yX11_about cX11_about 3 yX12_about cX12_about 3 [.int r, .int x] m n := by
  unfold PI
  by_cases hr : inN r 4
  · by_cases hx : inN x 5
    · obtain ⟨k, hk, rfl⟩ := hr
      have hr : inN (nI k) 4 := ⟨k, hk, rfl⟩
      obtain ⟨q, hq, rfl⟩ := hx
      have hx : inN (nI q) 5 := ⟨q, hq, rfl⟩
      rcases h.f k hk with ⟨f1, f2⟩ | ⟨f1, f2, f3, f4⟩
      · refine y_run (own := "LoafFall") rfl (by decide +kernel) (Nat.le_of_ble_eq_true rfl) rfl ?_
        refine y_iload_n dX11_about_0 rfl rfl ?_
        refine y_isI1 dX11_about_1 ms_X11_160 my_X11_isFlour (Or.inl rfl) ?_
        refine c_X11_isFlour (fun _ => ⟨_, rfl, ?_⟩) (fun z => absurd hr z)
        refine y_if_eq (tgt := 16) dX11_about_4 (by decide) (fun h4 => absurd h4 (by decide)) (fun h4 => ?_)
        refine y_iload_n dX11_about_7 rfl rfl ?_
        refine y_if_lt (tgt := 16) dX11_about_8 (by decide) (fun h8 => absurd h8 (nI_pos (by omega))) (fun h8 => ?_)
        refine y_iload_n dX11_about_11 rfl rfl ?_
        refine y_iconst (v := 5) dX11_about_12 (by decide) ?_
        refine y_icmp_lt (tgt := 18) dX11_about_13 (by decide) (fun h13 => ?_) (fun h13 => absurd (nI_lt (b := 5) (by omega) (by omega)) h13)
        refine y_aload_n dX11_about_18 rfl rfl ?_
        refine y_getr dX11_about_19 gf_X11_23 sh_0 rfl ?_
        refine y_iload_n dX11_about_22 rfl rfl ?_
        refine y_aaldN dX11_about_23 (by decide) sh_3 rfl (flA (k := k) (by omega)) (by decide) ?_
        refine y_geti dX11_about_24 gf_X11_183 (flI (k := k) (by omega)).1 rfl ?_
        refine y_if_eq (tgt := 48) dX11_about_27 (by decide) (fun h27 => ?_) (fun h27 => absurd f2 h27)
        refine y_aload_n dX11_about_48 rfl rfl ?_
        refine y_iconst (v := 1) dX11_about_49 (by decide) ?_
        refine y_ivI1 dX11_about_50 mv_X11_105 my_X11_found (Or.inl rfl) sh_0 ?_
        refine c_X11_found (f := 1) rfl (by omega) (by omega) ⟨_, rfl, ?_⟩
        refine y_ireturn dX11_about_53 rfl rfl ?_
        refine ⟨_, rfl, ?_⟩
        obtain ⟨m1, em⟩ : ∃ m1, m1 = foundM m 1 := ⟨_, rfl⟩
        rw [← em]
        have g : ∀ a, 138 ≤ a → m1 a = m a := fun a ha => by rw [em]; exact found_o (by omega) (by omega)
        refine y_run (own := "LoafFallModel") rfl (by decide +kernel) (Nat.le_of_ble_eq_true rfl) rfl ?_
        refine y_iload_n dX12_about_0 rfl rfl ?_
        refine y_isI1 dX12_about_1 ms_X12_151 my_X12_isPlace (Or.inl rfl) ?_
        refine c_X12_isPlace (fun _ => ⟨_, rfl, ?_⟩) (fun z => absurd hr z)
        refine y_if_eq (tgt := 16) dX12_about_4 (by decide) (fun h4 => absurd h4 (by decide)) (fun h4 => ?_)
        refine y_iload_n dX12_about_7 rfl rfl ?_
        refine y_iconst (v := 0) dX12_about_8 (by decide) ?_
        refine y_iconst (v := 4) dX12_about_9 (by decide) ?_
        refine y_isI3 dX12_about_10 ms_X12_86 my_X12_in (Or.inl rfl) ?_
        refine c_X12_in (fun _ _ => ⟨_, rfl, ?_⟩) (fun a => absurd ((in_le (M := 4) (by decide)).mp hx) a)
        refine y_if_ne (tgt := 18) dX12_about_13 (by decide) (fun h13 => ?_) (fun h13 => absurd h13 (by decide))
        refine y_aload_n dX12_about_18 rfl rfl ?_
        refine y_getr dX12_about_19 gf_X12_29 sh_239 rfl ?_
        refine y_iload_n dX12_about_22 rfl rfl ?_
        refine y_zaldN dX12_about_23 sh_246 rfl (by first | omega | decide) (by decide) ?_
        refine y_if_eq (tgt := 45) dX12_about_24 (by decide) (fun h24 => ?_) (fun h24 => absurd (by rw [g _ (by omega)]; exact f1) h24)
        refine y_aload_n dX12_about_45 rfl rfl ?_
        refine y_iconst (v := 1) dX12_about_46 (by decide) ?_
        refine y_ivI1 dX12_about_47 mv_X12_100 my_X12_meets (Or.inl rfl) sh_239 ?_
        refine c_X12_meets (f := 1) rfl (by omega) ⟨_, rfl, ?_⟩
        refine y_ireturn dX12_about_50 rfl rfl ?_
        exact ⟨rfl, by rw [em]; exact Rel_met h⟩
      · refine y_run (own := "LoafFall") rfl (by decide +kernel) (Nat.le_of_ble_eq_true rfl) rfl ?_
        refine y_iload_n dX11_about_0 rfl rfl ?_
        refine y_isI1 dX11_about_1 ms_X11_160 my_X11_isFlour (Or.inl rfl) ?_
        refine c_X11_isFlour (fun _ => ⟨_, rfl, ?_⟩) (fun z => absurd hr z)
        refine y_if_eq (tgt := 16) dX11_about_4 (by decide) (fun h4 => absurd h4 (by decide)) (fun h4 => ?_)
        refine y_iload_n dX11_about_7 rfl rfl ?_
        refine y_if_lt (tgt := 16) dX11_about_8 (by decide) (fun h8 => absurd h8 (nI_pos (by omega))) (fun h8 => ?_)
        refine y_iload_n dX11_about_11 rfl rfl ?_
        refine y_iconst (v := 5) dX11_about_12 (by decide) ?_
        refine y_icmp_lt (tgt := 18) dX11_about_13 (by decide) (fun h13 => ?_) (fun h13 => absurd (nI_lt (b := 5) (by omega) (by omega)) h13)
        refine y_aload_n dX11_about_18 rfl rfl ?_
        refine y_getr dX11_about_19 gf_X11_23 sh_0 rfl ?_
        refine y_iload_n dX11_about_22 rfl rfl ?_
        refine y_aaldN dX11_about_23 (by decide) sh_3 rfl (flA (k := k) (by omega)) (by decide) ?_
        refine y_geti dX11_about_24 gf_X11_183 (flI (k := k) (by omega)).1 rfl ?_
        refine y_if_eq (tgt := 48) dX11_about_27 (by decide) (fun h27 => absurd h27 (by rw [f2]; decide)) (fun h27 => ?_)
        refine y_aload_n dX11_about_30 rfl rfl ?_
        refine y_aload_n dX11_about_31 rfl rfl ?_
        refine y_getr dX11_about_32 gf_X11_23 sh_0 rfl ?_
        refine y_iload_n dX11_about_35 rfl rfl ?_
        refine y_aaldN dX11_about_36 (by decide) sh_3 rfl (flA (k := k) (by omega)) (by decide) ?_
        refine y_getr dX11_about_37 gf_X11_187 (flI (k := k) (by omega)).1 rfl ?_
        refine y_iload_n dX11_about_40 rfl rfl ?_
        refine y_ialdN dX11_about_41 (flI (k := k) (by omega)).2 rfl (by first | omega | decide) (by decide) ?_
        refine y_ivI1 dX11_about_42 mv_X11_120 my_X11_tell (Or.inl rfl) sh_0 ?_
        refine c_X11_tell ⟨_, rfl, ?_⟩
        refine y_goto (tgt := 53) dX11_about_45 (by decide) ?_
        refine y_ireturn dX11_about_53 rfl rfl ?_
        refine ⟨_, rfl, ?_⟩
        generalize em : tellM m (m (158 + 2 * k + 1) q) = m1
        have g : ∀ a, 239 ≤ a → m1 a = m a := fun a ha => by rw [← em, tell_o (by omega)]
        refine y_run (own := "LoafFallModel") rfl (by decide +kernel) (Nat.le_of_ble_eq_true rfl) rfl ?_
        refine y_iload_n dX12_about_0 rfl rfl ?_
        refine y_isI1 dX12_about_1 ms_X12_151 my_X12_isPlace (Or.inl rfl) ?_
        refine c_X12_isPlace (fun _ => ⟨_, rfl, ?_⟩) (fun z => absurd hr z)
        refine y_if_eq (tgt := 16) dX12_about_4 (by decide) (fun h4 => absurd h4 (by decide)) (fun h4 => ?_)
        refine y_iload_n dX12_about_7 rfl rfl ?_
        refine y_iconst (v := 0) dX12_about_8 (by decide) ?_
        refine y_iconst (v := 4) dX12_about_9 (by decide) ?_
        refine y_isI3 dX12_about_10 ms_X12_86 my_X12_in (Or.inl rfl) ?_
        refine c_X12_in (fun _ _ => ⟨_, rfl, ?_⟩) (fun a => absurd ((in_le (M := 4) (by decide)).mp hx) a)
        refine y_if_ne (tgt := 18) dX12_about_13 (by decide) (fun h13 => ?_) (fun h13 => absurd h13 (by decide))
        refine y_aload_n dX12_about_18 rfl rfl ?_
        refine y_getr dX12_about_19 gf_X12_29 sh_239 rfl ?_
        refine y_iload_n dX12_about_22 rfl rfl ?_
        refine y_zaldN dX12_about_23 sh_246 rfl (by first | omega | decide) (by decide) ?_
        refine y_if_eq (tgt := 45) dX12_about_24 (by decide) (fun h24 => absurd h24 (by rw [g _ (by omega), f1]; decide)) (fun h24 => ?_)
        refine y_aload_n dX12_about_27 rfl rfl ?_
        refine y_aload_n dX12_about_28 rfl rfl ?_
        refine y_getr dX12_about_29 gf_X12_33 sh_239 rfl ?_
        refine y_iconst (v := 5) dX12_about_32 (by decide) ?_
        refine y_iload_n dX12_about_33 rfl rfl ?_
        refine y_imulN (a := 5) (b := k) dX12_about_34 rfl rfl ?_
        refine y_iload_n dX12_about_35 rfl rfl ?_
        refine y_iaddN (a := 5 * k) (b := q) dX12_about_36 rfl rfl ?_
        refine y_ialdN dX12_about_37 sh_247 rfl (by first | omega | decide) (by decide) ?_
        refine y_iconst (v := 1) dX12_about_38 (by decide) ?_
        refine y_ivI2 dX12_about_39 mv_X12_108 my_X12_tells (Or.inl rfl) sh_239 ?_
        refine c_X12_tells ⟨_, rfl, ?_⟩
        refine y_goto (tgt := 50) dX12_about_42 (by decide) ?_
        refine y_ireturn dX12_about_50 rfl rfl ?_
        rw [g 247 (by omega), ← f3 q hq, ← em]
        exact ⟨rfl, Rel_told h⟩
    · refine y_run (own := "LoafFall") rfl (by decide +kernel) (Nat.le_of_ble_eq_true rfl) rfl ?_
      refine y_iload_n dX11_about_0 rfl rfl ?_
      refine y_isI1 dX11_about_1 ms_X11_160 my_X11_isFlour (Or.inl rfl) ?_
      refine c_X11_isFlour (fun _ => ⟨_, rfl, ?_⟩) (fun z => absurd hr z)
      refine y_if_eq (tgt := 16) dX11_about_4 (by decide) (fun h4 => absurd h4 (by decide)) (fun h4 => ?_)
      refine y_iload_n dX11_about_7 rfl rfl ?_
      refine y_if_lt (tgt := 16) dX11_about_8 (by decide) (fun h8 => ?_) (fun h8 => ?_)
      · refine y_iconst (v := -1) dX11_about_16 (by decide) ?_
        refine y_ireturn dX11_about_17 rfl rfl ?_
        refine ⟨_, rfl, ?_⟩
        refine y_run (own := "LoafFallModel") rfl (by decide +kernel) (Nat.le_of_ble_eq_true rfl) rfl ?_
        refine y_iload_n dX12_about_0 rfl rfl ?_
        refine y_isI1 dX12_about_1 ms_X12_151 my_X12_isPlace (Or.inl rfl) ?_
        refine c_X12_isPlace (fun _ => ⟨_, rfl, ?_⟩) (fun z => absurd hr z)
        refine y_if_eq (tgt := 16) dX12_about_4 (by decide) (fun h4 => absurd h4 (by decide)) (fun h4 => ?_)
        refine y_iload_n dX12_about_7 rfl rfl ?_
        refine y_iconst (v := 0) dX12_about_8 (by decide) ?_
        refine y_iconst (v := 4) dX12_about_9 (by decide) ?_
        refine y_isI3 dX12_about_10 ms_X12_86 my_X12_in (Or.inl rfl) ?_
        refine c_X12_in (fun a b => absurd ((in_le (M := 4) (by decide)).mpr ⟨a, b⟩) hx) (fun _ => ⟨_, rfl, ?_⟩)
        refine y_if_ne (tgt := 18) dX12_about_13 (by decide) (fun h13 => absurd (by decide) h13) (fun h13 => ?_)
        refine y_iconst (v := -1) dX12_about_16 (by decide) ?_
        refine y_ireturn dX12_about_17 rfl rfl ?_
        exact ⟨rfl, h⟩
      · refine y_iload_n dX11_about_11 rfl rfl ?_
        refine y_iconst (v := 5) dX11_about_12 (by decide) ?_
        refine y_icmp_lt (tgt := 18) dX11_about_13 (by decide) (fun h13 => absurd h13 (fun z => hx ((in_lt (M := 5) (by decide)).mpr ⟨h8, z⟩))) (fun h13 => ?_)
        refine y_iconst (v := -1) dX11_about_16 (by decide) ?_
        refine y_ireturn dX11_about_17 rfl rfl ?_
        refine ⟨_, rfl, ?_⟩
        refine y_run (own := "LoafFallModel") rfl (by decide +kernel) (Nat.le_of_ble_eq_true rfl) rfl ?_
        refine y_iload_n dX12_about_0 rfl rfl ?_
        refine y_isI1 dX12_about_1 ms_X12_151 my_X12_isPlace (Or.inl rfl) ?_
        refine c_X12_isPlace (fun _ => ⟨_, rfl, ?_⟩) (fun z => absurd hr z)
        refine y_if_eq (tgt := 16) dX12_about_4 (by decide) (fun h4 => absurd h4 (by decide)) (fun h4 => ?_)
        refine y_iload_n dX12_about_7 rfl rfl ?_
        refine y_iconst (v := 0) dX12_about_8 (by decide) ?_
        refine y_iconst (v := 4) dX12_about_9 (by decide) ?_
        refine y_isI3 dX12_about_10 ms_X12_86 my_X12_in (Or.inl rfl) ?_
        refine c_X12_in (fun a b => absurd ((in_le (M := 4) (by decide)).mpr ⟨a, b⟩) hx) (fun _ => ⟨_, rfl, ?_⟩)
        refine y_if_ne (tgt := 18) dX12_about_13 (by decide) (fun h13 => absurd (by decide) h13) (fun h13 => ?_)
        refine y_iconst (v := -1) dX12_about_16 (by decide) ?_
        refine y_ireturn dX12_about_17 rfl rfl ?_
        exact ⟨rfl, h⟩
  · refine y_run (own := "LoafFall") rfl (by decide +kernel) (Nat.le_of_ble_eq_true rfl) rfl ?_
    refine y_iload_n dX11_about_0 rfl rfl ?_
    refine y_isI1 dX11_about_1 ms_X11_160 my_X11_isFlour (Or.inl rfl) ?_
    refine c_X11_isFlour (fun z => absurd z hr) (fun _ => ⟨_, rfl, ?_⟩)
    refine y_if_eq (tgt := 16) dX11_about_4 (by decide) (fun h4 => ?_) (fun h4 => absurd (by decide) h4)
    refine y_iconst (v := -1) dX11_about_16 (by decide) ?_
    refine y_ireturn dX11_about_17 rfl rfl ?_
    refine ⟨_, rfl, ?_⟩
    refine y_run (own := "LoafFallModel") rfl (by decide +kernel) (Nat.le_of_ble_eq_true rfl) rfl ?_
    refine y_iload_n dX12_about_0 rfl rfl ?_
    refine y_isI1 dX12_about_1 ms_X12_151 my_X12_isPlace (Or.inl rfl) ?_
    refine c_X12_isPlace (fun z => absurd z hr) (fun _ => ⟨_, rfl, ?_⟩)
    refine y_if_eq (tgt := 16) dX12_about_4 (by decide) (fun h4 => ?_) (fun h4 => absurd (by decide) h4)
    refine y_iconst (v := -1) dX12_about_16 (by decide) ?_
    refine y_ireturn dX12_about_17 rfl rfl ?_
    exact ⟨rfl, h⟩
set_option maxHeartbeats 1000000 in
theorem c_X12_stepTells {L : Nat} {xs : Nat → Int32} {d : Nat} {m : sM} {n : sN} {Q : sQ} {k i : Nat} {r x : Int32} (hr : r = nI k) (hk : k < 4) (hx : x = nI i) (hi : i < 10) (hQ : Q (some (.int (100 * m 250 (30 * k + 3 * i + 1) + m 250 (30 * k + 3 * i + 2)))) m n) : sRun (scT L xs) (d + 1) yX12_stepTells cX12_stepTells 3 (some .int) [.ref 239, .int r, .int x] m n Q := by
  subst hr hx
  refine y_run (own := "LoafFallModel") rfl (by decide +kernel) (Nat.le_of_ble_eq_true rfl) rfl ?_
  refine y_bipush (v := 100) dX12_stepTells_0 (by decide) ?_
  refine y_aload_n dX12_stepTells_2 rfl rfl ?_
  refine y_getr dX12_stepTells_3 gf_X12_42 sh_239 rfl ?_
  refine y_bipush (v := 30) dX12_stepTells_6 (by decide) ?_
  refine y_iload_n dX12_stepTells_8 rfl rfl ?_
  refine y_imulN (a := 30) (b := k) dX12_stepTells_9 rfl rfl ?_
  refine y_iconst (v := 3) dX12_stepTells_10 (by decide) ?_
  refine y_iload_n dX12_stepTells_11 rfl rfl ?_
  refine y_imulN (a := 3) (b := i) dX12_stepTells_12 rfl rfl ?_
  refine y_iaddN (a := 30 * k) (b := 3 * i) dX12_stepTells_13 rfl rfl ?_
  refine y_iconst (v := 1) dX12_stepTells_14 (by decide) ?_
  refine y_iaddN (a := 30 * k + (3 * i)) (b := 1) dX12_stepTells_15 rfl rfl ?_
  refine y_ialdN dX12_stepTells_16 sh_250 rfl (by first | omega | decide) (by decide) ?_
  refine y_imul dX12_stepTells_17 ?_
  refine y_aload_n dX12_stepTells_18 rfl rfl ?_
  refine y_getr dX12_stepTells_19 gf_X12_42 sh_239 rfl ?_
  refine y_bipush (v := 30) dX12_stepTells_22 (by decide) ?_
  refine y_iload_n dX12_stepTells_24 rfl rfl ?_
  refine y_imulN (a := 30) (b := k) dX12_stepTells_25 rfl rfl ?_
  refine y_iconst (v := 3) dX12_stepTells_26 (by decide) ?_
  refine y_iload_n dX12_stepTells_27 rfl rfl ?_
  refine y_imulN (a := 3) (b := i) dX12_stepTells_28 rfl rfl ?_
  refine y_iaddN (a := 30 * k) (b := 3 * i) dX12_stepTells_29 rfl rfl ?_
  refine y_iconst (v := 2) dX12_stepTells_30 (by decide) ?_
  refine y_iaddN (a := 30 * k + (3 * i)) (b := 2) dX12_stepTells_31 rfl rfl ?_
  refine y_ialdN dX12_stepTells_32 sh_250 rfl (by first | omega | decide) (by decide) ?_
  refine y_iadd dX12_stepTells_33 ?_
  refine y_ireturn dX12_stepTells_34 rfl rfl ?_
  exact hQ
set_option maxHeartbeats 2000000 in
theorem p_step {L : Nat} {xs : Nat → Int32} {d : Nat} {m : sM} {n : sN} {r x : Int32} (h : Rel m n) : PI L xs (d + 11) yX11_step cX11_step 3 yX12_step cX12_step 3 [.int r, .int x] m n := by
  unfold PI
  by_cases hr : inN r 4
  · obtain ⟨k, hk, rfl⟩ := hr
    have hr : inN (nI k) 4 := ⟨k, hk, rfl⟩
    rcases h.d k hk with ⟨f1, f2⟩ | ⟨f1, f2, f3, f4⟩
    · refine y_run (own := "LoafFall") rfl (by decide +kernel) (Nat.le_of_ble_eq_true rfl) rfl ?_
      refine y_iload_n dX11_step_0 rfl rfl ?_
      refine y_isI1 dX11_step_1 ms_X11_173 my_X11_isDoing (Or.inl rfl) ?_
      refine c_X11_isDoing (fun _ => ⟨_, rfl, ?_⟩) (fun z => absurd hr z)
      refine y_if_ne (tgt := 9) dX11_step_4 (by decide) (fun h4 => ?_) (fun h4 => absurd h4 (by decide))
      refine y_aload_n dX11_step_9 rfl rfl ?_
      refine y_getr dX11_step_10 gf_X11_29 sh_0 rfl ?_
      refine y_iload_n dX11_step_13 rfl rfl ?_
      refine y_aaldN dX11_step_14 (by decide) sh_4 rfl (dgA (k := k) (by omega)) (by decide) ?_
      refine y_geti dX11_step_15 gf_X11_190 (dgI (k := k) (by omega)).1 rfl ?_
      refine y_if_ne (tgt := 27) dX11_step_18 (by decide) (fun h18 => absurd f2 h18) (fun h18 => ?_)
      refine y_aload_n dX11_step_21 rfl rfl ?_
      refine y_iconst (v := 1) dX11_step_22 (by decide) ?_
      refine y_ivI1 dX11_step_23 mv_X11_105 my_X11_found (Or.inl rfl) sh_0 ?_
      refine c_X11_found (f := 1) rfl (by omega) (by omega) ⟨_, rfl, ?_⟩
      refine y_ireturn dX11_step_26 rfl rfl ?_
      refine ⟨_, rfl, ?_⟩
      obtain ⟨m1, em⟩ : ∃ m1, m1 = foundM m 1 := ⟨_, rfl⟩
      rw [← em]
      have g : ∀ a, 138 ≤ a → m1 a = m a := fun a ha => by rw [em]; exact found_o (by omega) (by omega)
      refine y_run (own := "LoafFallModel") rfl (by decide +kernel) (Nat.le_of_ble_eq_true rfl) rfl ?_
      refine y_iload_n dX12_step_0 rfl rfl ?_
      refine y_isI1 dX12_step_1 ms_X12_151 my_X12_isPlace (Or.inl rfl) ?_
      refine c_X12_isPlace (fun _ => ⟨_, rfl, ?_⟩) (fun z => absurd hr z)
      refine y_if_ne (tgt := 9) dX12_step_4 (by decide) (fun h4 => ?_) (fun h4 => absurd h4 (by decide))
      refine y_aload_n dX12_step_9 rfl rfl ?_
      refine y_getr dX12_step_10 gf_X12_36 sh_239 rfl ?_
      refine y_iload_n dX12_step_13 rfl rfl ?_
      refine y_zaldN dX12_step_14 sh_248 rfl (by first | omega | decide) (by decide) ?_
      refine y_if_ne (tgt := 24) dX12_step_15 (by decide) (fun h15 => absurd (by rw [g _ (by omega)]; exact f1) h15) (fun h15 => ?_)
      refine y_aload_n dX12_step_18 rfl rfl ?_
      refine y_iconst (v := 1) dX12_step_19 (by decide) ?_
      refine y_ivI1 dX12_step_20 mv_X12_100 my_X12_meets (Or.inl rfl) sh_239 ?_
      refine c_X12_meets (f := 1) rfl (by omega) ⟨_, rfl, ?_⟩
      refine y_ireturn dX12_step_23 rfl rfl ?_
      exact ⟨rfl, by rw [em]; exact Rel_met h⟩
    · obtain ⟨c, hc⟩ : ∃ c, c = cOf (dgR m k) := ⟨_, rfl⟩
      have c1 : m 249 k = nI c := by rw [hc, ← dg_5 (m := m)]; exact f4.1
      have c2 : m (166 + 4 * k) 3 = nI c := by rw [f3.2, dg_5]; exact c1
      have c3 : c ≤ 10 := by rw [hc]; exact f4.2.1
      by_cases hx : inN x c
      · obtain ⟨i, hi, rfl⟩ := hx
        have hx : inN (nI i) c := ⟨i, hi, rfl⟩
        refine y_run (own := "LoafFall") rfl (by decide +kernel) (Nat.le_of_ble_eq_true rfl) rfl ?_
        refine y_iload_n dX11_step_0 rfl rfl ?_
        refine y_isI1 dX11_step_1 ms_X11_173 my_X11_isDoing (Or.inl rfl) ?_
        refine c_X11_isDoing (fun _ => ⟨_, rfl, ?_⟩) (fun z => absurd hr z)
        refine y_if_ne (tgt := 9) dX11_step_4 (by decide) (fun h4 => ?_) (fun h4 => absurd h4 (by decide))
        refine y_aload_n dX11_step_9 rfl rfl ?_
        refine y_getr dX11_step_10 gf_X11_29 sh_0 rfl ?_
        refine y_iload_n dX11_step_13 rfl rfl ?_
        refine y_aaldN dX11_step_14 (by decide) sh_4 rfl (dgA (k := k) (by omega)) (by decide) ?_
        refine y_geti dX11_step_15 gf_X11_190 (dgI (k := k) (by omega)).1 rfl ?_
        refine y_if_ne (tgt := 27) dX11_step_18 (by decide) (fun h18 => ?_) (fun h18 => absurd h18 (by rw [f2]; decide))
        refine y_iload_n dX11_step_27 rfl rfl ?_
        refine y_if_lt (tgt := 44) dX11_step_28 (by decide) (fun h28 => absurd h28 (nI_pos (by omega))) (fun h28 => ?_)
        refine y_iload_n dX11_step_31 rfl rfl ?_
        refine y_aload_n dX11_step_32 rfl rfl ?_
        refine y_getr dX11_step_33 gf_X11_29 sh_0 rfl ?_
        refine y_iload_n dX11_step_36 rfl rfl ?_
        refine y_aaldN dX11_step_37 (by decide) sh_4 rfl (dgA (k := k) (by omega)) (by decide) ?_
        refine y_geti dX11_step_38 gf_X11_182 (dgI (k := k) (by omega)).1 rfl ?_
        refine y_icmp_lt (tgt := 50) dX11_step_41 (by decide) (fun h41 => ?_) (fun h41 => absurd (by rw [c2]; exact nI_lt hi (by omega)) h41)
        refine y_aload_n dX11_step_50 rfl rfl ?_
        refine y_aload_n dX11_step_51 rfl rfl ?_
        refine y_getr dX11_step_52 gf_X11_29 sh_0 rfl ?_
        refine y_iload_n dX11_step_55 rfl rfl ?_
        refine y_aaldN dX11_step_56 (by decide) sh_4 rfl (dgA (k := k) (by omega)) (by decide) ?_
        refine y_iload_n dX11_step_57 rfl rfl ?_
        refine y_ivI1 dX11_step_58 mv_X11_191 my_X1_warmthAndTurns (Or.inl rfl) (dgI (k := k) (by omega)).1 ?_
        refine c_X1_warmthAndTurns (dgI hk) f3 (by omega) rfl (by omega) ⟨_, rfl, ?_⟩
        refine y_puti dX11_step_61 pf_X11_194 sh_0 rfl rfl rfl ?_
        refine y_aload_n dX11_step_64 rfl rfl ?_
        refine y_getr dX11_step_65 gf_X11_29 sh_0 rfl ?_
        refine y_iload_n dX11_step_68 rfl rfl ?_
        refine y_aaldN dX11_step_69 (by decide) sh_4 rfl (dgA (k := k) (by omega)) (by decide) ?_
        refine y_getr dX11_step_70 gf_X11_197 (dgI (k := k) (by omega)).1 rfl ?_
        refine y_iload_n dX11_step_73 rfl rfl ?_
        refine y_ialdN dX11_step_74 (dgI (k := k) (by omega)).2.1 rfl (by first | omega | decide) (by decide) ?_
        refine y_ireturn dX11_step_75 rfl rfl ?_
        refine ⟨_, rfl, ?_⟩
        rw [s_upN (show 166 + 4 * k + 1 ≠ 0 by omega)]
        generalize em : s_up m 0 (upd (m 0) 17 (100 * dgR m k (6 + 3 * i + 1) + dgR m k (6 + 3 * i + 2))) = m1
        have g : ∀ a, 239 ≤ a → m1 a = m a := fun a ha => by rw [← em, s_upN (by omega)]
        refine y_run (own := "LoafFallModel") rfl (by decide +kernel) (Nat.le_of_ble_eq_true rfl) rfl ?_
        refine y_iload_n dX12_step_0 rfl rfl ?_
        refine y_isI1 dX12_step_1 ms_X12_151 my_X12_isPlace (Or.inl rfl) ?_
        refine c_X12_isPlace (fun _ => ⟨_, rfl, ?_⟩) (fun z => absurd hr z)
        refine y_if_ne (tgt := 9) dX12_step_4 (by decide) (fun h4 => ?_) (fun h4 => absurd h4 (by decide))
        refine y_aload_n dX12_step_9 rfl rfl ?_
        refine y_getr dX12_step_10 gf_X12_36 sh_239 rfl ?_
        refine y_iload_n dX12_step_13 rfl rfl ?_
        refine y_zaldN dX12_step_14 sh_248 rfl (by first | omega | decide) (by decide) ?_
        refine y_if_ne (tgt := 24) dX12_step_15 (by decide) (fun h15 => ?_) (fun h15 => absurd h15 (by rw [g _ (by omega), f1]; decide))
        refine y_iload_n dX12_step_24 rfl rfl ?_
        refine y_iconst (v := 0) dX12_step_25 (by decide) ?_
        refine y_aload_n dX12_step_26 rfl rfl ?_
        refine y_getr dX12_step_27 gf_X12_39 sh_239 rfl ?_
        refine y_iload_n dX12_step_30 rfl rfl ?_
        refine y_ialdN dX12_step_31 sh_249 rfl (by first | omega | decide) (by decide) ?_
        refine y_iconst (v := 1) dX12_step_32 (by decide) ?_
        refine y_isub dX12_step_33 ?_
        refine y_isI3 dX12_step_34 ms_X12_86 my_X12_in (Or.inl rfl) ?_
        refine c_X12_in (fun _ _ => ⟨_, rfl, ?_⟩) (fun a => absurd (by rw [g _ (by omega), c1]; exact (in_s (by omega)).mp hx) a)
        refine y_if_eq (tgt := 66) dX12_step_37 (by decide) (fun h37 => absurd h37 (by decide)) (fun h37 => ?_)
        refine y_aload_n dX12_step_40 rfl rfl ?_
        refine y_aload_n dX12_step_41 rfl rfl ?_
        refine y_iload_n dX12_step_42 rfl rfl ?_
        refine y_iload_n dX12_step_43 rfl rfl ?_
        refine y_ivI2 dX12_step_44 mv_X12_154 my_X12_stepTells (Or.inl rfl) sh_239 ?_
        refine c_X12_stepTells (k := k) (i := i) rfl hk rfl (by omega) ⟨_, rfl, ?_⟩
        refine y_aload_n dX12_step_47 rfl rfl ?_
        refine y_getr dX12_step_48 gf_X12_42 sh_239 rfl ?_
        refine y_bipush (v := 30) dX12_step_51 (by decide) ?_
        refine y_iload_n dX12_step_53 rfl rfl ?_
        refine y_imulN (a := 30) (b := k) dX12_step_54 rfl rfl ?_
        refine y_iconst (v := 3) dX12_step_55 (by decide) ?_
        refine y_iload_n dX12_step_56 rfl rfl ?_
        refine y_imulN (a := 3) (b := i) dX12_step_57 rfl rfl ?_
        refine y_iaddN (a := 30 * k) (b := 3 * i) dX12_step_58 rfl rfl ?_
        refine y_ialdN dX12_step_59 sh_250 rfl (by first | omega | decide) (by decide) ?_
        refine y_ivI2 dX12_step_60 mv_X12_108 my_X12_tells (Or.inl rfl) sh_239 ?_
        refine c_X12_tells ⟨_, rfl, ?_⟩
        refine y_goto (tgt := 71) dX12_step_63 (by decide) ?_
        refine y_ireturn dX12_step_71 rfl rfl ?_
        rw [g 250 (by omega), (f3.1 i (by omega)).1, dg_s (j := 0), show m 250 (30 * k + 3 * i + 1) = dgR m k (6 + 3 * i + 1) from dg_s.symm, show m 250 (30 * k + 3 * i + 2) = dgR m k (6 + 3 * i + 2) from dg_s.symm, ← em]
        exact ⟨rfl, Rel_told h⟩
      · refine y_run (own := "LoafFall") rfl (by decide +kernel) (Nat.le_of_ble_eq_true rfl) rfl ?_
        refine y_iload_n dX11_step_0 rfl rfl ?_
        refine y_isI1 dX11_step_1 ms_X11_173 my_X11_isDoing (Or.inl rfl) ?_
        refine c_X11_isDoing (fun _ => ⟨_, rfl, ?_⟩) (fun z => absurd hr z)
        refine y_if_ne (tgt := 9) dX11_step_4 (by decide) (fun h4 => ?_) (fun h4 => absurd h4 (by decide))
        refine y_aload_n dX11_step_9 rfl rfl ?_
        refine y_getr dX11_step_10 gf_X11_29 sh_0 rfl ?_
        refine y_iload_n dX11_step_13 rfl rfl ?_
        refine y_aaldN dX11_step_14 (by decide) sh_4 rfl (dgA (k := k) (by omega)) (by decide) ?_
        refine y_geti dX11_step_15 gf_X11_190 (dgI (k := k) (by omega)).1 rfl ?_
        refine y_if_ne (tgt := 27) dX11_step_18 (by decide) (fun h18 => ?_) (fun h18 => absurd h18 (by rw [f2]; decide))
        refine y_iload_n dX11_step_27 rfl rfl ?_
        refine y_if_lt (tgt := 44) dX11_step_28 (by decide) (fun h28 => ?_) (fun h28 => ?_)
        · refine y_aload_n dX11_step_44 rfl rfl ?_
          refine y_iconst (v := 2) dX11_step_45 (by decide) ?_
          refine y_ivI1 dX11_step_46 mv_X11_105 my_X11_found (Or.inl rfl) sh_0 ?_
          refine c_X11_found (f := 2) rfl (by omega) (by omega) ⟨_, rfl, ?_⟩
          refine y_ireturn dX11_step_49 rfl rfl ?_
          refine ⟨_, rfl, ?_⟩
          obtain ⟨m1, em⟩ : ∃ m1, m1 = foundM m 2 := ⟨_, rfl⟩
          rw [← em]
          have g : ∀ a, 138 ≤ a → m1 a = m a := fun a ha => by rw [em]; exact found_o (by omega) (by omega)
          refine y_run (own := "LoafFallModel") rfl (by decide +kernel) (Nat.le_of_ble_eq_true rfl) rfl ?_
          refine y_iload_n dX12_step_0 rfl rfl ?_
          refine y_isI1 dX12_step_1 ms_X12_151 my_X12_isPlace (Or.inl rfl) ?_
          refine c_X12_isPlace (fun _ => ⟨_, rfl, ?_⟩) (fun z => absurd hr z)
          refine y_if_ne (tgt := 9) dX12_step_4 (by decide) (fun h4 => ?_) (fun h4 => absurd h4 (by decide))
          refine y_aload_n dX12_step_9 rfl rfl ?_
          refine y_getr dX12_step_10 gf_X12_36 sh_239 rfl ?_
          refine y_iload_n dX12_step_13 rfl rfl ?_
          refine y_zaldN dX12_step_14 sh_248 rfl (by first | omega | decide) (by decide) ?_
          refine y_if_ne (tgt := 24) dX12_step_15 (by decide) (fun h15 => ?_) (fun h15 => absurd h15 (by rw [g _ (by omega), f1]; decide))
          refine y_iload_n dX12_step_24 rfl rfl ?_
          refine y_iconst (v := 0) dX12_step_25 (by decide) ?_
          refine y_aload_n dX12_step_26 rfl rfl ?_
          refine y_getr dX12_step_27 gf_X12_39 sh_239 rfl ?_
          refine y_iload_n dX12_step_30 rfl rfl ?_
          refine y_ialdN dX12_step_31 sh_249 rfl (by first | omega | decide) (by decide) ?_
          refine y_iconst (v := 1) dX12_step_32 (by decide) ?_
          refine y_isub dX12_step_33 ?_
          refine y_isI3 dX12_step_34 ms_X12_86 my_X12_in (Or.inl rfl) ?_
          refine c_X12_in (fun a b => absurd ((in_s (by omega)).mpr ⟨a, by rw [g _ (by omega), c1] at b; exact b⟩) hx) (fun _ => ⟨_, rfl, ?_⟩)
          refine y_if_eq (tgt := 66) dX12_step_37 (by decide) (fun h37 => ?_) (fun h37 => absurd (by decide) h37)
          refine y_aload_n dX12_step_66 rfl rfl ?_
          refine y_iconst (v := 2) dX12_step_67 (by decide) ?_
          refine y_ivI1 dX12_step_68 mv_X12_100 my_X12_meets (Or.inl rfl) sh_239 ?_
          refine c_X12_meets (f := 2) rfl (by omega) ⟨_, rfl, ?_⟩
          refine y_ireturn dX12_step_71 rfl rfl ?_
          exact ⟨rfl, by rw [em]; exact Rel_met h⟩
        · refine y_iload_n dX11_step_31 rfl rfl ?_
          refine y_aload_n dX11_step_32 rfl rfl ?_
          refine y_getr dX11_step_33 gf_X11_29 sh_0 rfl ?_
          refine y_iload_n dX11_step_36 rfl rfl ?_
          refine y_aaldN dX11_step_37 (by decide) sh_4 rfl (dgA (k := k) (by omega)) (by decide) ?_
          refine y_geti dX11_step_38 gf_X11_182 (dgI (k := k) (by omega)).1 rfl ?_
          refine y_icmp_lt (tgt := 50) dX11_step_41 (by decide) (fun h41 => absurd h41 (fun z => hx ((in_lt (M := c) (by omega)).mpr ⟨h28, by rw [c2] at z; exact z⟩))) (fun h41 => ?_)
          refine y_aload_n dX11_step_44 rfl rfl ?_
          refine y_iconst (v := 2) dX11_step_45 (by decide) ?_
          refine y_ivI1 dX11_step_46 mv_X11_105 my_X11_found (Or.inl rfl) sh_0 ?_
          refine c_X11_found (f := 2) rfl (by omega) (by omega) ⟨_, rfl, ?_⟩
          refine y_ireturn dX11_step_49 rfl rfl ?_
          refine ⟨_, rfl, ?_⟩
          obtain ⟨m1, em⟩ : ∃ m1, m1 = foundM m 2 := ⟨_, rfl⟩
          rw [← em]
          have g : ∀ a, 138 ≤ a → m1 a = m a := fun a ha => by rw [em]; exact found_o (by omega) (by omega)
          refine y_run (own := "LoafFallModel") rfl (by decide +kernel) (Nat.le_of_ble_eq_true rfl) rfl ?_
          refine y_iload_n dX12_step_0 rfl rfl ?_
          refine y_isI1 dX12_step_1 ms_X12_151 my_X12_isPlace (Or.inl rfl) ?_
          refine c_X12_isPlace (fun _ => ⟨_, rfl, ?_⟩) (fun z => absurd hr z)
          refine y_if_ne (tgt := 9) dX12_step_4 (by decide) (fun h4 => ?_) (fun h4 => absurd h4 (by decide))
          refine y_aload_n dX12_step_9 rfl rfl ?_
          refine y_getr dX12_step_10 gf_X12_36 sh_239 rfl ?_
          refine y_iload_n dX12_step_13 rfl rfl ?_
          refine y_zaldN dX12_step_14 sh_248 rfl (by first | omega | decide) (by decide) ?_
          refine y_if_ne (tgt := 24) dX12_step_15 (by decide) (fun h15 => ?_) (fun h15 => absurd h15 (by rw [g _ (by omega), f1]; decide))
          refine y_iload_n dX12_step_24 rfl rfl ?_
          refine y_iconst (v := 0) dX12_step_25 (by decide) ?_
          refine y_aload_n dX12_step_26 rfl rfl ?_
          refine y_getr dX12_step_27 gf_X12_39 sh_239 rfl ?_
          refine y_iload_n dX12_step_30 rfl rfl ?_
          refine y_ialdN dX12_step_31 sh_249 rfl (by first | omega | decide) (by decide) ?_
          refine y_iconst (v := 1) dX12_step_32 (by decide) ?_
          refine y_isub dX12_step_33 ?_
          refine y_isI3 dX12_step_34 ms_X12_86 my_X12_in (Or.inl rfl) ?_
          refine c_X12_in (fun a b => absurd ((in_s (by omega)).mpr ⟨a, by rw [g _ (by omega), c1] at b; exact b⟩) hx) (fun _ => ⟨_, rfl, ?_⟩)
          refine y_if_eq (tgt := 66) dX12_step_37 (by decide) (fun h37 => ?_) (fun h37 => absurd (by decide) h37)
          refine y_aload_n dX12_step_66 rfl rfl ?_
          refine y_iconst (v := 2) dX12_step_67 (by decide) ?_
          refine y_ivI1 dX12_step_68 mv_X12_100 my_X12_meets (Or.inl rfl) sh_239 ?_
          refine c_X12_meets (f := 2) rfl (by omega) ⟨_, rfl, ?_⟩
          refine y_ireturn dX12_step_71 rfl rfl ?_
          exact ⟨rfl, by rw [em]; exact Rel_met h⟩
  · refine y_run (own := "LoafFall") rfl (by decide +kernel) (Nat.le_of_ble_eq_true rfl) rfl ?_
    refine y_iload_n dX11_step_0 rfl rfl ?_
    refine y_isI1 dX11_step_1 ms_X11_173 my_X11_isDoing (Or.inl rfl) ?_
    refine c_X11_isDoing (fun z => absurd z hr) (fun _ => ⟨_, rfl, ?_⟩)
    refine y_if_ne (tgt := 9) dX11_step_4 (by decide) (fun h4 => absurd (by decide) h4) (fun h4 => ?_)
    refine y_iconst (v := -1) dX11_step_7 (by decide) ?_
    refine y_ireturn dX11_step_8 rfl rfl ?_
    refine ⟨_, rfl, ?_⟩
    refine y_run (own := "LoafFallModel") rfl (by decide +kernel) (Nat.le_of_ble_eq_true rfl) rfl ?_
    refine y_iload_n dX12_step_0 rfl rfl ?_
    refine y_isI1 dX12_step_1 ms_X12_151 my_X12_isPlace (Or.inl rfl) ?_
    refine c_X12_isPlace (fun z => absurd z hr) (fun _ => ⟨_, rfl, ?_⟩)
    refine y_if_ne (tgt := 9) dX12_step_4 (by decide) (fun h4 => absurd (by decide) h4) (fun h4 => ?_)
    refine y_iconst (v := -1) dX12_step_7 (by decide) ?_
    refine y_ireturn dX12_step_8 rfl rfl ?_
    exact ⟨rfl, h⟩
set_option maxHeartbeats 2000000 in
theorem p_told {L : Nat} {xs : Nat → Int32} {d : Nat} {m : sM} {n : sN} {r x : Int32} (h : Rel m n) : PI L xs (d + 11) yX11_told cX11_told 3 yX12_told cX12_told 3 [.int r, .int x] m n := by
  unfold PI
  obtain ⟨s, hs, s1, s2, s3⟩ := h.s
  by_cases hr : inN r s
  · by_cases hx : inN x 2
    · obtain ⟨k, hk, rfl⟩ := hr
      have hr : inN (nI k) s := ⟨k, hk, rfl⟩
      obtain ⟨q, hq, rfl⟩ := hx
      have hx : inN (nI q) 2 := ⟨q, hq, rfl⟩
      obtain ⟨⟨g1, -, e1, e2⟩, g2, -, e3, e4⟩ := s3 k hk
      have hq2 : q = 0 ∨ q = 1 := by omega
      rcases hq2 with rfl | rfl
      · refine y_run (own := "LoafFall") rfl (by decide +kernel) (Nat.le_of_ble_eq_true rfl) rfl ?_
        refine y_iload_n dX11_told_0 rfl rfl ?_
        refine y_if_lt (tgt := 24) dX11_told_1 (by decide) (fun h1 => absurd h1 (nI_pos (by omega))) (fun h1 => ?_)
        refine y_iload_n dX11_told_4 rfl rfl ?_
        refine y_aload_n dX11_told_5 rfl rfl ?_
        refine y_getr dX11_told_6 gf_X11_47 sh_0 rfl ?_
        refine y_geti dX11_told_9 gf_X11_355 sh_25 rfl ?_
        refine y_icmp_ge (tgt := 24) dX11_told_12 (by decide) (fun h12 => absurd h12 (by rw [s1]; exact nI_ge hk (by omega))) (fun h12 => ?_)
        refine y_iload_n dX11_told_15 rfl rfl ?_
        refine y_if_lt (tgt := 24) dX11_told_16 (by decide) (fun h16 => absurd h16 (nI_pos (by omega))) (fun h16 => ?_)
        refine y_iload_n dX11_told_19 rfl rfl ?_
        refine y_iconst (v := 1) dX11_told_20 (by decide) ?_
        refine y_icmp_le (tgt := 26) dX11_told_21 (by decide) (fun h21 => ?_) (fun h21 => absurd (nI_le (b := 1) (by omega) (by omega)) h21)
        refine y_aload_n dX11_told_26 rfl rfl ?_
        refine y_iload_n dX11_told_27 rfl rfl ?_
        refine y_if_ne (tgt := 43) dX11_told_28 (by decide) (fun h28 => absurd rfl h28) (fun h28 => ?_)
        refine y_aload_n dX11_told_31 rfl rfl ?_
        refine y_getr dX11_told_32 gf_X11_47 sh_0 rfl ?_
        refine y_getr dX11_told_35 gf_X11_359 sh_25 rfl ?_
        refine y_iload_n dX11_told_38 rfl rfl ?_
        refine y_ialdN dX11_told_39 sh_26 rfl (by first | omega | decide) (by decide) ?_
        refine y_goto (tgt := 52) dX11_told_40 (by decide) ?_
        refine y_ivI1 dX11_told_52 mv_X11_120 my_X11_tell (Or.inl rfl) sh_0 ?_
        refine c_X11_tell ⟨_, rfl, ?_⟩
        refine y_ireturn dX11_told_55 rfl rfl ?_
        refine ⟨_, rfl, ?_⟩
        generalize em : tellM m (m 26 k) = m1
        have g : ∀ a, 239 ≤ a → m1 a = m a := fun a ha => by rw [← em, tell_o (by omega)]
        refine y_run (own := "LoafFallModel") rfl (by decide +kernel) (Nat.le_of_ble_eq_true rfl) rfl ?_
        refine y_iload_n dX12_told_0 rfl rfl ?_
        refine y_iconst (v := 0) dX12_told_1 (by decide) ?_
        refine y_aload_n dX12_told_2 rfl rfl ?_
        refine y_geti dX12_told_3 gf_X12_310 sh_239 rfl ?_
        refine y_iconst (v := 1) dX12_told_6 (by decide) ?_
        refine y_isub dX12_told_7 ?_
        refine y_isI3 dX12_told_8 ms_X12_86 my_X12_in (Or.inl rfl) ?_
        refine c_X12_in (fun _ _ => ⟨_, rfl, ?_⟩) (fun a => absurd (by rw [g _ (by omega), s2]; exact (in_s (by omega)).mp hr) a)
        refine y_if_eq (tgt := 41) dX12_told_11 (by decide) (fun h11 => absurd h11 (by decide)) (fun h11 => ?_)
        refine y_iload_n dX12_told_14 rfl rfl ?_
        refine y_iconst (v := 0) dX12_told_15 (by decide) ?_
        refine y_iconst (v := 1) dX12_told_16 (by decide) ?_
        refine y_isI3 dX12_told_17 ms_X12_86 my_X12_in (Or.inl rfl) ?_
        refine c_X12_in (fun _ _ => ⟨_, rfl, ?_⟩) (fun a => absurd ((in_le (M := 1) (by decide)).mp hx) a)
        refine y_if_eq (tgt := 41) dX12_told_20 (by decide) (fun h20 => absurd h20 (by decide)) (fun h20 => ?_)
        refine y_aload_n dX12_told_23 rfl rfl ?_
        refine y_aload_n dX12_told_24 rfl rfl ?_
        refine y_getr dX12_told_25 gf_X12_69 sh_239 rfl ?_
        refine y_iconst (v := 2) dX12_told_28 (by decide) ?_
        refine y_iload_n dX12_told_29 rfl rfl ?_
        refine y_imulN (a := 2) (b := k) dX12_told_30 rfl rfl ?_
        refine y_iload_n dX12_told_31 rfl rfl ?_
        refine y_iaddN (a := 2 * k) (b := 0) dX12_told_32 rfl rfl ?_
        refine y_ialdN dX12_told_33 sh_259 rfl (by first | omega | decide) (by decide) ?_
        refine y_iconst (v := 1) dX12_told_34 (by decide) ?_
        refine y_ivI2 dX12_told_35 mv_X12_108 my_X12_tells (Or.inl rfl) sh_239 ?_
        refine c_X12_tells ⟨_, rfl, ?_⟩
        refine y_goto (tgt := 42) dX12_told_38 (by decide) ?_
        refine y_ireturn dX12_told_42 rfl rfl ?_
        rw [g 259 (by omega), show m 259 (2 * k + 0) = m 26 k from e2.trans e1.symm, ← em]
        exact ⟨rfl, Rel_told h⟩
      · refine y_run (own := "LoafFall") rfl (by decide +kernel) (Nat.le_of_ble_eq_true rfl) rfl ?_
        refine y_iload_n dX11_told_0 rfl rfl ?_
        refine y_if_lt (tgt := 24) dX11_told_1 (by decide) (fun h1 => absurd h1 (nI_pos (by omega))) (fun h1 => ?_)
        refine y_iload_n dX11_told_4 rfl rfl ?_
        refine y_aload_n dX11_told_5 rfl rfl ?_
        refine y_getr dX11_told_6 gf_X11_47 sh_0 rfl ?_
        refine y_geti dX11_told_9 gf_X11_355 sh_25 rfl ?_
        refine y_icmp_ge (tgt := 24) dX11_told_12 (by decide) (fun h12 => absurd h12 (by rw [s1]; exact nI_ge hk (by omega))) (fun h12 => ?_)
        refine y_iload_n dX11_told_15 rfl rfl ?_
        refine y_if_lt (tgt := 24) dX11_told_16 (by decide) (fun h16 => absurd h16 (nI_pos (by omega))) (fun h16 => ?_)
        refine y_iload_n dX11_told_19 rfl rfl ?_
        refine y_iconst (v := 1) dX11_told_20 (by decide) ?_
        refine y_icmp_le (tgt := 26) dX11_told_21 (by decide) (fun h21 => ?_) (fun h21 => absurd (nI_le (b := 1) (by omega) (by omega)) h21)
        refine y_aload_n dX11_told_26 rfl rfl ?_
        refine y_iload_n dX11_told_27 rfl rfl ?_
        refine y_if_ne (tgt := 43) dX11_told_28 (by decide) (fun h28 => ?_) (fun h28 => absurd h28 (by decide))
        refine y_aload_n dX11_told_43 rfl rfl ?_
        refine y_getr dX11_told_44 gf_X11_47 sh_0 rfl ?_
        refine y_getr dX11_told_47 gf_X11_361 sh_25 rfl ?_
        refine y_iload_n dX11_told_50 rfl rfl ?_
        refine y_ialdN dX11_told_51 sh_27 rfl (by first | omega | decide) (by decide) ?_
        refine y_ivI1 dX11_told_52 mv_X11_120 my_X11_tell (Or.inl rfl) sh_0 ?_
        refine c_X11_tell ⟨_, rfl, ?_⟩
        refine y_ireturn dX11_told_55 rfl rfl ?_
        refine ⟨_, rfl, ?_⟩
        generalize em : tellM m (m 27 k) = m1
        have g : ∀ a, 239 ≤ a → m1 a = m a := fun a ha => by rw [← em, tell_o (by omega)]
        refine y_run (own := "LoafFallModel") rfl (by decide +kernel) (Nat.le_of_ble_eq_true rfl) rfl ?_
        refine y_iload_n dX12_told_0 rfl rfl ?_
        refine y_iconst (v := 0) dX12_told_1 (by decide) ?_
        refine y_aload_n dX12_told_2 rfl rfl ?_
        refine y_geti dX12_told_3 gf_X12_310 sh_239 rfl ?_
        refine y_iconst (v := 1) dX12_told_6 (by decide) ?_
        refine y_isub dX12_told_7 ?_
        refine y_isI3 dX12_told_8 ms_X12_86 my_X12_in (Or.inl rfl) ?_
        refine c_X12_in (fun _ _ => ⟨_, rfl, ?_⟩) (fun a => absurd (by rw [g _ (by omega), s2]; exact (in_s (by omega)).mp hr) a)
        refine y_if_eq (tgt := 41) dX12_told_11 (by decide) (fun h11 => absurd h11 (by decide)) (fun h11 => ?_)
        refine y_iload_n dX12_told_14 rfl rfl ?_
        refine y_iconst (v := 0) dX12_told_15 (by decide) ?_
        refine y_iconst (v := 1) dX12_told_16 (by decide) ?_
        refine y_isI3 dX12_told_17 ms_X12_86 my_X12_in (Or.inl rfl) ?_
        refine c_X12_in (fun _ _ => ⟨_, rfl, ?_⟩) (fun a => absurd ((in_le (M := 1) (by decide)).mp hx) a)
        refine y_if_eq (tgt := 41) dX12_told_20 (by decide) (fun h20 => absurd h20 (by decide)) (fun h20 => ?_)
        refine y_aload_n dX12_told_23 rfl rfl ?_
        refine y_aload_n dX12_told_24 rfl rfl ?_
        refine y_getr dX12_told_25 gf_X12_69 sh_239 rfl ?_
        refine y_iconst (v := 2) dX12_told_28 (by decide) ?_
        refine y_iload_n dX12_told_29 rfl rfl ?_
        refine y_imulN (a := 2) (b := k) dX12_told_30 rfl rfl ?_
        refine y_iload_n dX12_told_31 rfl rfl ?_
        refine y_iaddN (a := 2 * k) (b := 1) dX12_told_32 rfl rfl ?_
        refine y_ialdN dX12_told_33 sh_259 rfl (by first | omega | decide) (by decide) ?_
        refine y_iconst (v := 1) dX12_told_34 (by decide) ?_
        refine y_ivI2 dX12_told_35 mv_X12_108 my_X12_tells (Or.inl rfl) sh_239 ?_
        refine c_X12_tells ⟨_, rfl, ?_⟩
        refine y_goto (tgt := 42) dX12_told_38 (by decide) ?_
        refine y_ireturn dX12_told_42 rfl rfl ?_
        rw [g 259 (by omega), show m 259 (2 * k + 1) = m 27 k from e4.trans e3.symm, ← em]
        exact ⟨rfl, Rel_told h⟩
    · obtain ⟨k, hk, rfl⟩ := hr
      have hr : inN (nI k) s := ⟨k, hk, rfl⟩
      refine y_run (own := "LoafFall") rfl (by decide +kernel) (Nat.le_of_ble_eq_true rfl) rfl ?_
      refine y_iload_n dX11_told_0 rfl rfl ?_
      refine y_if_lt (tgt := 24) dX11_told_1 (by decide) (fun h1 => absurd h1 (nI_pos (by omega))) (fun h1 => ?_)
      refine y_iload_n dX11_told_4 rfl rfl ?_
      refine y_aload_n dX11_told_5 rfl rfl ?_
      refine y_getr dX11_told_6 gf_X11_47 sh_0 rfl ?_
      refine y_geti dX11_told_9 gf_X11_355 sh_25 rfl ?_
      refine y_icmp_ge (tgt := 24) dX11_told_12 (by decide) (fun h12 => absurd h12 (by rw [s1]; exact nI_ge hk (by omega))) (fun h12 => ?_)
      refine y_iload_n dX11_told_15 rfl rfl ?_
      refine y_if_lt (tgt := 24) dX11_told_16 (by decide) (fun h16 => ?_) (fun h16 => ?_)
      · refine y_iconst (v := -1) dX11_told_24 (by decide) ?_
        refine y_ireturn dX11_told_25 rfl rfl ?_
        refine ⟨_, rfl, ?_⟩
        refine y_run (own := "LoafFallModel") rfl (by decide +kernel) (Nat.le_of_ble_eq_true rfl) rfl ?_
        refine y_iload_n dX12_told_0 rfl rfl ?_
        refine y_iconst (v := 0) dX12_told_1 (by decide) ?_
        refine y_aload_n dX12_told_2 rfl rfl ?_
        refine y_geti dX12_told_3 gf_X12_310 sh_239 rfl ?_
        refine y_iconst (v := 1) dX12_told_6 (by decide) ?_
        refine y_isub dX12_told_7 ?_
        refine y_isI3 dX12_told_8 ms_X12_86 my_X12_in (Or.inl rfl) ?_
        refine c_X12_in (fun _ _ => ⟨_, rfl, ?_⟩) (fun a => absurd (by rw [s2]; exact (in_s (by omega)).mp hr) a)
        refine y_if_eq (tgt := 41) dX12_told_11 (by decide) (fun h11 => absurd h11 (by decide)) (fun h11 => ?_)
        refine y_iload_n dX12_told_14 rfl rfl ?_
        refine y_iconst (v := 0) dX12_told_15 (by decide) ?_
        refine y_iconst (v := 1) dX12_told_16 (by decide) ?_
        refine y_isI3 dX12_told_17 ms_X12_86 my_X12_in (Or.inl rfl) ?_
        refine c_X12_in (fun a b => absurd ((in_le (M := 1) (by decide)).mpr ⟨a, b⟩) hx) (fun _ => ⟨_, rfl, ?_⟩)
        refine y_if_eq (tgt := 41) dX12_told_20 (by decide) (fun h20 => ?_) (fun h20 => absurd (by decide) h20)
        refine y_iconst (v := -1) dX12_told_41 (by decide) ?_
        refine y_ireturn dX12_told_42 rfl rfl ?_
        exact ⟨rfl, h⟩
      · refine y_iload_n dX11_told_19 rfl rfl ?_
        refine y_iconst (v := 1) dX11_told_20 (by decide) ?_
        refine y_icmp_le (tgt := 26) dX11_told_21 (by decide) (fun h21 => absurd h21 (fun z => hx ((in_le (M := 1) (by decide)).mpr ⟨Int32.not_lt.mp h16, z⟩))) (fun h21 => ?_)
        refine y_iconst (v := -1) dX11_told_24 (by decide) ?_
        refine y_ireturn dX11_told_25 rfl rfl ?_
        refine ⟨_, rfl, ?_⟩
        refine y_run (own := "LoafFallModel") rfl (by decide +kernel) (Nat.le_of_ble_eq_true rfl) rfl ?_
        refine y_iload_n dX12_told_0 rfl rfl ?_
        refine y_iconst (v := 0) dX12_told_1 (by decide) ?_
        refine y_aload_n dX12_told_2 rfl rfl ?_
        refine y_geti dX12_told_3 gf_X12_310 sh_239 rfl ?_
        refine y_iconst (v := 1) dX12_told_6 (by decide) ?_
        refine y_isub dX12_told_7 ?_
        refine y_isI3 dX12_told_8 ms_X12_86 my_X12_in (Or.inl rfl) ?_
        refine c_X12_in (fun _ _ => ⟨_, rfl, ?_⟩) (fun a => absurd (by rw [s2]; exact (in_s (by omega)).mp hr) a)
        refine y_if_eq (tgt := 41) dX12_told_11 (by decide) (fun h11 => absurd h11 (by decide)) (fun h11 => ?_)
        refine y_iload_n dX12_told_14 rfl rfl ?_
        refine y_iconst (v := 0) dX12_told_15 (by decide) ?_
        refine y_iconst (v := 1) dX12_told_16 (by decide) ?_
        refine y_isI3 dX12_told_17 ms_X12_86 my_X12_in (Or.inl rfl) ?_
        refine c_X12_in (fun a b => absurd ((in_le (M := 1) (by decide)).mpr ⟨a, b⟩) hx) (fun _ => ⟨_, rfl, ?_⟩)
        refine y_if_eq (tgt := 41) dX12_told_20 (by decide) (fun h20 => ?_) (fun h20 => absurd (by decide) h20)
        refine y_iconst (v := -1) dX12_told_41 (by decide) ?_
        refine y_ireturn dX12_told_42 rfl rfl ?_
        exact ⟨rfl, h⟩
  · refine y_run (own := "LoafFall") rfl (by decide +kernel) (Nat.le_of_ble_eq_true rfl) rfl ?_
    refine y_iload_n dX11_told_0 rfl rfl ?_
    refine y_if_lt (tgt := 24) dX11_told_1 (by decide) (fun h1 => ?_) (fun h1 => ?_)
    · refine y_iconst (v := -1) dX11_told_24 (by decide) ?_
      refine y_ireturn dX11_told_25 rfl rfl ?_
      refine ⟨_, rfl, ?_⟩
      refine y_run (own := "LoafFallModel") rfl (by decide +kernel) (Nat.le_of_ble_eq_true rfl) rfl ?_
      refine y_iload_n dX12_told_0 rfl rfl ?_
      refine y_iconst (v := 0) dX12_told_1 (by decide) ?_
      refine y_aload_n dX12_told_2 rfl rfl ?_
      refine y_geti dX12_told_3 gf_X12_310 sh_239 rfl ?_
      refine y_iconst (v := 1) dX12_told_6 (by decide) ?_
      refine y_isub dX12_told_7 ?_
      refine y_isI3 dX12_told_8 ms_X12_86 my_X12_in (Or.inl rfl) ?_
      refine c_X12_in (fun a b => absurd ((in_s (by omega)).mpr ⟨a, by rw [s2] at b; exact b⟩) hr) (fun _ => ⟨_, rfl, ?_⟩)
      refine y_if_eq (tgt := 41) dX12_told_11 (by decide) (fun h11 => ?_) (fun h11 => absurd (by decide) h11)
      refine y_iconst (v := -1) dX12_told_41 (by decide) ?_
      refine y_ireturn dX12_told_42 rfl rfl ?_
      exact ⟨rfl, h⟩
    · refine y_iload_n dX11_told_4 rfl rfl ?_
      refine y_aload_n dX11_told_5 rfl rfl ?_
      refine y_getr dX11_told_6 gf_X11_47 sh_0 rfl ?_
      refine y_geti dX11_told_9 gf_X11_355 sh_25 rfl ?_
      refine y_icmp_ge (tgt := 24) dX11_told_12 (by decide) (fun h12 => ?_) (fun h12 => absurd (Int32.not_lt.mp (fun z => hr ((in_lt (M := s) (by omega)).mpr ⟨h1, by rw [s1] at z; exact z⟩))) h12)
      refine y_iconst (v := -1) dX11_told_24 (by decide) ?_
      refine y_ireturn dX11_told_25 rfl rfl ?_
      refine ⟨_, rfl, ?_⟩
      refine y_run (own := "LoafFallModel") rfl (by decide +kernel) (Nat.le_of_ble_eq_true rfl) rfl ?_
      refine y_iload_n dX12_told_0 rfl rfl ?_
      refine y_iconst (v := 0) dX12_told_1 (by decide) ?_
      refine y_aload_n dX12_told_2 rfl rfl ?_
      refine y_geti dX12_told_3 gf_X12_310 sh_239 rfl ?_
      refine y_iconst (v := 1) dX12_told_6 (by decide) ?_
      refine y_isub dX12_told_7 ?_
      refine y_isI3 dX12_told_8 ms_X12_86 my_X12_in (Or.inl rfl) ?_
      refine c_X12_in (fun a b => absurd ((in_s (by omega)).mpr ⟨a, by rw [s2] at b; exact b⟩) hr) (fun _ => ⟨_, rfl, ?_⟩)
      refine y_if_eq (tgt := 41) dX12_told_11 (by decide) (fun h11 => ?_) (fun h11 => absurd (by decide) h11)
      refine y_iconst (v := -1) dX12_told_41 (by decide) ?_
      refine y_ireturn dX12_told_42 rfl rfl ?_
      exact ⟨rfl, h⟩
set_option maxHeartbeats 2000000 in
theorem p_slip {L : Nat} {xs : Nat → Int32} {d : Nat} {m : sM} {n : sN} {r x : Int32} (h : Rel m n) : PI L xs (d + 11) yX11_slip cX11_slip 3 yX12_slip cX12_slip 3 [.int r, .int x] m n := by
  unfold PI
  obtain ⟨s, hs, s1, s2, s3⟩ := h.s
  by_cases hr : inN r 4
  · by_cases hx : inN x 1000
    · obtain ⟨k, hk, rfl⟩ := hr
      have hr : inN (nI k) 4 := ⟨k, hk, rfl⟩
      obtain ⟨q, hq, rfl⟩ := hx
      have hx : inN (nI q) 1000 := ⟨q, hq, rfl⟩
      by_cases hf : s = 12
      · subst hf
        refine y_run (own := "LoafFall") rfl (by decide +kernel) (Nat.le_of_ble_eq_true rfl) rfl ?_
        refine y_iload_n dX11_slip_0 rfl rfl ?_
        refine y_isI1 dX11_slip_1 ms_X11_173 my_X11_isDoing (Or.inl rfl) ?_
        refine c_X11_isDoing (fun _ => ⟨_, rfl, ?_⟩) (fun z => absurd hr z)
        refine y_if_eq (tgt := 18) dX11_slip_4 (by decide) (fun h4 => absurd h4 (by decide)) (fun h4 => ?_)
        refine y_iload_n dX11_slip_7 rfl rfl ?_
        refine y_if_lt (tgt := 18) dX11_slip_8 (by decide) (fun h8 => absurd h8 (nI_pos (by omega))) (fun h8 => ?_)
        refine y_iload_n dX11_slip_11 rfl rfl ?_
        refine y_sipush (v := 999) dX11_slip_12 (by decide) ?_
        refine y_icmp_le (tgt := 20) dX11_slip_15 (by decide) (fun h15 => ?_) (fun h15 => absurd (nI_le (b := 999) (by omega) (by omega)) h15)
        refine y_aload_n dX11_slip_20 rfl rfl ?_
        refine y_getr dX11_slip_21 gf_X11_47 sh_0 rfl ?_
        refine y_geti dX11_slip_24 gf_X11_355 sh_25 rfl ?_
        refine y_bipush (v := 12) dX11_slip_27 (by decide) ?_
        refine y_icmp_lt (tgt := 35) dX11_slip_29 (by decide) (fun h29 => absurd h29 (by rw [s1]; decide)) (fun h29 => ?_)
        refine y_bipush (v := -2) dX11_slip_32 (by decide) ?_
        refine y_ireturn dX11_slip_34 rfl rfl ?_
        refine ⟨_, rfl, ?_⟩
        refine y_run (own := "LoafFallModel") rfl (by decide +kernel) (Nat.le_of_ble_eq_true rfl) rfl ?_
        refine y_iload_n dX12_slip_0 rfl rfl ?_
        refine y_isI1 dX12_slip_1 ms_X12_151 my_X12_isPlace (Or.inl rfl) ?_
        refine c_X12_isPlace (fun _ => ⟨_, rfl, ?_⟩) (fun z => absurd hr z)
        refine y_if_eq (tgt := 18) dX12_slip_4 (by decide) (fun h4 => absurd h4 (by decide)) (fun h4 => ?_)
        refine y_iload_n dX12_slip_7 rfl rfl ?_
        refine y_iconst (v := 0) dX12_slip_8 (by decide) ?_
        refine y_sipush (v := 999) dX12_slip_9 (by decide) ?_
        refine y_isI3 dX12_slip_12 ms_X12_86 my_X12_in (Or.inl rfl) ?_
        refine c_X12_in (fun _ _ => ⟨_, rfl, ?_⟩) (fun a => absurd ((in_le (M := 999) (by decide)).mp hx) a)
        refine y_if_ne (tgt := 20) dX12_slip_15 (by decide) (fun h15 => ?_) (fun h15 => absurd h15 (by decide))
        refine y_aload_n dX12_slip_20 rfl rfl ?_
        refine y_geti dX12_slip_21 gf_X12_310 sh_239 rfl ?_
        refine y_bipush (v := 12) dX12_slip_24 (by decide) ?_
        refine y_icmp_ne (tgt := 32) dX12_slip_26 (by decide) (fun h26 => absurd (by rw [s2]; decide) h26) (fun h26 => ?_)
        refine y_bipush (v := -2) dX12_slip_29 (by decide) ?_
        refine y_ireturn dX12_slip_31 rfl rfl ?_
        exact ⟨rfl, h⟩
      · have hs12 : s < 12 := by omega
        refine y_run (own := "LoafFall") rfl (by decide +kernel) (Nat.le_of_ble_eq_true rfl) rfl ?_
        refine y_iload_n dX11_slip_0 rfl rfl ?_
        refine y_isI1 dX11_slip_1 ms_X11_173 my_X11_isDoing (Or.inl rfl) ?_
        refine c_X11_isDoing (fun _ => ⟨_, rfl, ?_⟩) (fun z => absurd hr z)
        refine y_if_eq (tgt := 18) dX11_slip_4 (by decide) (fun h4 => absurd h4 (by decide)) (fun h4 => ?_)
        refine y_iload_n dX11_slip_7 rfl rfl ?_
        refine y_if_lt (tgt := 18) dX11_slip_8 (by decide) (fun h8 => absurd h8 (nI_pos (by omega))) (fun h8 => ?_)
        refine y_iload_n dX11_slip_11 rfl rfl ?_
        refine y_sipush (v := 999) dX11_slip_12 (by decide) ?_
        refine y_icmp_le (tgt := 20) dX11_slip_15 (by decide) (fun h15 => ?_) (fun h15 => absurd (nI_le (b := 999) (by omega) (by omega)) h15)
        refine y_aload_n dX11_slip_20 rfl rfl ?_
        refine y_getr dX11_slip_21 gf_X11_47 sh_0 rfl ?_
        refine y_geti dX11_slip_24 gf_X11_355 sh_25 rfl ?_
        refine y_bipush (v := 12) dX11_slip_27 (by decide) ?_
        refine y_icmp_lt (tgt := 35) dX11_slip_29 (by decide) (fun h29 => ?_) (fun h29 => absurd (by rw [s1]; exact nI_lt (b := 12) hs12 (by decide)) h29)
        refine y_aload_n dX11_slip_35 rfl rfl ?_
        refine y_getr dX11_slip_36 gf_X11_47 sh_0 rfl ?_
        refine y_iload_n dX11_slip_39 rfl rfl ?_
        refine y_iload_n dX11_slip_40 rfl rfl ?_
        refine y_ivV2 dX11_slip_41 mv_X11_356 my_X9_add (Or.inl rfl) sh_25 ?_
        refine c_X9_add s1 hs12 (fun m1 a1 a2 a3 a4 a5 => ⟨rfl, ?_⟩)
        refine y_aload_n dX11_slip_44 rfl rfl ?_
        refine y_getr dX11_slip_45 gf_X11_47 sh_0 rfl ?_
        refine y_geti dX11_slip_48 gf_X11_355 sh_25 rfl ?_
        rw [a5]
        refine y_iconst (v := 1) dX11_slip_51 (by decide) ?_
        refine y_isubN (a := s + 1) (b := 1) dX11_slip_52 rfl rfl (by omega) ?_
        refine y_ireturn dX11_slip_53 rfl rfl ?_
        refine ⟨_, rfl, ?_⟩
        have g : ∀ a, 239 ≤ a → m1 a = m a := fun a ha => a1 a (by omega)
        have q28 : m1 239 28 = nI s := by rw [g _ (by omega)]; exact s2
        refine y_run (own := "LoafFallModel") rfl (by decide +kernel) (Nat.le_of_ble_eq_true rfl) rfl ?_
        refine y_iload_n dX12_slip_0 rfl rfl ?_
        refine y_isI1 dX12_slip_1 ms_X12_151 my_X12_isPlace (Or.inl rfl) ?_
        refine c_X12_isPlace (fun _ => ⟨_, rfl, ?_⟩) (fun z => absurd hr z)
        refine y_if_eq (tgt := 18) dX12_slip_4 (by decide) (fun h4 => absurd h4 (by decide)) (fun h4 => ?_)
        refine y_iload_n dX12_slip_7 rfl rfl ?_
        refine y_iconst (v := 0) dX12_slip_8 (by decide) ?_
        refine y_sipush (v := 999) dX12_slip_9 (by decide) ?_
        refine y_isI3 dX12_slip_12 ms_X12_86 my_X12_in (Or.inl rfl) ?_
        refine c_X12_in (fun _ _ => ⟨_, rfl, ?_⟩) (fun a => absurd ((in_le (M := 999) (by decide)).mp hx) a)
        refine y_if_ne (tgt := 20) dX12_slip_15 (by decide) (fun h15 => ?_) (fun h15 => absurd h15 (by decide))
        refine y_aload_n dX12_slip_20 rfl rfl ?_
        refine y_geti dX12_slip_21 gf_X12_310 sh_239 rfl ?_
        refine y_bipush (v := 12) dX12_slip_24 (by decide) ?_
        refine y_icmp_ne (tgt := 32) dX12_slip_26 (by decide) (fun h26 => ?_) (fun h26 => absurd h26 (by rw [q28]; exact fun e => hf ((nI_eq (by omega) (by decide)).mp e)))
        refine y_aload_n dX12_slip_32 rfl rfl ?_
        refine y_getr dX12_slip_33 gf_X12_69 sh_239 rfl ?_
        refine y_iconst (v := 2) dX12_slip_36 (by decide) ?_
        refine y_aload_n dX12_slip_37 rfl rfl ?_
        refine y_geti dX12_slip_38 gf_X12_310 sh_239 rfl ?_
        rw [q28]
        refine y_imulN (a := 2) (b := s) dX12_slip_41 rfl rfl ?_
        refine y_iload_n dX12_slip_42 rfl rfl ?_
        refine y_iastN dX12_slip_43 sh_259 rfl (by first | omega | decide) (by decide) ?_
        refine y_aload_n dX12_slip_44 rfl rfl ?_
        refine y_getr dX12_slip_45 gf_X12_69 sh_239 rfl ?_
        refine y_iconst (v := 2) dX12_slip_48 (by decide) ?_
        refine y_aload_n dX12_slip_49 rfl rfl ?_
        refine y_geti dX12_slip_50 gf_X12_310 sh_239 rfl ?_
        rw [s_upN (show 239 ≠ 259 by omega), q28]
        refine y_imulN (a := 2) (b := s) dX12_slip_53 rfl rfl ?_
        refine y_iconst (v := 1) dX12_slip_54 (by decide) ?_
        refine y_iaddN (a := 2 * s) (b := 1) dX12_slip_55 rfl rfl ?_
        refine y_iload_n dX12_slip_56 rfl rfl ?_
        refine y_iastN dX12_slip_57 sh_259 rfl (by first | omega | decide) (by decide) ?_
        refine y_aload_n dX12_slip_58 rfl rfl ?_
        refine y_dup dX12_slip_59 rfl ?_
        refine y_geti dX12_slip_60 gf_X12_310 sh_239 rfl ?_
        rw [s_upN (show 239 ≠ 259 by omega), s_upN (show 239 ≠ 259 by omega), q28]
        refine y_iconst (v := 1) dX12_slip_63 (by decide) ?_
        refine y_iaddN (a := s) (b := 1) dX12_slip_64 rfl rfl ?_
        refine y_puti dX12_slip_65 pf_X12_310 sh_239 rfl rfl rfl ?_
        refine y_aload_n dX12_slip_68 rfl rfl ?_
        refine y_geti dX12_slip_69 gf_X12_310 sh_239 rfl ?_
        rw [s_upS, updS]
        refine y_iconst (v := 1) dX12_slip_72 (by decide) ?_
        refine y_isubN (a := s + 1) (b := 1) dX12_slip_73 rfl rfl (by omega) ?_
        refine y_ireturn dX12_slip_74 rfl rfl ?_
        refine ⟨rfl, ?_⟩
        rw [s_upS, s_up2, s_upN (show 239 ≠ 259 by omega)]
        obtain ⟨h1, h2, h3, h4, h5, h6, h7, -, h9⟩ := h
        have eo : ∀ a, (a < 25 ∨ 28 ≤ a) → a ≠ 239 → a ≠ 259 → s_up (s_up m1 259 (upd (upd (m1 259) (2 * s) (nI k)) (2 * s + 1) (nI q))) 239 (upd (m1 239) 28 (nI (s + 1))) a = m a := fun a ha hb hc => by rw [s_upN hb, s_upN hc, a1 a ha]
        have e9 : ∀ j, j ≠ 28 → s_up (s_up m1 259 (upd (upd (m1 259) (2 * s) (nI k)) (2 * s + 1) (nI q))) 239 (upd (m1 239) 28 (nI (s + 1))) 239 j = m 239 j := fun j hj => by rw [s_upS, updN hj, a1 239 (by omega)]
        refine ⟨⟨?_, ?_, ?_, h1.2.2.2⟩, RW_m h2 (fun a ha => eo a (by omega) (by omega) (by omega)), RT_m h3 (fun a ha => eo a (by omega) (by omega) (by omega)), RF_m h4 (fun a ha => eo a (by omega) (by omega) (by omega)), RD_m h5 (fun a ha => eo a (by omega) (by omega) (by omega)), RLo_m h6 (fun a ha => eo a (by omega) (by omega) (by omega)) (by rw [eo 253 (by omega) (by omega) (by omega)]) (fun p hp => by rw [eo 254 (by omega) (by omega) (by omega)]), RK_m h7 (fun a ha => eo a (by omega) (by omega) (by omega)) (fun k hk => by rw [eo 253 (by omega) (by omega) (by omega)]) (fun p h1 h2 => by rw [eo 254 (by omega) (by omega) (by omega)]), ⟨s + 1, by omega, ?_, ?_, fun i hi => ?_⟩, BK_m h9 (fun c h1 h2 => eo c (by omega) (by omega) (by omega))⟩
        · rw [eo 0 (by omega) (by omega) (by omega), e9 0 (by omega)]; exact h1.1
        · rw [eo 0 (by omega) (by omega) (by omega), e9 2 (by omega)]; exact h1.2.1
        · rw [eo 137 (by omega) (by omega) (by omega), eo 240 (by omega) (by omega) (by omega)]; exact h1.2.2.1
        · rw [s_upN (by omega), s_upN (by omega)]; exact a5
        · rw [s_upS, updS]
        · rw [s_upN (show 26 ≠ 239 by omega), s_upN (show 26 ≠ 259 by omega), s_upN (show 27 ≠ 239 by omega), s_upN (show 27 ≠ 259 by omega), s_upN (show 259 ≠ 239 by omega), s_upS]
          by_cases z : i = s
          · rw [z]
            exact ⟨⟨k, hk, a3, by rw [updN (by omega), updS]⟩, q, by omega, a4, updS⟩
          · obtain ⟨b1, b2⟩ := a2 i z
            rw [b1, b2, updN (by omega), updN (by omega), updN (by omega), updN (by omega), a1 259 (by omega)]
            exact s3 i (by omega)
    · refine y_run (own := "LoafFall") rfl (by decide +kernel) (Nat.le_of_ble_eq_true rfl) rfl ?_
      refine y_iload_n dX11_slip_0 rfl rfl ?_
      refine y_isI1 dX11_slip_1 ms_X11_173 my_X11_isDoing (Or.inl rfl) ?_
      refine c_X11_isDoing (fun _ => ⟨_, rfl, ?_⟩) (fun z => absurd hr z)
      refine y_if_eq (tgt := 18) dX11_slip_4 (by decide) (fun h4 => absurd h4 (by decide)) (fun h4 => ?_)
      refine y_iload_n dX11_slip_7 rfl rfl ?_
      refine y_if_lt (tgt := 18) dX11_slip_8 (by decide) (fun h8 => ?_) (fun h8 => ?_)
      · refine y_iconst (v := -1) dX11_slip_18 (by decide) ?_
        refine y_ireturn dX11_slip_19 rfl rfl ?_
        refine ⟨_, rfl, ?_⟩
        refine y_run (own := "LoafFallModel") rfl (by decide +kernel) (Nat.le_of_ble_eq_true rfl) rfl ?_
        refine y_iload_n dX12_slip_0 rfl rfl ?_
        refine y_isI1 dX12_slip_1 ms_X12_151 my_X12_isPlace (Or.inl rfl) ?_
        refine c_X12_isPlace (fun _ => ⟨_, rfl, ?_⟩) (fun z => absurd hr z)
        refine y_if_eq (tgt := 18) dX12_slip_4 (by decide) (fun h4 => absurd h4 (by decide)) (fun h4 => ?_)
        refine y_iload_n dX12_slip_7 rfl rfl ?_
        refine y_iconst (v := 0) dX12_slip_8 (by decide) ?_
        refine y_sipush (v := 999) dX12_slip_9 (by decide) ?_
        refine y_isI3 dX12_slip_12 ms_X12_86 my_X12_in (Or.inl rfl) ?_
        refine c_X12_in (fun a b => absurd ((in_le (M := 999) (by decide)).mpr ⟨a, b⟩) hx) (fun _ => ⟨_, rfl, ?_⟩)
        refine y_if_ne (tgt := 20) dX12_slip_15 (by decide) (fun h15 => absurd (by decide) h15) (fun h15 => ?_)
        refine y_iconst (v := -1) dX12_slip_18 (by decide) ?_
        refine y_ireturn dX12_slip_19 rfl rfl ?_
        exact ⟨rfl, h⟩
      · refine y_iload_n dX11_slip_11 rfl rfl ?_
        refine y_sipush (v := 999) dX11_slip_12 (by decide) ?_
        refine y_icmp_le (tgt := 20) dX11_slip_15 (by decide) (fun h15 => absurd h15 (fun z => hx ((in_le (M := 999) (by decide)).mpr ⟨Int32.not_lt.mp h8, z⟩))) (fun h15 => ?_)
        refine y_iconst (v := -1) dX11_slip_18 (by decide) ?_
        refine y_ireturn dX11_slip_19 rfl rfl ?_
        refine ⟨_, rfl, ?_⟩
        refine y_run (own := "LoafFallModel") rfl (by decide +kernel) (Nat.le_of_ble_eq_true rfl) rfl ?_
        refine y_iload_n dX12_slip_0 rfl rfl ?_
        refine y_isI1 dX12_slip_1 ms_X12_151 my_X12_isPlace (Or.inl rfl) ?_
        refine c_X12_isPlace (fun _ => ⟨_, rfl, ?_⟩) (fun z => absurd hr z)
        refine y_if_eq (tgt := 18) dX12_slip_4 (by decide) (fun h4 => absurd h4 (by decide)) (fun h4 => ?_)
        refine y_iload_n dX12_slip_7 rfl rfl ?_
        refine y_iconst (v := 0) dX12_slip_8 (by decide) ?_
        refine y_sipush (v := 999) dX12_slip_9 (by decide) ?_
        refine y_isI3 dX12_slip_12 ms_X12_86 my_X12_in (Or.inl rfl) ?_
        refine c_X12_in (fun a b => absurd ((in_le (M := 999) (by decide)).mpr ⟨a, b⟩) hx) (fun _ => ⟨_, rfl, ?_⟩)
        refine y_if_ne (tgt := 20) dX12_slip_15 (by decide) (fun h15 => absurd (by decide) h15) (fun h15 => ?_)
        refine y_iconst (v := -1) dX12_slip_18 (by decide) ?_
        refine y_ireturn dX12_slip_19 rfl rfl ?_
        exact ⟨rfl, h⟩
  · refine y_run (own := "LoafFall") rfl (by decide +kernel) (Nat.le_of_ble_eq_true rfl) rfl ?_
    refine y_iload_n dX11_slip_0 rfl rfl ?_
    refine y_isI1 dX11_slip_1 ms_X11_173 my_X11_isDoing (Or.inl rfl) ?_
    refine c_X11_isDoing (fun z => absurd z hr) (fun _ => ⟨_, rfl, ?_⟩)
    refine y_if_eq (tgt := 18) dX11_slip_4 (by decide) (fun h4 => ?_) (fun h4 => absurd (by decide) h4)
    refine y_iconst (v := -1) dX11_slip_18 (by decide) ?_
    refine y_ireturn dX11_slip_19 rfl rfl ?_
    refine ⟨_, rfl, ?_⟩
    refine y_run (own := "LoafFallModel") rfl (by decide +kernel) (Nat.le_of_ble_eq_true rfl) rfl ?_
    refine y_iload_n dX12_slip_0 rfl rfl ?_
    refine y_isI1 dX12_slip_1 ms_X12_151 my_X12_isPlace (Or.inl rfl) ?_
    refine c_X12_isPlace (fun z => absurd z hr) (fun _ => ⟨_, rfl, ?_⟩)
    refine y_if_eq (tgt := 18) dX12_slip_4 (by decide) (fun h4 => ?_) (fun h4 => absurd (by decide) h4)
    refine y_iconst (v := -1) dX12_slip_18 (by decide) ?_
    refine y_ireturn dX12_slip_19 rfl rfl ?_
    exact ⟨rfl, h⟩
