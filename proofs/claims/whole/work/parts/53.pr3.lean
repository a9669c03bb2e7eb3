/-! ===== lay, at, tear, put ===== -/
theorem byn (x : Int32) : narrow .byte (.int x.toInt8.toInt32) = .int x.toInt8.toInt32 := by
  show Value.int (x.toInt8.toInt32).toInt8.toInt32 = _
  rw [Int8.toInt8_toInt32]
set_option maxHeartbeats 2000000 in
theorem p_lay {L : Nat} {xs : Nat → Int32} {d : Nat} {m : sM} {n : sN} {r x v : Int32} (h : Rel m n) : PI L xs (d + 11) yX11_lay cX11_lay 6 yX12_lay cX12_lay 5 [.int r, .int x, .int v] m n := by
  unfold PI
  by_cases hr : inN r 6
  · obtain ⟨k, hk, rfl⟩ := hr
    have hr : inN (nI k) 6 := ⟨k, hk, rfl⟩
    rcases h.w k hk with ⟨s1, s2⟩ | ⟨s, hs, s1, s2, s3⟩
    · refine y_run (own := "LoafFall") rfl (by decide +kernel) (Nat.le_of_ble_eq_true rfl) rfl ?_
      refine y_iload_n dX11_lay_0 rfl rfl ?_
      refine y_isI1 dX11_lay_1 ms_X11_101 my_X11_isRow (Or.inl rfl) ?_
      refine c_X11_isRow (fun _ => ⟨_, rfl, ?_⟩) (fun z => absurd hr z)
      refine y_if_ne (tgt := 9) dX11_lay_4 (by decide) (fun h4 => ?_) (fun h4 => absurd h4 (by decide))
      refine y_aload_n dX11_lay_9 rfl rfl ?_
      refine y_iload_n dX11_lay_10 rfl rfl ?_
      refine y_iload_n dX11_lay_11 rfl rfl ?_
      refine y_ivI2 dX11_lay_12 mv_X11_113 my_X11_lackOfPlace (Or.inl rfl) sh_0 ?_
      refine c_X11_lackOfPlace rfl hk (fun _ => ⟨_, rfl, ?_⟩) (fun z => absurd s2 z) (fun z => absurd s2 z)
      refine y_ist6_4 dX11_lay_15 rfl ?_
      refine y_iload dX11_lay_17 rfl ?_
      refine y_if_eq (tgt := 29) dX11_lay_19 (by decide) (fun h19 => absurd h19 (by decide)) (fun h19 => ?_)
      refine y_aload_n dX11_lay_22 rfl rfl ?_
      refine y_iload dX11_lay_23 rfl ?_
      refine y_ivI1 dX11_lay_25 mv_X11_105 my_X11_found (Or.inl rfl) sh_0 ?_
      refine c_X11_found (f := 1) rfl (by omega) (by omega) ⟨_, rfl, ?_⟩
      refine y_ireturn dX11_lay_28 rfl rfl ?_
      refine ⟨_, rfl, ?_⟩
      obtain ⟨m1, em⟩ : ∃ m1, m1 = foundM m 1 := ⟨_, rfl⟩
      rw [← em]
      have g : ∀ a, 138 ≤ a → m1 a = m a := fun a ha => by rw [em]; exact found_o (by omega) (by omega)
      refine y_run (own := "LoafFallModel") rfl (by decide +kernel) (Nat.le_of_ble_eq_true rfl) rfl ?_
      refine y_iload_n dX12_lay_0 rfl rfl ?_
      refine y_isI1 dX12_lay_1 ms_X12_96 my_X12_isRow (Or.inl rfl) ?_
      refine c_X12_isRow (fun _ => ⟨_, rfl, ?_⟩) (fun z => absurd hr z)
      refine y_if_ne (tgt := 9) dX12_lay_4 (by decide) (fun h4 => ?_) (fun h4 => absurd h4 (by decide))
      refine y_aload_n dX12_lay_9 rfl rfl ?_
      refine y_getr dX12_lay_10 gf_X12_13 sh_239 rfl ?_
      refine y_iload_n dX12_lay_13 rfl rfl ?_
      refine y_ialdN dX12_lay_14 sh_241 rfl (by first | omega | decide) (by decide) ?_
      refine y_if_ge (tgt := 24) dX12_lay_15 (by decide) (fun h15 => absurd h15 (by rw [g _ (by omega), s1]; decide)) (fun h15 => ?_)
      refine y_aload_n dX12_lay_18 rfl rfl ?_
      refine y_iconst (v := 1) dX12_lay_19 (by decide) ?_
      refine y_ivI1 dX12_lay_20 mv_X12_100 my_X12_meets (Or.inl rfl) sh_239 ?_
      refine c_X12_meets (f := 1) rfl (by omega) ⟨_, rfl, ?_⟩
      refine y_ireturn dX12_lay_23 rfl rfl ?_
      exact ⟨rfl, by rw [em]; exact Rel_met h⟩
    · have n1 : ¬ m (138 + 2 * k) 1 = -1 := by rw [s2]; exact nI_m1 (by omega)
      by_cases hi : inN x s
      · obtain ⟨j, hj, rfl⟩ := hi
        have hi : inN (nI j) s := ⟨j, hj, rfl⟩
        refine y_run (own := "LoafFall") rfl (by decide +kernel) (Nat.le_of_ble_eq_true rfl) rfl ?_
        refine y_iload_n dX11_lay_0 rfl rfl ?_
        refine y_isI1 dX11_lay_1 ms_X11_101 my_X11_isRow (Or.inl rfl) ?_
        refine c_X11_isRow (fun _ => ⟨_, rfl, ?_⟩) (fun z => absurd hr z)
        refine y_if_ne (tgt := 9) dX11_lay_4 (by decide) (fun h4 => ?_) (fun h4 => absurd h4 (by decide))
        refine y_aload_n dX11_lay_9 rfl rfl ?_
        refine y_iload_n dX11_lay_10 rfl rfl ?_
        refine y_iload_n dX11_lay_11 rfl rfl ?_
        refine y_ivI2 dX11_lay_12 mv_X11_113 my_X11_lackOfPlace (Or.inl rfl) sh_0 ?_
        refine c_X11_lackOfPlace rfl hk (fun z => absurd z n1) (fun _ _ _ => ⟨_, rfl, ?_⟩) (fun _ z => z.elim (fun a => absurd a (nI_pos (by omega))) (fun a => absurd a (by rw [s2]; exact nI_ge hj (by omega))))
        refine y_ist6_4 dX11_lay_15 rfl ?_
        refine y_iload dX11_lay_17 rfl ?_
        refine y_if_eq (tgt := 29) dX11_lay_19 (by decide) (fun h19 => ?_) (fun h19 => absurd (by decide) h19)
        refine y_aload_n dX11_lay_29 rfl rfl ?_
        refine y_getr dX11_lay_30 gf_X11_11 sh_0 rfl ?_
        refine y_iload_n dX11_lay_33 rfl rfl ?_
        refine y_aaldN dX11_lay_34 (by decide) sh_1 rfl (rwA (k := k) (by omega)) (by decide) ?_
        refine y_getr dX11_lay_35 gf_X11_117 (rwI (k := k) (by omega)).1 rfl ?_
        refine y_iload_n dX11_lay_38 rfl rfl ?_
        refine y_ialdN dX11_lay_39 (rwI (k := k) (by omega)).2 rfl (by first | omega | decide) (by decide) ?_
        refine y_ist6_5 dX11_lay_40 rfl ?_
        refine y_aload_n dX11_lay_42 rfl rfl ?_
        refine y_getr dX11_lay_43 gf_X11_11 sh_0 rfl ?_
        refine y_iload_n dX11_lay_46 rfl rfl ?_
        refine y_aaldN dX11_lay_47 (by decide) sh_1 rfl (rwA (k := k) (by omega)) (by decide) ?_
        refine y_getr dX11_lay_48 gf_X11_117 (rwI (k := k) (by omega)).1 rfl ?_
        refine y_iload_n dX11_lay_51 rfl rfl ?_
        refine y_iload_n dX11_lay_52 rfl rfl ?_
        refine y_iastN dX11_lay_53 (rwI (k := k) (by omega)).2 rfl (by first | omega | decide) (by decide) ?_
        refine y_aload_n dX11_lay_54 rfl rfl ?_
        refine y_iload dX11_lay_55 rfl ?_
        refine y_ivI1 dX11_lay_57 mv_X11_120 my_X11_tell (Or.inl rfl) sh_0 ?_
        refine c_X11_tell ⟨_, rfl, ?_⟩
        refine y_ireturn dX11_lay_60 rfl rfl ?_
        refine ⟨_, rfl, ?_⟩
        generalize em : tellM (s_up m (138 + 2 * k + 1) (upd (m (138 + 2 * k + 1)) j v)) (m (138 + 2 * k + 1) j) = m1
        have g : ∀ a, 239 ≤ a → m1 a = m a := fun a ha => by rw [← em, tell_o (by omega), s_upN (by omega)]
        refine y_run (own := "LoafFallModel") rfl (by decide +kernel) (Nat.le_of_ble_eq_true rfl) rfl ?_
        refine y_iload_n dX12_lay_0 rfl rfl ?_
        refine y_isI1 dX12_lay_1 ms_X12_96 my_X12_isRow (Or.inl rfl) ?_
        refine c_X12_isRow (fun _ => ⟨_, rfl, ?_⟩) (fun z => absurd hr z)
        refine y_if_ne (tgt := 9) dX12_lay_4 (by decide) (fun h4 => ?_) (fun h4 => absurd h4 (by decide))
        refine y_aload_n dX12_lay_9 rfl rfl ?_
        refine y_getr dX12_lay_10 gf_X12_13 sh_239 rfl ?_
        refine y_iload_n dX12_lay_13 rfl rfl ?_
        refine y_ialdN dX12_lay_14 sh_241 rfl (by first | omega | decide) (by decide) ?_
        refine y_if_ge (tgt := 24) dX12_lay_15 (by decide) (fun h15 => ?_) (fun h15 => absurd (by rw [g _ (by omega), s1]; exact nI_pos' (by omega)) h15)
        refine y_iload_n dX12_lay_24 rfl rfl ?_
        refine y_iconst (v := 0) dX12_lay_25 (by decide) ?_
        refine y_aload_n dX12_lay_26 rfl rfl ?_
        refine y_getr dX12_lay_27 gf_X12_13 sh_239 rfl ?_
        refine y_iload_n dX12_lay_30 rfl rfl ?_
        refine y_ialdN dX12_lay_31 sh_241 rfl (by first | omega | decide) (by decide) ?_
        refine y_iconst (v := 1) dX12_lay_32 (by decide) ?_
        refine y_isub dX12_lay_33 ?_
        refine y_isI3 dX12_lay_34 ms_X12_86 my_X12_in (Or.inl rfl) ?_
        refine c_X12_in (fun _ _ => ⟨_, rfl, ?_⟩) (fun a => absurd (by rw [g _ (by omega), s1]; exact (in_s (by omega)).mp hi) a)
        refine y_if_ne (tgt := 46) dX12_lay_37 (by decide) (fun h37 => ?_) (fun h37 => absurd h37 (by decide))
        refine y_aload_n dX12_lay_46 rfl rfl ?_
        refine y_iload_n dX12_lay_47 rfl rfl ?_
        refine y_iload_n dX12_lay_48 rfl rfl ?_
        refine y_ivI2 dX12_lay_49 mv_X12_104 my_X12_rowAt (Or.inl rfl) sh_239 ?_
        refine c_X12_rowAt (r := k) (i := j) rfl hk rfl (by omega) ⟨_, rfl, ?_⟩
        refine y_ist5_4 dX12_lay_52 rfl ?_
        refine y_aload_n dX12_lay_54 rfl rfl ?_
        refine y_getr dX12_lay_55 gf_X12_16 sh_239 rfl ?_
        refine y_bipush (v := 40) dX12_lay_58 (by decide) ?_
        refine y_iload_n dX12_lay_60 rfl rfl ?_
        refine y_imulN (a := 40) (b := k) dX12_lay_61 rfl rfl ?_
        refine y_iload_n dX12_lay_62 rfl rfl ?_
        refine y_iaddN (a := 40 * k) (b := j) dX12_lay_63 rfl rfl ?_
        refine y_iload_n dX12_lay_64 rfl rfl ?_
        refine y_iastN dX12_lay_65 sh_242 rfl (by first | omega | decide) (by decide) ?_
        refine y_aload_n dX12_lay_66 rfl rfl ?_
        refine y_iload dX12_lay_67 rfl ?_
        refine y_iconst (v := 1) dX12_lay_69 (by decide) ?_
        refine y_ivI2 dX12_lay_70 mv_X12_108 my_X12_tells (Or.inl rfl) sh_239 ?_
        refine c_X12_tells ⟨_, rfl, ?_⟩
        refine y_ireturn dX12_lay_73 rfl rfl ?_
        have ev : m1 242 (40 * k + j) = m (138 + 2 * k + 1) j := by rw [g _ (by omega), s3 j hj]
        rw [ev]
        have eo : ∀ a, a ≠ 0 → a ≠ 138 + 2 * k + 1 → m1 a = m a := fun a h0 h1 => by rw [← em, tell_o h0, s_upN h1]
        have e0 : m1 0 = upd (m 0) 17 (m (138 + 2 * k + 1) j) := by rw [← em]; unfold tellM; rw [s_upS, s_upN (by omega)]
        have e1 : m1 (138 + 2 * k + 1) = upd (m (138 + 2 * k + 1)) j v := by rw [← em, tell_o (by omega), s_upS]
        refine ⟨rfl, Rel_W (k := k) h (RA_tell (v := m (138 + 2 * k + 1) j) h.1 ?_ ?_ ?_ ?_) (fun a ha => ?_) ?_ (fun r hr hne => ⟨?_, ?_, ?_, fun i hi => ?_⟩) (Or.inr ⟨s, hs, ?_, ?_, fun i hi => ?_⟩)⟩
        · rw [tells_o (by omega), s_upN (by omega)]; exact e0
        · unfold tellsM; rw [s_upS, s_upN (by omega), g _ (by omega)]
        · rw [tells_o (by omega), s_upN (by omega), eo _ (by omega) (by omega)]
        · rw [tells_o (by omega), s_upN (by omega), eo _ (by omega) (by omega)]
        · rw [tells_o (by omega), s_upN (by omega), eo _ (by omega) (by omega)]
        · unfold tellsM; rw [s_upS, s_upN (by omega), updN (by omega), g _ (by omega)]
        · rw [tells_o (by omega), s_upN (by omega), eo _ (by omega) (by omega)]
        · rw [tells_o (by omega), s_upN (by omega), eo _ (by omega) (by omega)]
        · rw [tells_o (by omega), s_upN (by omega), eo _ (by omega) (by omega)]
        · rw [tells_o (by omega), s_upS, updN (by omega), g _ (by omega)]
        · rw [tells_o (by omega), s_upN (by omega), eo _ (by omega) (by omega)]; exact s1
        · rw [tells_o (by omega), s_upN (by omega), eo _ (by omega) (by omega)]; exact s2
        · rw [tells_o (by omega), tells_o (by omega), s_upN (by omega), s_upS, e1, upd_ap, upd_ap, g _ (by omega)]
          by_cases z : i = j
          · rw [if_pos z, if_pos (by omega)]
          · rw [if_neg z, if_neg (by omega)]; exact s3 i hi
      · refine y_run (own := "LoafFall") rfl (by decide +kernel) (Nat.le_of_ble_eq_true rfl) rfl ?_
        refine y_iload_n dX11_lay_0 rfl rfl ?_
        refine y_isI1 dX11_lay_1 ms_X11_101 my_X11_isRow (Or.inl rfl) ?_
        refine c_X11_isRow (fun _ => ⟨_, rfl, ?_⟩) (fun z => absurd hr z)
        refine y_if_ne (tgt := 9) dX11_lay_4 (by decide) (fun h4 => ?_) (fun h4 => absurd h4 (by decide))
        refine y_aload_n dX11_lay_9 rfl rfl ?_
        refine y_iload_n dX11_lay_10 rfl rfl ?_
        refine y_iload_n dX11_lay_11 rfl rfl ?_
        refine y_ivI2 dX11_lay_12 mv_X11_113 my_X11_lackOfPlace (Or.inl rfl) sh_0 ?_
        refine c_X11_lackOfPlace rfl hk (fun z => absurd z n1) (fun _ a b => absurd ((in_lt (by omega)).mpr ⟨a, by rw [s2] at b; exact b⟩) hi) (fun _ _ => ⟨_, rfl, ?_⟩)
        refine y_ist6_4 dX11_lay_15 rfl ?_
        refine y_iload dX11_lay_17 rfl ?_
        refine y_if_eq (tgt := 29) dX11_lay_19 (by decide) (fun h19 => absurd h19 (by decide)) (fun h19 => ?_)
        refine y_aload_n dX11_lay_22 rfl rfl ?_
        refine y_iload dX11_lay_23 rfl ?_
        refine y_ivI1 dX11_lay_25 mv_X11_105 my_X11_found (Or.inl rfl) sh_0 ?_
        refine c_X11_found (f := 2) rfl (by omega) (by omega) ⟨_, rfl, ?_⟩
        refine y_ireturn dX11_lay_28 rfl rfl ?_
        refine ⟨_, rfl, ?_⟩
        obtain ⟨m1, em⟩ : ∃ m1, m1 = foundM m 2 := ⟨_, rfl⟩
        rw [← em]
        have g : ∀ a, 138 ≤ a → m1 a = m a := fun a ha => by rw [em]; exact found_o (by omega) (by omega)
        refine y_run (own := "LoafFallModel") rfl (by decide +kernel) (Nat.le_of_ble_eq_true rfl) rfl ?_
        refine y_iload_n dX12_lay_0 rfl rfl ?_
        refine y_isI1 dX12_lay_1 ms_X12_96 my_X12_isRow (Or.inl rfl) ?_
        refine c_X12_isRow (fun _ => ⟨_, rfl, ?_⟩) (fun z => absurd hr z)
        refine y_if_ne (tgt := 9) dX12_lay_4 (by decide) (fun h4 => ?_) (fun h4 => absurd h4 (by decide))
        refine y_aload_n dX12_lay_9 rfl rfl ?_
        refine y_getr dX12_lay_10 gf_X12_13 sh_239 rfl ?_
        refine y_iload_n dX12_lay_13 rfl rfl ?_
        refine y_ialdN dX12_lay_14 sh_241 rfl (by first | omega | decide) (by decide) ?_
        refine y_if_ge (tgt := 24) dX12_lay_15 (by decide) (fun h15 => ?_) (fun h15 => absurd (by rw [g _ (by omega), s1]; exact nI_pos' (by omega)) h15)
        refine y_iload_n dX12_lay_24 rfl rfl ?_
        refine y_iconst (v := 0) dX12_lay_25 (by decide) ?_
        refine y_aload_n dX12_lay_26 rfl rfl ?_
        refine y_getr dX12_lay_27 gf_X12_13 sh_239 rfl ?_
        refine y_iload_n dX12_lay_30 rfl rfl ?_
        refine y_ialdN dX12_lay_31 sh_241 rfl (by first | omega | decide) (by decide) ?_
        refine y_iconst (v := 1) dX12_lay_32 (by decide) ?_
        refine y_isub dX12_lay_33 ?_
        refine y_isI3 dX12_lay_34 ms_X12_86 my_X12_in (Or.inl rfl) ?_
        refine c_X12_in (fun a b => absurd ((in_s (by omega)).mpr ⟨a, by rw [g _ (by omega), s1] at b; exact b⟩) hi) (fun _ => ⟨_, rfl, ?_⟩)
        refine y_if_ne (tgt := 46) dX12_lay_37 (by decide) (fun h37 => absurd (by decide) h37) (fun h37 => ?_)
        refine y_aload_n dX12_lay_40 rfl rfl ?_
        refine y_iconst (v := 2) dX12_lay_41 (by decide) ?_
        refine y_ivI1 dX12_lay_42 mv_X12_100 my_X12_meets (Or.inl rfl) sh_239 ?_
        refine c_X12_meets (f := 2) rfl (by omega) ⟨_, rfl, ?_⟩
        refine y_ireturn dX12_lay_45 rfl rfl ?_
        exact ⟨rfl, by rw [em]; exact Rel_met h⟩
  · refine y_run (own := "LoafFall") rfl (by decide +kernel) (Nat.le_of_ble_eq_true rfl) rfl ?_
    refine y_iload_n dX11_lay_0 rfl rfl ?_
    refine y_isI1 dX11_lay_1 ms_X11_101 my_X11_isRow (Or.inl rfl) ?_
    refine c_X11_isRow (fun z => absurd z hr) (fun _ => ⟨_, rfl, ?_⟩)
    refine y_if_ne (tgt := 9) dX11_lay_4 (by decide) (fun h4 => absurd (by decide) h4) (fun h4 => ?_)
    refine y_iconst (v := -1) dX11_lay_7 (by decide) ?_
    refine y_ireturn dX11_lay_8 rfl rfl ?_
    refine ⟨_, rfl, ?_⟩
    refine y_run (own := "LoafFallModel") rfl (by decide +kernel) (Nat.le_of_ble_eq_true rfl) rfl ?_
    refine y_iload_n dX12_lay_0 rfl rfl ?_
    refine y_isI1 dX12_lay_1 ms_X12_96 my_X12_isRow (Or.inl rfl) ?_
    refine c_X12_isRow (fun z => absurd z hr) (fun _ => ⟨_, rfl, ?_⟩)
    refine y_if_ne (tgt := 9) dX12_lay_4 (by decide) (fun h4 => absurd (by decide) h4) (fun h4 => ?_)
    refine y_iconst (v := -1) dX12_lay_7 (by decide) ?_
    refine y_ireturn dX12_lay_8 rfl rfl ?_
    exact ⟨rfl, h⟩
set_option maxHeartbeats 2000000 in
theorem p_at {L : Nat} {xs : Nat → Int32} {d : Nat} {m : sM} {n : sN} {r x : Int32} (h : Rel m n) : PI L xs (d + 11) yX11_at cX11_at 4 yX12_at cX12_at 3 [.int r, .int x] m n := by
  unfold PI
  by_cases hr : inN r 6
  · obtain ⟨k, hk, rfl⟩ := hr
    have hr : inN (nI k) 6 := ⟨k, hk, rfl⟩
    rcases h.w k hk with ⟨s1, s2⟩ | ⟨s, hs, s1, s2, s3⟩
    · refine y_run (own := "LoafFall") rfl (by decide +kernel) (Nat.le_of_ble_eq_true rfl) rfl ?_
      refine y_iload_n dX11_at_0 rfl rfl ?_
      refine y_isI1 dX11_at_1 ms_X11_101 my_X11_isRow (Or.inl rfl) ?_
      refine c_X11_isRow (fun _ => ⟨_, rfl, ?_⟩) (fun z => absurd hr z)
      refine y_if_ne (tgt := 9) dX11_at_4 (by decide) (fun h4 => ?_) (fun h4 => absurd h4 (by decide))
      refine y_aload_n dX11_at_9 rfl rfl ?_
      refine y_iload_n dX11_at_10 rfl rfl ?_
      refine y_iload_n dX11_at_11 rfl rfl ?_
      refine y_ivI2 dX11_at_12 mv_X11_113 my_X11_lackOfPlace (Or.inl rfl) sh_0 ?_
      refine c_X11_lackOfPlace rfl hk (fun _ => ⟨_, rfl, ?_⟩) (fun z => absurd s2 z) (fun z => absurd s2 z)
      refine y_ist4_3 dX11_at_15 rfl ?_
      refine y_iload_n dX11_at_16 rfl rfl ?_
      refine y_if_eq (tgt := 28) dX11_at_17 (by decide) (fun h17 => absurd h17 (by decide)) (fun h17 => ?_)
      refine y_aload_n dX11_at_20 rfl rfl ?_
      refine y_iload_n dX11_at_21 rfl rfl ?_
      refine y_ivI1 dX11_at_22 mv_X11_105 my_X11_found (Or.inl rfl) sh_0 ?_
      refine c_X11_found (f := 1) rfl (by omega) (by omega) ⟨_, rfl, ?_⟩
      refine y_goto (tgt := 43) dX11_at_25 (by decide) ?_
      refine y_ireturn dX11_at_43 rfl rfl ?_
      refine ⟨_, rfl, ?_⟩
      obtain ⟨m1, em⟩ : ∃ m1, m1 = foundM m 1 := ⟨_, rfl⟩
      rw [← em]
      have g : ∀ a, 138 ≤ a → m1 a = m a := fun a ha => by rw [em]; exact found_o (by omega) (by omega)
      refine y_run (own := "LoafFallModel") rfl (by decide +kernel) (Nat.le_of_ble_eq_true rfl) rfl ?_
      refine y_iload_n dX12_at_0 rfl rfl ?_
      refine y_isI1 dX12_at_1 ms_X12_96 my_X12_isRow (Or.inl rfl) ?_
      refine c_X12_isRow (fun _ => ⟨_, rfl, ?_⟩) (fun z => absurd hr z)
      refine y_if_ne (tgt := 9) dX12_at_4 (by decide) (fun h4 => ?_) (fun h4 => absurd h4 (by decide))
      refine y_aload_n dX12_at_9 rfl rfl ?_
      refine y_getr dX12_at_10 gf_X12_13 sh_239 rfl ?_
      refine y_iload_n dX12_at_13 rfl rfl ?_
      refine y_ialdN dX12_at_14 sh_241 rfl (by first | omega | decide) (by decide) ?_
      refine y_if_ge (tgt := 24) dX12_at_15 (by decide) (fun h15 => absurd h15 (by rw [g _ (by omega), s1]; decide)) (fun h15 => ?_)
      refine y_aload_n dX12_at_18 rfl rfl ?_
      refine y_iconst (v := 1) dX12_at_19 (by decide) ?_
      refine y_ivI1 dX12_at_20 mv_X12_100 my_X12_meets (Or.inl rfl) sh_239 ?_
      refine c_X12_meets (f := 1) rfl (by omega) ⟨_, rfl, ?_⟩
      refine y_ireturn dX12_at_23 rfl rfl ?_
      exact ⟨rfl, by rw [em]; exact Rel_met h⟩
    · have n1 : ¬ m (138 + 2 * k) 1 = -1 := by rw [s2]; exact nI_m1 (by omega)
      by_cases hi : inN x s
      · obtain ⟨j, hj, rfl⟩ := hi
        have hi : inN (nI j) s := ⟨j, hj, rfl⟩
        refine y_run (own := "LoafFall") rfl (by decide +kernel) (Nat.le_of_ble_eq_true rfl) rfl ?_
        refine y_iload_n dX11_at_0 rfl rfl ?_
        refine y_isI1 dX11_at_1 ms_X11_101 my_X11_isRow (Or.inl rfl) ?_
        refine c_X11_isRow (fun _ => ⟨_, rfl, ?_⟩) (fun z => absurd hr z)
        refine y_if_ne (tgt := 9) dX11_at_4 (by decide) (fun h4 => ?_) (fun h4 => absurd h4 (by decide))
        refine y_aload_n dX11_at_9 rfl rfl ?_
        refine y_iload_n dX11_at_10 rfl rfl ?_
        refine y_iload_n dX11_at_11 rfl rfl ?_
        refine y_ivI2 dX11_at_12 mv_X11_113 my_X11_lackOfPlace (Or.inl rfl) sh_0 ?_
        refine c_X11_lackOfPlace rfl hk (fun z => absurd z n1) (fun _ _ _ => ⟨_, rfl, ?_⟩) (fun _ z => z.elim (fun a => absurd a (nI_pos (by omega))) (fun a => absurd a (by rw [s2]; exact nI_ge hj (by omega))))
        refine y_ist4_3 dX11_at_15 rfl ?_
        refine y_iload_n dX11_at_16 rfl rfl ?_
        refine y_if_eq (tgt := 28) dX11_at_17 (by decide) (fun h17 => ?_) (fun h17 => absurd (by decide) h17)
        refine y_aload_n dX11_at_28 rfl rfl ?_
        refine y_aload_n dX11_at_29 rfl rfl ?_
        refine y_getr dX11_at_30 gf_X11_11 sh_0 rfl ?_
        refine y_iload_n dX11_at_33 rfl rfl ?_
        refine y_aaldN dX11_at_34 (by decide) sh_1 rfl (rwA (k := k) (by omega)) (by decide) ?_
        refine y_getr dX11_at_35 gf_X11_117 (rwI (k := k) (by omega)).1 rfl ?_
        refine y_iload_n dX11_at_38 rfl rfl ?_
        refine y_ialdN dX11_at_39 (rwI (k := k) (by omega)).2 rfl (by first | omega | decide) (by decide) ?_
        refine y_ivI1 dX11_at_40 mv_X11_120 my_X11_tell (Or.inl rfl) sh_0 ?_
        refine c_X11_tell ⟨_, rfl, ?_⟩
        refine y_ireturn dX11_at_43 rfl rfl ?_
        refine ⟨_, rfl, ?_⟩
        generalize em : tellM m (m (138 + 2 * k + 1) j) = m1
        have g : ∀ a, 239 ≤ a → m1 a = m a := fun a ha => by rw [← em, tell_o (by omega)]
        refine y_run (own := "LoafFallModel") rfl (by decide +kernel) (Nat.le_of_ble_eq_true rfl) rfl ?_
        refine y_iload_n dX12_at_0 rfl rfl ?_
        refine y_isI1 dX12_at_1 ms_X12_96 my_X12_isRow (Or.inl rfl) ?_
        refine c_X12_isRow (fun _ => ⟨_, rfl, ?_⟩) (fun z => absurd hr z)
        refine y_if_ne (tgt := 9) dX12_at_4 (by decide) (fun h4 => ?_) (fun h4 => absurd h4 (by decide))
        refine y_aload_n dX12_at_9 rfl rfl ?_
        refine y_getr dX12_at_10 gf_X12_13 sh_239 rfl ?_
        refine y_iload_n dX12_at_13 rfl rfl ?_
        refine y_ialdN dX12_at_14 sh_241 rfl (by first | omega | decide) (by decide) ?_
        refine y_if_ge (tgt := 24) dX12_at_15 (by decide) (fun h15 => ?_) (fun h15 => absurd (by rw [g _ (by omega), s1]; exact nI_pos' (by omega)) h15)
        refine y_iload_n dX12_at_24 rfl rfl ?_
        refine y_iconst (v := 0) dX12_at_25 (by decide) ?_
        refine y_aload_n dX12_at_26 rfl rfl ?_
        refine y_getr dX12_at_27 gf_X12_13 sh_239 rfl ?_
        refine y_iload_n dX12_at_30 rfl rfl ?_
        refine y_ialdN dX12_at_31 sh_241 rfl (by first | omega | decide) (by decide) ?_
        refine y_iconst (v := 1) dX12_at_32 (by decide) ?_
        refine y_isub dX12_at_33 ?_
        refine y_isI3 dX12_at_34 ms_X12_86 my_X12_in (Or.inl rfl) ?_
        refine c_X12_in (fun _ _ => ⟨_, rfl, ?_⟩) (fun a => absurd (by rw [g _ (by omega), s1]; exact (in_s (by omega)).mp hi) a)
        refine y_if_eq (tgt := 54) dX12_at_37 (by decide) (fun h37 => absurd h37 (by decide)) (fun h37 => ?_)
        refine y_aload_n dX12_at_40 rfl rfl ?_
        refine y_aload_n dX12_at_41 rfl rfl ?_
        refine y_iload_n dX12_at_42 rfl rfl ?_
        refine y_iload_n dX12_at_43 rfl rfl ?_
        refine y_ivI2 dX12_at_44 mv_X12_104 my_X12_rowAt (Or.inl rfl) sh_239 ?_
        refine c_X12_rowAt (r := k) (i := j) rfl hk rfl (by omega) ⟨_, rfl, ?_⟩
        refine y_iconst (v := 1) dX12_at_47 (by decide) ?_
        refine y_ivI2 dX12_at_48 mv_X12_108 my_X12_tells (Or.inl rfl) sh_239 ?_
        refine c_X12_tells ⟨_, rfl, ?_⟩
        refine y_goto (tgt := 59) dX12_at_51 (by decide) ?_
        refine y_ireturn dX12_at_59 rfl rfl ?_
        rw [show m1 242 (40 * k + j) = m (138 + 2 * k + 1) j from by rw [g _ (by omega), s3 j hj], ← em]
        exact ⟨rfl, Rel_told h⟩
      · refine y_run (own := "LoafFall") rfl (by decide +kernel) (Nat.le_of_ble_eq_true rfl) rfl ?_
        refine y_iload_n dX11_at_0 rfl rfl ?_
        refine y_isI1 dX11_at_1 ms_X11_101 my_X11_isRow (Or.inl rfl) ?_
        refine c_X11_isRow (fun _ => ⟨_, rfl, ?_⟩) (fun z => absurd hr z)
        refine y_if_ne (tgt := 9) dX11_at_4 (by decide) (fun h4 => ?_) (fun h4 => absurd h4 (by decide))
        refine y_aload_n dX11_at_9 rfl rfl ?_
        refine y_iload_n dX11_at_10 rfl rfl ?_
        refine y_iload_n dX11_at_11 rfl rfl ?_
        refine y_ivI2 dX11_at_12 mv_X11_113 my_X11_lackOfPlace (Or.inl rfl) sh_0 ?_
        refine c_X11_lackOfPlace rfl hk (fun z => absurd z n1) (fun _ a b => absurd ((in_lt (by omega)).mpr ⟨a, by rw [s2] at b; exact b⟩) hi) (fun _ _ => ⟨_, rfl, ?_⟩)
        refine y_ist4_3 dX11_at_15 rfl ?_
        refine y_iload_n dX11_at_16 rfl rfl ?_
        refine y_if_eq (tgt := 28) dX11_at_17 (by decide) (fun h17 => absurd h17 (by decide)) (fun h17 => ?_)
        refine y_aload_n dX11_at_20 rfl rfl ?_
        refine y_iload_n dX11_at_21 rfl rfl ?_
        refine y_ivI1 dX11_at_22 mv_X11_105 my_X11_found (Or.inl rfl) sh_0 ?_
        refine c_X11_found (f := 2) rfl (by omega) (by omega) ⟨_, rfl, ?_⟩
        refine y_goto (tgt := 43) dX11_at_25 (by decide) ?_
        refine y_ireturn dX11_at_43 rfl rfl ?_
        refine ⟨_, rfl, ?_⟩
        obtain ⟨m1, em⟩ : ∃ m1, m1 = foundM m 2 := ⟨_, rfl⟩
        rw [← em]
        have g : ∀ a, 138 ≤ a → m1 a = m a := fun a ha => by rw [em]; exact found_o (by omega) (by omega)
        refine y_run (own := "LoafFallModel") rfl (by decide +kernel) (Nat.le_of_ble_eq_true rfl) rfl ?_
        refine y_iload_n dX12_at_0 rfl rfl ?_
        refine y_isI1 dX12_at_1 ms_X12_96 my_X12_isRow (Or.inl rfl) ?_
        refine c_X12_isRow (fun _ => ⟨_, rfl, ?_⟩) (fun z => absurd hr z)
        refine y_if_ne (tgt := 9) dX12_at_4 (by decide) (fun h4 => ?_) (fun h4 => absurd h4 (by decide))
        refine y_aload_n dX12_at_9 rfl rfl ?_
        refine y_getr dX12_at_10 gf_X12_13 sh_239 rfl ?_
        refine y_iload_n dX12_at_13 rfl rfl ?_
        refine y_ialdN dX12_at_14 sh_241 rfl (by first | omega | decide) (by decide) ?_
        refine y_if_ge (tgt := 24) dX12_at_15 (by decide) (fun h15 => ?_) (fun h15 => absurd (by rw [g _ (by omega), s1]; exact nI_pos' (by omega)) h15)
        refine y_iload_n dX12_at_24 rfl rfl ?_
        refine y_iconst (v := 0) dX12_at_25 (by decide) ?_
        refine y_aload_n dX12_at_26 rfl rfl ?_
        refine y_getr dX12_at_27 gf_X12_13 sh_239 rfl ?_
        refine y_iload_n dX12_at_30 rfl rfl ?_
        refine y_ialdN dX12_at_31 sh_241 rfl (by first | omega | decide) (by decide) ?_
        refine y_iconst (v := 1) dX12_at_32 (by decide) ?_
        refine y_isub dX12_at_33 ?_
        refine y_isI3 dX12_at_34 ms_X12_86 my_X12_in (Or.inl rfl) ?_
        refine c_X12_in (fun a b => absurd ((in_s (by omega)).mpr ⟨a, by rw [g _ (by omega), s1] at b; exact b⟩) hi) (fun _ => ⟨_, rfl, ?_⟩)
        refine y_if_eq (tgt := 54) dX12_at_37 (by decide) (fun h37 => ?_) (fun h37 => absurd (by decide) h37)
        refine y_aload_n dX12_at_54 rfl rfl ?_
        refine y_iconst (v := 2) dX12_at_55 (by decide) ?_
        refine y_ivI1 dX12_at_56 mv_X12_100 my_X12_meets (Or.inl rfl) sh_239 ?_
        refine c_X12_meets (f := 2) rfl (by omega) ⟨_, rfl, ?_⟩
        refine y_ireturn dX12_at_59 rfl rfl ?_
        exact ⟨rfl, by rw [em]; exact Rel_met h⟩
  · refine y_run (own := "LoafFall") rfl (by decide +kernel) (Nat.le_of_ble_eq_true rfl) rfl ?_
    refine y_iload_n dX11_at_0 rfl rfl ?_
    refine y_isI1 dX11_at_1 ms_X11_101 my_X11_isRow (Or.inl rfl) ?_
    refine c_X11_isRow (fun z => absurd z hr) (fun _ => ⟨_, rfl, ?_⟩)
    refine y_if_ne (tgt := 9) dX11_at_4 (by decide) (fun h4 => absurd (by decide) h4) (fun h4 => ?_)
    refine y_iconst (v := -1) dX11_at_7 (by decide) ?_
    refine y_ireturn dX11_at_8 rfl rfl ?_
    refine ⟨_, rfl, ?_⟩
    refine y_run (own := "LoafFallModel") rfl (by decide +kernel) (Nat.le_of_ble_eq_true rfl) rfl ?_
    refine y_iload_n dX12_at_0 rfl rfl ?_
    refine y_isI1 dX12_at_1 ms_X12_96 my_X12_isRow (Or.inl rfl) ?_
    refine c_X12_isRow (fun z => absurd z hr) (fun _ => ⟨_, rfl, ?_⟩)
    refine y_if_ne (tgt := 9) dX12_at_4 (by decide) (fun h4 => absurd (by decide) h4) (fun h4 => ?_)
    refine y_iconst (v := -1) dX12_at_7 (by decide) ?_
    refine y_ireturn dX12_at_8 rfl rfl ?_
    exact ⟨rfl, h⟩
set_option maxHeartbeats 2000000 in
theorem p_tear {L : Nat} {xs : Nat → Int32} {d : Nat} {m : sM} {n : sN} {r : Int32} (h : Rel m n) : PI L xs (d + 11) yX11_tear cX11_tear 2 yX12_tear cX12_tear 2 [.int r] m n := by
  unfold PI
  by_cases hr : inN r 6
  · obtain ⟨k, hk, rfl⟩ := hr
    have hr : inN (nI k) 6 := ⟨k, hk, rfl⟩
    rcases h.w k hk with ⟨s1, s2⟩ | ⟨s, hs, s1, s2, s3⟩
    · refine y_run (own := "LoafFall") rfl (by decide +kernel) (Nat.le_of_ble_eq_true rfl) rfl ?_
      refine y_iload_n dX11_tear_0 rfl rfl ?_
      refine y_isI1 dX11_tear_1 ms_X11_101 my_X11_isRow (Or.inl rfl) ?_
      refine c_X11_isRow (fun _ => ⟨_, rfl, ?_⟩) (fun z => absurd hr z)
      refine y_if_ne (tgt := 9) dX11_tear_4 (by decide) (fun h4 => ?_) (fun h4 => absurd h4 (by decide))
      refine y_aload_n dX11_tear_9 rfl rfl ?_
      refine y_getr dX11_tear_10 gf_X11_11 sh_0 rfl ?_
      refine y_iload_n dX11_tear_13 rfl rfl ?_
      refine y_aaldN dX11_tear_14 (by decide) sh_1 rfl (rwA (k := k) (by omega)) (by decide) ?_
      refine y_ivI0 dX11_tear_15 mv_X11_123 my_X8_isThere (Or.inl rfl) (rwI (k := k) (by omega)).1 ?_
      refine c_X8_isThere (rwI hk) (fun z => absurd s2 z) (fun _ => ⟨_, rfl, ?_⟩)
      refine y_if_ne (tgt := 27) dX11_tear_18 (by decide) (fun h18 => absurd (by decide) h18) (fun h18 => ?_)
      refine y_aload_n dX11_tear_21 rfl rfl ?_
      refine y_iconst (v := 1) dX11_tear_22 (by decide) ?_
      refine y_ivI1 dX11_tear_23 mv_X11_105 my_X11_found (Or.inl rfl) sh_0 ?_
      refine c_X11_found (f := 1) rfl (by omega) (by omega) ⟨_, rfl, ?_⟩
      refine y_ireturn dX11_tear_26 rfl rfl ?_
      refine ⟨_, rfl, ?_⟩
      obtain ⟨m1, em⟩ : ∃ m1, m1 = foundM m 1 := ⟨_, rfl⟩
      rw [← em]
      have g : ∀ a, 138 ≤ a → m1 a = m a := fun a ha => by rw [em]; exact found_o (by omega) (by omega)
      refine y_run (own := "LoafFallModel") rfl (by decide +kernel) (Nat.le_of_ble_eq_true rfl) rfl ?_
      refine y_iload_n dX12_tear_0 rfl rfl ?_
      refine y_isI1 dX12_tear_1 ms_X12_96 my_X12_isRow (Or.inl rfl) ?_
      refine c_X12_isRow (fun _ => ⟨_, rfl, ?_⟩) (fun z => absurd hr z)
      refine y_if_ne (tgt := 9) dX12_tear_4 (by decide) (fun h4 => ?_) (fun h4 => absurd h4 (by decide))
      refine y_aload_n dX12_tear_9 rfl rfl ?_
      refine y_getr dX12_tear_10 gf_X12_13 sh_239 rfl ?_
      refine y_iload_n dX12_tear_13 rfl rfl ?_
      refine y_ialdN dX12_tear_14 sh_241 rfl (by first | omega | decide) (by decide) ?_
      refine y_if_ge (tgt := 24) dX12_tear_15 (by decide) (fun h15 => absurd h15 (by rw [g _ (by omega), s1]; decide)) (fun h15 => ?_)
      refine y_aload_n dX12_tear_18 rfl rfl ?_
      refine y_iconst (v := 1) dX12_tear_19 (by decide) ?_
      refine y_ivI1 dX12_tear_20 mv_X12_100 my_X12_meets (Or.inl rfl) sh_239 ?_
      refine c_X12_meets (f := 1) rfl (by omega) ⟨_, rfl, ?_⟩
      refine y_ireturn dX12_tear_23 rfl rfl ?_
      exact ⟨rfl, by rw [em]; exact Rel_met h⟩
    · have n1 : ¬ m (138 + 2 * k) 1 = -1 := by rw [s2]; exact nI_m1 (by omega)
      refine y_run (own := "LoafFall") rfl (by decide +kernel) (Nat.le_of_ble_eq_true rfl) rfl ?_
      refine y_iload_n dX11_tear_0 rfl rfl ?_
      refine y_isI1 dX11_tear_1 ms_X11_101 my_X11_isRow (Or.inl rfl) ?_
      refine c_X11_isRow (fun _ => ⟨_, rfl, ?_⟩) (fun z => absurd hr z)
      refine y_if_ne (tgt := 9) dX11_tear_4 (by decide) (fun h4 => ?_) (fun h4 => absurd h4 (by decide))
      refine y_aload_n dX11_tear_9 rfl rfl ?_
      refine y_getr dX11_tear_10 gf_X11_11 sh_0 rfl ?_
      refine y_iload_n dX11_tear_13 rfl rfl ?_
      refine y_aaldN dX11_tear_14 (by decide) sh_1 rfl (rwA (k := k) (by omega)) (by decide) ?_
      refine y_ivI0 dX11_tear_15 mv_X11_123 my_X8_isThere (Or.inl rfl) (rwI (k := k) (by omega)).1 ?_
      refine c_X8_isThere (rwI hk) (fun _ => ⟨_, rfl, ?_⟩) (fun z => absurd z n1)
      refine y_if_ne (tgt := 27) dX11_tear_18 (by decide) (fun h18 => ?_) (fun h18 => absurd h18 (by decide))
      refine y_aload_n dX11_tear_27 rfl rfl ?_
      refine y_getr dX11_tear_28 gf_X11_11 sh_0 rfl ?_
      refine y_iload_n dX11_tear_31 rfl rfl ?_
      refine y_aaldN dX11_tear_32 (by decide) sh_1 rfl (rwA (k := k) (by omega)) (by decide) ?_
      refine y_iconst (v := -1) dX11_tear_33 (by decide) ?_
      refine y_puti dX11_tear_34 pf_X11_127 (rwI (k := k) (by omega)).1 rfl rfl rfl ?_
      refine y_iconst (v := 1) dX11_tear_37 (by decide) ?_
      refine y_ireturn dX11_tear_38 rfl rfl ?_
      refine ⟨_, rfl, ?_⟩
      generalize em : s_up m (138 + 2 * k) (upd (m (138 + 2 * k)) 1 (-1)) = m1
      have g : ∀ a, 239 ≤ a → m1 a = m a := fun a ha => by rw [← em, s_upN (by omega)]
      refine y_run (own := "LoafFallModel") rfl (by decide +kernel) (Nat.le_of_ble_eq_true rfl) rfl ?_
      refine y_iload_n dX12_tear_0 rfl rfl ?_
      refine y_isI1 dX12_tear_1 ms_X12_96 my_X12_isRow (Or.inl rfl) ?_
      refine c_X12_isRow (fun _ => ⟨_, rfl, ?_⟩) (fun z => absurd hr z)
      refine y_if_ne (tgt := 9) dX12_tear_4 (by decide) (fun h4 => ?_) (fun h4 => absurd h4 (by decide))
      refine y_aload_n dX12_tear_9 rfl rfl ?_
      refine y_getr dX12_tear_10 gf_X12_13 sh_239 rfl ?_
      refine y_iload_n dX12_tear_13 rfl rfl ?_
      refine y_ialdN dX12_tear_14 sh_241 rfl (by first | omega | decide) (by decide) ?_
      refine y_if_ge (tgt := 24) dX12_tear_15 (by decide) (fun h15 => ?_) (fun h15 => absurd (by rw [g _ (by omega), s1]; exact nI_pos' (by omega)) h15)
      refine y_aload_n dX12_tear_24 rfl rfl ?_
      refine y_getr dX12_tear_25 gf_X12_13 sh_239 rfl ?_
      refine y_iload_n dX12_tear_28 rfl rfl ?_
      refine y_iconst (v := -1) dX12_tear_29 (by decide) ?_
      refine y_iastN dX12_tear_30 sh_241 rfl (by first | omega | decide) (by decide) ?_
      refine y_iconst (v := 1) dX12_tear_31 (by decide) ?_
      refine y_ireturn dX12_tear_32 rfl rfl ?_
      have eo : ∀ a, a ≠ 138 + 2 * k → m1 a = m a := fun a h0 => by rw [← em, s_upN h0]
      refine ⟨rfl, Rel_W (k := k) h (RA_id h.1 ?_ ?_ ?_ ?_) (fun a ha => ?_) ?_ (fun r hr hne => ⟨?_, ?_, ?_, fun i hi => ?_⟩) (Or.inl ⟨?_, ?_⟩)⟩
      · rw [s_upN (by omega), eo _ (by omega)]
      · rw [s_upN (by omega), eo _ (by omega)]
      · rw [s_upN (by omega), eo _ (by omega)]
      · rw [s_upN (by omega), eo _ (by omega)]
      · rw [s_upN (by omega), eo _ (by omega)]
      · rw [s_upN (by omega), eo _ (by omega)]
      · rw [s_upN (by omega), eo _ (by omega)]
      · rw [s_upN (by omega), eo _ (by omega)]
      · rw [s_upS, updN hne, eo _ (by omega)]
      · rw [s_upN (by omega), eo _ (by omega)]
      · rw [s_upS, updS]
      · rw [s_upN (by omega), ← em, s_upS, updS]
  · refine y_run (own := "LoafFall") rfl (by decide +kernel) (Nat.le_of_ble_eq_true rfl) rfl ?_
    refine y_iload_n dX11_tear_0 rfl rfl ?_
    refine y_isI1 dX11_tear_1 ms_X11_101 my_X11_isRow (Or.inl rfl) ?_
    refine c_X11_isRow (fun z => absurd z hr) (fun _ => ⟨_, rfl, ?_⟩)
    refine y_if_ne (tgt := 9) dX11_tear_4 (by decide) (fun h4 => absurd (by decide) h4) (fun h4 => ?_)
    refine y_iconst (v := -1) dX11_tear_7 (by decide) ?_
    refine y_ireturn dX11_tear_8 rfl rfl ?_
    refine ⟨_, rfl, ?_⟩
    refine y_run (own := "LoafFallModel") rfl (by decide +kernel) (Nat.le_of_ble_eq_true rfl) rfl ?_
    refine y_iload_n dX12_tear_0 rfl rfl ?_
    refine y_isI1 dX12_tear_1 ms_X12_96 my_X12_isRow (Or.inl rfl) ?_
    refine c_X12_isRow (fun z => absurd z hr) (fun _ => ⟨_, rfl, ?_⟩)
    refine y_if_ne (tgt := 9) dX12_tear_4 (by decide) (fun h4 => absurd (by decide) h4) (fun h4 => ?_)
    refine y_iconst (v := -1) dX12_tear_7 (by decide) ?_
    refine y_ireturn dX12_tear_8 rfl rfl ?_
    exact ⟨rfl, h⟩
set_option maxHeartbeats 2000000 in
theorem p_put {L : Nat} {xs : Nat → Int32} {d : Nat} {m : sM} {n : sN} {r x v : Int32} (h : Rel m n) : PI L xs (d + 11) yX11_put cX11_put 5 yX12_put cX12_put 5 [.int r, .int x, .int v] m n := by
  unfold PI
  by_cases hr : inN r 4
  · obtain ⟨k, hk, rfl⟩ := hr
    have hr : inN (nI k) 4 := ⟨k, hk, rfl⟩
    rcases h.t k hk with ⟨s1, s2⟩ | ⟨s, hs, s1, s2, s3⟩
    · refine y_run (own := "LoafFall") rfl (by decide +kernel) (Nat.le_of_ble_eq_true rfl) rfl ?_
      refine y_iload_n dX11_put_0 rfl rfl ?_
      refine y_isI1 dX11_put_1 ms_X11_141 my_X11_isText (Or.inl rfl) ?_
      refine c_X11_isText (fun _ => ⟨_, rfl, ?_⟩) (fun z => absurd hr z)
      refine y_if_ne (tgt := 9) dX11_put_4 (by decide) (fun h4 => ?_) (fun h4 => absurd h4 (by decide))
      refine y_aload_n dX11_put_9 rfl rfl ?_
      refine y_getr dX11_put_10 gf_X11_17 sh_0 rfl ?_
      refine y_iload_n dX11_put_13 rfl rfl ?_
      refine y_aaldN dX11_put_14 (by decide) sh_2 rfl (txA (k := k) (by omega)) (by decide) ?_
      refine y_ivI0 dX11_put_15 mv_X11_145 my_X10_isThere (Or.inl rfl) (txI (k := k) (by omega)).1 ?_
      refine c_X10_isThere (txI hk) (fun z => absurd s2 z) (fun _ => ⟨_, rfl, ?_⟩)
      refine y_if_ne (tgt := 27) dX11_put_18 (by decide) (fun h18 => absurd (by decide) h18) (fun h18 => ?_)
      refine y_aload_n dX11_put_21 rfl rfl ?_
      refine y_iconst (v := 1) dX11_put_22 (by decide) ?_
      refine y_ivI1 dX11_put_23 mv_X11_105 my_X11_found (Or.inl rfl) sh_0 ?_
      refine c_X11_found (f := 1) rfl (by omega) (by omega) ⟨_, rfl, ?_⟩
      refine y_ireturn dX11_put_26 rfl rfl ?_
      refine ⟨_, rfl, ?_⟩
      obtain ⟨m1, em⟩ : ∃ m1, m1 = foundM m 1 := ⟨_, rfl⟩
      rw [← em]
      have g : ∀ a, 138 ≤ a → m1 a = m a := fun a ha => by rw [em]; exact found_o (by omega) (by omega)
      refine y_run (own := "LoafFallModel") rfl (by decide +kernel) (Nat.le_of_ble_eq_true rfl) rfl ?_
      refine y_iload_n dX12_put_0 rfl rfl ?_
      refine y_isI1 dX12_put_1 ms_X12_111 my_X12_isText (Or.inl rfl) ?_
      refine c_X12_isText (fun _ => ⟨_, rfl, ?_⟩) (fun z => absurd hr z)
      refine y_if_ne (tgt := 9) dX12_put_4 (by decide) (fun h4 => ?_) (fun h4 => absurd h4 (by decide))
      refine y_aload_n dX12_put_9 rfl rfl ?_
      refine y_getr dX12_put_10 gf_X12_22 sh_239 rfl ?_
      refine y_iload_n dX12_put_13 rfl rfl ?_
      refine y_ialdN dX12_put_14 sh_244 rfl (by first | omega | decide) (by decide) ?_
      refine y_if_ge (tgt := 24) dX12_put_15 (by decide) (fun h15 => absurd h15 (by rw [g _ (by omega), s1]; decide)) (fun h15 => ?_)
      refine y_aload_n dX12_put_18 rfl rfl ?_
      refine y_iconst (v := 1) dX12_put_19 (by decide) ?_
      refine y_ivI1 dX12_put_20 mv_X12_100 my_X12_meets (Or.inl rfl) sh_239 ?_
      refine c_X12_meets (f := 1) rfl (by omega) ⟨_, rfl, ?_⟩
      refine y_ireturn dX12_put_23 rfl rfl ?_
      exact ⟨rfl, by rw [em]; exact Rel_met h⟩
    · have n1 : ¬ m (150 + 2 * k) 1 = -1 := by rw [s2]; exact nI_m1 (by omega)
      by_cases hi : inN x s
      · obtain ⟨j, hj, rfl⟩ := hi
        have hi : inN (nI j) s := ⟨j, hj, rfl⟩
        refine y_run (own := "LoafFall") rfl (by decide +kernel) (Nat.le_of_ble_eq_true rfl) rfl ?_
        refine y_iload_n dX11_put_0 rfl rfl ?_
        refine y_isI1 dX11_put_1 ms_X11_141 my_X11_isText (Or.inl rfl) ?_
        refine c_X11_isText (fun _ => ⟨_, rfl, ?_⟩) (fun z => absurd hr z)
        refine y_if_ne (tgt := 9) dX11_put_4 (by decide) (fun h4 => ?_) (fun h4 => absurd h4 (by decide))
        refine y_aload_n dX11_put_9 rfl rfl ?_
        refine y_getr dX11_put_10 gf_X11_17 sh_0 rfl ?_
        refine y_iload_n dX11_put_13 rfl rfl ?_
        refine y_aaldN dX11_put_14 (by decide) sh_2 rfl (txA (k := k) (by omega)) (by decide) ?_
        refine y_ivI0 dX11_put_15 mv_X11_145 my_X10_isThere (Or.inl rfl) (txI (k := k) (by omega)).1 ?_
        refine c_X10_isThere (txI hk) (fun _ => ⟨_, rfl, ?_⟩) (fun z => absurd z n1)
        refine y_if_ne (tgt := 27) dX11_put_18 (by decide) (fun h18 => ?_) (fun h18 => absurd h18 (by decide))
        refine y_aload_n dX11_put_27 rfl rfl ?_
        refine y_getr dX11_put_28 gf_X11_17 sh_0 rfl ?_
        refine y_iload_n dX11_put_31 rfl rfl ?_
        refine y_aaldN dX11_put_32 (by decide) sh_2 rfl (txA (k := k) (by omega)) (by decide) ?_
        refine y_iload_n dX11_put_33 rfl rfl ?_
        refine y_ivI1 dX11_put_34 mv_X11_146 my_X10_has (Or.inl rfl) (txI (k := k) (by omega)).1 ?_
        refine c_X10_has (txI hk) (fun _ _ => ⟨_, rfl, ?_⟩) (fun z => z.elim (fun a => absurd a (nI_pos (by omega))) (fun a => absurd a (by rw [s2]; exact nI_ge hj (by omega))))
        refine y_if_ne (tgt := 46) dX11_put_37 (by decide) (fun h37 => ?_) (fun h37 => absurd h37 (by decide))
        refine y_aload_n dX11_put_46 rfl rfl ?_
        refine y_getr dX11_put_47 gf_X11_17 sh_0 rfl ?_
        refine y_iload_n dX11_put_50 rfl rfl ?_
        refine y_aaldN dX11_put_51 (by decide) sh_2 rfl (txA (k := k) (by omega)) (by decide) ?_
        refine y_getr dX11_put_52 gf_X11_149 (txI (k := k) (by omega)).1 rfl ?_
        refine y_iload_n dX11_put_55 rfl rfl ?_
        refine y_baldN dX11_put_56 (txI (k := k) (by omega)).2 rfl (by first | omega | decide) (by decide) ?_
        refine y_ist5_4 dX11_put_57 rfl ?_
        refine y_aload_n dX11_put_59 rfl rfl ?_
        refine y_getr dX11_put_60 gf_X11_17 sh_0 rfl ?_
        refine y_iload_n dX11_put_63 rfl rfl ?_
        refine y_aaldN dX11_put_64 (by decide) sh_2 rfl (txA (k := k) (by omega)) (by decide) ?_
        refine y_getr dX11_put_65 gf_X11_149 (txI (k := k) (by omega)).1 rfl ?_
        refine y_iload_n dX11_put_68 rfl rfl ?_
        refine y_iload_n dX11_put_69 rfl rfl ?_
        refine y_i2b dX11_put_70 ?_
        refine y_bastN dX11_put_71 (txI (k := k) (by omega)).2 rfl (by first | omega | decide) (by decide) (byn _) ?_
        refine y_iload dX11_put_72 rfl ?_
        refine y_sipush (v := 1000) dX11_put_74 (by decide) ?_
        refine y_iadd dX11_put_77 ?_
        refine y_ireturn dX11_put_78 rfl rfl ?_
        refine ⟨_, rfl, ?_⟩
        generalize em : s_up m (150 + 2 * k + 1) (upd (m (150 + 2 * k + 1)) j v.toInt8.toInt32) = m1
        have g : ∀ a, 239 ≤ a → m1 a = m a := fun a ha => by rw [← em, s_upN (by omega)]
        refine y_run (own := "LoafFallModel") rfl (by decide +kernel) (Nat.le_of_ble_eq_true rfl) rfl ?_
        refine y_iload_n dX12_put_0 rfl rfl ?_
        refine y_isI1 dX12_put_1 ms_X12_111 my_X12_isText (Or.inl rfl) ?_
        refine c_X12_isText (fun _ => ⟨_, rfl, ?_⟩) (fun z => absurd hr z)
        refine y_if_ne (tgt := 9) dX12_put_4 (by decide) (fun h4 => ?_) (fun h4 => absurd h4 (by decide))
        refine y_aload_n dX12_put_9 rfl rfl ?_
        refine y_getr dX12_put_10 gf_X12_22 sh_239 rfl ?_
        refine y_iload_n dX12_put_13 rfl rfl ?_
        refine y_ialdN dX12_put_14 sh_244 rfl (by first | omega | decide) (by decide) ?_
        refine y_if_ge (tgt := 24) dX12_put_15 (by decide) (fun h15 => ?_) (fun h15 => absurd (by rw [g _ (by omega), s1]; exact nI_pos' (by omega)) h15)
        refine y_iload_n dX12_put_24 rfl rfl ?_
        refine y_iconst (v := 0) dX12_put_25 (by decide) ?_
        refine y_aload_n dX12_put_26 rfl rfl ?_
        refine y_getr dX12_put_27 gf_X12_22 sh_239 rfl ?_
        refine y_iload_n dX12_put_30 rfl rfl ?_
        refine y_ialdN dX12_put_31 sh_244 rfl (by first | omega | decide) (by decide) ?_
        refine y_iconst (v := 1) dX12_put_32 (by decide) ?_
        refine y_isub dX12_put_33 ?_
        refine y_isI3 dX12_put_34 ms_X12_86 my_X12_in (Or.inl rfl) ?_
        refine c_X12_in (fun _ _ => ⟨_, rfl, ?_⟩) (fun a => absurd (by rw [g _ (by omega), s1]; exact (in_s (by omega)).mp hi) a)
        refine y_if_ne (tgt := 46) dX12_put_37 (by decide) (fun h37 => ?_) (fun h37 => absurd h37 (by decide))
        refine y_aload_n dX12_put_46 rfl rfl ?_
        refine y_getr dX12_put_47 gf_X12_25 sh_239 rfl ?_
        refine y_bipush (v := 80) dX12_put_50 (by decide) ?_
        refine y_iload_n dX12_put_52 rfl rfl ?_
        refine y_imulN (a := 80) (b := k) dX12_put_53 rfl rfl ?_
        refine y_iload_n dX12_put_54 rfl rfl ?_
        refine y_iaddN (a := 80 * k) (b := j) dX12_put_55 rfl rfl ?_
        refine y_baldN dX12_put_56 sh_245 rfl (by first | omega | decide) (by decide) ?_
        refine y_ist5_4 dX12_put_57 rfl ?_
        refine y_aload_n dX12_put_59 rfl rfl ?_
        refine y_getr dX12_put_60 gf_X12_25 sh_239 rfl ?_
        refine y_bipush (v := 80) dX12_put_63 (by decide) ?_
        refine y_iload_n dX12_put_65 rfl rfl ?_
        refine y_imulN (a := 80) (b := k) dX12_put_66 rfl rfl ?_
        refine y_iload_n dX12_put_67 rfl rfl ?_
        refine y_iaddN (a := 80 * k) (b := j) dX12_put_68 rfl rfl ?_
        refine y_iload_n dX12_put_69 rfl rfl ?_
        refine y_i2b dX12_put_70 ?_
        refine y_bastN dX12_put_71 sh_245 rfl (by first | omega | decide) (by decide) (byn _) ?_
        refine y_sipush (v := 1000) dX12_put_72 (by decide) ?_
        refine y_iload dX12_put_75 rfl ?_
        refine y_iadd dX12_put_77 ?_
        refine y_ireturn dX12_put_78 rfl rfl ?_
        have eo : ∀ a, a ≠ 150 + 2 * k + 1 → m1 a = m a := fun a h1 => by rw [← em, s_upN h1]
        have e1 : m1 (150 + 2 * k + 1) = upd (m (150 + 2 * k + 1)) j v.toInt8.toInt32 := by rw [← em, s_upS]
        refine ⟨by rw [g _ (by omega), ← s3 j hj, Int32.add_comm], Rel_T (k := k) h (RA_id h.1 ?_ ?_ ?_ ?_) (fun a ha => ?_) ?_ (fun r hr hne => ⟨?_, ?_, ?_, fun i hi => ?_⟩) (Or.inr ⟨s, hs, ?_, ?_, fun i hi => ?_⟩)⟩
        · rw [s_upN (by omega), eo _ (by omega)]
        · rw [s_upN (by omega), eo _ (by omega)]
        · rw [s_upN (by omega), eo _ (by omega)]
        · rw [s_upN (by omega), eo _ (by omega)]
        · rw [s_upN (by omega), eo _ (by omega)]
        · rw [s_upN (by omega), eo _ (by omega)]
        · rw [s_upN (by omega), eo _ (by omega)]
        · rw [s_upN (by omega), eo _ (by omega)]
        · rw [s_upN (by omega), eo _ (by omega)]
        · rw [s_upS, updN (by omega), g _ (by omega)]
        · rw [s_upN (by omega), eo _ (by omega)]; exact s1
        · rw [s_upN (by omega), eo _ (by omega)]; exact s2
        · rw [s_upN (by omega), s_upS, e1, upd_ap, upd_ap, g _ (by omega)]
          by_cases z : i = j
          · rw [if_pos z, if_pos (by omega)]
          · rw [if_neg z, if_neg (by omega)]; exact s3 i hi
      · refine y_run (own := "LoafFall") rfl (by decide +kernel) (Nat.le_of_ble_eq_true rfl) rfl ?_
        refine y_iload_n dX11_put_0 rfl rfl ?_
        refine y_isI1 dX11_put_1 ms_X11_141 my_X11_isText (Or.inl rfl) ?_
        refine c_X11_isText (fun _ => ⟨_, rfl, ?_⟩) (fun z => absurd hr z)
        refine y_if_ne (tgt := 9) dX11_put_4 (by decide) (fun h4 => ?_) (fun h4 => absurd h4 (by decide))
        refine y_aload_n dX11_put_9 rfl rfl ?_
        refine y_getr dX11_put_10 gf_X11_17 sh_0 rfl ?_
        refine y_iload_n dX11_put_13 rfl rfl ?_
        refine y_aaldN dX11_put_14 (by decide) sh_2 rfl (txA (k := k) (by omega)) (by decide) ?_
        refine y_ivI0 dX11_put_15 mv_X11_145 my_X10_isThere (Or.inl rfl) (txI (k := k) (by omega)).1 ?_
        refine c_X10_isThere (txI hk) (fun _ => ⟨_, rfl, ?_⟩) (fun z => absurd z n1)
        refine y_if_ne (tgt := 27) dX11_put_18 (by decide) (fun h18 => ?_) (fun h18 => absurd h18 (by decide))
        refine y_aload_n dX11_put_27 rfl rfl ?_
        refine y_getr dX11_put_28 gf_X11_17 sh_0 rfl ?_
        refine y_iload_n dX11_put_31 rfl rfl ?_
        refine y_aaldN dX11_put_32 (by decide) sh_2 rfl (txA (k := k) (by omega)) (by decide) ?_
        refine y_iload_n dX11_put_33 rfl rfl ?_
        refine y_ivI1 dX11_put_34 mv_X11_146 my_X10_has (Or.inl rfl) (txI (k := k) (by omega)).1 ?_
        refine c_X10_has (txI hk) (fun a b => absurd ((in_lt (by omega)).mpr ⟨a, by rw [s2] at b; exact b⟩) hi) (fun _ => ⟨_, rfl, ?_⟩)
        refine y_if_ne (tgt := 46) dX11_put_37 (by decide) (fun h37 => absurd (by decide) h37) (fun h37 => ?_)
        refine y_aload_n dX11_put_40 rfl rfl ?_
        refine y_iconst (v := 2) dX11_put_41 (by decide) ?_
        refine y_ivI1 dX11_put_42 mv_X11_105 my_X11_found (Or.inl rfl) sh_0 ?_
        refine c_X11_found (f := 2) rfl (by omega) (by omega) ⟨_, rfl, ?_⟩
        refine y_ireturn dX11_put_45 rfl rfl ?_
        refine ⟨_, rfl, ?_⟩
        obtain ⟨m1, em⟩ : ∃ m1, m1 = foundM m 2 := ⟨_, rfl⟩
        rw [← em]
        have g : ∀ a, 138 ≤ a → m1 a = m a := fun a ha => by rw [em]; exact found_o (by omega) (by omega)
        refine y_run (own := "LoafFallModel") rfl (by decide +kernel) (Nat.le_of_ble_eq_true rfl) rfl ?_
        refine y_iload_n dX12_put_0 rfl rfl ?_
        refine y_isI1 dX12_put_1 ms_X12_111 my_X12_isText (Or.inl rfl) ?_
        refine c_X12_isText (fun _ => ⟨_, rfl, ?_⟩) (fun z => absurd hr z)
        refine y_if_ne (tgt := 9) dX12_put_4 (by decide) (fun h4 => ?_) (fun h4 => absurd h4 (by decide))
        refine y_aload_n dX12_put_9 rfl rfl ?_
        refine y_getr dX12_put_10 gf_X12_22 sh_239 rfl ?_
        refine y_iload_n dX12_put_13 rfl rfl ?_
        refine y_ialdN dX12_put_14 sh_244 rfl (by first | omega | decide) (by decide) ?_
        refine y_if_ge (tgt := 24) dX12_put_15 (by decide) (fun h15 => ?_) (fun h15 => absurd (by rw [g _ (by omega), s1]; exact nI_pos' (by omega)) h15)
        refine y_iload_n dX12_put_24 rfl rfl ?_
        refine y_iconst (v := 0) dX12_put_25 (by decide) ?_
        refine y_aload_n dX12_put_26 rfl rfl ?_
        refine y_getr dX12_put_27 gf_X12_22 sh_239 rfl ?_
        refine y_iload_n dX12_put_30 rfl rfl ?_
        refine y_ialdN dX12_put_31 sh_244 rfl (by first | omega | decide) (by decide) ?_
        refine y_iconst (v := 1) dX12_put_32 (by decide) ?_
        refine y_isub dX12_put_33 ?_
        refine y_isI3 dX12_put_34 ms_X12_86 my_X12_in (Or.inl rfl) ?_
        refine c_X12_in (fun a b => absurd ((in_s (by omega)).mpr ⟨a, by rw [g _ (by omega), s1] at b; exact b⟩) hi) (fun _ => ⟨_, rfl, ?_⟩)
        refine y_if_ne (tgt := 46) dX12_put_37 (by decide) (fun h37 => absurd (by decide) h37) (fun h37 => ?_)
        refine y_aload_n dX12_put_40 rfl rfl ?_
        refine y_iconst (v := 2) dX12_put_41 (by decide) ?_
        refine y_ivI1 dX12_put_42 mv_X12_100 my_X12_meets (Or.inl rfl) sh_239 ?_
        refine c_X12_meets (f := 2) rfl (by omega) ⟨_, rfl, ?_⟩
        refine y_ireturn dX12_put_45 rfl rfl ?_
        exact ⟨rfl, by rw [em]; exact Rel_met h⟩
  · refine y_run (own := "LoafFall") rfl (by decide +kernel) (Nat.le_of_ble_eq_true rfl) rfl ?_
    refine y_iload_n dX11_put_0 rfl rfl ?_
    refine y_isI1 dX11_put_1 ms_X11_141 my_X11_isText (Or.inl rfl) ?_
    refine c_X11_isText (fun z => absurd z hr) (fun _ => ⟨_, rfl, ?_⟩)
    refine y_if_ne (tgt := 9) dX11_put_4 (by decide) (fun h4 => absurd (by decide) h4) (fun h4 => ?_)
    refine y_iconst (v := -1) dX11_put_7 (by decide) ?_
    refine y_ireturn dX11_put_8 rfl rfl ?_
    refine ⟨_, rfl, ?_⟩
    refine y_run (own := "LoafFallModel") rfl (by decide +kernel) (Nat.le_of_ble_eq_true rfl) rfl ?_
    refine y_iload_n dX12_put_0 rfl rfl ?_
    refine y_isI1 dX12_put_1 ms_X12_111 my_X12_isText (Or.inl rfl) ?_
    refine c_X12_isText (fun z => absurd z hr) (fun _ => ⟨_, rfl, ?_⟩)
    refine y_if_ne (tgt := 9) dX12_put_4 (by decide) (fun h4 => absurd (by decide) h4) (fun h4 => ?_)
    refine y_iconst (v := -1) dX12_put_7 (by decide) ?_
    refine y_ireturn dX12_put_8 rfl rfl ?_
    exact ⟨rfl, h⟩
