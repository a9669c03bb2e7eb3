/-! ===== copy, mean ===== -/
theorem lcmp_gt {x y : Int64} : 0 < lg_cmp x y ↔ y < x := by
  unfold lg_cmp
  by_cases h : x > y
  · rw [if_pos h]; exact ⟨fun _ => h, fun _ => by decide⟩
  · rw [if_neg h]
    by_cases h2 : x = y
    · rw [if_pos h2]; exact ⟨fun z => absurd z (by decide), fun z => absurd z h⟩
    · rw [if_neg h2]; exact ⟨fun z => absurd z (by decide), fun z => absurd z h⟩
/-- so many from a place lie in a row of size s -/
def spn (x : Int32) (u s : Nat) : Prop := ∃ a : Nat, x = nI a ∧ a + u ≤ s
theorem spn_c {x : Int32} {u s : Nat} (hu : u < 2 ^ 31) (hs : s ≤ 40) : spn x u s ↔ (¬ x < 0 ∧ nI u ≤ nI s ∧ x ≤ nI s - nI u) := by
  constructor
  · rintro ⟨a, rfl, h⟩
    refine ⟨nI_pos (by omega), nI_le (by omega) (by omega), ?_⟩
    rw [pk_sub (by omega)]
    exact nI_le (by omega) (by omega)
  · rintro ⟨h1, h2, h3⟩
    have h2 := (nI_leI hu (by omega)).mp h2
    obtain ⟨a, ha, rfl⟩ := nI_of h1
    rw [pk_sub (by omega)] at h3
    have := (nI_leI ha (by omega)).mp h3
    exact ⟨a, rfl, by omega⟩
theorem spn_r {x : Int32} {u s : Nat} (hu : u < 2 ^ 31) (hs : s ≤ 40) (hx : ¬ x < 0) : 0 < lg_cmp (x.toInt64 + (nI u).toInt64) (nI s).toInt64 ↔ ¬ spn x u s := by
  obtain ⟨a, ha, rfl⟩ := nI_of hx
  rw [nI_l ha, nI_l hu, nI_l (by omega), lN_add, lcmp_gt]
  constructor
  · rintro h ⟨b, hb, hle⟩
    have := (nI_eq ha (by omega)).mp hb
    subst this
    have := (lN_lt (by omega) (by omega)).mp h
    omega
  · intro h
    have h : ¬ a + u ≤ s := fun z => h ⟨a, rfl, z⟩
    rw [Int64.lt_iff_toInt_lt, lN_toInt (by omega)]
    unfold lN
    rw [lg_ofNat_toInt (by omega)]
    omega
def sumL (f : Nat → Int32) : Nat → Int64
  | 0 => 0
  | k + 1 => sumL f k + (f k).toInt64
theorem sumL_eq {f g : Nat → Int32} : ∀ k, (∀ i, i < k → f i = g i) → sumL f k = sumL g k := by
  intro k
  induction k with
  | zero => intro _; rfl
  | succ k ih => intro h; rw [sumL, sumL, ih (fun i hi => h i (by omega)), h k (by omega)]
theorem spnZ {m : sM} {W u s : Nat} {x : Int32} (hs : s ≤ 40) (hu : u < 2 ^ 31) (hi : spn x u s) (s2 : m W 1 = nI s) : ¬ (x < 0 ∨ nI u < 0 ∨ m W 1 < nI u ∨ m W 1 - nI u < x) := by
  obtain ⟨a, b, c⟩ := (spn_c hu hs).mp hi
  rw [s2]
  rintro (z | z | z | z)
  · exact a z
  · exact nI_pos hu z
  · exact absurd b (Int32.not_le.mpr z)
  · exact absurd c (Int32.not_le.mpr z)
theorem spnN {m : sM} {W u s : Nat} {x : Int32} (hs : s ≤ 40) (hu : u < 2 ^ 31) (hi : ¬ spn x u s) (s2 : m W 1 = nI s) (a : ¬ x < 0) (b : nI u ≤ m W 1) (c : x ≤ m W 1 - nI u) : False := by
  rw [s2] at b c
  exact hi ((spn_c hu hs).mpr ⟨a, b, c⟩)
set_option maxHeartbeats 2000000 in
theorem p_mean {L : Nat} {xs : Nat → Int32} {d : Nat} {m : sM} {n : sN} {r : Int32} (h : Rel m n) : PI L xs (d + 11) yX11_mean cX11_mean 6 yX12_mean cX12_mean 5 [.int r] m n := by
  unfold PI
  by_cases hr : inN r 6
  · obtain ⟨k, hk, rfl⟩ := hr
    have hr : inN (nI k) 6 := ⟨k, hk, rfl⟩
    rcases h.w k hk with ⟨s1, s2⟩ | ⟨s, hs, s1, s2, s3⟩
    · refine y_run (own := "LoafFall") rfl (by decide +kernel) (Nat.le_of_ble_eq_true rfl) rfl ?_
      refine y_iload_n dX11_mean_0 rfl rfl ?_
      refine y_isI1 dX11_mean_1 ms_X11_101 my_X11_isRow (Or.inl rfl) ?_
      refine c_X11_isRow (fun _ => ⟨_, rfl, ?_⟩) (fun z => absurd hr z)
      refine y_if_ne (tgt := 9) dX11_mean_4 (by decide) (fun h4 => ?_) (fun h4 => absurd h4 (by decide))
      refine y_aload_n dX11_mean_9 rfl rfl ?_
      refine y_getr dX11_mean_10 gf_X11_11 sh_0 rfl ?_
      refine y_iload_n dX11_mean_13 rfl rfl ?_
      refine y_aaldN dX11_mean_14 (by decide) sh_1 rfl (rwA (k := k) (by omega)) (by decide) ?_
      refine y_ivI0 dX11_mean_15 mv_X11_123 my_X8_isThere (Or.inl rfl) (rwI (k := k) (by omega)).1 ?_
      refine c_X8_isThere (rwI hk) (fun z => absurd s2 z) (fun _ => ⟨_, rfl, ?_⟩)
      refine y_if_ne (tgt := 27) dX11_mean_18 (by decide) (fun h18 => absurd (by decide) h18) (fun h18 => ?_)
      refine y_aload_n dX11_mean_21 rfl rfl ?_
      refine y_iconst (v := 1) dX11_mean_22 (by decide) ?_
      refine y_ivI1 dX11_mean_23 mv_X11_105 my_X11_found (Or.inl rfl) sh_0 ?_
      refine c_X11_found (f := 1) rfl (by omega) (by omega) ⟨_, rfl, ?_⟩
      refine y_ireturn dX11_mean_26 rfl rfl ?_
      refine ⟨_, rfl, ?_⟩
      obtain ⟨m1, em⟩ : ∃ m1, m1 = foundM m 1 := ⟨_, rfl⟩
      rw [← em]
      have g : ∀ a, 138 ≤ a → m1 a = m a := fun a ha => by rw [em]; exact found_o (by omega) (by omega)
      refine y_run (own := "LoafFallModel") rfl (by decide +kernel) (Nat.le_of_ble_eq_true rfl) rfl ?_
      refine y_iload_n dX12_mean_0 rfl rfl ?_
      refine y_isI1 dX12_mean_1 ms_X12_96 my_X12_isRow (Or.inl rfl) ?_
      refine c_X12_isRow (fun _ => ⟨_, rfl, ?_⟩) (fun z => absurd hr z)
      refine y_if_ne (tgt := 9) dX12_mean_4 (by decide) (fun h4 => ?_) (fun h4 => absurd h4 (by decide))
      refine y_aload_n dX12_mean_9 rfl rfl ?_
      refine y_getr dX12_mean_10 gf_X12_13 sh_239 rfl ?_
      refine y_iload_n dX12_mean_13 rfl rfl ?_
      refine y_ialdN dX12_mean_14 sh_241 rfl (by first | omega | decide) (by decide) ?_
      refine y_if_ge (tgt := 24) dX12_mean_15 (by decide) (fun h15 => absurd h15 (by rw [g _ (by omega), s1]; decide)) (fun h15 => ?_)
      refine y_aload_n dX12_mean_18 rfl rfl ?_
      refine y_iconst (v := 1) dX12_mean_19 (by decide) ?_
      refine y_ivI1 dX12_mean_20 mv_X12_100 my_X12_meets (Or.inl rfl) sh_239 ?_
      refine c_X12_meets (f := 1) rfl (by omega) ⟨_, rfl, ?_⟩
      refine y_ireturn dX12_mean_23 rfl rfl ?_
      exact ⟨rfl, by rw [em]; exact Rel_met h⟩
    · have n1 : ¬ m (138 + 2 * k) 1 = -1 := by rw [s2]; exact nI_m1 (by omega)
      rcases Nat.eq_zero_or_pos s with z | z
      · subst z
        refine y_run (own := "LoafFall") rfl (by decide +kernel) (Nat.le_of_ble_eq_true rfl) rfl ?_
        refine y_iload_n dX11_mean_0 rfl rfl ?_
        refine y_isI1 dX11_mean_1 ms_X11_101 my_X11_isRow (Or.inl rfl) ?_
        refine c_X11_isRow (fun _ => ⟨_, rfl, ?_⟩) (fun z => absurd hr z)
        refine y_if_ne (tgt := 9) dX11_mean_4 (by decide) (fun h4 => ?_) (fun h4 => absurd h4 (by decide))
        refine y_aload_n dX11_mean_9 rfl rfl ?_
        refine y_getr dX11_mean_10 gf_X11_11 sh_0 rfl ?_
        refine y_iload_n dX11_mean_13 rfl rfl ?_
        refine y_aaldN dX11_mean_14 (by decide) sh_1 rfl (rwA (k := k) (by omega)) (by decide) ?_
        refine y_ivI0 dX11_mean_15 mv_X11_123 my_X8_isThere (Or.inl rfl) (rwI (k := k) (by omega)).1 ?_
        refine c_X8_isThere (rwI hk) (fun _ => ⟨_, rfl, ?_⟩) (fun z => absurd z n1)
        refine y_if_ne (tgt := 27) dX11_mean_18 (by decide) (fun h18 => ?_) (fun h18 => absurd h18 (by decide))
        refine y_aload_n dX11_mean_27 rfl rfl ?_
        refine y_getr dX11_mean_28 gf_X11_11 sh_0 rfl ?_
        refine y_iload_n dX11_mean_31 rfl rfl ?_
        refine y_aaldN dX11_mean_32 (by decide) sh_1 rfl (rwA (k := k) (by omega)) (by decide) ?_
        refine y_geti dX11_mean_33 gf_X11_127 (rwI (k := k) (by omega)).1 rfl ?_
        refine y_ist6_2 dX11_mean_36 rfl ?_
        refine y_iload_n dX11_mean_37 rfl rfl ?_
        refine y_if_ne (tgt := 47) dX11_mean_38 (by decide) (fun h38 => absurd (by rw [s2]; rfl) h38) (fun h38 => ?_)
        refine y_aload_n dX11_mean_41 rfl rfl ?_
        refine y_iconst (v := 4) dX11_mean_42 (by decide) ?_
        refine y_ivI1 dX11_mean_43 mv_X11_105 my_X11_found (Or.inl rfl) sh_0 ?_
        refine c_X11_found (f := 4) rfl (by omega) (by omega) ⟨_, rfl, ?_⟩
        refine y_ireturn dX11_mean_46 rfl rfl ?_
        refine ⟨_, rfl, ?_⟩
        obtain ⟨m1, em⟩ : ∃ m1, m1 = foundM m 4 := ⟨_, rfl⟩
        rw [← em]
        have g : ∀ a, 138 ≤ a → m1 a = m a := fun a ha => by rw [em]; exact found_o (by omega) (by omega)
        refine y_run (own := "LoafFallModel") rfl (by decide +kernel) (Nat.le_of_ble_eq_true rfl) rfl ?_
        refine y_iload_n dX12_mean_0 rfl rfl ?_
        refine y_isI1 dX12_mean_1 ms_X12_96 my_X12_isRow (Or.inl rfl) ?_
        refine c_X12_isRow (fun _ => ⟨_, rfl, ?_⟩) (fun z => absurd hr z)
        refine y_if_ne (tgt := 9) dX12_mean_4 (by decide) (fun h4 => ?_) (fun h4 => absurd h4 (by decide))
        refine y_aload_n dX12_mean_9 rfl rfl ?_
        refine y_getr dX12_mean_10 gf_X12_13 sh_239 rfl ?_
        refine y_iload_n dX12_mean_13 rfl rfl ?_
        refine y_ialdN dX12_mean_14 sh_241 rfl (by first | omega | decide) (by decide) ?_
        refine y_if_ge (tgt := 24) dX12_mean_15 (by decide) (fun h15 => ?_) (fun h15 => absurd (by rw [g _ (by omega), s1]; exact nI_pos' (by omega)) h15)
        refine y_aload_n dX12_mean_24 rfl rfl ?_
        refine y_getr dX12_mean_25 gf_X12_13 sh_239 rfl ?_
        refine y_iload_n dX12_mean_28 rfl rfl ?_
        refine y_ialdN dX12_mean_29 sh_241 rfl (by first | omega | decide) (by decide) ?_
        refine y_if_ne (tgt := 39) dX12_mean_30 (by decide) (fun h30 => absurd (by rw [g _ (by omega), s1]; rfl) h30) (fun h30 => ?_)
        refine y_aload_n dX12_mean_33 rfl rfl ?_
        refine y_iconst (v := 4) dX12_mean_34 (by decide) ?_
        refine y_ivI1 dX12_mean_35 mv_X12_100 my_X12_meets (Or.inl rfl) sh_239 ?_
        refine c_X12_meets (f := 4) rfl (by omega) ⟨_, rfl, ?_⟩
        refine y_ireturn dX12_mean_38 rfl rfl ?_
        exact ⟨rfl, by rw [em]; exact Rel_met h⟩
      · have z0 : ¬ (nI s).toInt64 = 0 := by rw [nI_l (by omega)]; exact fun e => absurd ((lN_eq (a := s) (b := 0) (by omega) (by omega)).mp e) (by omega)
        refine y_run (own := "LoafFall") rfl (by decide +kernel) (Nat.le_of_ble_eq_true rfl) rfl ?_
        refine y_iload_n dX11_mean_0 rfl rfl ?_
        refine y_isI1 dX11_mean_1 ms_X11_101 my_X11_isRow (Or.inl rfl) ?_
        refine c_X11_isRow (fun _ => ⟨_, rfl, ?_⟩) (fun z => absurd hr z)
        refine y_if_ne (tgt := 9) dX11_mean_4 (by decide) (fun h4 => ?_) (fun h4 => absurd h4 (by decide))
        refine y_aload_n dX11_mean_9 rfl rfl ?_
        refine y_getr dX11_mean_10 gf_X11_11 sh_0 rfl ?_
        refine y_iload_n dX11_mean_13 rfl rfl ?_
        refine y_aaldN dX11_mean_14 (by decide) sh_1 rfl (rwA (k := k) (by omega)) (by decide) ?_
        refine y_ivI0 dX11_mean_15 mv_X11_123 my_X8_isThere (Or.inl rfl) (rwI (k := k) (by omega)).1 ?_
        refine c_X8_isThere (rwI hk) (fun _ => ⟨_, rfl, ?_⟩) (fun z => absurd z n1)
        refine y_if_ne (tgt := 27) dX11_mean_18 (by decide) (fun h18 => ?_) (fun h18 => absurd h18 (by decide))
        refine y_aload_n dX11_mean_27 rfl rfl ?_
        refine y_getr dX11_mean_28 gf_X11_11 sh_0 rfl ?_
        refine y_iload_n dX11_mean_31 rfl rfl ?_
        refine y_aaldN dX11_mean_32 (by decide) sh_1 rfl (rwA (k := k) (by omega)) (by decide) ?_
        refine y_geti dX11_mean_33 gf_X11_127 (rwI (k := k) (by omega)).1 rfl ?_
        rw [s2]
        refine y_ist6_2 dX11_mean_36 rfl ?_
        refine y_iload_n dX11_mean_37 rfl rfl ?_
        refine y_if_ne (tgt := 47) dX11_mean_38 (by decide) (fun h38 => ?_) (fun h38 => absurd h38 (nI_ne0 z (by omega)))
        refine y_lconst (v := 0) dX11_mean_47 (by decide) ?_
        refine y_lst6_3 dX11_mean_48 rfl ?_
        refine y_iconst (v := 0) dX11_mean_49 (by decide) ?_
        refine y_ist6_5 dX11_mean_50 rfl ?_
        refine cnt (P := fun i => sV (scT L xs) (d + 10) "LoafFall" cX11_mean 6 (some .int) (fun o m1 n1 => ∃ v : Int32, o = some (.int v) ∧ sRun (scT L xs) (d + 11) yX12_mean cX12_mean 5 (some .int) [.ref 239, .int (nI k)] m1 n1 (fun o' m2 n2 => o' = some (.int v) ∧ Rel m2 n2)) 52 [some (.ref 0), some (.int (nI k)), some (.int (nI s)), some (.long (sumL (m (138 + 2 * k + 1)) i)), none, some (.int (nI i))] [] m n) s ?_ ?_ 0 (by omega)
        · refine y_iload dX11_mean_52 rfl ?_
          refine y_iload_n dX11_mean_54 rfl rfl ?_
          refine y_icmp_ge (tgt := 80) dX11_mean_55 (by decide) (fun h55 => ?_) (fun h55 => absurd (nI_le (a := s) (b := s) (Nat.le_refl _) (by omega)) h55)
          refine y_aload_n dX11_mean_80 rfl rfl ?_
          refine y_lload_n dX11_mean_81 rfl rfl ?_
          refine y_iload_n dX11_mean_82 rfl rfl ?_
          refine y_i2l dX11_mean_83 ?_
          refine y_ldiv dX11_mean_84 z0 ?_
          refine y_l2i dX11_mean_85 ?_
          refine y_ivI1 dX11_mean_86 mv_X11_120 my_X11_tell (Or.inl rfl) sh_0 ?_
          refine c_X11_tell ⟨_, rfl, ?_⟩
          refine y_ireturn dX11_mean_89 rfl rfl ?_
          refine ⟨_, rfl, ?_⟩
          generalize em : tellM m ((sumL (m (138 + 2 * k + 1)) s / (nI s).toInt64).toInt32) = m1
          have g : ∀ a, 239 ≤ a → m1 a = m a := fun a ha => by rw [← em, tell_o (by omega)]
          refine y_run (own := "LoafFallModel") rfl (by decide +kernel) (Nat.le_of_ble_eq_true rfl) rfl ?_
          refine y_iload_n dX12_mean_0 rfl rfl ?_
          refine y_isI1 dX12_mean_1 ms_X12_96 my_X12_isRow (Or.inl rfl) ?_
          refine c_X12_isRow (fun _ => ⟨_, rfl, ?_⟩) (fun z => absurd hr z)
          refine y_if_ne (tgt := 9) dX12_mean_4 (by decide) (fun h4 => ?_) (fun h4 => absurd h4 (by decide))
          refine y_aload_n dX12_mean_9 rfl rfl ?_
          refine y_getr dX12_mean_10 gf_X12_13 sh_239 rfl ?_
          refine y_iload_n dX12_mean_13 rfl rfl ?_
          refine y_ialdN dX12_mean_14 sh_241 rfl (by first | omega | decide) (by decide) ?_
          refine y_if_ge (tgt := 24) dX12_mean_15 (by decide) (fun h15 => ?_) (fun h15 => absurd (by rw [g _ (by omega), s1]; exact nI_pos' (by omega)) h15)
          refine y_aload_n dX12_mean_24 rfl rfl ?_
          refine y_getr dX12_mean_25 gf_X12_13 sh_239 rfl ?_
          refine y_iload_n dX12_mean_28 rfl rfl ?_
          refine y_ialdN dX12_mean_29 sh_241 rfl (by first | omega | decide) (by decide) ?_
          refine y_if_ne (tgt := 39) dX12_mean_30 (by decide) (fun h30 => ?_) (fun h30 => absurd h30 (by rw [g _ (by omega), s1]; exact nI_ne0 z (by omega)))
          refine y_lconst (v := 0) dX12_mean_39 (by decide) ?_
          refine y_lst5_2 dX12_mean_40 rfl ?_
          refine y_iconst (v := 0) dX12_mean_41 (by decide) ?_
          refine y_ist5_4 dX12_mean_42 rfl ?_
          refine cnt (P := fun i => sV (scT L xs) (d + 10) "LoafFallModel" cX12_mean 5 (some .int) (fun o' m2 n2 => o' = some (.int 1) ∧ Rel m2 n2) 44 [some (.ref 239), some (.int (nI k)), some (.long (sumL (fun i => m1 242 (40 * k + i)) i)), none, some (.int (nI i))] [] m1 n) s ?_ ?_ 0 (by omega)
          · refine y_iload dX12_mean_44 rfl ?_
            refine y_aload_n dX12_mean_46 rfl rfl ?_
            refine y_getr dX12_mean_47 gf_X12_13 sh_239 rfl ?_
            refine y_iload_n dX12_mean_50 rfl rfl ?_
            refine y_ialdN dX12_mean_51 sh_241 rfl (by first | omega | decide) (by decide) ?_
            rw [g 241 (by omega), s1]
            refine y_icmp_ge (tgt := 72) dX12_mean_52 (by decide) (fun h52 => ?_) (fun h52 => absurd (nI_le (a := s) (b := s) (Nat.le_refl _) (by omega)) h52)
            refine y_aload_n dX12_mean_72 rfl rfl ?_
            refine y_lload_n dX12_mean_73 rfl rfl ?_
            refine y_aload_n dX12_mean_74 rfl rfl ?_
            refine y_getr dX12_mean_75 gf_X12_13 sh_239 rfl ?_
            refine y_iload_n dX12_mean_78 rfl rfl ?_
            refine y_ialdN dX12_mean_79 sh_241 rfl (by first | omega | decide) (by decide) ?_
            rw [g 241 (by omega), s1]
            refine y_i2l dX12_mean_80 ?_
            refine y_ldiv dX12_mean_81 z0 ?_
            refine y_l2i dX12_mean_82 ?_
            refine y_iconst (v := 1) dX12_mean_83 (by decide) ?_
            refine y_ivI2 dX12_mean_84 mv_X12_108 my_X12_tells (Or.inl rfl) sh_239 ?_
            refine c_X12_tells ⟨_, rfl, ?_⟩
            refine y_ireturn dX12_mean_87 rfl rfl ?_
            rw [sumL_eq (g := m (138 + 2 * k + 1)) s (fun i hi => by rw [g _ (by omega), s3 i hi]), ← em]
            exact ⟨rfl, Rel_told h⟩
          · intro i hk hP
            refine y_iload dX12_mean_44 rfl ?_
            refine y_aload_n dX12_mean_46 rfl rfl ?_
            refine y_getr dX12_mean_47 gf_X12_13 sh_239 rfl ?_
            refine y_iload_n dX12_mean_50 rfl rfl ?_
            refine y_ialdN dX12_mean_51 sh_241 rfl (by first | omega | decide) (by decide) ?_
            rw [g 241 (by omega), s1]
            refine y_icmp_ge (tgt := 72) dX12_mean_52 (by decide) (fun h52 => absurd h52 (nI_ge (a := i) (b := s) hk (by omega))) (fun h52 => ?_)
            refine y_lload_n dX12_mean_55 rfl rfl ?_
            refine y_aload_n dX12_mean_56 rfl rfl ?_
            refine y_iload_n dX12_mean_57 rfl rfl ?_
            refine y_iload dX12_mean_58 rfl ?_
            refine y_ivI2 dX12_mean_60 mv_X12_104 my_X12_rowAt (Or.inl rfl) sh_239 ?_
            refine c_X12_rowAt (r := k) (i := i) rfl (by omega) rfl (by omega) ⟨_, rfl, ?_⟩
            refine y_i2l dX12_mean_63 ?_
            refine y_ladd dX12_mean_64 ?_
            refine y_lst5_2 dX12_mean_65 rfl ?_
            refine y_iinc5_4 dX12_mean_66 (nI_1 _) rfl ?_
            refine y_goto (tgt := 44) dX12_mean_69 (by decide) ?_
            exact hP
        · intro i hk hP
          refine y_iload dX11_mean_52 rfl ?_
          refine y_iload_n dX11_mean_54 rfl rfl ?_
          refine y_icmp_ge (tgt := 80) dX11_mean_55 (by decide) (fun h55 => absurd h55 (nI_ge (a := i) (b := s) hk (by omega))) (fun h55 => ?_)
          refine y_lload_n dX11_mean_58 rfl rfl ?_
          refine y_aload_n dX11_mean_59 rfl rfl ?_
          refine y_getr dX11_mean_60 gf_X11_11 sh_0 rfl ?_
          refine y_iload_n dX11_mean_63 rfl rfl ?_
          refine y_aaldN dX11_mean_64 (by decide) sh_1 rfl (rwA (k := k) (by omega)) (by decide) ?_
          refine y_getr dX11_mean_65 gf_X11_117 (rwI (k := k) (by omega)).1 rfl ?_
          refine y_iload dX11_mean_68 rfl ?_
          refine y_ialdN dX11_mean_70 (rwI (k := k) (by omega)).2 rfl (by first | omega | decide) (by decide) ?_
          refine y_i2l dX11_mean_71 ?_
          refine y_ladd dX11_mean_72 ?_
          refine y_lst6_3 dX11_mean_73 rfl ?_
          refine y_iinc6_5 dX11_mean_74 (nI_1 _) rfl ?_
          refine y_goto (tgt := 52) dX11_mean_77 (by decide) ?_
          exact hP
  · refine y_run (own := "LoafFall") rfl (by decide +kernel) (Nat.le_of_ble_eq_true rfl) rfl ?_
    refine y_iload_n dX11_mean_0 rfl rfl ?_
    refine y_isI1 dX11_mean_1 ms_X11_101 my_X11_isRow (Or.inl rfl) ?_
    refine c_X11_isRow (fun z => absurd z hr) (fun _ => ⟨_, rfl, ?_⟩)
    refine y_if_ne (tgt := 9) dX11_mean_4 (by decide) (fun h4 => absurd (by decide) h4) (fun h4 => ?_)
    refine y_iconst (v := -1) dX11_mean_7 (by decide) ?_
    refine y_ireturn dX11_mean_8 rfl rfl ?_
    refine ⟨_, rfl, ?_⟩
    refine y_run (own := "LoafFallModel") rfl (by decide +kernel) (Nat.le_of_ble_eq_true rfl) rfl ?_
    refine y_iload_n dX12_mean_0 rfl rfl ?_
    refine y_isI1 dX12_mean_1 ms_X12_96 my_X12_isRow (Or.inl rfl) ?_
    refine c_X12_isRow (fun z => absurd z hr) (fun _ => ⟨_, rfl, ?_⟩)
    refine y_if_ne (tgt := 9) dX12_mean_4 (by decide) (fun h4 => absurd (by decide) h4) (fun h4 => ?_)
    refine y_iconst (v := -1) dX12_mean_7 (by decide) ?_
    refine y_ireturn dX12_mean_8 rfl rfl ?_
    exact ⟨rfl, h⟩
set_option maxHeartbeats 1000000 in
theorem c_X12_copy_ok {L : Nat} {xs : Nat → Int32} {d : Nat} {m : sM} {n : sN} {Q : sQ} {k a l b u s t : Nat} {r x r2 x2 q : Int32} (hr : r = nI k) (hk : k < 6) (hx : x = nI a) (hr2 : r2 = nI l) (hl : l < 6) (hx2 : x2 = nI b) (hq : q = nI u) (s1 : m 241 k = nI s) (hs : s ≤ 40) (t1 : m 241 l = nI t) (ht : t ≤ 40) (ha : a + u ≤ s) (hb : b + u ≤ t) (hQ : ∀ f, Q (some (.int 1)) (s_up (s_up m 243 f) 242 (layN (fun i => m 242 (40 * k + (a + i))) (40 * l + b) (40 * l + b + u) (m 242))) n) : sRun (scT L xs) (d + 3) yX12_copy cX12_copy 7 (some .int) [.ref 239, .int r, .int x, .int r2, .int x2, .int q] m n Q := by
  subst hr hx hr2 hx2 hq
  refine y_run (own := "LoafFallModel") rfl (by decide +kernel) (Nat.le_of_ble_eq_true rfl) rfl ?_
  refine y_iload_n dX12_copy_0 rfl rfl ?_
  refine y_isI1 dX12_copy_1 ms_X12_96 my_X12_isRow (Or.inl rfl) ?_
  refine c_X12_isRow (fun _ => ⟨_, rfl, ?_⟩) (fun z => absurd (⟨k, hk, rfl⟩ : inN (nI k) 6) z)
  refine y_if_eq (tgt := 14) dX12_copy_4 (by decide) (fun h4 => absurd h4 (by decide)) (fun h4 => ?_)
  refine y_iload_n dX12_copy_7 rfl rfl ?_
  refine y_isI1 dX12_copy_8 ms_X12_96 my_X12_isRow (Or.inl rfl) ?_
  refine c_X12_isRow (fun _ => ⟨_, rfl, ?_⟩) (fun z => absurd (⟨l, hl, rfl⟩ : inN (nI l) 6) z)
  refine y_if_ne (tgt := 16) dX12_copy_11 (by decide) (fun h11 => ?_) (fun h11 => absurd h11 (by decide))
  refine y_iload dX12_copy_16 rfl ?_
  refine y_if_ge (tgt := 27) dX12_copy_18 (by decide) (fun h18 => ?_) (fun h18 => absurd (nI_pos' (by omega)) h18)
  refine y_aload_n dX12_copy_27 rfl rfl ?_
  refine y_getr dX12_copy_28 gf_X12_13 sh_239 rfl ?_
  refine y_iload_n dX12_copy_31 rfl rfl ?_
  refine y_ialdN dX12_copy_32 sh_241 rfl (by first | omega | decide) (by decide) ?_
  refine y_if_lt (tgt := 45) dX12_copy_33 (by decide) (fun h33 => absurd h33 (by rw [s1]; exact nI_pos (by omega))) (fun h33 => ?_)
  refine y_aload_n dX12_copy_36 rfl rfl ?_
  refine y_getr dX12_copy_37 gf_X12_13 sh_239 rfl ?_
  refine y_iload_n dX12_copy_40 rfl rfl ?_
  refine y_ialdN dX12_copy_41 sh_241 rfl (by first | omega | decide) (by decide) ?_
  refine y_if_ge (tgt := 51) dX12_copy_42 (by decide) (fun h42 => ?_) (fun h42 => absurd (by rw [t1]; exact nI_pos' (by omega)) h42)
  refine y_iload_n dX12_copy_51 rfl rfl ?_
  refine y_if_lt (tgt := 95) dX12_copy_52 (by decide) (fun h52 => absurd h52 (nI_pos (by omega))) (fun h52 => ?_)
  refine y_iload dX12_copy_55 rfl ?_
  refine y_if_lt (tgt := 95) dX12_copy_57 (by decide) (fun h57 => absurd h57 (nI_pos (by omega))) (fun h57 => ?_)
  refine y_iload_n dX12_copy_60 rfl rfl ?_
  refine y_i2l dX12_copy_61 ?_
  refine y_iload dX12_copy_62 rfl ?_
  refine y_i2l dX12_copy_64 ?_
  refine y_ladd dX12_copy_65 ?_
  refine y_aload_n dX12_copy_66 rfl rfl ?_
  refine y_getr dX12_copy_67 gf_X12_13 sh_239 rfl ?_
  refine y_iload_n dX12_copy_70 rfl rfl ?_
  refine y_ialdN dX12_copy_71 sh_241 rfl (by first | omega | decide) (by decide) ?_
  refine y_i2l dX12_copy_72 ?_
  rw [s1]
  refine y_lcmp dX12_copy_73 ?_
  refine y_if_gt (tgt := 95) dX12_copy_74 (by decide) (fun h74 => absurd h74 (fun z => (spn_r (by omega) hs (nI_pos (by omega))).mp z ⟨a, rfl, ha⟩)) (fun h74 => ?_)
  refine y_iload dX12_copy_77 rfl ?_
  refine y_i2l dX12_copy_79 ?_
  refine y_iload dX12_copy_80 rfl ?_
  refine y_i2l dX12_copy_82 ?_
  refine y_ladd dX12_copy_83 ?_
  refine y_aload_n dX12_copy_84 rfl rfl ?_
  refine y_getr dX12_copy_85 gf_X12_13 sh_239 rfl ?_
  refine y_iload_n dX12_copy_88 rfl rfl ?_
  refine y_ialdN dX12_copy_89 sh_241 rfl (by first | omega | decide) (by decide) ?_
  refine y_i2l dX12_copy_90 ?_
  rw [t1]
  refine y_lcmp dX12_copy_91 ?_
  refine y_if_le (tgt := 101) dX12_copy_92 (by decide) (fun h92 => ?_) (fun h92 => absurd (Int32.not_lt.mp (fun z => (spn_r (by omega) ht (nI_pos (by omega))).mp z ⟨b, rfl, hb⟩)) h92)
  refine y_iconst (v := 0) dX12_copy_101 (by decide) ?_
  refine y_ist7_6 dX12_copy_102 rfl ?_
  have e0 : s_up m 243 (layN (fun i => m 242 (40 * k + (a + i))) 0 (0 + 0) (m 243)) = m := by rw [layN_0]; exact s_id
  refine cnt (P := fun j => ∀ m' : sM, m' = s_up m 243 (layN (fun i => m 242 (40 * k + (a + i))) 0 (0 + j) (m 243)) → sV (scT L xs) (d + 2) "LoafFallModel" cX12_copy 7 (some .int) Q 104 [some (.ref 239), some (.int (nI k)), some (.int (nI a)), some (.int (nI l)), some (.int (nI b)), some (.int (nI u)), some (.int (nI j))] [] m' n) u ?_ ?_ 0 (by omega) m e0.symm
  · intro m' hm
    refine y_iload dX12_copy_104 rfl ?_
    refine y_iload dX12_copy_106 rfl ?_
    refine y_icmp_ge (tgt := 133) dX12_copy_108 (by decide) (fun h108 => ?_) (fun h108 => absurd (nI_le (a := u) (b := u) (Nat.le_refl _) (by omega)) h108)
    refine y_iconst (v := 0) dX12_copy_133 (by decide) ?_
    refine y_ist7_6 dX12_copy_134 rfl ?_
    have e1 : s_up m' 242 (layN (fun i => m 242 (40 * k + (a + i))) (40 * l + b) (40 * l + b + 0) (m' 242)) = m' := by rw [layN_0]; exact s_id
    refine cnt (P := fun j => ∀ m2 : sM, m2 = s_up m' 242 (layN (fun i => m 242 (40 * k + (a + i))) (40 * l + b) (40 * l + b + j) (m' 242)) → sV (scT L xs) (d + 2) "LoafFallModel" cX12_copy 7 (some .int) Q 136 [some (.ref 239), some (.int (nI k)), some (.int (nI a)), some (.int (nI l)), some (.int (nI b)), some (.int (nI u)), some (.int (nI j))] [] m2 n) u ?_ ?_ 0 (by omega) m' e1.symm
    · intro m2 hm2
      refine y_iload dX12_copy_136 rfl ?_
      refine y_iload dX12_copy_138 rfl ?_
      refine y_icmp_ge (tgt := 171) dX12_copy_140 (by decide) (fun h140 => ?_) (fun h140 => absurd (nI_le (a := u) (b := u) (Nat.le_refl _) (by omega)) h140)
      refine y_iconst (v := 1) dX12_copy_171 (by decide) ?_
      refine y_ireturn dX12_copy_172 rfl rfl ?_
      rw [hm2, hm, s_upN (a := 243) (b := 242) (by omega)]
      exact hQ _
    · intro j hk hP
      intro m2 hm2
      refine y_iload dX12_copy_136 rfl ?_
      refine y_iload dX12_copy_138 rfl ?_
      refine y_icmp_ge (tgt := 171) dX12_copy_140 (by decide) (fun h140 => absurd h140 (nI_ge (a := j) (b := u) hk (by omega))) (fun h140 => ?_)
      refine y_aload_n dX12_copy_143 rfl rfl ?_
      refine y_getr dX12_copy_144 gf_X12_16 sh_239 rfl ?_
      refine y_bipush (v := 40) dX12_copy_147 (by decide) ?_
      refine y_iload_n dX12_copy_149 rfl rfl ?_
      refine y_imulN (a := 40) (b := l) dX12_copy_150 rfl rfl ?_
      refine y_iload dX12_copy_151 rfl ?_
      refine y_iaddN (a := 40 * l) (b := b) dX12_copy_153 rfl rfl ?_
      refine y_iload dX12_copy_154 rfl ?_
      refine y_iaddN (a := 40 * l + b) (b := j) dX12_copy_156 rfl rfl ?_
      refine y_aload_n dX12_copy_157 rfl rfl ?_
      refine y_getr dX12_copy_158 gf_X12_19 sh_239 rfl ?_
      refine y_iload dX12_copy_161 rfl ?_
      refine y_ialdN dX12_copy_163 sh_243 rfl (by first | omega | decide) (by decide) ?_
      rw [show m2 243 j = m 242 (40 * k + (a + j)) from by rw [hm2, s_upN (by omega), hm, s_upS]; unfold layN; rw [if_pos (by omega), Nat.sub_zero]]
      refine y_iastN dX12_copy_164 sh_242 rfl (by first | omega | decide) (by decide) ?_
      refine y_iinc7_6 dX12_copy_165 (nI_1 _) rfl ?_
      refine y_goto (tgt := 136) dX12_copy_168 (by decide) ?_
      refine hP _ ?_
      rw [hm2, s_upS, s_up2, ← layN_S (g := (fun i => m 242 (40 * k + (a + i))))]
  · intro j hk hP
    intro m' hm
    refine y_iload dX12_copy_104 rfl ?_
    refine y_iload dX12_copy_106 rfl ?_
    refine y_icmp_ge (tgt := 133) dX12_copy_108 (by decide) (fun h108 => absurd h108 (nI_ge (a := j) (b := u) hk (by omega))) (fun h108 => ?_)
    refine y_aload_n dX12_copy_111 rfl rfl ?_
    refine y_getr dX12_copy_112 gf_X12_19 sh_239 rfl ?_
    refine y_iload dX12_copy_115 rfl ?_
    refine y_aload_n dX12_copy_117 rfl rfl ?_
    refine y_iload_n dX12_copy_118 rfl rfl ?_
    refine y_iload_n dX12_copy_119 rfl rfl ?_
    refine y_iload dX12_copy_120 rfl ?_
    refine y_iaddN (a := a) (b := j) dX12_copy_122 rfl rfl ?_
    refine y_ivI2 dX12_copy_123 mv_X12_104 my_X12_rowAt (Or.inl rfl) sh_239 ?_
    refine c_X12_rowAt (r := k) (i := a + j) rfl (by omega) rfl (by omega) ⟨_, rfl, ?_⟩
    rw [show m' 242 (40 * k + (a + j)) = m 242 (40 * k + (a + j)) from by rw [hm, s_upN (by omega)]]
    refine y_iastN dX12_copy_126 sh_243 rfl (by first | omega | decide) (by decide) ?_
    refine y_iinc7_6 dX12_copy_127 (nI_1 _) rfl ?_
    refine y_goto (tgt := 104) dX12_copy_130 (by decide) ?_
    refine hP _ ?_
    rw [hm, s_upS, s_up2, show layN (fun i => m 242 (40 * k + (a + i))) 0 (0 + (j + 1)) (m 243) = upd (layN (fun i => m 242 (40 * k + (a + i))) 0 (0 + j) (m 243)) j (m 242 (40 * k + (a + j))) from by rw [← layN_S (g := (fun i => m 242 (40 * k + (a + i)))), Nat.zero_add]]
set_option maxHeartbeats 2000000 in
theorem p_copy {L : Nat} {xs : Nat → Int32} {d : Nat} {m : sM} {n : sN} {r x r2 x2 q : Int32} (h : Rel m n) : PI L xs (d + 11) yX11_copy cX11_copy 6 yX12_copy cX12_copy 7 [.int r, .int x, .int r2, .int x2, .int q] m n := by
  unfold PI
  by_cases hr : inN r 6
  · by_cases hr2 : inN r2 6
    · by_cases hq : q < 0
      · refine y_run (own := "LoafFall") rfl (by decide +kernel) (Nat.le_of_ble_eq_true rfl) rfl ?_
        refine y_iload_n dX11_copy_0 rfl rfl ?_
        refine y_isI1 dX11_copy_1 ms_X11_101 my_X11_isRow (Or.inl rfl) ?_
        refine c_X11_isRow (fun _ => ⟨_, rfl, ?_⟩) (fun z => absurd hr z)
        refine y_if_eq (tgt := 14) dX11_copy_4 (by decide) (fun h4 => absurd h4 (by decide)) (fun h4 => ?_)
        refine y_iload_n dX11_copy_7 rfl rfl ?_
        refine y_isI1 dX11_copy_8 ms_X11_101 my_X11_isRow (Or.inl rfl) ?_
        refine c_X11_isRow (fun _ => ⟨_, rfl, ?_⟩) (fun z => absurd hr2 z)
        refine y_if_ne (tgt := 16) dX11_copy_11 (by decide) (fun h11 => ?_) (fun h11 => absurd h11 (by decide))
        refine y_iload dX11_copy_16 rfl ?_
        refine y_if_ge (tgt := 27) dX11_copy_18 (by decide) (fun h18 => absurd h18 (Int32.not_le.mpr hq)) (fun h18 => ?_)
        refine y_aload_n dX11_copy_21 rfl rfl ?_
        refine y_iconst (v := 5) dX11_copy_22 (by decide) ?_
        refine y_ivI1 dX11_copy_23 mv_X11_105 my_X11_found (Or.inl rfl) sh_0 ?_
        refine c_X11_found (f := 5) rfl (by omega) (by omega) ⟨_, rfl, ?_⟩
        refine y_ireturn dX11_copy_26 rfl rfl ?_
        refine ⟨_, rfl, ?_⟩
        obtain ⟨m1, em⟩ : ∃ m1, m1 = foundM m 5 := ⟨_, rfl⟩
        rw [← em]
        have g : ∀ a, 138 ≤ a → m1 a = m a := fun a ha => by rw [em]; exact found_o (by omega) (by omega)
        refine y_run (own := "LoafFallModel") rfl (by decide +kernel) (Nat.le_of_ble_eq_true rfl) rfl ?_
        refine y_iload_n dX12_copy_0 rfl rfl ?_
        refine y_isI1 dX12_copy_1 ms_X12_96 my_X12_isRow (Or.inl rfl) ?_
        refine c_X12_isRow (fun _ => ⟨_, rfl, ?_⟩) (fun z => absurd hr z)
        refine y_if_eq (tgt := 14) dX12_copy_4 (by decide) (fun h4 => absurd h4 (by decide)) (fun h4 => ?_)
        refine y_iload_n dX12_copy_7 rfl rfl ?_
        refine y_isI1 dX12_copy_8 ms_X12_96 my_X12_isRow (Or.inl rfl) ?_
        refine c_X12_isRow (fun _ => ⟨_, rfl, ?_⟩) (fun z => absurd hr2 z)
        refine y_if_ne (tgt := 16) dX12_copy_11 (by decide) (fun h11 => ?_) (fun h11 => absurd h11 (by decide))
        refine y_iload dX12_copy_16 rfl ?_
        refine y_if_ge (tgt := 27) dX12_copy_18 (by decide) (fun h18 => absurd h18 (Int32.not_le.mpr hq)) (fun h18 => ?_)
        refine y_aload_n dX12_copy_21 rfl rfl ?_
        refine y_iconst (v := 5) dX12_copy_22 (by decide) ?_
        refine y_ivI1 dX12_copy_23 mv_X12_100 my_X12_meets (Or.inl rfl) sh_239 ?_
        refine c_X12_meets (f := 5) rfl (by omega) ⟨_, rfl, ?_⟩
        refine y_ireturn dX12_copy_26 rfl rfl ?_
        exact ⟨rfl, by rw [em]; exact Rel_met h⟩
      · obtain ⟨u, hu, rfl⟩ := nI_of hq
        obtain ⟨k, hk, rfl⟩ := hr
        have hr : inN (nI k) 6 := ⟨k, hk, rfl⟩
        obtain ⟨l, hl, rfl⟩ := hr2
        have hr2 : inN (nI l) 6 := ⟨l, hl, rfl⟩
        rcases h.w k hk with ⟨s1, s2⟩ | ⟨s, hs, s1, s2, s3⟩
        · refine y_run (own := "LoafFall") rfl (by decide +kernel) (Nat.le_of_ble_eq_true rfl) rfl ?_
          refine y_iload_n dX11_copy_0 rfl rfl ?_
          refine y_isI1 dX11_copy_1 ms_X11_101 my_X11_isRow (Or.inl rfl) ?_
          refine c_X11_isRow (fun _ => ⟨_, rfl, ?_⟩) (fun z => absurd hr z)
          refine y_if_eq (tgt := 14) dX11_copy_4 (by decide) (fun h4 => absurd h4 (by decide)) (fun h4 => ?_)
          refine y_iload_n dX11_copy_7 rfl rfl ?_
          refine y_isI1 dX11_copy_8 ms_X11_101 my_X11_isRow (Or.inl rfl) ?_
          refine c_X11_isRow (fun _ => ⟨_, rfl, ?_⟩) (fun z => absurd hr2 z)
          refine y_if_ne (tgt := 16) dX11_copy_11 (by decide) (fun h11 => ?_) (fun h11 => absurd h11 (by decide))
          refine y_iload dX11_copy_16 rfl ?_
          refine y_if_ge (tgt := 27) dX11_copy_18 (by decide) (fun h18 => ?_) (fun h18 => absurd (Int32.not_lt.mp hq) h18)
          refine y_aload_n dX11_copy_27 rfl rfl ?_
          refine y_getr dX11_copy_28 gf_X11_11 sh_0 rfl ?_
          refine y_iload_n dX11_copy_31 rfl rfl ?_
          refine y_aaldN dX11_copy_32 (by decide) sh_1 rfl (rwA (k := k) (by omega)) (by decide) ?_
          refine y_ivI0 dX11_copy_33 mv_X11_123 my_X8_isThere (Or.inl rfl) (rwI (k := k) (by omega)).1 ?_
          refine c_X8_isThere (rwI hk) (fun z => absurd s2 z) (fun _ => ⟨_, rfl, ?_⟩)
          refine y_if_eq (tgt := 51) dX11_copy_36 (by decide) (fun h36 => ?_) (fun h36 => absurd (by decide) h36)
          refine y_aload_n dX11_copy_51 rfl rfl ?_
          refine y_iconst (v := 1) dX11_copy_52 (by decide) ?_
          refine y_ivI1 dX11_copy_53 mv_X11_105 my_X11_found (Or.inl rfl) sh_0 ?_
          refine c_X11_found (f := 1) rfl (by omega) (by omega) ⟨_, rfl, ?_⟩
          refine y_ireturn dX11_copy_56 rfl rfl ?_
          refine ⟨_, rfl, ?_⟩
          obtain ⟨m1, em⟩ : ∃ m1, m1 = foundM m 1 := ⟨_, rfl⟩
          rw [← em]
          have g : ∀ a, 138 ≤ a → m1 a = m a := fun a ha => by rw [em]; exact found_o (by omega) (by omega)
          refine y_run (own := "LoafFallModel") rfl (by decide +kernel) (Nat.le_of_ble_eq_true rfl) rfl ?_
          refine y_iload_n dX12_copy_0 rfl rfl ?_
          refine y_isI1 dX12_copy_1 ms_X12_96 my_X12_isRow (Or.inl rfl) ?_
          refine c_X12_isRow (fun _ => ⟨_, rfl, ?_⟩) (fun z => absurd hr z)
          refine y_if_eq (tgt := 14) dX12_copy_4 (by decide) (fun h4 => absurd h4 (by decide)) (fun h4 => ?_)
          refine y_iload_n dX12_copy_7 rfl rfl ?_
          refine y_isI1 dX12_copy_8 ms_X12_96 my_X12_isRow (Or.inl rfl) ?_
          refine c_X12_isRow (fun _ => ⟨_, rfl, ?_⟩) (fun z => absurd hr2 z)
          refine y_if_ne (tgt := 16) dX12_copy_11 (by decide) (fun h11 => ?_) (fun h11 => absurd h11 (by decide))
          refine y_iload dX12_copy_16 rfl ?_
          refine y_if_ge (tgt := 27) dX12_copy_18 (by decide) (fun h18 => ?_) (fun h18 => absurd (Int32.not_lt.mp hq) h18)
          refine y_aload_n dX12_copy_27 rfl rfl ?_
          refine y_getr dX12_copy_28 gf_X12_13 sh_239 rfl ?_
          refine y_iload_n dX12_copy_31 rfl rfl ?_
          refine y_ialdN dX12_copy_32 sh_241 rfl (by first | omega | decide) (by decide) ?_
          refine y_if_lt (tgt := 45) dX12_copy_33 (by decide) (fun h33 => ?_) (fun h33 => absurd (by rw [g _ (by omega), s1]; decide) h33)
          refine y_aload_n dX12_copy_45 rfl rfl ?_
          refine y_iconst (v := 1) dX12_copy_46 (by decide) ?_
          refine y_ivI1 dX12_copy_47 mv_X12_100 my_X12_meets (Or.inl rfl) sh_239 ?_
          refine c_X12_meets (f := 1) rfl (by omega) ⟨_, rfl, ?_⟩
          refine y_ireturn dX12_copy_50 rfl rfl ?_
          exact ⟨rfl, by rw [em]; exact Rel_met h⟩
        · have n1 : ¬ m (138 + 2 * k) 1 = -1 := by rw [s2]; exact nI_m1 (by omega)
          rcases h.w l hl with ⟨t1, t2⟩ | ⟨t, ht, t1, t2, t3⟩
          · refine y_run (own := "LoafFall") rfl (by decide +kernel) (Nat.le_of_ble_eq_true rfl) rfl ?_
            refine y_iload_n dX11_copy_0 rfl rfl ?_
            refine y_isI1 dX11_copy_1 ms_X11_101 my_X11_isRow (Or.inl rfl) ?_
            refine c_X11_isRow (fun _ => ⟨_, rfl, ?_⟩) (fun z => absurd hr z)
            refine y_if_eq (tgt := 14) dX11_copy_4 (by decide) (fun h4 => absurd h4 (by decide)) (fun h4 => ?_)
            refine y_iload_n dX11_copy_7 rfl rfl ?_
            refine y_isI1 dX11_copy_8 ms_X11_101 my_X11_isRow (Or.inl rfl) ?_
            refine c_X11_isRow (fun _ => ⟨_, rfl, ?_⟩) (fun z => absurd hr2 z)
            refine y_if_ne (tgt := 16) dX11_copy_11 (by decide) (fun h11 => ?_) (fun h11 => absurd h11 (by decide))
            refine y_iload dX11_copy_16 rfl ?_
            refine y_if_ge (tgt := 27) dX11_copy_18 (by decide) (fun h18 => ?_) (fun h18 => absurd (Int32.not_lt.mp hq) h18)
            refine y_aload_n dX11_copy_27 rfl rfl ?_
            refine y_getr dX11_copy_28 gf_X11_11 sh_0 rfl ?_
            refine y_iload_n dX11_copy_31 rfl rfl ?_
            refine y_aaldN dX11_copy_32 (by decide) sh_1 rfl (rwA (k := k) (by omega)) (by decide) ?_
            refine y_ivI0 dX11_copy_33 mv_X11_123 my_X8_isThere (Or.inl rfl) (rwI (k := k) (by omega)).1 ?_
            refine c_X8_isThere (rwI hk) (fun _ => ⟨_, rfl, ?_⟩) (fun z => absurd z n1)
            refine y_if_eq (tgt := 51) dX11_copy_36 (by decide) (fun h36 => absurd h36 (by decide)) (fun h36 => ?_)
            refine y_aload_n dX11_copy_39 rfl rfl ?_
            refine y_getr dX11_copy_40 gf_X11_11 sh_0 rfl ?_
            refine y_iload_n dX11_copy_43 rfl rfl ?_
            refine y_aaldN dX11_copy_44 (by decide) sh_1 rfl (rwA (k := l) (by omega)) (by decide) ?_
            refine y_ivI0 dX11_copy_45 mv_X11_123 my_X8_isThere (Or.inl rfl) (rwI (k := l) (by omega)).1 ?_
            refine c_X8_isThere (rwI hl) (fun z => absurd t2 z) (fun _ => ⟨_, rfl, ?_⟩)
            refine y_if_ne (tgt := 57) dX11_copy_48 (by decide) (fun h48 => absurd (by decide) h48) (fun h48 => ?_)
            refine y_aload_n dX11_copy_51 rfl rfl ?_
            refine y_iconst (v := 1) dX11_copy_52 (by decide) ?_
            refine y_ivI1 dX11_copy_53 mv_X11_105 my_X11_found (Or.inl rfl) sh_0 ?_
            refine c_X11_found (f := 1) rfl (by omega) (by omega) ⟨_, rfl, ?_⟩
            refine y_ireturn dX11_copy_56 rfl rfl ?_
            refine ⟨_, rfl, ?_⟩
            obtain ⟨m1, em⟩ : ∃ m1, m1 = foundM m 1 := ⟨_, rfl⟩
            rw [← em]
            have g : ∀ a, 138 ≤ a → m1 a = m a := fun a ha => by rw [em]; exact found_o (by omega) (by omega)
            refine y_run (own := "LoafFallModel") rfl (by decide +kernel) (Nat.le_of_ble_eq_true rfl) rfl ?_
            refine y_iload_n dX12_copy_0 rfl rfl ?_
            refine y_isI1 dX12_copy_1 ms_X12_96 my_X12_isRow (Or.inl rfl) ?_
            refine c_X12_isRow (fun _ => ⟨_, rfl, ?_⟩) (fun z => absurd hr z)
            refine y_if_eq (tgt := 14) dX12_copy_4 (by decide) (fun h4 => absurd h4 (by decide)) (fun h4 => ?_)
            refine y_iload_n dX12_copy_7 rfl rfl ?_
            refine y_isI1 dX12_copy_8 ms_X12_96 my_X12_isRow (Or.inl rfl) ?_
            refine c_X12_isRow (fun _ => ⟨_, rfl, ?_⟩) (fun z => absurd hr2 z)
            refine y_if_ne (tgt := 16) dX12_copy_11 (by decide) (fun h11 => ?_) (fun h11 => absurd h11 (by decide))
            refine y_iload dX12_copy_16 rfl ?_
            refine y_if_ge (tgt := 27) dX12_copy_18 (by decide) (fun h18 => ?_) (fun h18 => absurd (Int32.not_lt.mp hq) h18)
            refine y_aload_n dX12_copy_27 rfl rfl ?_
            refine y_getr dX12_copy_28 gf_X12_13 sh_239 rfl ?_
            refine y_iload_n dX12_copy_31 rfl rfl ?_
            refine y_ialdN dX12_copy_32 sh_241 rfl (by first | omega | decide) (by decide) ?_
            refine y_if_lt (tgt := 45) dX12_copy_33 (by decide) (fun h33 => absurd h33 (by rw [g _ (by omega), s1]; exact nI_pos (by omega))) (fun h33 => ?_)
            refine y_aload_n dX12_copy_36 rfl rfl ?_
            refine y_getr dX12_copy_37 gf_X12_13 sh_239 rfl ?_
            refine y_iload_n dX12_copy_40 rfl rfl ?_
            refine y_ialdN dX12_copy_41 sh_241 rfl (by first | omega | decide) (by decide) ?_
            refine y_if_ge (tgt := 51) dX12_copy_42 (by decide) (fun h42 => absurd h42 (by rw [g _ (by omega), t1]; decide)) (fun h42 => ?_)
            refine y_aload_n dX12_copy_45 rfl rfl ?_
            refine y_iconst (v := 1) dX12_copy_46 (by decide) ?_
            refine y_ivI1 dX12_copy_47 mv_X12_100 my_X12_meets (Or.inl rfl) sh_239 ?_
            refine c_X12_meets (f := 1) rfl (by omega) ⟨_, rfl, ?_⟩
            refine y_ireturn dX12_copy_50 rfl rfl ?_
            exact ⟨rfl, by rw [em]; exact Rel_met h⟩
          · have n2 : ¬ m (138 + 2 * l) 1 = -1 := by rw [t2]; exact nI_m1 (by omega)
            by_cases hi : spn x u s
            · by_cases hj : spn x2 u t
              · obtain ⟨a, rfl, ha⟩ := id hi
                obtain ⟨b, rfl, hb⟩ := id hj
                refine y_run (own := "LoafFall") rfl (by decide +kernel) (Nat.le_of_ble_eq_true rfl) rfl ?_
                refine y_iload_n dX11_copy_0 rfl rfl ?_
                refine y_isI1 dX11_copy_1 ms_X11_101 my_X11_isRow (Or.inl rfl) ?_
                refine c_X11_isRow (fun _ => ⟨_, rfl, ?_⟩) (fun z => absurd hr z)
                refine y_if_eq (tgt := 14) dX11_copy_4 (by decide) (fun h4 => absurd h4 (by decide)) (fun h4 => ?_)
                refine y_iload_n dX11_copy_7 rfl rfl ?_
                refine y_isI1 dX11_copy_8 ms_X11_101 my_X11_isRow (Or.inl rfl) ?_
                refine c_X11_isRow (fun _ => ⟨_, rfl, ?_⟩) (fun z => absurd hr2 z)
                refine y_if_ne (tgt := 16) dX11_copy_11 (by decide) (fun h11 => ?_) (fun h11 => absurd h11 (by decide))
                refine y_iload dX11_copy_16 rfl ?_
                refine y_if_ge (tgt := 27) dX11_copy_18 (by decide) (fun h18 => ?_) (fun h18 => absurd (Int32.not_lt.mp hq) h18)
                refine y_aload_n dX11_copy_27 rfl rfl ?_
                refine y_getr dX11_copy_28 gf_X11_11 sh_0 rfl ?_
                refine y_iload_n dX11_copy_31 rfl rfl ?_
                refine y_aaldN dX11_copy_32 (by decide) sh_1 rfl (rwA (k := k) (by omega)) (by decide) ?_
                refine y_ivI0 dX11_copy_33 mv_X11_123 my_X8_isThere (Or.inl rfl) (rwI (k := k) (by omega)).1 ?_
                refine c_X8_isThere (rwI hk) (fun _ => ⟨_, rfl, ?_⟩) (fun z => absurd z n1)
                refine y_if_eq (tgt := 51) dX11_copy_36 (by decide) (fun h36 => absurd h36 (by decide)) (fun h36 => ?_)
                refine y_aload_n dX11_copy_39 rfl rfl ?_
                refine y_getr dX11_copy_40 gf_X11_11 sh_0 rfl ?_
                refine y_iload_n dX11_copy_43 rfl rfl ?_
                refine y_aaldN dX11_copy_44 (by decide) sh_1 rfl (rwA (k := l) (by omega)) (by decide) ?_
                refine y_ivI0 dX11_copy_45 mv_X11_123 my_X8_isThere (Or.inl rfl) (rwI (k := l) (by omega)).1 ?_
                refine c_X8_isThere (rwI hl) (fun _ => ⟨_, rfl, ?_⟩) (fun z => absurd z n2)
                refine y_if_ne (tgt := 57) dX11_copy_48 (by decide) (fun h48 => ?_) (fun h48 => absurd h48 (by decide))
                refine y_aload_n dX11_copy_57 rfl rfl ?_
                refine y_getr dX11_copy_58 gf_X11_11 sh_0 rfl ?_
                refine y_iload_n dX11_copy_61 rfl rfl ?_
                refine y_aaldN dX11_copy_62 (by decide) sh_1 rfl (rwA (k := k) (by omega)) (by decide) ?_
                refine y_iload_n dX11_copy_63 rfl rfl ?_
                refine y_iload dX11_copy_64 rfl ?_
                refine y_ivI2 dX11_copy_66 mv_X11_131 my_X8_hasSpan (Or.inl rfl) (rwI (k := k) (by omega)).1 ?_
                refine c_X8_hasSpan (rwI hk) (fun _ _ _ _ => ⟨_, rfl, ?_⟩) (fun z => absurd z (spnZ hs hu hi s2))
                refine y_if_eq (tgt := 88) dX11_copy_69 (by decide) (fun h69 => absurd h69 (by decide)) (fun h69 => ?_)
                refine y_aload_n dX11_copy_72 rfl rfl ?_
                refine y_getr dX11_copy_73 gf_X11_11 sh_0 rfl ?_
                refine y_iload_n dX11_copy_76 rfl rfl ?_
                refine y_aaldN dX11_copy_77 (by decide) sh_1 rfl (rwA (k := l) (by omega)) (by decide) ?_
                refine y_iload dX11_copy_78 rfl ?_
                refine y_iload dX11_copy_80 rfl ?_
                refine y_ivI2 dX11_copy_82 mv_X11_131 my_X8_hasSpan (Or.inl rfl) (rwI (k := l) (by omega)).1 ?_
                refine c_X8_hasSpan (rwI hl) (fun _ _ _ _ => ⟨_, rfl, ?_⟩) (fun z => absurd z (spnZ ht hu hj t2))
                refine y_if_ne (tgt := 94) dX11_copy_85 (by decide) (fun h85 => ?_) (fun h85 => absurd h85 (by decide))
                refine y_aload_n dX11_copy_94 rfl rfl ?_
                refine y_getr dX11_copy_95 gf_X11_11 sh_0 rfl ?_
                refine y_iload_n dX11_copy_98 rfl rfl ?_
                refine y_aaldN dX11_copy_99 (by decide) sh_1 rfl (rwA (k := k) (by omega)) (by decide) ?_
                refine y_getr dX11_copy_100 gf_X11_117 (rwI (k := k) (by omega)).1 rfl ?_
                refine y_iload_n dX11_copy_103 rfl rfl ?_
                refine y_aload_n dX11_copy_104 rfl rfl ?_
                refine y_getr dX11_copy_105 gf_X11_11 sh_0 rfl ?_
                refine y_iload_n dX11_copy_108 rfl rfl ?_
                refine y_aaldN dX11_copy_109 (by decide) sh_1 rfl (rwA (k := l) (by omega)) (by decide) ?_
                refine y_getr dX11_copy_110 gf_X11_117 (rwI (k := l) (by omega)).1 rfl ?_
                refine y_iload dX11_copy_113 rfl ?_
                refine y_iload dX11_copy_115 rfl ?_
                refine y_copyN dX11_copy_117 cp_X11_135 (rwI (k := k) (by omega)).2 (rwI (k := l) (by omega)).2 rfl rfl rfl (by omega) (by omega) ⟨by decide, by decide⟩ ?_
                refine y_iconst (v := 1) dX11_copy_120 (by decide) ?_
                refine y_ireturn dX11_copy_121 rfl rfl ?_
                refine ⟨_, rfl, ?_⟩
                generalize em : s_up m (138 + 2 * l + 1) (va_cpy (m (138 + 2 * k + 1)) (m (138 + 2 * l + 1)) a b u) = m1
                have eo : ∀ a, a ≠ 138 + 2 * l + 1 → m1 a = m a := fun a h1 => by rw [← em, s_upN h1]
                have e1 : m1 (138 + 2 * l + 1) = va_cpy (m (138 + 2 * k + 1)) (m (138 + 2 * l + 1)) a b u := by rw [← em, s_upS]
                refine c_X12_copy_ok rfl hk rfl rfl hl rfl rfl (by rw [eo _ (by omega)]; exact s1) hs (by rw [eo _ (by omega)]; exact t1) ht ha hb (fun f => ⟨rfl, ?_⟩)
                refine Rel_W (k := l) h (RA_id h.1 ?_ ?_ ?_ ?_) (fun a ha => ?_) ?_ (fun r hr hne => ⟨?_, ?_, ?_, fun i hi => ?_⟩) (Or.inr ⟨t, ht, ?_, ?_, fun i hi => ?_⟩)
                · rw [s_upN (by omega), s_upN (by omega), eo _ (by omega)]
                · rw [s_upN (by omega), s_upN (by omega), eo _ (by omega)]
                · rw [s_upN (by omega), s_upN (by omega), eo _ (by omega)]
                · rw [s_upN (by omega), s_upN (by omega), eo _ (by omega)]
                · rw [s_upN (by omega), s_upN (by omega), eo _ (by omega)]
                · rw [s_upN (by omega), s_upN (by omega), eo _ (by omega)]
                · rw [s_upN (by omega), s_upN (by omega), eo _ (by omega)]
                · rw [s_upN (by omega), s_upN (by omega), eo _ (by omega)]
                · rw [s_upN (by omega), s_upN (by omega), eo _ (by omega)]
                · rw [s_upS, layN_o (by omega), eo _ (by omega)]
                · rw [s_upN (by omega), s_upN (by omega), eo _ (by omega)]; exact t1
                · rw [s_upN (by omega), s_upN (by omega), eo _ (by omega)]; exact t2
                · rw [s_upN (by omega), s_upN (by omega), e1, s_upS, eo 242 (by omega)]
                  unfold va_cpy layN
                  by_cases z : b ≤ i ∧ i < b + u
                  · rw [if_pos z, if_pos (by omega), show 40 * l + i - (40 * l + b) = i - b by omega]
                    exact s3 _ (by omega)
                  · rw [if_neg z, if_neg (by omega)]
                    exact t3 i hi
              · refine y_run (own := "LoafFall") rfl (by decide +kernel) (Nat.le_of_ble_eq_true rfl) rfl ?_
                refine y_iload_n dX11_copy_0 rfl rfl ?_
                refine y_isI1 dX11_copy_1 ms_X11_101 my_X11_isRow (Or.inl rfl) ?_
                refine c_X11_isRow (fun _ => ⟨_, rfl, ?_⟩) (fun z => absurd hr z)
                refine y_if_eq (tgt := 14) dX11_copy_4 (by decide) (fun h4 => absurd h4 (by decide)) (fun h4 => ?_)
                refine y_iload_n dX11_copy_7 rfl rfl ?_
                refine y_isI1 dX11_copy_8 ms_X11_101 my_X11_isRow (Or.inl rfl) ?_
                refine c_X11_isRow (fun _ => ⟨_, rfl, ?_⟩) (fun z => absurd hr2 z)
                refine y_if_ne (tgt := 16) dX11_copy_11 (by decide) (fun h11 => ?_) (fun h11 => absurd h11 (by decide))
                refine y_iload dX11_copy_16 rfl ?_
                refine y_if_ge (tgt := 27) dX11_copy_18 (by decide) (fun h18 => ?_) (fun h18 => absurd (Int32.not_lt.mp hq) h18)
                refine y_aload_n dX11_copy_27 rfl rfl ?_
                refine y_getr dX11_copy_28 gf_X11_11 sh_0 rfl ?_
                refine y_iload_n dX11_copy_31 rfl rfl ?_
                refine y_aaldN dX11_copy_32 (by decide) sh_1 rfl (rwA (k := k) (by omega)) (by decide) ?_
                refine y_ivI0 dX11_copy_33 mv_X11_123 my_X8_isThere (Or.inl rfl) (rwI (k := k) (by omega)).1 ?_
                refine c_X8_isThere (rwI hk) (fun _ => ⟨_, rfl, ?_⟩) (fun z => absurd z n1)
                refine y_if_eq (tgt := 51) dX11_copy_36 (by decide) (fun h36 => absurd h36 (by decide)) (fun h36 => ?_)
                refine y_aload_n dX11_copy_39 rfl rfl ?_
                refine y_getr dX11_copy_40 gf_X11_11 sh_0 rfl ?_
                refine y_iload_n dX11_copy_43 rfl rfl ?_
                refine y_aaldN dX11_copy_44 (by decide) sh_1 rfl (rwA (k := l) (by omega)) (by decide) ?_
                refine y_ivI0 dX11_copy_45 mv_X11_123 my_X8_isThere (Or.inl rfl) (rwI (k := l) (by omega)).1 ?_
                refine c_X8_isThere (rwI hl) (fun _ => ⟨_, rfl, ?_⟩) (fun z => absurd z n2)
                refine y_if_ne (tgt := 57) dX11_copy_48 (by decide) (fun h48 => ?_) (fun h48 => absurd h48 (by decide))
                refine y_aload_n dX11_copy_57 rfl rfl ?_
                refine y_getr dX11_copy_58 gf_X11_11 sh_0 rfl ?_
                refine y_iload_n dX11_copy_61 rfl rfl ?_
                refine y_aaldN dX11_copy_62 (by decide) sh_1 rfl (rwA (k := k) (by omega)) (by decide) ?_
                refine y_iload_n dX11_copy_63 rfl rfl ?_
                refine y_iload dX11_copy_64 rfl ?_
                refine y_ivI2 dX11_copy_66 mv_X11_131 my_X8_hasSpan (Or.inl rfl) (rwI (k := k) (by omega)).1 ?_
                refine c_X8_hasSpan (rwI hk) (fun _ _ _ _ => ⟨_, rfl, ?_⟩) (fun z => absurd z (spnZ hs hu hi s2))
                refine y_if_eq (tgt := 88) dX11_copy_69 (by decide) (fun h69 => absurd h69 (by decide)) (fun h69 => ?_)
                refine y_aload_n dX11_copy_72 rfl rfl ?_
                refine y_getr dX11_copy_73 gf_X11_11 sh_0 rfl ?_
                refine y_iload_n dX11_copy_76 rfl rfl ?_
                refine y_aaldN dX11_copy_77 (by decide) sh_1 rfl (rwA (k := l) (by omega)) (by decide) ?_
                refine y_iload dX11_copy_78 rfl ?_
                refine y_iload dX11_copy_80 rfl ?_
                refine y_ivI2 dX11_copy_82 mv_X11_131 my_X8_hasSpan (Or.inl rfl) (rwI (k := l) (by omega)).1 ?_
                refine c_X8_hasSpan (rwI hl) (fun a _ b c => (spnN ht hu hj t2 a b c).elim) (fun _ => ⟨_, rfl, ?_⟩)
                refine y_if_ne (tgt := 94) dX11_copy_85 (by decide) (fun h85 => absurd (by decide) h85) (fun h85 => ?_)
                refine y_aload_n dX11_copy_88 rfl rfl ?_
                refine y_iconst (v := 2) dX11_copy_89 (by decide) ?_
                refine y_ivI1 dX11_copy_90 mv_X11_105 my_X11_found (Or.inl rfl) sh_0 ?_
                refine c_X11_found (f := 2) rfl (by omega) (by omega) ⟨_, rfl, ?_⟩
                refine y_ireturn dX11_copy_93 rfl rfl ?_
                refine ⟨_, rfl, ?_⟩
                obtain ⟨m1, em⟩ : ∃ m1, m1 = foundM m 2 := ⟨_, rfl⟩
                rw [← em]
                have g : ∀ a, 138 ≤ a → m1 a = m a := fun a ha => by rw [em]; exact found_o (by omega) (by omega)
                refine y_run (own := "LoafFallModel") rfl (by decide +kernel) (Nat.le_of_ble_eq_true rfl) rfl ?_
                refine y_iload_n dX12_copy_0 rfl rfl ?_
                refine y_isI1 dX12_copy_1 ms_X12_96 my_X12_isRow (Or.inl rfl) ?_
                refine c_X12_isRow (fun _ => ⟨_, rfl, ?_⟩) (fun z => absurd hr z)
                refine y_if_eq (tgt := 14) dX12_copy_4 (by decide) (fun h4 => absurd h4 (by decide)) (fun h4 => ?_)
                refine y_iload_n dX12_copy_7 rfl rfl ?_
                refine y_isI1 dX12_copy_8 ms_X12_96 my_X12_isRow (Or.inl rfl) ?_
                refine c_X12_isRow (fun _ => ⟨_, rfl, ?_⟩) (fun z => absurd hr2 z)
                refine y_if_ne (tgt := 16) dX12_copy_11 (by decide) (fun h11 => ?_) (fun h11 => absurd h11 (by decide))
                refine y_iload dX12_copy_16 rfl ?_
                refine y_if_ge (tgt := 27) dX12_copy_18 (by decide) (fun h18 => ?_) (fun h18 => absurd (Int32.not_lt.mp hq) h18)
                refine y_aload_n dX12_copy_27 rfl rfl ?_
                refine y_getr dX12_copy_28 gf_X12_13 sh_239 rfl ?_
                refine y_iload_n dX12_copy_31 rfl rfl ?_
                refine y_ialdN dX12_copy_32 sh_241 rfl (by first | omega | decide) (by decide) ?_
                refine y_if_lt (tgt := 45) dX12_copy_33 (by decide) (fun h33 => absurd h33 (by rw [g _ (by omega), s1]; exact nI_pos (by omega))) (fun h33 => ?_)
                refine y_aload_n dX12_copy_36 rfl rfl ?_
                refine y_getr dX12_copy_37 gf_X12_13 sh_239 rfl ?_
                refine y_iload_n dX12_copy_40 rfl rfl ?_
                refine y_ialdN dX12_copy_41 sh_241 rfl (by first | omega | decide) (by decide) ?_
                refine y_if_ge (tgt := 51) dX12_copy_42 (by decide) (fun h42 => ?_) (fun h42 => absurd (by rw [g _ (by omega), t1]; exact nI_pos' (by omega)) h42)
                refine y_iload_n dX12_copy_51 rfl rfl ?_
                refine y_if_lt (tgt := 95) dX12_copy_52 (by decide) (fun h52 => absurd h52 (((spn_c hu hs).mp hi).1)) (fun h52 => ?_)
                refine y_iload dX12_copy_55 rfl ?_
                refine y_if_lt (tgt := 95) dX12_copy_57 (by decide) (fun h57 => ?_) (fun h57 => ?_)
                · refine y_aload_n dX12_copy_95 rfl rfl ?_
                  refine y_iconst (v := 2) dX12_copy_96 (by decide) ?_
                  refine y_ivI1 dX12_copy_97 mv_X12_100 my_X12_meets (Or.inl rfl) sh_239 ?_
                  refine c_X12_meets (f := 2) rfl (by omega) ⟨_, rfl, ?_⟩
                  refine y_ireturn dX12_copy_100 rfl rfl ?_
                  exact ⟨rfl, by rw [em]; exact Rel_met h⟩
                · refine y_iload_n dX12_copy_60 rfl rfl ?_
                  refine y_i2l dX12_copy_61 ?_
                  refine y_iload dX12_copy_62 rfl ?_
                  refine y_i2l dX12_copy_64 ?_
                  refine y_ladd dX12_copy_65 ?_
                  refine y_aload_n dX12_copy_66 rfl rfl ?_
                  refine y_getr dX12_copy_67 gf_X12_13 sh_239 rfl ?_
                  refine y_iload_n dX12_copy_70 rfl rfl ?_
                  refine y_ialdN dX12_copy_71 sh_241 rfl (by first | omega | decide) (by decide) ?_
                  refine y_i2l dX12_copy_72 ?_
                  rw [g _ (by omega), s1]
                  refine y_lcmp dX12_copy_73 ?_
                  refine y_if_gt (tgt := 95) dX12_copy_74 (by decide) (fun h74 => absurd h74 (fun z => (spn_r hu hs ((spn_c hu hs).mp hi).1).mp z hi)) (fun h74 => ?_)
                  refine y_iload dX12_copy_77 rfl ?_
                  refine y_i2l dX12_copy_79 ?_
                  refine y_iload dX12_copy_80 rfl ?_
                  refine y_i2l dX12_copy_82 ?_
                  refine y_ladd dX12_copy_83 ?_
                  refine y_aload_n dX12_copy_84 rfl rfl ?_
                  refine y_getr dX12_copy_85 gf_X12_13 sh_239 rfl ?_
                  refine y_iload_n dX12_copy_88 rfl rfl ?_
                  refine y_ialdN dX12_copy_89 sh_241 rfl (by first | omega | decide) (by decide) ?_
                  refine y_i2l dX12_copy_90 ?_
                  rw [g _ (by omega), t1]
                  refine y_lcmp dX12_copy_91 ?_
                  refine y_if_le (tgt := 101) dX12_copy_92 (by decide) (fun h92 => absurd h92 (Int32.not_le.mpr ((spn_r hu ht h57).mpr hj))) (fun h92 => ?_)
                  refine y_aload_n dX12_copy_95 rfl rfl ?_
                  refine y_iconst (v := 2) dX12_copy_96 (by decide) ?_
                  refine y_ivI1 dX12_copy_97 mv_X12_100 my_X12_meets (Or.inl rfl) sh_239 ?_
                  refine c_X12_meets (f := 2) rfl (by omega) ⟨_, rfl, ?_⟩
                  refine y_ireturn dX12_copy_100 rfl rfl ?_
                  exact ⟨rfl, by rw [em]; exact Rel_met h⟩
            · refine y_run (own := "LoafFall") rfl (by decide +kernel) (Nat.le_of_ble_eq_true rfl) rfl ?_
              refine y_iload_n dX11_copy_0 rfl rfl ?_
              refine y_isI1 dX11_copy_1 ms_X11_101 my_X11_isRow (Or.inl rfl) ?_
              refine c_X11_isRow (fun _ => ⟨_, rfl, ?_⟩) (fun z => absurd hr z)
              refine y_if_eq (tgt := 14) dX11_copy_4 (by decide) (fun h4 => absurd h4 (by decide)) (fun h4 => ?_)
              refine y_iload_n dX11_copy_7 rfl rfl ?_
              refine y_isI1 dX11_copy_8 ms_X11_101 my_X11_isRow (Or.inl rfl) ?_
              refine c_X11_isRow (fun _ => ⟨_, rfl, ?_⟩) (fun z => absurd hr2 z)
              refine y_if_ne (tgt := 16) dX11_copy_11 (by decide) (fun h11 => ?_) (fun h11 => absurd h11 (by decide))
              refine y_iload dX11_copy_16 rfl ?_
              refine y_if_ge (tgt := 27) dX11_copy_18 (by decide) (fun h18 => ?_) (fun h18 => absurd (Int32.not_lt.mp hq) h18)
              refine y_aload_n dX11_copy_27 rfl rfl ?_
              refine y_getr dX11_copy_28 gf_X11_11 sh_0 rfl ?_
              refine y_iload_n dX11_copy_31 rfl rfl ?_
              refine y_aaldN dX11_copy_32 (by decide) sh_1 rfl (rwA (k := k) (by omega)) (by decide) ?_
              refine y_ivI0 dX11_copy_33 mv_X11_123 my_X8_isThere (Or.inl rfl) (rwI (k := k) (by omega)).1 ?_
              refine c_X8_isThere (rwI hk) (fun _ => ⟨_, rfl, ?_⟩) (fun z => absurd z n1)
              refine y_if_eq (tgt := 51) dX11_copy_36 (by decide) (fun h36 => absurd h36 (by decide)) (fun h36 => ?_)
              refine y_aload_n dX11_copy_39 rfl rfl ?_
              refine y_getr dX11_copy_40 gf_X11_11 sh_0 rfl ?_
              refine y_iload_n dX11_copy_43 rfl rfl ?_
              refine y_aaldN dX11_copy_44 (by decide) sh_1 rfl (rwA (k := l) (by omega)) (by decide) ?_
              refine y_ivI0 dX11_copy_45 mv_X11_123 my_X8_isThere (Or.inl rfl) (rwI (k := l) (by omega)).1 ?_
              refine c_X8_isThere (rwI hl) (fun _ => ⟨_, rfl, ?_⟩) (fun z => absurd z n2)
              refine y_if_ne (tgt := 57) dX11_copy_48 (by decide) (fun h48 => ?_) (fun h48 => absurd h48 (by decide))
              refine y_aload_n dX11_copy_57 rfl rfl ?_
              refine y_getr dX11_copy_58 gf_X11_11 sh_0 rfl ?_
              refine y_iload_n dX11_copy_61 rfl rfl ?_
              refine y_aaldN dX11_copy_62 (by decide) sh_1 rfl (rwA (k := k) (by omega)) (by decide) ?_
              refine y_iload_n dX11_copy_63 rfl rfl ?_
              refine y_iload dX11_copy_64 rfl ?_
              refine y_ivI2 dX11_copy_66 mv_X11_131 my_X8_hasSpan (Or.inl rfl) (rwI (k := k) (by omega)).1 ?_
              refine c_X8_hasSpan (rwI hk) (fun a _ b c => (spnN hs hu hi s2 a b c).elim) (fun _ => ⟨_, rfl, ?_⟩)
              refine y_if_eq (tgt := 88) dX11_copy_69 (by decide) (fun h69 => ?_) (fun h69 => absurd (by decide) h69)
              refine y_aload_n dX11_copy_88 rfl rfl ?_
              refine y_iconst (v := 2) dX11_copy_89 (by decide) ?_
              refine y_ivI1 dX11_copy_90 mv_X11_105 my_X11_found (Or.inl rfl) sh_0 ?_
              refine c_X11_found (f := 2) rfl (by omega) (by omega) ⟨_, rfl, ?_⟩
              refine y_ireturn dX11_copy_93 rfl rfl ?_
              refine ⟨_, rfl, ?_⟩
              obtain ⟨m1, em⟩ : ∃ m1, m1 = foundM m 2 := ⟨_, rfl⟩
              rw [← em]
              have g : ∀ a, 138 ≤ a → m1 a = m a := fun a ha => by rw [em]; exact found_o (by omega) (by omega)
              refine y_run (own := "LoafFallModel") rfl (by decide +kernel) (Nat.le_of_ble_eq_true rfl) rfl ?_
              refine y_iload_n dX12_copy_0 rfl rfl ?_
              refine y_isI1 dX12_copy_1 ms_X12_96 my_X12_isRow (Or.inl rfl) ?_
              refine c_X12_isRow (fun _ => ⟨_, rfl, ?_⟩) (fun z => absurd hr z)
              refine y_if_eq (tgt := 14) dX12_copy_4 (by decide) (fun h4 => absurd h4 (by decide)) (fun h4 => ?_)
              refine y_iload_n dX12_copy_7 rfl rfl ?_
              refine y_isI1 dX12_copy_8 ms_X12_96 my_X12_isRow (Or.inl rfl) ?_
              refine c_X12_isRow (fun _ => ⟨_, rfl, ?_⟩) (fun z => absurd hr2 z)
              refine y_if_ne (tgt := 16) dX12_copy_11 (by decide) (fun h11 => ?_) (fun h11 => absurd h11 (by decide))
              refine y_iload dX12_copy_16 rfl ?_
              refine y_if_ge (tgt := 27) dX12_copy_18 (by decide) (fun h18 => ?_) (fun h18 => absurd (Int32.not_lt.mp hq) h18)
              refine y_aload_n dX12_copy_27 rfl rfl ?_
              refine y_getr dX12_copy_28 gf_X12_13 sh_239 rfl ?_
              refine y_iload_n dX12_copy_31 rfl rfl ?_
              refine y_ialdN dX12_copy_32 sh_241 rfl (by first | omega | decide) (by decide) ?_
              refine y_if_lt (tgt := 45) dX12_copy_33 (by decide) (fun h33 => absurd h33 (by rw [g _ (by omega), s1]; exact nI_pos (by omega))) (fun h33 => ?_)
              refine y_aload_n dX12_copy_36 rfl rfl ?_
              refine y_getr dX12_copy_37 gf_X12_13 sh_239 rfl ?_
              refine y_iload_n dX12_copy_40 rfl rfl ?_
              refine y_ialdN dX12_copy_41 sh_241 rfl (by first | omega | decide) (by decide) ?_
              refine y_if_ge (tgt := 51) dX12_copy_42 (by decide) (fun h42 => ?_) (fun h42 => absurd (by rw [g _ (by omega), t1]; exact nI_pos' (by omega)) h42)
              refine y_iload_n dX12_copy_51 rfl rfl ?_
              refine y_if_lt (tgt := 95) dX12_copy_52 (by decide) (fun h52 => ?_) (fun h52 => ?_)
              · refine y_aload_n dX12_copy_95 rfl rfl ?_
                refine y_iconst (v := 2) dX12_copy_96 (by decide) ?_
                refine y_ivI1 dX12_copy_97 mv_X12_100 my_X12_meets (Or.inl rfl) sh_239 ?_
                refine c_X12_meets (f := 2) rfl (by omega) ⟨_, rfl, ?_⟩
                refine y_ireturn dX12_copy_100 rfl rfl ?_
                exact ⟨rfl, by rw [em]; exact Rel_met h⟩
              · refine y_iload dX12_copy_55 rfl ?_
                refine y_if_lt (tgt := 95) dX12_copy_57 (by decide) (fun h57 => ?_) (fun h57 => ?_)
                · refine y_aload_n dX12_copy_95 rfl rfl ?_
                  refine y_iconst (v := 2) dX12_copy_96 (by decide) ?_
                  refine y_ivI1 dX12_copy_97 mv_X12_100 my_X12_meets (Or.inl rfl) sh_239 ?_
                  refine c_X12_meets (f := 2) rfl (by omega) ⟨_, rfl, ?_⟩
                  refine y_ireturn dX12_copy_100 rfl rfl ?_
                  exact ⟨rfl, by rw [em]; exact Rel_met h⟩
                · refine y_iload_n dX12_copy_60 rfl rfl ?_
                  refine y_i2l dX12_copy_61 ?_
                  refine y_iload dX12_copy_62 rfl ?_
                  refine y_i2l dX12_copy_64 ?_
                  refine y_ladd dX12_copy_65 ?_
                  refine y_aload_n dX12_copy_66 rfl rfl ?_
                  refine y_getr dX12_copy_67 gf_X12_13 sh_239 rfl ?_
                  refine y_iload_n dX12_copy_70 rfl rfl ?_
                  refine y_ialdN dX12_copy_71 sh_241 rfl (by first | omega | decide) (by decide) ?_
                  refine y_i2l dX12_copy_72 ?_
                  rw [g _ (by omega), s1]
                  refine y_lcmp dX12_copy_73 ?_
                  refine y_if_gt (tgt := 95) dX12_copy_74 (by decide) (fun h74 => ?_) (fun h74 => absurd ((spn_r hu hs h52).mpr hi) h74)
                  refine y_aload_n dX12_copy_95 rfl rfl ?_
                  refine y_iconst (v := 2) dX12_copy_96 (by decide) ?_
                  refine y_ivI1 dX12_copy_97 mv_X12_100 my_X12_meets (Or.inl rfl) sh_239 ?_
                  refine c_X12_meets (f := 2) rfl (by omega) ⟨_, rfl, ?_⟩
                  refine y_ireturn dX12_copy_100 rfl rfl ?_
                  exact ⟨rfl, by rw [em]; exact Rel_met h⟩
    · refine y_run (own := "LoafFall") rfl (by decide +kernel) (Nat.le_of_ble_eq_true rfl) rfl ?_
      refine y_iload_n dX11_copy_0 rfl rfl ?_
      refine y_isI1 dX11_copy_1 ms_X11_101 my_X11_isRow (Or.inl rfl) ?_
      refine c_X11_isRow (fun _ => ⟨_, rfl, ?_⟩) (fun z => absurd hr z)
      refine y_if_eq (tgt := 14) dX11_copy_4 (by decide) (fun h4 => absurd h4 (by decide)) (fun h4 => ?_)
      refine y_iload_n dX11_copy_7 rfl rfl ?_
      refine y_isI1 dX11_copy_8 ms_X11_101 my_X11_isRow (Or.inl rfl) ?_
      refine c_X11_isRow (fun z => absurd z hr2) (fun _ => ⟨_, rfl, ?_⟩)
      refine y_if_ne (tgt := 16) dX11_copy_11 (by decide) (fun h11 => absurd (by decide) h11) (fun h11 => ?_)
      refine y_iconst (v := -1) dX11_copy_14 (by decide) ?_
      refine y_ireturn dX11_copy_15 rfl rfl ?_
      refine ⟨_, rfl, ?_⟩
      refine y_run (own := "LoafFallModel") rfl (by decide +kernel) (Nat.le_of_ble_eq_true rfl) rfl ?_
      refine y_iload_n dX12_copy_0 rfl rfl ?_
      refine y_isI1 dX12_copy_1 ms_X12_96 my_X12_isRow (Or.inl rfl) ?_
      refine c_X12_isRow (fun _ => ⟨_, rfl, ?_⟩) (fun z => absurd hr z)
      refine y_if_eq (tgt := 14) dX12_copy_4 (by decide) (fun h4 => absurd h4 (by decide)) (fun h4 => ?_)
      refine y_iload_n dX12_copy_7 rfl rfl ?_
      refine y_isI1 dX12_copy_8 ms_X12_96 my_X12_isRow (Or.inl rfl) ?_
      refine c_X12_isRow (fun z => absurd z hr2) (fun _ => ⟨_, rfl, ?_⟩)
      refine y_if_ne (tgt := 16) dX12_copy_11 (by decide) (fun h11 => absurd (by decide) h11) (fun h11 => ?_)
      refine y_iconst (v := -1) dX12_copy_14 (by decide) ?_
      refine y_ireturn dX12_copy_15 rfl rfl ?_
      exact ⟨rfl, h⟩
  · refine y_run (own := "LoafFall") rfl (by decide +kernel) (Nat.le_of_ble_eq_true rfl) rfl ?_
    refine y_iload_n dX11_copy_0 rfl rfl ?_
    refine y_isI1 dX11_copy_1 ms_X11_101 my_X11_isRow (Or.inl rfl) ?_
    refine c_X11_isRow (fun z => absurd z hr) (fun _ => ⟨_, rfl, ?_⟩)
    refine y_if_eq (tgt := 14) dX11_copy_4 (by decide) (fun h4 => ?_) (fun h4 => absurd (by decide) h4)
    refine y_iconst (v := -1) dX11_copy_14 (by decide) ?_
    refine y_ireturn dX11_copy_15 rfl rfl ?_
    refine ⟨_, rfl, ?_⟩
    refine y_run (own := "LoafFallModel") rfl (by decide +kernel) (Nat.le_of_ble_eq_true rfl) rfl ?_
    refine y_iload_n dX12_copy_0 rfl rfl ?_
    refine y_isI1 dX12_copy_1 ms_X12_96 my_X12_isRow (Or.inl rfl) ?_
    refine c_X12_isRow (fun z => absurd z hr) (fun _ => ⟨_, rfl, ?_⟩)
    refine y_if_eq (tgt := 14) dX12_copy_4 (by decide) (fun h4 => ?_) (fun h4 => absurd (by decide) h4)
    refine y_iconst (v := -1) dX12_copy_14 (by decide) ?_
    refine y_ireturn dX12_copy_15 rfl rfl ?_
    exact ⟨rfl, h⟩
