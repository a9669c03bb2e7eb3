/-! ===== fault, flour, doing ===== -/
theorem tX_of {m m1 : sM} {k s : Nat} (hk : k < 4) (hs : s ≤ 80) (t1 : m 244 k = nI s) (t3 : ∀ i, i < s → m (150 + 2 * k + 1) i = m 245 (80 * k + i)) (e : ∀ a, 137 ≤ a → m1 a = m a) : tX m1 k s (sgA m (150 + 2 * k) s) := by
  refine ⟨hk, hs, by rw [e _ (by omega)]; exact t1, fun i hi => ?_, fun i hi => ?_⟩
  · rw [e _ (by omega)]
    unfold sgA
    rw [if_pos hi]
    exact (t3 i hi).symm
  · unfold sgA
    rw [if_neg (by omega)]
theorem Rel_F {m m2 : sM} {n n2 : sN} {k : Nat} (h : Rel m n) (hA : RA m2 n2) (e : ∀ a, (6 ≤ a ∧ a < 28) ∨ (35 ≤ a ∧ a < 137) ∨ (138 ≤ a ∧ a < 158) ∨ (166 ≤ a ∧ a < 239) ∨ (241 ≤ a ∧ a < 255 ∧ a ≠ 246 ∧ a ≠ 247 ∧ a ≠ 251 ∧ a ≠ 252) ∨ a = 259 → m2 a = m a) (e28 : m2 239 28 = m 239 28) (e1 : ∀ r, r < 4 → r ≠ k → m2 (158 + 2 * r) = m (158 + 2 * r) ∧ m2 (158 + 2 * r + 1) = m (158 + 2 * r + 1) ∧ m2 246 r = m 246 r ∧ ∀ i, i < 5 → m2 247 (5 * r + i) = m 247 (5 * r + i)) (hq : m2 246 k = 1 ∧ m2 (158 + 2 * k) 1 = 1 ∧ (∀ i, i < 5 → m2 (158 + 2 * k + 1) i = m2 247 (5 * k + i)) ∧ flR (fun i => m2 247 (5 * k + i))) : Rel m2 n2 := by
  obtain ⟨-, h2, h3, h4, h5, h6, h7, h8, h9⟩ := h
  refine ⟨hA, RW_m h2 (fun a ha => e a (by omega)), RT_m h3 (fun a ha => e a (by omega)), fun r hr => ?_, RD_m h5 (fun a ha => e a (by omega)), RLo_m h6 (fun a ha => e a (by omega)) (by rw [e 253 (by omega)]) (fun p hp => by rw [e 254 (by omega)]), RK_m h7 (fun a ha => e a (by omega)) (fun k hk => by rw [e 253 (by omega)]) (fun p h1 h2 => by rw [e 254 (by omega)]), RS_m h8 (fun a ha => e a (by omega)) e28, BK_m h9 (fun c h1 h2 => e c (by omega))⟩
  by_cases z : r = k
  · rw [z]; exact Or.inr hq
  · obtain ⟨q1, q2, q3, q4⟩ := e1 r hr z
    rcases h4 r hr with ⟨a, b⟩ | ⟨a, b, c, f⟩
    · exact Or.inl ⟨q3.trans a, by rw [q1]; exact b⟩
    · exact Or.inr ⟨q3.trans a, by rw [q1]; exact b, fun i hi => by rw [q2, q4 i hi]; exact c i hi, fl_low f (fun p hp => q4 p hp)⟩
theorem Rel_D {m m2 : sM} {n n2 : sN} {k : Nat} (h : Rel m n) (hA : RA m2 n2) (e : ∀ a, (6 ≤ a ∧ a < 28) ∨ (35 ≤ a ∧ a < 137) ∨ (138 ≤ a ∧ a < 166) ∨ (182 ≤ a ∧ a < 239) ∨ (241 ≤ a ∧ a < 255 ∧ a ≠ 248 ∧ a ≠ 249 ∧ a ≠ 250 ∧ a ≠ 251 ∧ a ≠ 252) ∨ a = 259 → m2 a = m a) (e28 : m2 239 28 = m 239 28) (e1 : ∀ r, r < 4 → r ≠ k → (∀ c, 166 + 4 * r ≤ c → c < 170 + 4 * r → m2 c = m c) ∧ m2 248 r = m 248 r ∧ m2 249 r = m 249 r ∧ ∀ i, i < 30 → m2 250 (30 * r + i) = m 250 (30 * r + i)) (hq : m2 248 k = 1 ∧ m2 (166 + 4 * k) 4 = 1 ∧ DR m2 (166 + 4 * k) (dgR m2 k) ∧ dOK (dgR m2 k)) : Rel m2 n2 := by
  obtain ⟨-, h2, h3, h4, h5, h6, h7, h8, h9⟩ := h
  refine ⟨hA, RW_m h2 (fun a ha => e a (by omega)), RT_m h3 (fun a ha => e a (by omega)), RF_m h4 (fun a ha => e a (by omega)), fun r hr => ?_, RLo_m h6 (fun a ha => e a (by omega)) (by rw [e 253 (by omega)]) (fun p hp => by rw [e 254 (by omega)]), RK_m h7 (fun a ha => e a (by omega)) (fun k hk => by rw [e 253 (by omega)]) (fun p h1 h2 => by rw [e 254 (by omega)]), RS_m h8 (fun a ha => e a (by omega)) e28, BK_m h9 (fun c h1 h2 => e c (by omega))⟩
  by_cases z : r = k
  · rw [z]; exact Or.inr hq
  · obtain ⟨q1, q2, q3, q4⟩ := e1 r hr z
    have eR : ∀ p, 5 ≤ p → p < 36 → dgR m2 r p = dgR m r p := fun p h1 h2 => by
      unfold dgR
      by_cases y : p = 5
      · rw [if_pos y, if_pos y]; exact q3
      · rw [if_neg y, if_neg y]; exact q4 _ (by omega)
    have ec : cOf (dgR m2 r) = cOf (dgR m r) := by unfold cOf; rw [eR 5 (by omega) (by omega)]
    rcases h5 r hr with ⟨a, b⟩ | ⟨a, b, c, f⟩
    · exact Or.inl ⟨q2.trans a, by rw [q1 _ (by omega) (by omega)]; exact b⟩
    · refine Or.inr ⟨q2.trans a, by rw [q1 _ (by omega) (by omega)]; exact b, ⟨fun i hi => ?_, ?_⟩, d_eq f eR⟩
      · rw [ec] at hi
        have := f.2.1
        rw [q1 _ (by omega) (by omega), q1 _ (by omega) (by omega), q1 _ (by omega) (by omega), eR _ (by omega) (by omega), eR _ (by omega) (by omega), eR _ (by omega) (by omega)]
        exact c.1 i hi
      · rw [q1 _ (by omega) (by omega), eR _ (by omega) (by omega)]; exact c.2
/-- a doing's row is looked at in its steps alone -/
theorem d_st {R R' : Nat → Int32} (h : dOK R) (e5 : R' 5 = R 5) (e : ∀ i, i < cOf R → ∀ j, j < 3 → R' (6 + 3 * i + j) = R (6 + 3 * i + j)) : dOK R' := by
  obtain ⟨h1, h2, h3, h4, h5⟩ := h
  have ec : cOf R' = cOf R := by unfold cOf; rw [e5]
  have eT : ∀ k, k ≤ cOf R → Tn R' k = Tn R k := by
    intro k
    induction k with
    | zero => intro _; rfl
    | succ k ih => intro hk; rw [Tn, Tn, ih (by omega)]; unfold tOf; rw [e k (by omega) 2 (by omega)]
  refine ⟨by rw [ec, e5]; exact h1, by rw [ec]; exact h2, fun i hi => ?_, fun i hi => ?_, by rw [ec, eT _ (Nat.le_refl _)]; exact h5⟩
  · rw [ec] at hi
    unfold lastsR
    rw [e i hi 0 (by omega), e i hi 1 (by omega), e i hi 2 (by omega)]
    exact h3 i hi
  · rw [ec] at hi
    rw [e i hi 0 (by omega), e i hi 2 (by omega)]
    exact h4 i hi
set_option maxHeartbeats 2000000 in
theorem p_fault {L : Nat} {xs : Nat → Int32} {d : Nat} {m : sM} {n : sN} {r b : Int32} (h : Rel m n) : PI L xs (d + 11) yX11_fault cX11_fault 3 yX12_fault cX12_fault 3 [.int r, .int b] m n := by
  unfold PI
  by_cases hr : inN r 4
  · obtain ⟨k, hk, rfl⟩ := hr
    have hr : inN (nI k) 4 := ⟨k, hk, rfl⟩
    rcases h.t k hk with ⟨t1, t2⟩ | ⟨s, hs, t1, t2, t3⟩
    · refine y_run (own := "LoafFall") rfl (by decide +kernel) (Nat.le_of_ble_eq_true rfl) rfl ?_
      refine y_iload_n dX11_fault_0 rfl rfl ?_
      refine y_isI1 dX11_fault_1 ms_X11_141 my_X11_isText (Or.inl rfl) ?_
      refine c_X11_isText (fun _ => ⟨_, rfl, ?_⟩) (fun z => absurd hr z)
      refine y_if_ne (tgt := 9) dX11_fault_4 (by decide) (fun h4 => ?_) (fun h4 => absurd h4 (by decide))
      refine y_aload_n dX11_fault_9 rfl rfl ?_
      refine y_getr dX11_fault_10 gf_X11_17 sh_0 rfl ?_
      refine y_iload_n dX11_fault_13 rfl rfl ?_
      refine y_aaldN dX11_fault_14 (by decide) sh_2 rfl (txA (k := k) (by omega)) (by decide) ?_
      refine y_ivI0 dX11_fault_15 mv_X11_145 my_X10_isThere (Or.inl rfl) (txI (k := k) (by omega)).1 ?_
      refine c_X10_isThere (txI hk) (fun a => absurd t2 a) (fun a => ⟨_, rfl, ?_⟩)
      refine y_if_ne (tgt := 27) dX11_fault_18 (by decide) (fun h18 => absurd (by decide) h18) (fun h18 => ?_)
      refine y_aload_n dX11_fault_21 rfl rfl ?_
      refine y_iconst (v := 1) dX11_fault_22 (by decide) ?_
      refine y_ivI1 dX11_fault_23 mv_X11_105 my_X11_found (Or.inl rfl) sh_0 ?_
      refine c_X11_found (f := 1) rfl (by omega) (by omega) ⟨_, rfl, ?_⟩
      refine y_ireturn dX11_fault_26 rfl rfl ?_
      refine ⟨_, rfl, ?_⟩
      obtain ⟨m1, em⟩ : ∃ m1, m1 = foundM m 1 := ⟨_, rfl⟩
      rw [← em]
      have g : ∀ a, 138 ≤ a → m1 a = m a := fun a ha => by rw [em]; exact found_o (by omega) (by omega)
      refine y_run (own := "LoafFallModel") rfl (by decide +kernel) (Nat.le_of_ble_eq_true rfl) rfl ?_
      refine y_iload_n dX12_fault_0 rfl rfl ?_
      refine y_isI1 dX12_fault_1 ms_X12_111 my_X12_isText (Or.inl rfl) ?_
      refine c_X12_isText (fun _ => ⟨_, rfl, ?_⟩) (fun z => absurd hr z)
      refine y_if_ne (tgt := 9) dX12_fault_4 (by decide) (fun h4 => ?_) (fun h4 => absurd h4 (by decide))
      refine y_aload_n dX12_fault_9 rfl rfl ?_
      refine y_getr dX12_fault_10 gf_X12_22 sh_239 rfl ?_
      refine y_iload_n dX12_fault_13 rfl rfl ?_
      refine y_ialdN dX12_fault_14 sh_244 rfl (by first | omega | decide) (by decide) ?_
      refine y_if_ge (tgt := 26) dX12_fault_15 (by decide) (fun h15 => absurd h15 (by rw [g _ (by omega), t1]; decide)) (fun h15 => ?_)
      refine y_aload_n dX12_fault_18 rfl rfl ?_
      refine y_iconst (v := 1) dX12_fault_19 (by decide) ?_
      refine y_ivI1 dX12_fault_20 mv_X12_100 my_X12_meets (Or.inl rfl) sh_239 ?_
      refine c_X12_meets (f := 1) rfl (by omega) ⟨_, rfl, ?_⟩
      refine y_goto (tgt := 43) dX12_fault_23 (by decide) ?_
      refine y_ireturn dX12_fault_43 rfl rfl ?_
      exact ⟨rfl, by rw [em]; exact Rel_met h⟩
    · by_cases hb : b = 0
      · refine y_run (own := "LoafFall") rfl (by decide +kernel) (Nat.le_of_ble_eq_true rfl) rfl ?_
        refine y_iload_n dX11_fault_0 rfl rfl ?_
        refine y_isI1 dX11_fault_1 ms_X11_141 my_X11_isText (Or.inl rfl) ?_
        refine c_X11_isText (fun _ => ⟨_, rfl, ?_⟩) (fun z => absurd hr z)
        refine y_if_ne (tgt := 9) dX11_fault_4 (by decide) (fun h4 => ?_) (fun h4 => absurd h4 (by decide))
        refine y_aload_n dX11_fault_9 rfl rfl ?_
        refine y_getr dX11_fault_10 gf_X11_17 sh_0 rfl ?_
        refine y_iload_n dX11_fault_13 rfl rfl ?_
        refine y_aaldN dX11_fault_14 (by decide) sh_2 rfl (txA (k := k) (by omega)) (by decide) ?_
        refine y_ivI0 dX11_fault_15 mv_X11_145 my_X10_isThere (Or.inl rfl) (txI (k := k) (by omega)).1 ?_
        refine c_X10_isThere (txI hk) (fun a => ⟨_, rfl, ?_⟩) (fun a => absurd a (by rw [t2]; exact nI_m1 (by omega)))
        refine y_if_ne (tgt := 27) dX11_fault_18 (by decide) (fun h18 => ?_) (fun h18 => absurd h18 (by decide))
        refine y_iload_n dX11_fault_27 rfl rfl ?_
        refine y_if_eq (tgt := 47) dX11_fault_28 (by decide) (fun h28 => ?_) (fun h28 => absurd hb h28)
        refine y_aload_n dX11_fault_47 rfl rfl ?_
        refine y_getr dX11_fault_48 gf_X11_54 sh_0 rfl ?_
        refine y_aload_n dX11_fault_51 rfl rfl ?_
        refine y_getr dX11_fault_52 gf_X11_17 sh_0 rfl ?_
        refine y_iload_n dX11_fault_55 rfl rfl ?_
        refine y_aaldN dX11_fault_56 (by decide) sh_2 rfl (txA (k := k) (by omega)) (by decide) ?_
        refine y_ivI1 dX11_fault_57 mv_X11_157 my_X7_readFlour (Or.inl rfl) sh_28 ?_
        refine c_X7_readFlour (s := s) (txI hk) (by omega) t2 hs (fun m1 f1 f2 => ⟨_, rfl, ?_⟩)
        refine y_ireturn dX11_fault_60 rfl rfl ?_
        refine ⟨_, rfl, ?_⟩
        have g : ∀ a, 137 ≤ a → m1 a = m a := fun a ha => f1 a (by omega)
        have ht := tX_of hk hs t1 t3 g
        refine y_run (own := "LoafFallModel") rfl (by decide +kernel) (Nat.le_of_ble_eq_true rfl) rfl ?_
        refine y_iload_n dX12_fault_0 rfl rfl ?_
        refine y_isI1 dX12_fault_1 ms_X12_111 my_X12_isText (Or.inl rfl) ?_
        refine c_X12_isText (fun _ => ⟨_, rfl, ?_⟩) (fun z => absurd hr z)
        refine y_if_ne (tgt := 9) dX12_fault_4 (by decide) (fun h4 => ?_) (fun h4 => absurd h4 (by decide))
        refine y_aload_n dX12_fault_9 rfl rfl ?_
        refine y_getr dX12_fault_10 gf_X12_22 sh_239 rfl ?_
        refine y_iload_n dX12_fault_13 rfl rfl ?_
        refine y_ialdN dX12_fault_14 sh_244 rfl (by first | omega | decide) (by decide) ?_
        refine y_if_ge (tgt := 26) dX12_fault_15 (by decide) (fun h15 => ?_) (fun h15 => absurd (by rw [g _ (by omega), t1]; exact nI_pos' (by omega)) h15)
        refine y_iload_n dX12_fault_26 rfl rfl ?_
        refine y_if_eq (tgt := 38) dX12_fault_27 (by decide) (fun h27 => ?_) (fun h27 => absurd hb h27)
        refine y_aload_n dX12_fault_38 rfl rfl ?_
        refine y_iload_n dX12_fault_39 rfl rfl ?_
        refine y_ivI1 dX12_fault_40 mv_X12_148 my_X12_flourFault (Or.inl rfl) sh_239 ?_
        refine c_X12_flourFault ht rfl (fun M fm f3 => ⟨_, rfl, ?_⟩)
        refine y_ireturn dX12_fault_43 rfl rfl ?_
        exact ⟨rfl, Rel_scr h (fun a ha => f1 a (by omega)) (BK_m h.bk (fun c h1 h2 => f1 c (by omega))) fm.fr⟩
      · refine y_run (own := "LoafFall") rfl (by decide +kernel) (Nat.le_of_ble_eq_true rfl) rfl ?_
        refine y_iload_n dX11_fault_0 rfl rfl ?_
        refine y_isI1 dX11_fault_1 ms_X11_141 my_X11_isText (Or.inl rfl) ?_
        refine c_X11_isText (fun _ => ⟨_, rfl, ?_⟩) (fun z => absurd hr z)
        refine y_if_ne (tgt := 9) dX11_fault_4 (by decide) (fun h4 => ?_) (fun h4 => absurd h4 (by decide))
        refine y_aload_n dX11_fault_9 rfl rfl ?_
        refine y_getr dX11_fault_10 gf_X11_17 sh_0 rfl ?_
        refine y_iload_n dX11_fault_13 rfl rfl ?_
        refine y_aaldN dX11_fault_14 (by decide) sh_2 rfl (txA (k := k) (by omega)) (by decide) ?_
        refine y_ivI0 dX11_fault_15 mv_X11_145 my_X10_isThere (Or.inl rfl) (txI (k := k) (by omega)).1 ?_
        refine c_X10_isThere (txI hk) (fun a => ⟨_, rfl, ?_⟩) (fun a => absurd a (by rw [t2]; exact nI_m1 (by omega)))
        refine y_if_ne (tgt := 27) dX11_fault_18 (by decide) (fun h18 => ?_) (fun h18 => absurd h18 (by decide))
        refine y_iload_n dX11_fault_27 rfl rfl ?_
        refine y_if_eq (tgt := 47) dX11_fault_28 (by decide) (fun h28 => absurd h28 hb) (fun h28 => ?_)
        refine y_aload_n dX11_fault_31 rfl rfl ?_
        refine y_getr dX11_fault_32 gf_X11_54 sh_0 rfl ?_
        refine y_aload_n dX11_fault_35 rfl rfl ?_
        refine y_getr dX11_fault_36 gf_X11_17 sh_0 rfl ?_
        refine y_iload_n dX11_fault_39 rfl rfl ?_
        refine y_aaldN dX11_fault_40 (by decide) sh_2 rfl (txA (k := k) (by omega)) (by decide) ?_
        refine y_ivI1 dX11_fault_41 mv_X11_153 my_X7_readDoing (Or.inl rfl) sh_28 ?_
        refine c_X7_readDoing (s := s) (txI hk) (by omega) t2 hs (fun m1 f1 f2 => ⟨_, rfl, ?_⟩)
        refine y_goto (tgt := 60) dX11_fault_44 (by decide) ?_
        refine y_ireturn dX11_fault_60 rfl rfl ?_
        refine ⟨_, rfl, ?_⟩
        have g : ∀ a, 137 ≤ a → m1 a = m a := fun a ha => f1 a (by omega)
        have ht := tX_of hk hs t1 t3 g
        refine y_run (own := "LoafFallModel") rfl (by decide +kernel) (Nat.le_of_ble_eq_true rfl) rfl ?_
        refine y_iload_n dX12_fault_0 rfl rfl ?_
        refine y_isI1 dX12_fault_1 ms_X12_111 my_X12_isText (Or.inl rfl) ?_
        refine c_X12_isText (fun _ => ⟨_, rfl, ?_⟩) (fun z => absurd hr z)
        refine y_if_ne (tgt := 9) dX12_fault_4 (by decide) (fun h4 => ?_) (fun h4 => absurd h4 (by decide))
        refine y_aload_n dX12_fault_9 rfl rfl ?_
        refine y_getr dX12_fault_10 gf_X12_22 sh_239 rfl ?_
        refine y_iload_n dX12_fault_13 rfl rfl ?_
        refine y_ialdN dX12_fault_14 sh_244 rfl (by first | omega | decide) (by decide) ?_
        refine y_if_ge (tgt := 26) dX12_fault_15 (by decide) (fun h15 => ?_) (fun h15 => absurd (by rw [g _ (by omega), t1]; exact nI_pos' (by omega)) h15)
        refine y_iload_n dX12_fault_26 rfl rfl ?_
        refine y_if_eq (tgt := 38) dX12_fault_27 (by decide) (fun h27 => absurd h27 hb) (fun h27 => ?_)
        refine y_aload_n dX12_fault_30 rfl rfl ?_
        refine y_iload_n dX12_fault_31 rfl rfl ?_
        refine y_ivI1 dX12_fault_32 mv_X12_145 my_X12_doingFault (Or.inl rfl) sh_239 ?_
        refine c_X12_doingFault ht rfl (fun M fm f3 => ⟨_, rfl, ?_⟩)
        refine y_goto (tgt := 43) dX12_fault_35 (by decide) ?_
        refine y_ireturn dX12_fault_43 rfl rfl ?_
        exact ⟨rfl, Rel_scr h (fun a ha => f1 a (by omega)) (BK_m h.bk (fun c h1 h2 => f1 c (by omega))) fm.fr⟩
  · refine y_run (own := "LoafFall") rfl (by decide +kernel) (Nat.le_of_ble_eq_true rfl) rfl ?_
    refine y_iload_n dX11_fault_0 rfl rfl ?_
    refine y_isI1 dX11_fault_1 ms_X11_141 my_X11_isText (Or.inl rfl) ?_
    refine c_X11_isText (fun z => absurd z hr) (fun _ => ⟨_, rfl, ?_⟩)
    refine y_if_ne (tgt := 9) dX11_fault_4 (by decide) (fun h4 => absurd (by decide) h4) (fun h4 => ?_)
    refine y_iconst (v := -1) dX11_fault_7 (by decide) ?_
    refine y_ireturn dX11_fault_8 rfl rfl ?_
    refine ⟨_, rfl, ?_⟩
    refine y_run (own := "LoafFallModel") rfl (by decide +kernel) (Nat.le_of_ble_eq_true rfl) rfl ?_
    refine y_iload_n dX12_fault_0 rfl rfl ?_
    refine y_isI1 dX12_fault_1 ms_X12_111 my_X12_isText (Or.inl rfl) ?_
    refine c_X12_isText (fun z => absurd z hr) (fun _ => ⟨_, rfl, ?_⟩)
    refine y_if_ne (tgt := 9) dX12_fault_4 (by decide) (fun h4 => absurd (by decide) h4) (fun h4 => ?_)
    refine y_iconst (v := -1) dX12_fault_7 (by decide) ?_
    refine y_ireturn dX12_fault_8 rfl rfl ?_
    exact ⟨rfl, h⟩
set_option maxHeartbeats 2000000 in
theorem p_flour {L : Nat} {xs : Nat → Int32} {d : Nat} {m : sM} {n : sN} {r x : Int32} (h : Rel m n) : PI L xs (d + 11) yX11_flour cX11_flour 3 yX12_flour cX12_flour 4 [.int r, .int x] m n := by
  unfold PI
  by_cases hf : inN r 4
  · obtain ⟨f, hf2, rfl⟩ := hf
    have hf : inN (nI f) 4 := ⟨f, hf2, rfl⟩
    by_cases hr : inN x 4
    · obtain ⟨k, hk, rfl⟩ := hr
      have hr : inN (nI k) 4 := ⟨k, hk, rfl⟩
      rcases h.t k hk with ⟨t1, t2⟩ | ⟨s, hs, t1, t2, t3⟩
      · refine y_run (own := "LoafFall") rfl (by decide +kernel) (Nat.le_of_ble_eq_true rfl) rfl ?_
        refine y_iload_n dX11_flour_0 rfl rfl ?_
        refine y_isI1 dX11_flour_1 ms_X11_160 my_X11_isFlour (Or.inl rfl) ?_
        refine c_X11_isFlour (fun _ => ⟨_, rfl, ?_⟩) (fun z => absurd hf z)
        refine y_if_eq (tgt := 14) dX11_flour_4 (by decide) (fun h4 => absurd h4 (by decide)) (fun h4 => ?_)
        refine y_iload_n dX11_flour_7 rfl rfl ?_
        refine y_isI1 dX11_flour_8 ms_X11_141 my_X11_isText (Or.inl rfl) ?_
        refine c_X11_isText (fun _ => ⟨_, rfl, ?_⟩) (fun z => absurd hr z)
        refine y_if_ne (tgt := 16) dX11_flour_11 (by decide) (fun h11 => ?_) (fun h11 => absurd h11 (by decide))
        refine y_aload_n dX11_flour_16 rfl rfl ?_
        refine y_getr dX11_flour_17 gf_X11_17 sh_0 rfl ?_
        refine y_iload_n dX11_flour_20 rfl rfl ?_
        refine y_aaldN dX11_flour_21 (by decide) sh_2 rfl (txA (k := k) (by omega)) (by decide) ?_
        refine y_ivI0 dX11_flour_22 mv_X11_145 my_X10_isThere (Or.inl rfl) (txI (k := k) (by omega)).1 ?_
        refine c_X10_isThere (txI hk) (fun a => absurd t2 a) (fun a => ⟨_, rfl, ?_⟩)
        refine y_if_ne (tgt := 34) dX11_flour_25 (by decide) (fun h25 => absurd (by decide) h25) (fun h25 => ?_)
        refine y_aload_n dX11_flour_28 rfl rfl ?_
        refine y_iconst (v := 1) dX11_flour_29 (by decide) ?_
        refine y_ivI1 dX11_flour_30 mv_X11_105 my_X11_found (Or.inl rfl) sh_0 ?_
        refine c_X11_found (f := 1) rfl (by omega) (by omega) ⟨_, rfl, ?_⟩
        refine y_ireturn dX11_flour_33 rfl rfl ?_
        refine ⟨_, rfl, ?_⟩
        obtain ⟨m1, em⟩ : ∃ m1, m1 = foundM m 1 := ⟨_, rfl⟩
        rw [← em]
        have g : ∀ a, 138 ≤ a → m1 a = m a := fun a ha => by rw [em]; exact found_o (by omega) (by omega)
        refine y_run (own := "LoafFallModel") rfl (by decide +kernel) (Nat.le_of_ble_eq_true rfl) rfl ?_
        refine y_iload_n dX12_flour_0 rfl rfl ?_
        refine y_isI1 dX12_flour_1 ms_X12_151 my_X12_isPlace (Or.inl rfl) ?_
        refine c_X12_isPlace (fun _ => ⟨_, rfl, ?_⟩) (fun z => absurd hf z)
        refine y_if_eq (tgt := 14) dX12_flour_4 (by decide) (fun h4 => absurd h4 (by decide)) (fun h4 => ?_)
        refine y_iload_n dX12_flour_7 rfl rfl ?_
        refine y_isI1 dX12_flour_8 ms_X12_111 my_X12_isText (Or.inl rfl) ?_
        refine c_X12_isText (fun _ => ⟨_, rfl, ?_⟩) (fun z => absurd hr z)
        refine y_if_ne (tgt := 16) dX12_flour_11 (by decide) (fun h11 => ?_) (fun h11 => absurd h11 (by decide))
        refine y_aload_n dX12_flour_16 rfl rfl ?_
        refine y_getr dX12_flour_17 gf_X12_22 sh_239 rfl ?_
        refine y_iload_n dX12_flour_20 rfl rfl ?_
        refine y_ialdN dX12_flour_21 sh_244 rfl (by first | omega | decide) (by decide) ?_
        refine y_if_ge (tgt := 31) dX12_flour_22 (by decide) (fun h22 => absurd h22 (by rw [g _ (by omega), t1]; decide)) (fun h22 => ?_)
        refine y_aload_n dX12_flour_25 rfl rfl ?_
        refine y_iconst (v := 1) dX12_flour_26 (by decide) ?_
        refine y_ivI1 dX12_flour_27 mv_X12_100 my_X12_meets (Or.inl rfl) sh_239 ?_
        refine c_X12_meets (f := 1) rfl (by omega) ⟨_, rfl, ?_⟩
        refine y_ireturn dX12_flour_30 rfl rfl ?_
        exact ⟨rfl, by rw [em]; exact Rel_met h⟩
      · obtain ⟨T, hT⟩ : ∃ T, T = rdF (sgA m (150 + 2 * k) s) s 80 0 usP 0 := ⟨_, rfl⟩
        by_cases ok : T.1 = -9
        · refine y_run (own := "LoafFall") rfl (by decide +kernel) (Nat.le_of_ble_eq_true rfl) rfl ?_
          refine y_iload_n dX11_flour_0 rfl rfl ?_
          refine y_isI1 dX11_flour_1 ms_X11_160 my_X11_isFlour (Or.inl rfl) ?_
          refine c_X11_isFlour (fun _ => ⟨_, rfl, ?_⟩) (fun z => absurd hf z)
          refine y_if_eq (tgt := 14) dX11_flour_4 (by decide) (fun h4 => absurd h4 (by decide)) (fun h4 => ?_)
          refine y_iload_n dX11_flour_7 rfl rfl ?_
          refine y_isI1 dX11_flour_8 ms_X11_141 my_X11_isText (Or.inl rfl) ?_
          refine c_X11_isText (fun _ => ⟨_, rfl, ?_⟩) (fun z => absurd hr z)
          refine y_if_ne (tgt := 16) dX11_flour_11 (by decide) (fun h11 => ?_) (fun h11 => absurd h11 (by decide))
          refine y_aload_n dX11_flour_16 rfl rfl ?_
          refine y_getr dX11_flour_17 gf_X11_17 sh_0 rfl ?_
          refine y_iload_n dX11_flour_20 rfl rfl ?_
          refine y_aaldN dX11_flour_21 (by decide) sh_2 rfl (txA (k := k) (by omega)) (by decide) ?_
          refine y_ivI0 dX11_flour_22 mv_X11_145 my_X10_isThere (Or.inl rfl) (txI (k := k) (by omega)).1 ?_
          refine c_X10_isThere (txI hk) (fun a => ⟨_, rfl, ?_⟩) (fun a => absurd a (by rw [t2]; exact nI_m1 (by omega)))
          refine y_if_ne (tgt := 34) dX11_flour_25 (by decide) (fun h25 => ?_) (fun h25 => absurd h25 (by decide))
          refine y_aload_n dX11_flour_34 rfl rfl ?_
          refine y_getr dX11_flour_35 gf_X11_54 sh_0 rfl ?_
          refine y_aload_n dX11_flour_38 rfl rfl ?_
          refine y_getr dX11_flour_39 gf_X11_17 sh_0 rfl ?_
          refine y_iload_n dX11_flour_42 rfl rfl ?_
          refine y_aaldN dX11_flour_43 (by decide) sh_2 rfl (txA (k := k) (by omega)) (by decide) ?_
          refine y_ivI1 dX11_flour_44 mv_X11_157 my_X7_readFlour (Or.inl rfl) sh_28 ?_
          refine c_X7_readFlour (s := s) (txI hk) (by omega) t2 hs (fun m1 f1 f2 => ⟨_, rfl, ?_⟩)
          rw [← hT] at f2 ⊢
          obtain ⟨u1, u2, u3⟩ := f2 ok
          refine y_bipush (v := -9) dX11_flour_47 (by decide) ?_
          refine y_icmp_eq (tgt := 55) dX11_flour_49 (by decide) (fun h49 => ?_) (fun h49 => absurd ok h49)
          refine y_aload_n dX11_flour_55 rfl rfl ?_
          refine y_getr dX11_flour_56 gf_X11_23 sh_0 rfl ?_
          refine y_iload_n dX11_flour_59 rfl rfl ?_
          refine y_aaldN dX11_flour_60 (by decide) sh_3 rfl (flA (k := f) (by omega)) (by decide) ?_
          refine y_aload_n dX11_flour_61 rfl rfl ?_
          refine y_getr dX11_flour_62 gf_X11_54 sh_0 rfl ?_
          refine y_getr dX11_flour_65 gf_X11_163 sh_28 rfl ?_
          refine y_ivV1 dX11_flour_68 mv_X11_166 my_X4_take (Or.inl rfl) (flI (k := f) (by omega)).1 ?_
          refine c_X4_take (flI hf2) fl29 (Or.inr (by omega)) (Or.inr u3) (fun m2 tk => ⟨rfl, ?_⟩)
          refine y_aload_n dX11_flour_71 rfl rfl ?_
          refine y_getr dX11_flour_72 gf_X11_54 sh_0 rfl ?_
          refine y_geti dX11_flour_75 gf_X11_170 sh_28 rfl ?_
          refine y_ireturn dX11_flour_78 rfl rfl ?_
          rw [show m2 28 2 = nI T.2.2 by rw [tk.1 _ (by omega) (by omega)]; exact u2]
          refine ⟨_, rfl, ?_⟩
          have g : ∀ a, 166 ≤ a → m2 a = m a := fun a ha => (tk.1 a (by omega) (by omega)).trans (f1 a (by omega))
          have ht : tX m2 k s (sgA m (150 + 2 * k) s) := by
            have := tX_of (m1 := m) hk hs t1 t3 (fun _ _ => rfl)
            refine ⟨hk, hs, by rw [g _ (by omega)]; exact t1, fun i hi => by rw [g _ (by omega)]; exact this.2.2.2.1 i hi, this.2.2.2.2⟩
          refine y_run (own := "LoafFallModel") rfl (by decide +kernel) (Nat.le_of_ble_eq_true rfl) rfl ?_
          refine y_iload_n dX12_flour_0 rfl rfl ?_
          refine y_isI1 dX12_flour_1 ms_X12_151 my_X12_isPlace (Or.inl rfl) ?_
          refine c_X12_isPlace (fun _ => ⟨_, rfl, ?_⟩) (fun z => absurd hf z)
          refine y_if_eq (tgt := 14) dX12_flour_4 (by decide) (fun h4 => absurd h4 (by decide)) (fun h4 => ?_)
          refine y_iload_n dX12_flour_7 rfl rfl ?_
          refine y_isI1 dX12_flour_8 ms_X12_111 my_X12_isText (Or.inl rfl) ?_
          refine c_X12_isText (fun _ => ⟨_, rfl, ?_⟩) (fun z => absurd hr z)
          refine y_if_ne (tgt := 16) dX12_flour_11 (by decide) (fun h11 => ?_) (fun h11 => absurd h11 (by decide))
          refine y_aload_n dX12_flour_16 rfl rfl ?_
          refine y_getr dX12_flour_17 gf_X12_22 sh_239 rfl ?_
          refine y_iload_n dX12_flour_20 rfl rfl ?_
          refine y_ialdN dX12_flour_21 sh_244 rfl (by first | omega | decide) (by decide) ?_
          refine y_if_ge (tgt := 31) dX12_flour_22 (by decide) (fun h22 => ?_) (fun h22 => absurd (by rw [g _ (by omega), t1]; exact nI_pos' (by omega)) h22)
          refine y_aload_n dX12_flour_31 rfl rfl ?_
          refine y_iload_n dX12_flour_32 rfl rfl ?_
          refine y_ivI1 dX12_flour_33 mv_X12_148 my_X12_flourFault (Or.inl rfl) sh_239 ?_
          refine c_X12_flourFault ht rfl (fun M fm f3 => ⟨_, rfl, ?_⟩)
          rw [← hT] at f3 ⊢
          obtain ⟨v1, v2⟩ := f3 ok
          refine y_bipush (v := -9) dX12_flour_36 (by decide) ?_
          refine y_icmp_eq (tgt := 44) dX12_flour_38 (by decide) (fun h38 => ?_) (fun h38 => absurd ok h38)
          refine y_iconst (v := 0) dX12_flour_44 (by decide) ?_
          refine y_ist4_3 dX12_flour_45 rfl ?_
          refine cnt (P := fun q => ∀ M1, (∀ a, a ≠ 247 → M1 a = M a) → (∀ p, p < 5 * f ∨ 5 * f + q ≤ p → M1 247 p = M 247 p) → (∀ i, i < q → M1 247 (5 * f + i) = M 251 i) → sV (scT L xs) (d + 10) "LoafFallModel" cX12_flour 4 (some .int) (fun o' m2 n2 => o' = some (.int (nI T.2.2)) ∧ Rel m2 n2) 46 [some (.ref 239), some (.int (nI f)), some (.int (nI k)), some (.int (nI q))] [] M1 n) 5 ?_ ?_ 0 (by omega) M (fun _ _ => rfl) (fun _ _ => rfl) (fun i hi => absurd hi (by omega))
          · intro M1 w1 w2 w3
            refine y_iload_n dX12_flour_46 rfl rfl ?_
            refine y_iconst (v := 5) dX12_flour_47 (by decide) ?_
            refine y_icmp_ge (tgt := 73) dX12_flour_48 (by decide) (fun h48 => ?_) (fun h48 => absurd (nI_le (a := 5) (b := 5) (Nat.le_refl _) (by decide)) h48)
            refine y_aload_n dX12_flour_73 rfl rfl ?_
            refine y_getr dX12_flour_74 gf_X12_29 sh_239 rfl ?_
            refine y_iload_n dX12_flour_77 rfl rfl ?_
            refine y_iconst (v := 1) dX12_flour_78 (by decide) ?_
            refine y_zastN dX12_flour_79 sh_246 rfl (by first | omega | decide) (by decide) rfl ?_
            refine y_aload_n dX12_flour_80 rfl rfl ?_
            refine y_geti dX12_flour_81 gf_X12_123 sh_239 rfl ?_
            refine y_ireturn dX12_flour_84 rfl rfl ?_
            refine ⟨by rw [s_upN (by omega), w1 _ (by omega)]; exact congrArg (fun z => some (Value.int z)) v2, ?_⟩
            have z : ∀ a, a ≠ 239 → a ≠ 246 → a ≠ 247 → a ≠ 251 → a ≠ 252 → (s_up M1 246 (upd (M1 246) f 1)) a = m2 a := fun a b1 b2 b3 b4 b5 => by rw [s_upN b2, w1 _ b3, fm.1 _ b1 b4 b5]
            have z9 : ∀ j, j < 15 ∨ 19 ≤ j → (s_up M1 246 (upd (M1 246) f 1)) 239 j = m 239 j := fun j hj => by rw [s_upN (by omega), w1 _ (by omega), fm.2 _ hj, g _ (by omega)]
            have z7 : ∀ p, p < 5 * f ∨ 5 * f + 5 ≤ p → (s_up M1 246 (upd (M1 246) f 1)) 247 p = m 247 p := fun p hp => by rw [s_upN (by omega), w2 _ hp, fm.1 _ (by omega) (by omega) (by omega), g _ (by omega)]
            have z8 : ∀ i, i < 5 → (s_up M1 246 (upd (M1 246) f 1)) 247 (5 * f + i) = T.2.1 i := fun i hi => by rw [s_upN (by omega), w3 _ hi]; exact v1 i hi
            have zt : ∀ a, a ≠ 158 + 2 * f → a ≠ 158 + 2 * f + 1 → a < 28 ∨ 35 ≤ a → m2 a = m a := fun a b1 b2 b3 => (tk.1 a b1 b2).trans (f1 a b3)
            refine Rel_F (k := f) h ?_ (fun a ha => by rw [z a (by omega) (by omega) (by omega) (by omega) (by omega)]; exact zt a (by omega) (by omega) (by omega)) (z9 28 (by omega)) (fun r hr hne => ⟨?_, ?_, ?_, fun i hi => z7 _ (by omega)⟩) ⟨?_, ?_, fun i hi => ?_, ?_⟩
            · obtain ⟨a1, a2, a3, a4⟩ := h.1
              refine ⟨?_, ?_, ?_, a4⟩
              · rw [z9 0 (by omega), z 0 (by omega) (by omega) (by omega) (by omega) (by omega), zt 0 (by omega) (by omega) (by omega)]; exact a1
              · rw [z9 2 (by omega), z 0 (by omega) (by omega) (by omega) (by omega) (by omega), zt 0 (by omega) (by omega) (by omega)]; exact a2
              · intro q hq
                rw [z 137 (by omega) (by omega) (by omega) (by omega) (by omega), zt 137 (by omega) (by omega) (by omega), z 240 (by omega) (by omega) (by omega) (by omega) (by omega), zt 240 (by omega) (by omega) (by omega)]
                exact a3 q hq
            · rw [z _ (by omega) (by omega) (by omega) (by omega) (by omega)]; exact zt _ (by omega) (by omega) (by omega)
            · rw [z _ (by omega) (by omega) (by omega) (by omega) (by omega)]; exact zt _ (by omega) (by omega) (by omega)
            · rw [s_upS, updN hne, w1 _ (by omega), fm.1 _ (by omega) (by omega) (by omega), g _ (by omega)]
            · rw [s_upS, updS]
            · rw [z _ (by omega) (by omega) (by omega) (by omega) (by omega), tk.2.2]; exact u3
            · rw [z8 i hi, z _ (by omega) (by omega) (by omega) (by omega) (by omega), tk.2.1 i hi]; exact u1 i hi
            · exact fl_low (hT ▸ rd_fl 80 0 usP 0 us_fl) (fun p hp => z8 p hp)
          · intro q hk hP
            intro M1 w1 w2 w3
            refine y_iload_n dX12_flour_46 rfl rfl ?_
            refine y_iconst (v := 5) dX12_flour_47 (by decide) ?_
            refine y_icmp_ge (tgt := 73) dX12_flour_48 (by decide) (fun h48 => absurd h48 (nI_ge (a := q) (b := 5) hk (by decide))) (fun h48 => ?_)
            refine y_aload_n dX12_flour_51 rfl rfl ?_
            refine y_getr dX12_flour_52 gf_X12_33 sh_239 rfl ?_
            refine y_iconst (v := 5) dX12_flour_55 (by decide) ?_
            refine y_iload_n dX12_flour_56 rfl rfl ?_
            refine y_imulN (a := 5) (b := f) dX12_flour_57 rfl rfl ?_
            refine y_iload_n dX12_flour_58 rfl rfl ?_
            refine y_iaddN (a := 5 * f) (b := q) dX12_flour_59 rfl rfl ?_
            refine y_aload_n dX12_flour_60 rfl rfl ?_
            refine y_getr dX12_flour_61 gf_X12_45 sh_239 rfl ?_
            refine y_iload_n dX12_flour_64 rfl rfl ?_
            refine y_ialdN dX12_flour_65 sh_251 rfl (by first | omega | decide) (by decide) ?_
            refine y_iastN dX12_flour_66 sh_247 rfl (by first | omega | decide) (by decide) ?_
            refine y_iinc4_3 dX12_flour_67 (nI_1 _) rfl ?_
            refine y_goto (tgt := 46) dX12_flour_70 (by decide) ?_
            refine hP _ (fun a ha => by rw [s_upN ha]; exact w1 a ha) (fun p hp => ?_) (fun i hi => ?_)
            · rw [s_upS, updN (by omega)]; exact w2 p (by omega)
            · rw [s_upS, upd_ap]
              by_cases e : i = q
              · rw [if_pos (by omega), e, w1 _ (by omega)]
              · rw [if_neg (by omega)]; exact w3 i (by omega)
        · refine y_run (own := "LoafFall") rfl (by decide +kernel) (Nat.le_of_ble_eq_true rfl) rfl ?_
          refine y_iload_n dX11_flour_0 rfl rfl ?_
          refine y_isI1 dX11_flour_1 ms_X11_160 my_X11_isFlour (Or.inl rfl) ?_
          refine c_X11_isFlour (fun _ => ⟨_, rfl, ?_⟩) (fun z => absurd hf z)
          refine y_if_eq (tgt := 14) dX11_flour_4 (by decide) (fun h4 => absurd h4 (by decide)) (fun h4 => ?_)
          refine y_iload_n dX11_flour_7 rfl rfl ?_
          refine y_isI1 dX11_flour_8 ms_X11_141 my_X11_isText (Or.inl rfl) ?_
          refine c_X11_isText (fun _ => ⟨_, rfl, ?_⟩) (fun z => absurd hr z)
          refine y_if_ne (tgt := 16) dX11_flour_11 (by decide) (fun h11 => ?_) (fun h11 => absurd h11 (by decide))
          refine y_aload_n dX11_flour_16 rfl rfl ?_
          refine y_getr dX11_flour_17 gf_X11_17 sh_0 rfl ?_
          refine y_iload_n dX11_flour_20 rfl rfl ?_
          refine y_aaldN dX11_flour_21 (by decide) sh_2 rfl (txA (k := k) (by omega)) (by decide) ?_
          refine y_ivI0 dX11_flour_22 mv_X11_145 my_X10_isThere (Or.inl rfl) (txI (k := k) (by omega)).1 ?_
          refine c_X10_isThere (txI hk) (fun a => ⟨_, rfl, ?_⟩) (fun a => absurd a (by rw [t2]; exact nI_m1 (by omega)))
          refine y_if_ne (tgt := 34) dX11_flour_25 (by decide) (fun h25 => ?_) (fun h25 => absurd h25 (by decide))
          refine y_aload_n dX11_flour_34 rfl rfl ?_
          refine y_getr dX11_flour_35 gf_X11_54 sh_0 rfl ?_
          refine y_aload_n dX11_flour_38 rfl rfl ?_
          refine y_getr dX11_flour_39 gf_X11_17 sh_0 rfl ?_
          refine y_iload_n dX11_flour_42 rfl rfl ?_
          refine y_aaldN dX11_flour_43 (by decide) sh_2 rfl (txA (k := k) (by omega)) (by decide) ?_
          refine y_ivI1 dX11_flour_44 mv_X11_157 my_X7_readFlour (Or.inl rfl) sh_28 ?_
          refine c_X7_readFlour (s := s) (txI hk) (by omega) t2 hs (fun m1 f1 f2 => ⟨_, rfl, ?_⟩)
          rw [← hT] at f2 ⊢
          refine y_bipush (v := -9) dX11_flour_47 (by decide) ?_
          refine y_icmp_eq (tgt := 55) dX11_flour_49 (by decide) (fun h49 => absurd h49 ok) (fun h49 => ?_)
          refine y_bipush (v := -4) dX11_flour_52 (by decide) ?_
          refine y_ireturn dX11_flour_54 rfl rfl ?_
          refine ⟨_, rfl, ?_⟩
          have g : ∀ a, 137 ≤ a → m1 a = m a := fun a ha => f1 a (by omega)
          have ht := tX_of hk hs t1 t3 g
          refine y_run (own := "LoafFallModel") rfl (by decide +kernel) (Nat.le_of_ble_eq_true rfl) rfl ?_
          refine y_iload_n dX12_flour_0 rfl rfl ?_
          refine y_isI1 dX12_flour_1 ms_X12_151 my_X12_isPlace (Or.inl rfl) ?_
          refine c_X12_isPlace (fun _ => ⟨_, rfl, ?_⟩) (fun z => absurd hf z)
          refine y_if_eq (tgt := 14) dX12_flour_4 (by decide) (fun h4 => absurd h4 (by decide)) (fun h4 => ?_)
          refine y_iload_n dX12_flour_7 rfl rfl ?_
          refine y_isI1 dX12_flour_8 ms_X12_111 my_X12_isText (Or.inl rfl) ?_
          refine c_X12_isText (fun _ => ⟨_, rfl, ?_⟩) (fun z => absurd hr z)
          refine y_if_ne (tgt := 16) dX12_flour_11 (by decide) (fun h11 => ?_) (fun h11 => absurd h11 (by decide))
          refine y_aload_n dX12_flour_16 rfl rfl ?_
          refine y_getr dX12_flour_17 gf_X12_22 sh_239 rfl ?_
          refine y_iload_n dX12_flour_20 rfl rfl ?_
          refine y_ialdN dX12_flour_21 sh_244 rfl (by first | omega | decide) (by decide) ?_
          refine y_if_ge (tgt := 31) dX12_flour_22 (by decide) (fun h22 => ?_) (fun h22 => absurd (by rw [g _ (by omega), t1]; exact nI_pos' (by omega)) h22)
          refine y_aload_n dX12_flour_31 rfl rfl ?_
          refine y_iload_n dX12_flour_32 rfl rfl ?_
          refine y_ivI1 dX12_flour_33 mv_X12_148 my_X12_flourFault (Or.inl rfl) sh_239 ?_
          refine c_X12_flourFault ht rfl (fun M fm f3 => ⟨_, rfl, ?_⟩)
          rw [← hT] at f3 ⊢
          refine y_bipush (v := -9) dX12_flour_36 (by decide) ?_
          refine y_icmp_eq (tgt := 44) dX12_flour_38 (by decide) (fun h38 => absurd h38 ok) (fun h38 => ?_)
          refine y_bipush (v := -4) dX12_flour_41 (by decide) ?_
          refine y_ireturn dX12_flour_43 rfl rfl ?_
          exact ⟨rfl, Rel_scr h (fun a ha => f1 a (by omega)) (BK_m h.bk (fun c h1 h2 => f1 c (by omega))) fm.fr⟩
    · refine y_run (own := "LoafFall") rfl (by decide +kernel) (Nat.le_of_ble_eq_true rfl) rfl ?_
      refine y_iload_n dX11_flour_0 rfl rfl ?_
      refine y_isI1 dX11_flour_1 ms_X11_160 my_X11_isFlour (Or.inl rfl) ?_
      refine c_X11_isFlour (fun _ => ⟨_, rfl, ?_⟩) (fun z => absurd hf z)
      refine y_if_eq (tgt := 14) dX11_flour_4 (by decide) (fun h4 => absurd h4 (by decide)) (fun h4 => ?_)
      refine y_iload_n dX11_flour_7 rfl rfl ?_
      refine y_isI1 dX11_flour_8 ms_X11_141 my_X11_isText (Or.inl rfl) ?_
      refine c_X11_isText (fun z => absurd z hr) (fun _ => ⟨_, rfl, ?_⟩)
      refine y_if_ne (tgt := 16) dX11_flour_11 (by decide) (fun h11 => absurd (by decide) h11) (fun h11 => ?_)
      refine y_iconst (v := -1) dX11_flour_14 (by decide) ?_
      refine y_ireturn dX11_flour_15 rfl rfl ?_
      refine ⟨_, rfl, ?_⟩
      refine y_run (own := "LoafFallModel") rfl (by decide +kernel) (Nat.le_of_ble_eq_true rfl) rfl ?_
      refine y_iload_n dX12_flour_0 rfl rfl ?_
      refine y_isI1 dX12_flour_1 ms_X12_151 my_X12_isPlace (Or.inl rfl) ?_
      refine c_X12_isPlace (fun _ => ⟨_, rfl, ?_⟩) (fun z => absurd hf z)
      refine y_if_eq (tgt := 14) dX12_flour_4 (by decide) (fun h4 => absurd h4 (by decide)) (fun h4 => ?_)
      refine y_iload_n dX12_flour_7 rfl rfl ?_
      refine y_isI1 dX12_flour_8 ms_X12_111 my_X12_isText (Or.inl rfl) ?_
      refine c_X12_isText (fun z => absurd z hr) (fun _ => ⟨_, rfl, ?_⟩)
      refine y_if_ne (tgt := 16) dX12_flour_11 (by decide) (fun h11 => absurd (by decide) h11) (fun h11 => ?_)
      refine y_iconst (v := -1) dX12_flour_14 (by decide) ?_
      refine y_ireturn dX12_flour_15 rfl rfl ?_
      exact ⟨rfl, h⟩
  · refine y_run (own := "LoafFall") rfl (by decide +kernel) (Nat.le_of_ble_eq_true rfl) rfl ?_
    refine y_iload_n dX11_flour_0 rfl rfl ?_
    refine y_isI1 dX11_flour_1 ms_X11_160 my_X11_isFlour (Or.inl rfl) ?_
    refine c_X11_isFlour (fun z => absurd z hf) (fun _ => ⟨_, rfl, ?_⟩)
    refine y_if_eq (tgt := 14) dX11_flour_4 (by decide) (fun h4 => ?_) (fun h4 => absurd (by decide) h4)
    refine y_iconst (v := -1) dX11_flour_14 (by decide) ?_
    refine y_ireturn dX11_flour_15 rfl rfl ?_
    refine ⟨_, rfl, ?_⟩
    refine y_run (own := "LoafFallModel") rfl (by decide +kernel) (Nat.le_of_ble_eq_true rfl) rfl ?_
    refine y_iload_n dX12_flour_0 rfl rfl ?_
    refine y_isI1 dX12_flour_1 ms_X12_151 my_X12_isPlace (Or.inl rfl) ?_
    refine c_X12_isPlace (fun z => absurd z hf) (fun _ => ⟨_, rfl, ?_⟩)
    refine y_if_eq (tgt := 14) dX12_flour_4 (by decide) (fun h4 => ?_) (fun h4 => absurd (by decide) h4)
    refine y_iconst (v := -1) dX12_flour_14 (by decide) ?_
    refine y_ireturn dX12_flour_15 rfl rfl ?_
    exact ⟨rfl, h⟩
set_option maxHeartbeats 2000000 in
theorem p_doing {L : Nat} {xs : Nat → Int32} {d : Nat} {m : sM} {n : sN} {r x : Int32} (h : Rel m n) : PI L xs (d + 11) yX11_doing cX11_doing 3 yX12_doing cX12_doing 4 [.int r, .int x] m n := by
  unfold PI
  by_cases hf : inN r 4
  · obtain ⟨f, hf2, rfl⟩ := hf
    have hf : inN (nI f) 4 := ⟨f, hf2, rfl⟩
    by_cases hr : inN x 4
    · obtain ⟨k, hk, rfl⟩ := hr
      have hr : inN (nI k) 4 := ⟨k, hk, rfl⟩
      rcases h.t k hk with ⟨t1, t2⟩ | ⟨s, hs, t1, t2, t3⟩
      · refine y_run (own := "LoafFall") rfl (by decide +kernel) (Nat.le_of_ble_eq_true rfl) rfl ?_
        refine y_iload_n dX11_doing_0 rfl rfl ?_
        refine y_isI1 dX11_doing_1 ms_X11_173 my_X11_isDoing (Or.inl rfl) ?_
        refine c_X11_isDoing (fun _ => ⟨_, rfl, ?_⟩) (fun z => absurd hf z)
        refine y_if_eq (tgt := 14) dX11_doing_4 (by decide) (fun h4 => absurd h4 (by decide)) (fun h4 => ?_)
        refine y_iload_n dX11_doing_7 rfl rfl ?_
        refine y_isI1 dX11_doing_8 ms_X11_141 my_X11_isText (Or.inl rfl) ?_
        refine c_X11_isText (fun _ => ⟨_, rfl, ?_⟩) (fun z => absurd hr z)
        refine y_if_ne (tgt := 16) dX11_doing_11 (by decide) (fun h11 => ?_) (fun h11 => absurd h11 (by decide))
        refine y_aload_n dX11_doing_16 rfl rfl ?_
        refine y_getr dX11_doing_17 gf_X11_17 sh_0 rfl ?_
        refine y_iload_n dX11_doing_20 rfl rfl ?_
        refine y_aaldN dX11_doing_21 (by decide) sh_2 rfl (txA (k := k) (by omega)) (by decide) ?_
        refine y_ivI0 dX11_doing_22 mv_X11_145 my_X10_isThere (Or.inl rfl) (txI (k := k) (by omega)).1 ?_
        refine c_X10_isThere (txI hk) (fun a => absurd t2 a) (fun a => ⟨_, rfl, ?_⟩)
        refine y_if_ne (tgt := 34) dX11_doing_25 (by decide) (fun h25 => absurd (by decide) h25) (fun h25 => ?_)
        refine y_aload_n dX11_doing_28 rfl rfl ?_
        refine y_iconst (v := 1) dX11_doing_29 (by decide) ?_
        refine y_ivI1 dX11_doing_30 mv_X11_105 my_X11_found (Or.inl rfl) sh_0 ?_
        refine c_X11_found (f := 1) rfl (by omega) (by omega) ⟨_, rfl, ?_⟩
        refine y_ireturn dX11_doing_33 rfl rfl ?_
        refine ⟨_, rfl, ?_⟩
        obtain ⟨m1, em⟩ : ∃ m1, m1 = foundM m 1 := ⟨_, rfl⟩
        rw [← em]
        have g : ∀ a, 138 ≤ a → m1 a = m a := fun a ha => by rw [em]; exact found_o (by omega) (by omega)
        refine y_run (own := "LoafFallModel") rfl (by decide +kernel) (Nat.le_of_ble_eq_true rfl) rfl ?_
        refine y_iload_n dX12_doing_0 rfl rfl ?_
        refine y_isI1 dX12_doing_1 ms_X12_151 my_X12_isPlace (Or.inl rfl) ?_
        refine c_X12_isPlace (fun _ => ⟨_, rfl, ?_⟩) (fun z => absurd hf z)
        refine y_if_eq (tgt := 14) dX12_doing_4 (by decide) (fun h4 => absurd h4 (by decide)) (fun h4 => ?_)
        refine y_iload_n dX12_doing_7 rfl rfl ?_
        refine y_isI1 dX12_doing_8 ms_X12_111 my_X12_isText (Or.inl rfl) ?_
        refine c_X12_isText (fun _ => ⟨_, rfl, ?_⟩) (fun z => absurd hr z)
        refine y_if_ne (tgt := 16) dX12_doing_11 (by decide) (fun h11 => ?_) (fun h11 => absurd h11 (by decide))
        refine y_aload_n dX12_doing_16 rfl rfl ?_
        refine y_getr dX12_doing_17 gf_X12_22 sh_239 rfl ?_
        refine y_iload_n dX12_doing_20 rfl rfl ?_
        refine y_ialdN dX12_doing_21 sh_244 rfl (by first | omega | decide) (by decide) ?_
        refine y_if_ge (tgt := 31) dX12_doing_22 (by decide) (fun h22 => absurd h22 (by rw [g _ (by omega), t1]; decide)) (fun h22 => ?_)
        refine y_aload_n dX12_doing_25 rfl rfl ?_
        refine y_iconst (v := 1) dX12_doing_26 (by decide) ?_
        refine y_ivI1 dX12_doing_27 mv_X12_100 my_X12_meets (Or.inl rfl) sh_239 ?_
        refine c_X12_meets (f := 1) rfl (by omega) ⟨_, rfl, ?_⟩
        refine y_ireturn dX12_doing_30 rfl rfl ?_
        exact ⟨rfl, by rw [em]; exact Rel_met h⟩
      · obtain ⟨T, hT⟩ : ∃ T, T = rdD (sgA m (150 + 2 * k) s) s 80 0 (fun _ => 0) := ⟨_, rfl⟩
        by_cases ok : T.1 = -9
        · refine y_run (own := "LoafFall") rfl (by decide +kernel) (Nat.le_of_ble_eq_true rfl) rfl ?_
          refine y_iload_n dX11_doing_0 rfl rfl ?_
          refine y_isI1 dX11_doing_1 ms_X11_173 my_X11_isDoing (Or.inl rfl) ?_
          refine c_X11_isDoing (fun _ => ⟨_, rfl, ?_⟩) (fun z => absurd hf z)
          refine y_if_eq (tgt := 14) dX11_doing_4 (by decide) (fun h4 => absurd h4 (by decide)) (fun h4 => ?_)
          refine y_iload_n dX11_doing_7 rfl rfl ?_
          refine y_isI1 dX11_doing_8 ms_X11_141 my_X11_isText (Or.inl rfl) ?_
          refine c_X11_isText (fun _ => ⟨_, rfl, ?_⟩) (fun z => absurd hr z)
          refine y_if_ne (tgt := 16) dX11_doing_11 (by decide) (fun h11 => ?_) (fun h11 => absurd h11 (by decide))
          refine y_aload_n dX11_doing_16 rfl rfl ?_
          refine y_getr dX11_doing_17 gf_X11_17 sh_0 rfl ?_
          refine y_iload_n dX11_doing_20 rfl rfl ?_
          refine y_aaldN dX11_doing_21 (by decide) sh_2 rfl (txA (k := k) (by omega)) (by decide) ?_
          refine y_ivI0 dX11_doing_22 mv_X11_145 my_X10_isThere (Or.inl rfl) (txI (k := k) (by omega)).1 ?_
          refine c_X10_isThere (txI hk) (fun a => ⟨_, rfl, ?_⟩) (fun a => absurd a (by rw [t2]; exact nI_m1 (by omega)))
          refine y_if_ne (tgt := 34) dX11_doing_25 (by decide) (fun h25 => ?_) (fun h25 => absurd h25 (by decide))
          refine y_aload_n dX11_doing_34 rfl rfl ?_
          refine y_getr dX11_doing_35 gf_X11_54 sh_0 rfl ?_
          refine y_aload_n dX11_doing_38 rfl rfl ?_
          refine y_getr dX11_doing_39 gf_X11_17 sh_0 rfl ?_
          refine y_iload_n dX11_doing_42 rfl rfl ?_
          refine y_aaldN dX11_doing_43 (by decide) sh_2 rfl (txA (k := k) (by omega)) (by decide) ?_
          refine y_ivI1 dX11_doing_44 mv_X11_153 my_X7_readDoing (Or.inl rfl) sh_28 ?_
          refine c_X7_readDoing (s := s) (txI hk) (by omega) t2 hs (fun m1 f1 f2 => ⟨_, rfl, ?_⟩)
          rw [← hT] at f2 ⊢
          obtain ⟨u1, u3⟩ := f2 ok
          have dT : dOK T.2 := hT ▸ rd_d 80 0 _ d_zero
          refine y_bipush (v := -9) dX11_doing_47 (by decide) ?_
          refine y_icmp_eq (tgt := 55) dX11_doing_49 (by decide) (fun h49 => ?_) (fun h49 => absurd ok h49)
          refine y_aload_n dX11_doing_55 rfl rfl ?_
          refine y_getr dX11_doing_56 gf_X11_29 sh_0 rfl ?_
          refine y_iload_n dX11_doing_59 rfl rfl ?_
          refine y_aaldN dX11_doing_60 (by decide) sh_4 rfl (dgA (k := f) (by omega)) (by decide) ?_
          refine y_aload_n dX11_doing_61 rfl rfl ?_
          refine y_getr dX11_doing_62 gf_X11_54 sh_0 rfl ?_
          refine y_getr dX11_doing_65 gf_X11_176 sh_28 rfl ?_
          refine y_ivV1 dX11_doing_68 mv_X11_179 my_X1_take (Or.inl rfl) (dgI (k := f) (by omega)).1 ?_
          refine c_X1_take (s := cOf T.2) (dgI hf2) dg31 (Or.inr (by omega)) (u1.2.trans dT.1) dT.2.1 (Or.inr u3) (fun m2 tk => ⟨rfl, ?_⟩)
          refine y_aload_n dX11_doing_71 rfl rfl ?_
          refine y_getr dX11_doing_72 gf_X11_29 sh_0 rfl ?_
          refine y_iload_n dX11_doing_75 rfl rfl ?_
          refine y_aaldN dX11_doing_76 (by decide) sh_4 rfl (dgA (k := f) (by omega)) (by decide) ?_
          refine y_geti dX11_doing_77 gf_X11_182 (dgI (k := f) (by omega)).1 rfl ?_
          refine y_ireturn dX11_doing_80 rfl rfl ?_
          rw [show m2 (166 + 4 * f) 3 = nI (cOf T.2) from tk.2.2.1.trans (u1.2.trans dT.1)]
          refine ⟨_, rfl, ?_⟩
          have g : ∀ a, 182 ≤ a → m2 a = m a := fun a ha => (tk.1 a (by omega)).trans (f1 a (by omega))
          have ht : tX m2 k s (sgA m (150 + 2 * k) s) := by
            have := tX_of (m1 := m) hk hs t1 t3 (fun _ _ => rfl)
            refine ⟨hk, hs, by rw [g _ (by omega)]; exact t1, fun i hi => by rw [g _ (by omega)]; exact this.2.2.2.1 i hi, this.2.2.2.2⟩
          refine y_run (own := "LoafFallModel") rfl (by decide +kernel) (Nat.le_of_ble_eq_true rfl) rfl ?_
          refine y_iload_n dX12_doing_0 rfl rfl ?_
          refine y_isI1 dX12_doing_1 ms_X12_151 my_X12_isPlace (Or.inl rfl) ?_
          refine c_X12_isPlace (fun _ => ⟨_, rfl, ?_⟩) (fun z => absurd hf z)
          refine y_if_eq (tgt := 14) dX12_doing_4 (by decide) (fun h4 => absurd h4 (by decide)) (fun h4 => ?_)
          refine y_iload_n dX12_doing_7 rfl rfl ?_
          refine y_isI1 dX12_doing_8 ms_X12_111 my_X12_isText (Or.inl rfl) ?_
          refine c_X12_isText (fun _ => ⟨_, rfl, ?_⟩) (fun z => absurd hr z)
          refine y_if_ne (tgt := 16) dX12_doing_11 (by decide) (fun h11 => ?_) (fun h11 => absurd h11 (by decide))
          refine y_aload_n dX12_doing_16 rfl rfl ?_
          refine y_getr dX12_doing_17 gf_X12_22 sh_239 rfl ?_
          refine y_iload_n dX12_doing_20 rfl rfl ?_
          refine y_ialdN dX12_doing_21 sh_244 rfl (by first | omega | decide) (by decide) ?_
          refine y_if_ge (tgt := 31) dX12_doing_22 (by decide) (fun h22 => ?_) (fun h22 => absurd (by rw [g _ (by omega), t1]; exact nI_pos' (by omega)) h22)
          refine y_aload_n dX12_doing_31 rfl rfl ?_
          refine y_iload_n dX12_doing_32 rfl rfl ?_
          refine y_ivI1 dX12_doing_33 mv_X12_145 my_X12_doingFault (Or.inl rfl) sh_239 ?_
          refine c_X12_doingFault ht rfl (fun M fm f3 => ⟨_, rfl, ?_⟩)
          rw [← hT] at f3 ⊢
          obtain ⟨v1, v2, v3⟩ := f3 ok
          refine y_bipush (v := -9) dX12_doing_36 (by decide) ?_
          refine y_icmp_eq (tgt := 44) dX12_doing_38 (by decide) (fun h38 => ?_) (fun h38 => absurd ok h38)
          refine y_iconst (v := 0) dX12_doing_44 (by decide) ?_
          refine y_ist4_3 dX12_doing_45 rfl ?_
          refine cnt (P := fun q => ∀ M1, (∀ a, a ≠ 250 → M1 a = M a) → (∀ p, p < 30 * f ∨ 30 * f + q ≤ p → M1 250 p = M 250 p) → (∀ i, i < q → M1 250 (30 * f + i) = M 252 i) → sV (scT L xs) (d + 10) "LoafFallModel" cX12_doing 4 (some .int) (fun o' m2 n2 => o' = some (.int (nI (cOf T.2))) ∧ Rel m2 n2) 46 [some (.ref 239), some (.int (nI f)), some (.int (nI k)), some (.int (nI q))] [] M1 n) 30 ?_ ?_ 0 (by omega) M (fun _ _ => rfl) (fun _ _ => rfl) (fun i hi => absurd hi (by omega))
          · intro M1 w1 w2 w3
            refine y_iload_n dX12_doing_46 rfl rfl ?_
            refine y_bipush (v := 30) dX12_doing_47 (by decide) ?_
            refine y_icmp_ge (tgt := 75) dX12_doing_49 (by decide) (fun h49 => ?_) (fun h49 => absurd (nI_le (a := 30) (b := 30) (Nat.le_refl _) (by decide)) h49)
            refine y_aload_n dX12_doing_75 rfl rfl ?_
            refine y_getr dX12_doing_76 gf_X12_39 sh_239 rfl ?_
            refine y_iload_n dX12_doing_79 rfl rfl ?_
            refine y_aload_n dX12_doing_80 rfl rfl ?_
            refine y_geti dX12_doing_81 gf_X12_123 sh_239 rfl ?_
            refine y_iastN dX12_doing_84 sh_249 rfl (by first | omega | decide) (by decide) ?_
            refine y_aload_n dX12_doing_85 rfl rfl ?_
            refine y_getr dX12_doing_86 gf_X12_36 sh_239 rfl ?_
            refine y_iload_n dX12_doing_89 rfl rfl ?_
            refine y_iconst (v := 1) dX12_doing_90 (by decide) ?_
            refine y_zastN dX12_doing_91 sh_248 rfl (by first | omega | decide) (by decide) rfl ?_
            refine y_aload_n dX12_doing_92 rfl rfl ?_
            refine y_geti dX12_doing_93 gf_X12_123 sh_239 rfl ?_
            refine y_ireturn dX12_doing_96 rfl rfl ?_
            generalize hE : (s_up (s_up M1 249 (upd (M1 249) f (M1 239 17))) 248 (upd (s_up M1 249 (upd (M1 249) f (M1 239 17)) 248) f 1)) = E
            have E0 : ∀ a, a ≠ 248 → a ≠ 249 → E a = M1 a := fun a b1 b2 => by rw [← hE, s_upN b1, s_upN b2]
            have E9 : E 249 = upd (M1 249) f (M1 239 17) := by rw [← hE, s_upN (by omega), s_upS]
            have E8 : E 248 = upd (M1 248) f 1 := by rw [← hE, s_upS, s_upN (by omega)]
            refine ⟨by rw [E0 _ (by omega) (by omega), w1 _ (by omega)]; exact congrArg (fun z => some (Value.int z)) v1, ?_⟩
            have z : ∀ a, a ≠ 239 → a ≠ 248 → a ≠ 249 → a ≠ 250 → a ≠ 251 → a ≠ 252 → E a = m2 a := fun a b1 b2 b3 b6 b4 b5 => by rw [E0 a b2 b3, w1 _ b6, fm.1 _ b1 b4 b5]
            have z9 : ∀ j, j < 15 ∨ 19 ≤ j → E 239 j = m 239 j := fun j hj => by rw [E0 _ (by omega) (by omega), w1 _ (by omega), fm.2 _ hj, g _ (by omega)]
            have z7 : ∀ p, p < 30 * f ∨ 30 * f + 30 ≤ p → E 250 p = m 250 p := fun p hp => by rw [E0 _ (by omega) (by omega), w2 _ hp, fm.1 _ (by omega) (by omega) (by omega), g _ (by omega)]
            have z8 : ∀ i, i < cOf T.2 → ∀ j, j < 3 → E 250 (30 * f + (3 * i + j)) = T.2 (6 + 3 * i + j) := fun i hi j hj => by
              have := dT.2.1
              rw [E0 _ (by omega) (by omega), w3 _ (by omega)]; exact v3 i hi j hj
            have zt : ∀ a, a < 166 + 4 * f ∨ 170 + 4 * f ≤ a → a < 28 ∨ 35 ≤ a → m2 a = m a := fun a b1 b3 => (tk.1 a (by omega)).trans (f1 a b3)
            have R5 : dgR E f 5 = T.2 5 := by
              unfold dgR
              rw [if_pos rfl, E9, updS, w1 _ (by omega)]; exact v1.trans dT.1.symm
            have Rs : ∀ i, i < cOf T.2 → ∀ j, j < 3 → dgR E f (6 + 3 * i + j) = T.2 (6 + 3 * i + j) := fun i hi j hj => by
              unfold dgR
              rw [if_neg (by omega), show 6 + 3 * i + j - 6 = 3 * i + j by omega]; exact z8 i hi j hj
            have Rc : cOf (dgR E f) = cOf T.2 := by unfold cOf; rw [R5]
            refine Rel_D (k := f) h ?_ (fun a ha => by rw [z a (by omega) (by omega) (by omega) (by omega) (by omega) (by omega)]; exact zt a (by omega) (by omega)) (z9 28 (by omega)) (fun r hr hne => ⟨fun c c1 c2 => ?_, ?_, ?_, fun i hi => z7 _ (by omega)⟩) ⟨?_, ?_, ⟨fun i hi => ?_, ?_⟩, d_st dT R5 Rs⟩
            · obtain ⟨a1, a2, a3, a4⟩ := h.1
              refine ⟨?_, ?_, ?_, a4⟩
              · rw [z9 0 (by omega), z 0 (by omega) (by omega) (by omega) (by omega) (by omega) (by omega), zt 0 (by omega) (by omega)]; exact a1
              · rw [z9 2 (by omega), z 0 (by omega) (by omega) (by omega) (by omega) (by omega) (by omega), zt 0 (by omega) (by omega)]; exact a2
              · intro q hq
                rw [z 137 (by omega) (by omega) (by omega) (by omega) (by omega) (by omega), zt 137 (by omega) (by omega), z 240 (by omega) (by omega) (by omega) (by omega) (by omega) (by omega), zt 240 (by omega) (by omega)]
                exact a3 q hq
            · rw [z _ (by omega) (by omega) (by omega) (by omega) (by omega) (by omega)]; exact zt _ (by omega) (by omega)
            · rw [E8, updN hne, w1 _ (by omega), fm.1 _ (by omega) (by omega) (by omega), g _ (by omega)]
            · rw [E9, updN hne, w1 _ (by omega), fm.1 _ (by omega) (by omega) (by omega), g _ (by omega)]
            · rw [E8, updS]
            · rw [z _ (by omega) (by omega) (by omega) (by omega) (by omega) (by omega)]; exact tk.2.2.2.trans u3
            · rw [Rc] at hi
              obtain ⟨p1, p2, p3⟩ := tk.2.1 i hi
              obtain ⟨q1, q2, q3⟩ := u1.1 i hi
              rw [Rs i hi 0 (by omega), Rs i hi 1 (by omega), Rs i hi 2 (by omega), z _ (by omega) (by omega) (by omega) (by omega) (by omega) (by omega), z _ (by omega) (by omega) (by omega) (by omega) (by omega) (by omega), z _ (by omega) (by omega) (by omega) (by omega) (by omega) (by omega)]
              exact ⟨p1.trans q1, p2.trans q2, p3.trans q3⟩
            · rw [R5, z _ (by omega) (by omega) (by omega) (by omega) (by omega) (by omega)]; exact tk.2.2.1.trans u1.2
          · intro q hk hP
            intro M1 w1 w2 w3
            refine y_iload_n dX12_doing_46 rfl rfl ?_
            refine y_bipush (v := 30) dX12_doing_47 (by decide) ?_
            refine y_icmp_ge (tgt := 75) dX12_doing_49 (by decide) (fun h49 => absurd h49 (nI_ge (a := q) (b := 30) hk (by decide))) (fun h49 => ?_)
            refine y_aload_n dX12_doing_52 rfl rfl ?_
            refine y_getr dX12_doing_53 gf_X12_42 sh_239 rfl ?_
            refine y_bipush (v := 30) dX12_doing_56 (by decide) ?_
            refine y_iload_n dX12_doing_58 rfl rfl ?_
            refine y_imulN (a := 30) (b := f) dX12_doing_59 rfl rfl ?_
            refine y_iload_n dX12_doing_60 rfl rfl ?_
            refine y_iaddN (a := 30 * f) (b := q) dX12_doing_61 rfl rfl ?_
            refine y_aload_n dX12_doing_62 rfl rfl ?_
            refine y_getr dX12_doing_63 gf_X12_48 sh_239 rfl ?_
            refine y_iload_n dX12_doing_66 rfl rfl ?_
            refine y_ialdN dX12_doing_67 sh_252 rfl (by first | omega | decide) (by decide) ?_
            refine y_iastN dX12_doing_68 sh_250 rfl (by first | omega | decide) (by decide) ?_
            refine y_iinc4_3 dX12_doing_69 (nI_1 _) rfl ?_
            refine y_goto (tgt := 46) dX12_doing_72 (by decide) ?_
            refine hP _ (fun a ha => by rw [s_upN ha]; exact w1 a ha) (fun p hp => ?_) (fun i hi => ?_)
            · rw [s_upS, updN (by omega)]; exact w2 p (by omega)
            · rw [s_upS, upd_ap]
              by_cases e : i = q
              · rw [if_pos (by omega), e, w1 _ (by omega)]
              · rw [if_neg (by omega)]; exact w3 i (by omega)
        · refine y_run (own := "LoafFall") rfl (by decide +kernel) (Nat.le_of_ble_eq_true rfl) rfl ?_
          refine y_iload_n dX11_doing_0 rfl rfl ?_
          refine y_isI1 dX11_doing_1 ms_X11_173 my_X11_isDoing (Or.inl rfl) ?_
          refine c_X11_isDoing (fun _ => ⟨_, rfl, ?_⟩) (fun z => absurd hf z)
          refine y_if_eq (tgt := 14) dX11_doing_4 (by decide) (fun h4 => absurd h4 (by decide)) (fun h4 => ?_)
          refine y_iload_n dX11_doing_7 rfl rfl ?_
          refine y_isI1 dX11_doing_8 ms_X11_141 my_X11_isText (Or.inl rfl) ?_
          refine c_X11_isText (fun _ => ⟨_, rfl, ?_⟩) (fun z => absurd hr z)
          refine y_if_ne (tgt := 16) dX11_doing_11 (by decide) (fun h11 => ?_) (fun h11 => absurd h11 (by decide))
          refine y_aload_n dX11_doing_16 rfl rfl ?_
          refine y_getr dX11_doing_17 gf_X11_17 sh_0 rfl ?_
          refine y_iload_n dX11_doing_20 rfl rfl ?_
          refine y_aaldN dX11_doing_21 (by decide) sh_2 rfl (txA (k := k) (by omega)) (by decide) ?_
          refine y_ivI0 dX11_doing_22 mv_X11_145 my_X10_isThere (Or.inl rfl) (txI (k := k) (by omega)).1 ?_
          refine c_X10_isThere (txI hk) (fun a => ⟨_, rfl, ?_⟩) (fun a => absurd a (by rw [t2]; exact nI_m1 (by omega)))
          refine y_if_ne (tgt := 34) dX11_doing_25 (by decide) (fun h25 => ?_) (fun h25 => absurd h25 (by decide))
          refine y_aload_n dX11_doing_34 rfl rfl ?_
          refine y_getr dX11_doing_35 gf_X11_54 sh_0 rfl ?_
          refine y_aload_n dX11_doing_38 rfl rfl ?_
          refine y_getr dX11_doing_39 gf_X11_17 sh_0 rfl ?_
          refine y_iload_n dX11_doing_42 rfl rfl ?_
          refine y_aaldN dX11_doing_43 (by decide) sh_2 rfl (txA (k := k) (by omega)) (by decide) ?_
          refine y_ivI1 dX11_doing_44 mv_X11_153 my_X7_readDoing (Or.inl rfl) sh_28 ?_
          refine c_X7_readDoing (s := s) (txI hk) (by omega) t2 hs (fun m1 f1 f2 => ⟨_, rfl, ?_⟩)
          rw [← hT] at f2 ⊢
          refine y_bipush (v := -9) dX11_doing_47 (by decide) ?_
          refine y_icmp_eq (tgt := 55) dX11_doing_49 (by decide) (fun h49 => absurd h49 ok) (fun h49 => ?_)
          refine y_bipush (v := -4) dX11_doing_52 (by decide) ?_
          refine y_ireturn dX11_doing_54 rfl rfl ?_
          refine ⟨_, rfl, ?_⟩
          have g : ∀ a, 137 ≤ a → m1 a = m a := fun a ha => f1 a (by omega)
          have ht := tX_of hk hs t1 t3 g
          refine y_run (own := "LoafFallModel") rfl (by decide +kernel) (Nat.le_of_ble_eq_true rfl) rfl ?_
          refine y_iload_n dX12_doing_0 rfl rfl ?_
          refine y_isI1 dX12_doing_1 ms_X12_151 my_X12_isPlace (Or.inl rfl) ?_
          refine c_X12_isPlace (fun _ => ⟨_, rfl, ?_⟩) (fun z => absurd hf z)
          refine y_if_eq (tgt := 14) dX12_doing_4 (by decide) (fun h4 => absurd h4 (by decide)) (fun h4 => ?_)
          refine y_iload_n dX12_doing_7 rfl rfl ?_
          refine y_isI1 dX12_doing_8 ms_X12_111 my_X12_isText (Or.inl rfl) ?_
          refine c_X12_isText (fun _ => ⟨_, rfl, ?_⟩) (fun z => absurd hr z)
          refine y_if_ne (tgt := 16) dX12_doing_11 (by decide) (fun h11 => ?_) (fun h11 => absurd h11 (by decide))
          refine y_aload_n dX12_doing_16 rfl rfl ?_
          refine y_getr dX12_doing_17 gf_X12_22 sh_239 rfl ?_
          refine y_iload_n dX12_doing_20 rfl rfl ?_
          refine y_ialdN dX12_doing_21 sh_244 rfl (by first | omega | decide) (by decide) ?_
          refine y_if_ge (tgt := 31) dX12_doing_22 (by decide) (fun h22 => ?_) (fun h22 => absurd (by rw [g _ (by omega), t1]; exact nI_pos' (by omega)) h22)
          refine y_aload_n dX12_doing_31 rfl rfl ?_
          refine y_iload_n dX12_doing_32 rfl rfl ?_
          refine y_ivI1 dX12_doing_33 mv_X12_145 my_X12_doingFault (Or.inl rfl) sh_239 ?_
          refine c_X12_doingFault ht rfl (fun M fm f3 => ⟨_, rfl, ?_⟩)
          rw [← hT] at f3 ⊢
          refine y_bipush (v := -9) dX12_doing_36 (by decide) ?_
          refine y_icmp_eq (tgt := 44) dX12_doing_38 (by decide) (fun h38 => absurd h38 ok) (fun h38 => ?_)
          refine y_bipush (v := -4) dX12_doing_41 (by decide) ?_
          refine y_ireturn dX12_doing_43 rfl rfl ?_
          exact ⟨rfl, Rel_scr h (fun a ha => f1 a (by omega)) (BK_m h.bk (fun c h1 h2 => f1 c (by omega))) fm.fr⟩
    · refine y_run (own := "LoafFall") rfl (by decide +kernel) (Nat.le_of_ble_eq_true rfl) rfl ?_
      refine y_iload_n dX11_doing_0 rfl rfl ?_
      refine y_isI1 dX11_doing_1 ms_X11_173 my_X11_isDoing (Or.inl rfl) ?_
      refine c_X11_isDoing (fun _ => ⟨_, rfl, ?_⟩) (fun z => absurd hf z)
      refine y_if_eq (tgt := 14) dX11_doing_4 (by decide) (fun h4 => absurd h4 (by decide)) (fun h4 => ?_)
      refine y_iload_n dX11_doing_7 rfl rfl ?_
      refine y_isI1 dX11_doing_8 ms_X11_141 my_X11_isText (Or.inl rfl) ?_
      refine c_X11_isText (fun z => absurd z hr) (fun _ => ⟨_, rfl, ?_⟩)
      refine y_if_ne (tgt := 16) dX11_doing_11 (by decide) (fun h11 => absurd (by decide) h11) (fun h11 => ?_)
      refine y_iconst (v := -1) dX11_doing_14 (by decide) ?_
      refine y_ireturn dX11_doing_15 rfl rfl ?_
      refine ⟨_, rfl, ?_⟩
      refine y_run (own := "LoafFallModel") rfl (by decide +kernel) (Nat.le_of_ble_eq_true rfl) rfl ?_
      refine y_iload_n dX12_doing_0 rfl rfl ?_
      refine y_isI1 dX12_doing_1 ms_X12_151 my_X12_isPlace (Or.inl rfl) ?_
      refine c_X12_isPlace (fun _ => ⟨_, rfl, ?_⟩) (fun z => absurd hf z)
      refine y_if_eq (tgt := 14) dX12_doing_4 (by decide) (fun h4 => absurd h4 (by decide)) (fun h4 => ?_)
      refine y_iload_n dX12_doing_7 rfl rfl ?_
      refine y_isI1 dX12_doing_8 ms_X12_111 my_X12_isText (Or.inl rfl) ?_
      refine c_X12_isText (fun z => absurd z hr) (fun _ => ⟨_, rfl, ?_⟩)
      refine y_if_ne (tgt := 16) dX12_doing_11 (by decide) (fun h11 => absurd (by decide) h11) (fun h11 => ?_)
      refine y_iconst (v := -1) dX12_doing_14 (by decide) ?_
      refine y_ireturn dX12_doing_15 rfl rfl ?_
      exact ⟨rfl, h⟩
  · refine y_run (own := "LoafFall") rfl (by decide +kernel) (Nat.le_of_ble_eq_true rfl) rfl ?_
    refine y_iload_n dX11_doing_0 rfl rfl ?_
    refine y_isI1 dX11_doing_1 ms_X11_173 my_X11_isDoing (Or.inl rfl) ?_
    refine c_X11_isDoing (fun z => absurd z hf) (fun _ => ⟨_, rfl, ?_⟩)
    refine y_if_eq (tgt := 14) dX11_doing_4 (by decide) (fun h4 => ?_) (fun h4 => absurd (by decide) h4)
    refine y_iconst (v := -1) dX11_doing_14 (by decide) ?_
    refine y_ireturn dX11_doing_15 rfl rfl ?_
    refine ⟨_, rfl, ?_⟩
    refine y_run (own := "LoafFallModel") rfl (by decide +kernel) (Nat.le_of_ble_eq_true rfl) rfl ?_
    refine y_iload_n dX12_doing_0 rfl rfl ?_
    refine y_isI1 dX12_doing_1 ms_X12_151 my_X12_isPlace (Or.inl rfl) ?_
    refine c_X12_isPlace (fun z => absurd z hf) (fun _ => ⟨_, rfl, ?_⟩)
    refine y_if_eq (tgt := 14) dX12_doing_4 (by decide) (fun h4 => ?_) (fun h4 => absurd (by decide) h4)
    refine y_iconst (v := -1) dX12_doing_14 (by decide) ?_
    refine y_ireturn dX12_doing_15 rfl rfl ?_
    exact ⟨rfl, h⟩
