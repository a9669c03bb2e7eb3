/-! ===== keep, on, loaf, go ===== -/
theorem Rel_K {m m2 : sM} {n : sN} {k : Nat} (h : Rel m n) (hk : k < 3) (eo : ∀ a, (a < 28 ∨ (137 ≤ a ∧ a < 239) ∨ (240 ≤ a ∧ a < 253 ∧ a ≠ 243 ∧ a ≠ 251 ∧ a ≠ 252) ∨ a = 259) → (a < 182 + 19 * k ∨ 182 + 19 * k + 19 ≤ a) → m2 a = m a) (e9 : ∀ j, j ≠ 23 → m2 239 j = m 239 j) (e53 : ∀ j, j ≠ 1 + k → m2 253 j = m 253 j) (e54 : ∀ p, (p < 329 * (1 + k) ∨ 329 * (1 + k) + 329 ≤ p) → p < 1316 → m2 254 p = m 254 p) (hB : BK m2) (hq : LQ m2 (182 + 19 * k) (1 + k)) : Rel m2 n := by
  obtain ⟨h1, h2, h3, h4, h5, h6, h7, h8, -⟩ := h
  refine ⟨⟨?_, ?_, ?_, h1.2.2.2⟩, RW_m h2 (fun a ha => eo a (by omega) (by omega)), RT_m h3 (fun a ha => eo a (by omega) (by omega)), RF_m h4 (fun a ha => eo a (by omega) (by omega)), RD_m h5 (fun a ha => eo a (by omega) (by omega)), RLo_m h6 (fun a ha => eo a (by omega) (by omega)) (e53 0 (by omega)) (fun p hp => e54 p (by omega) (by omega)), fun j hj => ?_, RS_m h8 (fun a ha => eo a (by omega) (by omega)) (e9 28 (by omega)), hB⟩
  · rw [eo 0 (by omega) (by omega), e9 0 (by omega)]; exact h1.1
  · rw [eo 0 (by omega) (by omega), e9 2 (by omega)]; exact h1.2.1
  · rw [eo 137 (by omega) (by omega), eo 240 (by omega) (by omega)]; exact h1.2.2.1
  · by_cases z : j = k
    · rw [z]; exact hq
    · exact LQ_m (h7 j hj) (fun c h1 h2 => eo c (by omega) (by omega)) (e53 _ (by omega)) (fun p hp => e54 _ (by omega) (by omega))
theorem Rel_L {m m2 : sM} {n : sN} (h : Rel m n) (eo : ∀ a, (a < 6 ∨ (25 ≤ a ∧ a < 28) ∨ (137 ≤ a ∧ a < 239) ∨ (240 ≤ a ∧ a < 253 ∧ a ≠ 243 ∧ a ≠ 251 ∧ a ≠ 252) ∨ a = 259) → m2 a = m a) (e9 : ∀ j, j ≠ 23 → m2 239 j = m 239 j) (e53 : ∀ j, j ≠ 0 → m2 253 j = m 253 j) (e54 : ∀ p, 329 ≤ p → p < 1316 → m2 254 p = m 254 p) (hB : BK m2) (hq : RLo m2) : Rel m2 n := by
  obtain ⟨h1, h2, h3, h4, h5, h6, h7, h8, -⟩ := h
  refine ⟨⟨?_, ?_, ?_, h1.2.2.2⟩, RW_m h2 (fun a ha => eo a (by omega)), RT_m h3 (fun a ha => eo a (by omega)), RF_m h4 (fun a ha => eo a (by omega)), RD_m h5 (fun a ha => eo a (by omega)), hq, RK_m h7 (fun a ha => eo a (by omega)) (fun j hj => e53 _ (by omega)) e54, RS_m h8 (fun a ha => eo a (by omega)) (e9 28 (by omega)), hB⟩
  · rw [eo 0 (by omega), e9 0 (by omega)]; exact h1.1
  · rw [eo 0 (by omega), e9 2 (by omega)]; exact h1.2.1
  · rw [eo 137 (by omega), eo 240 (by omega)]; exact h1.2.2.1
theorem wk_j {m : sM} {b j : Nat} (h : j ≠ 23) : wkM m b 239 j = m 239 j := by unfold wkM; rw [s_upS, updN h]
theorem stR_out {m : sM} {h : Nat → Int32} {b p : Nat} {R : Nat → Int32} (hp : p < b ∨ b + 329 ≤ p) : stR m h b R 254 p = m 254 p := by
  unfold stR
  rw [s_upS, if_neg (by omega)]
theorem LA.dr {m : sM} {L : Nat} {R : Nat → Int32} (h : LA m L R) : DR m (L + 3) R := ⟨h.2.1, h.2.2.1⟩
theorem LA.fr {m : sM} {L : Nat} {R : Nat → Int32} (h : LA m L R) : FR m (L + 1) R := h.1.1
/-- a doing's row is looked at between 5 and 36 alone -/
theorem d_eq {R R' : Nat → Int32} (h : dOK R) (e : ∀ p, 5 ≤ p → p < 36 → R' p = R p) : dOK R' := by
  obtain ⟨h1, h2, h3, h4, h5⟩ := h
  have ec : cOf R' = cOf R := by unfold cOf; rw [e 5 (by omega) (by omega)]
  have et : ∀ i, i < 10 → tOf R' i = tOf R i := fun i hi => by unfold tOf; rw [e _ (by omega) (by omega)]
  have eT : ∀ k, k ≤ 10 → Tn R' k = Tn R k := by
    intro k
    induction k with
    | zero => intro _; rfl
    | succ k ih => intro hk; rw [Tn, Tn, ih (by omega), et k (by omega)]
  refine ⟨by rw [ec, e 5 (by omega) (by omega)]; exact h1, by rw [ec]; exact h2, fun i hi => ?_, fun i hi => ?_, by rw [ec, eT _ h2]; exact h5⟩
  · rw [ec] at hi
    unfold lastsR
    rw [e (6 + 3 * i + 0) (by omega) (by omega), e (6 + 3 * i + 1) (by omega) (by omega), e (6 + 3 * i + 2) (by omega) (by omega)]
    exact h3 i hi
  · rw [ec] at hi
    rw [e (6 + 3 * i + 0) (by omega) (by omega), e (6 + 3 * i + 2) (by omega) (by omega)]
    exact h4 i hi
theorem both_d {m : sM} {f g p : Nat} {R : Nat → Int32} (h5 : 5 ≤ p) (h : p < 36) : bothR m f g R p = dgR m g p := by
  by_cases z : p = 5
  · rw [z, both_5, dg_5]
  · rw [both_s (by omega) h]
    unfold dgR
    rw [if_neg z]
theorem both_m {m m' : sM} {f g : Nat} {R : Nat → Int32} (e1 : m' 247 = m 247) (e2 : m' 249 = m 249) (e3 : m' 250 = m 250) : bothR m' f g R = bothR m f g R := by
  unfold bothR
  rw [e1, e2, e3]
/-- a flour and a doing that are there: their row -/
theorem both_ok {m : sM} {f g : Nat} {X : Nat → Int32} (hf : flR (fun i => m 247 (5 * f + i))) (hd : dOK (dgR m g)) : flR (bothR m f g X) ∧ dOK (bothR m f g X) := ⟨fl_low hf (fun p hp => both_f hp), d_eq hd (fun p h1 h2 => both_d h1 h2)⟩
theorem both_FR {m : sM} {f g a : Nat} {X : Nat → Int32} (h : ∀ i, i < 5 → m (a + 1) i = m 247 (5 * f + i)) : FR m a (bothR m f g X) := fun i hi => by rw [both_f hi]; exact h i hi
theorem both_DR {m : sM} {f g a : Nat} {X : Nat → Int32} (h : DR m a (dgR m g)) (hd : dOK (dgR m g)) : DR m a (bothR m f g X) := by
  have ec : cOf (bothR m f g X) = cOf (dgR m g) := by unfold cOf; rw [both_d (by omega) (by omega)]
  have hc := hd.2.1
  refine ⟨fun i hi => ?_, by rw [both_d (by omega) (by omega)]; exact h.2⟩
  rw [ec] at hi
  rw [both_d (by omega) (by omega), both_d (by omega) (by omega), both_d (by omega) (by omega)]
  exact h.1 i hi
theorem begins_d {R : Nat → Int32} (h : dOK R) : dOK (beginsF R) := d_eq h (fun p h1 h2 => begins_low h2)
set_option maxHeartbeats 2000000 in
theorem p_keep {L : Nat} {xs : Nat → Int32} {d : Nat} {m : sM} {n : sN} {r : Int32} (h : Rel m n) : PI L xs (d + 11) yX11_keep cX11_keep 2 yX12_keep cX12_keep 2 [.int r] m n := by
  unfold PI
  by_cases hr : inN r 3
  · obtain ⟨k, hk, rfl⟩ := hr
    have hr : inN (nI k) 3 := ⟨k, hk, rfl⟩
    rcases h.l.1 with ⟨l1, l2⟩ | ⟨l1, l2, l3, l4, l5, l6, l7⟩
    · refine y_run (own := "LoafFall") rfl (by decide +kernel) (Nat.le_of_ble_eq_true rfl) rfl ?_
      refine y_iload_n dX11_keep_0 rfl rfl ?_
      refine y_isI1 dX11_keep_1 ms_X11_249 my_X11_isPlace (Or.inl rfl) ?_
      refine c_X11_isPlace (fun _ => ⟨_, rfl, ?_⟩) (fun z => absurd hr z)
      refine y_if_ne (tgt := 9) dX11_keep_4 (by decide) (fun h4 => ?_) (fun h4 => absurd h4 (by decide))
      refine y_aload_n dX11_keep_9 rfl rfl ?_
      refine y_getr dX11_keep_10 gf_X11_40 sh_0 rfl ?_
      refine y_geti dX11_keep_13 gf_X11_211 sh_6 rfl ?_
      refine y_if_ne (tgt := 22) dX11_keep_16 (by decide) (fun h16 => absurd l2 h16) (fun h16 => ?_)
      refine y_bipush (v := -4) dX11_keep_19 (by decide) ?_
      refine y_ireturn dX11_keep_21 rfl rfl ?_
      refine ⟨_, rfl, ?_⟩
      refine y_run (own := "LoafFallModel") rfl (by decide +kernel) (Nat.le_of_ble_eq_true rfl) rfl ?_
      refine y_iload_n dX12_keep_0 rfl rfl ?_
      refine y_iconst (v := 0) dX12_keep_1 (by decide) ?_
      refine y_iconst (v := 2) dX12_keep_2 (by decide) ?_
      refine y_isI3 dX12_keep_3 ms_X12_86 my_X12_in (Or.inl rfl) ?_
      refine c_X12_in (fun _ _ => ⟨_, rfl, ?_⟩) (fun a => absurd ((in_le (M := 2) (by decide)).mp hr) a)
      refine y_if_ne (tgt := 11) dX12_keep_6 (by decide) (fun h6 => ?_) (fun h6 => absurd h6 (by decide))
      refine y_aload_n dX12_keep_11 rfl rfl ?_
      refine y_getr dX12_keep_12 gf_X12_51 sh_239 rfl ?_
      refine y_iconst (v := 0) dX12_keep_15 (by decide) ?_
      refine y_zaldN dX12_keep_16 sh_253 rfl (by first | omega | decide) (by decide) ?_
      refine y_if_ne (tgt := 23) dX12_keep_17 (by decide) (fun h17 => absurd l1 h17) (fun h17 => ?_)
      refine y_bipush (v := -4) dX12_keep_20 (by decide) ?_
      refine y_ireturn dX12_keep_22 rfl rfl ?_
      exact ⟨rfl, h⟩
    · refine y_run (own := "LoafFall") rfl (by decide +kernel) (Nat.le_of_ble_eq_true rfl) rfl ?_
      refine y_iload_n dX11_keep_0 rfl rfl ?_
      refine y_isI1 dX11_keep_1 ms_X11_249 my_X11_isPlace (Or.inl rfl) ?_
      refine c_X11_isPlace (fun _ => ⟨_, rfl, ?_⟩) (fun z => absurd hr z)
      refine y_if_ne (tgt := 9) dX11_keep_4 (by decide) (fun h4 => ?_) (fun h4 => absurd h4 (by decide))
      refine y_aload_n dX11_keep_9 rfl rfl ?_
      refine y_getr dX11_keep_10 gf_X11_40 sh_0 rfl ?_
      refine y_geti dX11_keep_13 gf_X11_211 sh_6 rfl ?_
      refine y_if_ne (tgt := 22) dX11_keep_16 (by decide) (fun h16 => ?_) (fun h16 => absurd h16 (by rw [l2]; decide))
      refine y_aload_n dX11_keep_22 rfl rfl ?_
      refine y_getr dX11_keep_23 gf_X11_35 sh_0 rfl ?_
      refine y_iload_n dX11_keep_26 rfl rfl ?_
      refine y_aaldN dX11_keep_27 (by decide) sh_5 rfl (kpA (k := k) (by omega)) (by decide) ?_
      refine y_aload_n dX11_keep_28 rfl rfl ?_
      refine y_getr dX11_keep_29 gf_X11_40 sh_0 rfl ?_
      refine y_ivV1 dX11_keep_32 mv_X11_252 my_X6_take (Or.inl rfl) (kpI (k := k) (by omega)).1 ?_
      refine c_X6_take (R := lfR m 0) (kpI hk) lf6 (by omega) l3 l4 (Or.inr l6) (Or.inr l7) (Or.inr l2) (fun m1 t1 t2 t3 t4 t5 => ⟨rfl, ?_⟩)
      refine y_aload_n dX11_keep_35 rfl rfl ?_
      refine y_getr dX11_keep_36 gf_X11_40 sh_0 rfl ?_
      refine y_getr dX11_keep_39 gf_X11_212 sh_6 rfl ?_
      refine y_geti dX11_keep_42 gf_X11_216 sh_13 rfl ?_
      refine y_ireturn dX11_keep_45 rfl rfl ?_
      refine ⟨_, rfl, ?_⟩
      have g : ∀ a, 239 ≤ a → m1 a = m a := fun a ha => t2 a (by omega)
      refine y_run (own := "LoafFallModel") rfl (by decide +kernel) (Nat.le_of_ble_eq_true rfl) rfl ?_
      refine y_iload_n dX12_keep_0 rfl rfl ?_
      refine y_iconst (v := 0) dX12_keep_1 (by decide) ?_
      refine y_iconst (v := 2) dX12_keep_2 (by decide) ?_
      refine y_isI3 dX12_keep_3 ms_X12_86 my_X12_in (Or.inl rfl) ?_
      refine c_X12_in (fun _ _ => ⟨_, rfl, ?_⟩) (fun a => absurd ((in_le (M := 2) (by decide)).mp hr) a)
      refine y_if_ne (tgt := 11) dX12_keep_6 (by decide) (fun h6 => ?_) (fun h6 => absurd h6 (by decide))
      refine y_aload_n dX12_keep_11 rfl rfl ?_
      refine y_getr dX12_keep_12 gf_X12_51 sh_239 rfl ?_
      refine y_iconst (v := 0) dX12_keep_15 (by decide) ?_
      refine y_zaldN dX12_keep_16 sh_253 rfl (by first | omega | decide) (by decide) ?_
      refine y_if_ne (tgt := 23) dX12_keep_17 (by decide) (fun h17 => ?_) (fun h17 => absurd h17 (by rw [g _ (by omega), l1]; decide))
      refine y_aload_n dX12_keep_23 rfl rfl ?_
      refine y_iconst (v := 0) dX12_keep_24 (by decide) ?_
      refine y_iconst (v := 1) dX12_keep_25 (by decide) ?_
      refine y_iload_n dX12_keep_26 rfl rfl ?_
      refine y_iaddN (a := 1) (b := k) dX12_keep_27 rfl rfl ?_
      refine y_ivV2 dX12_keep_28 mv_X12_238 my_X12_copyLoaf (Or.inl rfl) sh_239 ?_
      refine c_X12_copyLoaf (a := 0) (b := 1 + k) rfl (by omega) rfl (by omega) (by omega) ⟨rfl, ?_⟩
      refine y_aload_n dX12_keep_31 rfl rfl ?_
      refine y_getr dX12_keep_32 gf_X12_51 sh_239 rfl ?_
      refine y_iconst (v := 1) dX12_keep_35 (by decide) ?_
      refine y_iload_n dX12_keep_36 rfl rfl ?_
      refine y_iaddN (a := 1) (b := k) dX12_keep_37 rfl rfl ?_
      refine y_iconst (v := 1) dX12_keep_38 (by decide) ?_
      refine y_zastN dX12_keep_39 sh_253 rfl (by first | omega | decide) (by decide) rfl ?_
      refine y_aload_n dX12_keep_40 rfl rfl ?_
      refine y_iconst (v := 0) dX12_keep_41 (by decide) ?_
      refine y_ivV1 dX12_keep_42 mv_X12_174 my_X12_look (Or.inl rfl) sh_239 ?_
      refine c_X12_look (j := 0) rfl ⟨rfl, ?_⟩
      rw [wk_eta]
      have hb := fun m => wk_b (m := m) (b := 329 * 0) (by omega)
      refine y_aload_n dX12_keep_45 rfl rfl ?_
      refine y_bipush (v := 38) dX12_keep_46 (by decide) ?_
      refine y_ivI1 dX12_keep_48 mv_X12_160 my_X12_v (Or.inl rfl) sh_239 ?_
      refine c_X12_v (hb _) (p := 38) rfl (by omega) ⟨_, rfl, ?_⟩
      refine y_ireturn dX12_keep_51 rfl rfl ?_
      rw [← wk_eta]
      generalize em : wkM (s_up (stR m1 (m1 255) (329 * (1 + k)) (fun p => m1 254 (329 * 0 + p))) 253 (upd (stR m1 (m1 255) (329 * (1 + k)) (fun p => m1 254 (329 * 0 + p)) 253) (1 + k) 1)) (329 * 0) = m2
      have f1 : ∀ a, a ≠ 239 → a ≠ 253 → a ≠ 254 → a ≠ 255 → m2 a = m1 a := fun a h1 h2 h3 h4 => by rw [← em, wk_o h1, s_upN h2, stR_o h3 h4]
      have f54 : m2 254 = stR m1 (m1 255) (329 * (1 + k)) (fun p => m1 254 (329 * 0 + p)) 254 := by rw [← em, wk_o (by omega), s_upN (by omega)]
      have f53 : m2 253 = upd (m1 253) (1 + k) 1 := by rw [← em, wk_o (by omega), s_upS, stR_o (by omega) (by omega)]
      have f9 : ∀ j, j ≠ 23 → m2 239 j = m1 239 j := fun j hj => by rw [← em, wk_j hj, s_upN (by omega), stR_o (by omega) (by omega)]
      refine ⟨?_, ?_⟩
      · rw [t2 13 (by omega)]
        show some (Value.int (s_up (stR m1 (m1 255) (329 * (1 + k)) (fun p => m1 254 (329 * 0 + p))) 253 _ 254 (329 * 0 + 38))) = _
        rw [s_upN (by omega), stR_out (by omega), t2 254 (by omega), show m 13 6 = lfR m 0 38 from l3.1.2.2.2.1]
        rfl
      · have el : eqL (lfR m 0) (lfR m2 (1 + k)) := fun p hp => by
          show m2 254 (329 * (1 + k) + p) = m 254 (329 * 0 + p)
          rw [f54, stR_get hp, t2 254 (by omega)]
        refine Rel_K (k := k) h hk (fun a h1 h2 => ?_) (fun j hj => ?_) (fun j hj => ?_) (fun p h1 h2 => ?_) (BK_m h.bk (fun c h1 h2 => ?_)) (Or.inr ⟨?_, ?_, LA_m (LA_L t1 l4.q l4.c el) (fun c h1 h2 => f1 c (by omega) (by omega) (by omega) (by omega)), s_L l4 el, d_L l5 el, ?_, ?_⟩)
        · rw [f1 a (by omega) (by omega) (by omega) (by omega), t2 a (by omega)]
        · rw [f9 j hj, t2 239 (by omega)]
        · rw [f53, updN hj, t2 253 (by omega)]
        · rw [f54, stR_out h1, t2 254 (by omega)]
        · rw [f1 c (by omega) (by omega) (by omega) (by omega), t2 c (by omega)]
        · rw [f53, updS]
        · rw [f1 _ (by omega) (by omega) (by omega) (by omega), t3]; exact l2
        · rw [f1 _ (by omega) (by omega) (by omega) (by omega), t4]; exact l6
        · rw [f1 _ (by omega) (by omega) (by omega) (by omega), t5]; exact l7
  · refine y_run (own := "LoafFall") rfl (by decide +kernel) (Nat.le_of_ble_eq_true rfl) rfl ?_
    refine y_iload_n dX11_keep_0 rfl rfl ?_
    refine y_isI1 dX11_keep_1 ms_X11_249 my_X11_isPlace (Or.inl rfl) ?_
    refine c_X11_isPlace (fun z => absurd z hr) (fun _ => ⟨_, rfl, ?_⟩)
    refine y_if_ne (tgt := 9) dX11_keep_4 (by decide) (fun h4 => absurd (by decide) h4) (fun h4 => ?_)
    refine y_iconst (v := -1) dX11_keep_7 (by decide) ?_
    refine y_ireturn dX11_keep_8 rfl rfl ?_
    refine ⟨_, rfl, ?_⟩
    refine y_run (own := "LoafFallModel") rfl (by decide +kernel) (Nat.le_of_ble_eq_true rfl) rfl ?_
    refine y_iload_n dX12_keep_0 rfl rfl ?_
    refine y_iconst (v := 0) dX12_keep_1 (by decide) ?_
    refine y_iconst (v := 2) dX12_keep_2 (by decide) ?_
    refine y_isI3 dX12_keep_3 ms_X12_86 my_X12_in (Or.inl rfl) ?_
    refine c_X12_in (fun a b => absurd ((in_le (M := 2) (by decide)).mpr ⟨a, b⟩) hr) (fun _ => ⟨_, rfl, ?_⟩)
    refine y_if_ne (tgt := 11) dX12_keep_6 (by decide) (fun h6 => absurd (by decide) h6) (fun h6 => ?_)
    refine y_iconst (v := -1) dX12_keep_9 (by decide) ?_
    refine y_ireturn dX12_keep_10 rfl rfl ?_
    exact ⟨rfl, h⟩
set_option maxHeartbeats 2000000 in
theorem p_on {L : Nat} {xs : Nat → Int32} {d : Nat} {m : sM} {n : sN} {r : Int32} (h : Rel m n) : PI L xs (d + 11) yX11_on cX11_on 2 yX12_on cX12_on 2 [.int r] m n := by
  unfold PI
  by_cases hr : inN r 3
  · obtain ⟨k, hk, rfl⟩ := hr
    have hr : inN (nI k) 3 := ⟨k, hk, rfl⟩
    rcases h.k k hk with ⟨l1, l2⟩ | ⟨l1, l2, l3, l4, l5, l6, l7⟩
    · refine y_run (own := "LoafFall") rfl (by decide +kernel) (Nat.le_of_ble_eq_true rfl) rfl ?_
      refine y_iload_n dX11_on_0 rfl rfl ?_
      refine y_isI1 dX11_on_1 ms_X11_249 my_X11_isPlace (Or.inl rfl) ?_
      refine c_X11_isPlace (fun _ => ⟨_, rfl, ?_⟩) (fun z => absurd hr z)
      refine y_if_ne (tgt := 9) dX11_on_4 (by decide) (fun h4 => ?_) (fun h4 => absurd h4 (by decide))
      refine y_aload_n dX11_on_9 rfl rfl ?_
      refine y_getr dX11_on_10 gf_X11_35 sh_0 rfl ?_
      refine y_iload_n dX11_on_13 rfl rfl ?_
      refine y_aaldN dX11_on_14 (by decide) sh_5 rfl (kpA (k := k) (by omega)) (by decide) ?_
      refine y_geti dX11_on_15 gf_X11_211 (kpI (k := k) (by omega)).1 rfl ?_
      refine y_if_ne (tgt := 27) dX11_on_18 (by decide) (fun h18 => absurd l2 h18) (fun h18 => ?_)
      refine y_aload_n dX11_on_21 rfl rfl ?_
      refine y_iconst (v := 1) dX11_on_22 (by decide) ?_
      refine y_ivI1 dX11_on_23 mv_X11_105 my_X11_found (Or.inl rfl) sh_0 ?_
      refine c_X11_found (f := 1) rfl (by omega) (by omega) ⟨_, rfl, ?_⟩
      refine y_ireturn dX11_on_26 rfl rfl ?_
      refine ⟨_, rfl, ?_⟩
      obtain ⟨m1, em⟩ : ∃ m1, m1 = foundM m 1 := ⟨_, rfl⟩
      rw [← em]
      have g : ∀ a, 138 ≤ a → m1 a = m a := fun a ha => by rw [em]; exact found_o (by omega) (by omega)
      refine y_run (own := "LoafFallModel") rfl (by decide +kernel) (Nat.le_of_ble_eq_true rfl) rfl ?_
      refine y_iload_n dX12_on_0 rfl rfl ?_
      refine y_iconst (v := 0) dX12_on_1 (by decide) ?_
      refine y_iconst (v := 2) dX12_on_2 (by decide) ?_
      refine y_isI3 dX12_on_3 ms_X12_86 my_X12_in (Or.inl rfl) ?_
      refine c_X12_in (fun _ _ => ⟨_, rfl, ?_⟩) (fun a => absurd ((in_le (M := 2) (by decide)).mp hr) a)
      refine y_if_ne (tgt := 11) dX12_on_6 (by decide) (fun h6 => ?_) (fun h6 => absurd h6 (by decide))
      refine y_aload_n dX12_on_11 rfl rfl ?_
      refine y_getr dX12_on_12 gf_X12_51 sh_239 rfl ?_
      refine y_iconst (v := 1) dX12_on_15 (by decide) ?_
      refine y_iload_n dX12_on_16 rfl rfl ?_
      refine y_iaddN (a := 1) (b := k) dX12_on_17 rfl rfl ?_
      refine y_zaldN dX12_on_18 sh_253 rfl (by first | omega | decide) (by decide) ?_
      refine y_if_ne (tgt := 28) dX12_on_19 (by decide) (fun h19 => absurd (by rw [g _ (by omega)]; exact l1) h19) (fun h19 => ?_)
      refine y_aload_n dX12_on_22 rfl rfl ?_
      refine y_iconst (v := 1) dX12_on_23 (by decide) ?_
      refine y_ivI1 dX12_on_24 mv_X12_100 my_X12_meets (Or.inl rfl) sh_239 ?_
      refine c_X12_meets (f := 1) rfl (by omega) ⟨_, rfl, ?_⟩
      refine y_ireturn dX12_on_27 rfl rfl ?_
      exact ⟨rfl, by rw [em]; exact Rel_met h⟩
    · refine y_run (own := "LoafFall") rfl (by decide +kernel) (Nat.le_of_ble_eq_true rfl) rfl ?_
      refine y_iload_n dX11_on_0 rfl rfl ?_
      refine y_isI1 dX11_on_1 ms_X11_249 my_X11_isPlace (Or.inl rfl) ?_
      refine c_X11_isPlace (fun _ => ⟨_, rfl, ?_⟩) (fun z => absurd hr z)
      refine y_if_ne (tgt := 9) dX11_on_4 (by decide) (fun h4 => ?_) (fun h4 => absurd h4 (by decide))
      refine y_aload_n dX11_on_9 rfl rfl ?_
      refine y_getr dX11_on_10 gf_X11_35 sh_0 rfl ?_
      refine y_iload_n dX11_on_13 rfl rfl ?_
      refine y_aaldN dX11_on_14 (by decide) sh_5 rfl (kpA (k := k) (by omega)) (by decide) ?_
      refine y_geti dX11_on_15 gf_X11_211 (kpI (k := k) (by omega)).1 rfl ?_
      refine y_if_ne (tgt := 27) dX11_on_18 (by decide) (fun h18 => ?_) (fun h18 => absurd h18 (by rw [l2]; decide))
      refine y_aload_n dX11_on_27 rfl rfl ?_
      refine y_getr dX11_on_28 gf_X11_40 sh_0 rfl ?_
      refine y_aload_n dX11_on_31 rfl rfl ?_
      refine y_getr dX11_on_32 gf_X11_35 sh_0 rfl ?_
      refine y_iload_n dX11_on_35 rfl rfl ?_
      refine y_aaldN dX11_on_36 (by decide) sh_5 rfl (kpA (k := k) (by omega)) (by decide) ?_
      refine y_ivV1 dX11_on_37 mv_X11_252 my_X6_take (Or.inl rfl) sh_6 ?_
      refine c_X6_take (R := lfR m (1 + k)) lf6 (kpI hk) (by omega) l3 l4 (Or.inr l6) (Or.inr l7) (Or.inr l2) (fun m1 t1 t2 t3 t4 t5 => ⟨rfl, ?_⟩)
      refine y_aload_n dX11_on_40 rfl rfl ?_
      refine y_getr dX11_on_41 gf_X11_40 sh_0 rfl ?_
      refine y_getr dX11_on_44 gf_X11_212 sh_6 rfl ?_
      refine y_geti dX11_on_47 gf_X11_216 sh_13 rfl ?_
      refine y_ireturn dX11_on_50 rfl rfl ?_
      refine ⟨_, rfl, ?_⟩
      have g : ∀ a, 239 ≤ a → m1 a = m a := fun a ha => t2 a (by omega)
      refine y_run (own := "LoafFallModel") rfl (by decide +kernel) (Nat.le_of_ble_eq_true rfl) rfl ?_
      refine y_iload_n dX12_on_0 rfl rfl ?_
      refine y_iconst (v := 0) dX12_on_1 (by decide) ?_
      refine y_iconst (v := 2) dX12_on_2 (by decide) ?_
      refine y_isI3 dX12_on_3 ms_X12_86 my_X12_in (Or.inl rfl) ?_
      refine c_X12_in (fun _ _ => ⟨_, rfl, ?_⟩) (fun a => absurd ((in_le (M := 2) (by decide)).mp hr) a)
      refine y_if_ne (tgt := 11) dX12_on_6 (by decide) (fun h6 => ?_) (fun h6 => absurd h6 (by decide))
      refine y_aload_n dX12_on_11 rfl rfl ?_
      refine y_getr dX12_on_12 gf_X12_51 sh_239 rfl ?_
      refine y_iconst (v := 1) dX12_on_15 (by decide) ?_
      refine y_iload_n dX12_on_16 rfl rfl ?_
      refine y_iaddN (a := 1) (b := k) dX12_on_17 rfl rfl ?_
      refine y_zaldN dX12_on_18 sh_253 rfl (by first | omega | decide) (by decide) ?_
      refine y_if_ne (tgt := 28) dX12_on_19 (by decide) (fun h19 => ?_) (fun h19 => absurd h19 (by rw [g _ (by omega), l1]; decide))
      refine y_aload_n dX12_on_28 rfl rfl ?_
      refine y_iconst (v := 1) dX12_on_29 (by decide) ?_
      refine y_iload_n dX12_on_30 rfl rfl ?_
      refine y_iaddN (a := 1) (b := k) dX12_on_31 rfl rfl ?_
      refine y_iconst (v := 0) dX12_on_32 (by decide) ?_
      refine y_ivV2 dX12_on_33 mv_X12_238 my_X12_copyLoaf (Or.inl rfl) sh_239 ?_
      refine c_X12_copyLoaf (a := 1 + k) (b := 0) rfl (by omega) rfl (by omega) (by omega) ⟨rfl, ?_⟩
      refine y_aload_n dX12_on_36 rfl rfl ?_
      refine y_getr dX12_on_37 gf_X12_51 sh_239 rfl ?_
      refine y_iconst (v := 0) dX12_on_40 (by decide) ?_
      refine y_iconst (v := 1) dX12_on_41 (by decide) ?_
      refine y_zastN dX12_on_42 sh_253 rfl (by first | omega | decide) (by decide) rfl ?_
      refine y_aload_n dX12_on_43 rfl rfl ?_
      refine y_iconst (v := 0) dX12_on_44 (by decide) ?_
      refine y_ivV1 dX12_on_45 mv_X12_174 my_X12_look (Or.inl rfl) sh_239 ?_
      refine c_X12_look (j := 0) rfl ⟨rfl, ?_⟩
      rw [wk_eta]
      have hb := fun m => wk_b (m := m) (b := 329 * 0) (by omega)
      refine y_aload_n dX12_on_48 rfl rfl ?_
      refine y_bipush (v := 38) dX12_on_49 (by decide) ?_
      refine y_ivI1 dX12_on_51 mv_X12_160 my_X12_v (Or.inl rfl) sh_239 ?_
      refine c_X12_v (hb _) (p := 38) rfl (by omega) ⟨_, rfl, ?_⟩
      refine y_ireturn dX12_on_54 rfl rfl ?_
      rw [← wk_eta]
      generalize em : wkM (s_up (stR m1 (m1 255) (329 * 0) (fun p => m1 254 (329 * (1 + k) + p))) 253 (upd (stR m1 (m1 255) (329 * 0) (fun p => m1 254 (329 * (1 + k) + p)) 253) 0 1)) (329 * 0) = m2
      have f1 : ∀ a, a ≠ 239 → a ≠ 253 → a ≠ 254 → a ≠ 255 → m2 a = m1 a := fun a h1 h2 h3 h4 => by rw [← em, wk_o h1, s_upN h2, stR_o h3 h4]
      have f54 : m2 254 = stR m1 (m1 255) (329 * 0) (fun p => m1 254 (329 * (1 + k) + p)) 254 := by rw [← em, wk_o (by omega), s_upN (by omega)]
      have f53 : m2 253 = upd (m1 253) 0 1 := by rw [← em, wk_o (by omega), s_upS, stR_o (by omega) (by omega)]
      have f9 : ∀ j, j ≠ 23 → m2 239 j = m1 239 j := fun j hj => by rw [← em, wk_j hj, s_upN (by omega), stR_o (by omega) (by omega)]
      refine ⟨?_, ?_⟩
      · show some (Value.int (s_up (stR m1 (m1 255) (329 * 0) (fun p => m1 254 (329 * (1 + k) + p))) 253 _ 254 (329 * 0 + 38))) = _
        rw [s_upN (by omega), stR_get (by omega), t2 254 (by omega), show m1 13 6 = lfR m (1 + k) 38 from t1.1.2.2.2.1]
        rfl
      · have el : eqL (lfR m (1 + k)) (lfR m2 0) := fun p hp => by
          show m2 254 (329 * 0 + p) = m 254 (329 * (1 + k) + p)
          rw [f54, stR_get hp, t2 254 (by omega)]
        refine Rel_L h (fun a h1 => ?_) (fun j hj => ?_) (fun j hj => ?_) (fun p h1 h2 => ?_) (BK_m h.bk (fun c h1 h2 => ?_)) ⟨Or.inr ⟨?_, ?_, LA_m (LA_L t1 l4.q l4.c el) (fun c h1 h2 => f1 c (by omega) (by omega) (by omega) (by omega)), s_L l4 el, d_L l5 el, ?_, ?_⟩, fun z => ?_⟩
        · rw [f1 a (by omega) (by omega) (by omega) (by omega), t2 a (by omega)]
        · rw [f9 j hj, t2 239 (by omega)]
        · rw [f53, updN hj, t2 253 (by omega)]
        · rw [f54, stR_out (by omega), t2 254 (by omega)]
        · rw [f1 c (by omega) (by omega) (by omega) (by omega), t2 c (by omega)]
        · rw [f53, updS]
        · rw [f1 _ (by omega) (by omega) (by omega) (by omega), t3]; exact l2
        · rw [f1 _ (by omega) (by omega) (by omega) (by omega), t4]; exact l6
        · rw [f1 _ (by omega) (by omega) (by omega) (by omega), t5]; exact l7
        · rw [f53, updS] at z; exact absurd z (by decide)
  · refine y_run (own := "LoafFall") rfl (by decide +kernel) (Nat.le_of_ble_eq_true rfl) rfl ?_
    refine y_iload_n dX11_on_0 rfl rfl ?_
    refine y_isI1 dX11_on_1 ms_X11_249 my_X11_isPlace (Or.inl rfl) ?_
    refine c_X11_isPlace (fun z => absurd z hr) (fun _ => ⟨_, rfl, ?_⟩)
    refine y_if_ne (tgt := 9) dX11_on_4 (by decide) (fun h4 => absurd (by decide) h4) (fun h4 => ?_)
    refine y_iconst (v := -1) dX11_on_7 (by decide) ?_
    refine y_ireturn dX11_on_8 rfl rfl ?_
    refine ⟨_, rfl, ?_⟩
    refine y_run (own := "LoafFallModel") rfl (by decide +kernel) (Nat.le_of_ble_eq_true rfl) rfl ?_
    refine y_iload_n dX12_on_0 rfl rfl ?_
    refine y_iconst (v := 0) dX12_on_1 (by decide) ?_
    refine y_iconst (v := 2) dX12_on_2 (by decide) ?_
    refine y_isI3 dX12_on_3 ms_X12_86 my_X12_in (Or.inl rfl) ?_
    refine c_X12_in (fun a b => absurd ((in_le (M := 2) (by decide)).mpr ⟨a, b⟩) hr) (fun _ => ⟨_, rfl, ?_⟩)
    refine y_if_ne (tgt := 11) dX12_on_6 (by decide) (fun h6 => absurd (by decide) h6) (fun h6 => ?_)
    refine y_iconst (v := -1) dX12_on_9 (by decide) ?_
    refine y_ireturn dX12_on_10 rfl rfl ?_
    exact ⟨rfl, h⟩
set_option maxHeartbeats 2000000 in
theorem p_loaf {L : Nat} {xs : Nat → Int32} {d : Nat} {m : sM} {n : sN} {r x : Int32} (h : Rel m n) : PI L xs (d + 11) yX11_loaf cX11_loaf 3 yX12_loaf cX12_loaf 3 [.int r, .int x] m n := by
  unfold PI
  by_cases hr : inN r 4
  · by_cases hx : inN x 4
    · obtain ⟨k, hk, rfl⟩ := hr
      have hr : inN (nI k) 4 := ⟨k, hk, rfl⟩
      obtain ⟨q, hq, rfl⟩ := hx
      have hx : inN (nI q) 4 := ⟨q, hq, rfl⟩
      rcases h.f k hk with ⟨f1, f2⟩ | ⟨f1, f2, f3, f4⟩
      · refine y_run (own := "LoafFall") rfl (by decide +kernel) (Nat.le_of_ble_eq_true rfl) rfl ?_
        refine y_iload_n dX11_loaf_0 rfl rfl ?_
        refine y_isI1 dX11_loaf_1 ms_X11_160 my_X11_isFlour (Or.inl rfl) ?_
        refine c_X11_isFlour (fun _ => ⟨_, rfl, ?_⟩) (fun z => absurd hr z)
        refine y_if_eq (tgt := 14) dX11_loaf_4 (by decide) (fun h4 => absurd h4 (by decide)) (fun h4 => ?_)
        refine y_iload_n dX11_loaf_7 rfl rfl ?_
        refine y_isI1 dX11_loaf_8 ms_X11_173 my_X11_isDoing (Or.inl rfl) ?_
        refine c_X11_isDoing (fun _ => ⟨_, rfl, ?_⟩) (fun z => absurd hx z)
        refine y_if_ne (tgt := 16) dX11_loaf_11 (by decide) (fun h11 => ?_) (fun h11 => absurd h11 (by decide))
        refine y_aload_n dX11_loaf_16 rfl rfl ?_
        refine y_getr dX11_loaf_17 gf_X11_23 sh_0 rfl ?_
        refine y_iload_n dX11_loaf_20 rfl rfl ?_
        refine y_aaldN dX11_loaf_21 (by decide) sh_3 rfl (flA (k := k) (by omega)) (by decide) ?_
        refine y_geti dX11_loaf_22 gf_X11_183 (flI (k := k) (by omega)).1 rfl ?_
        refine y_if_eq (tgt := 40) dX11_loaf_25 (by decide) (fun h25 => ?_) (fun h25 => absurd f2 h25)
        refine y_aload_n dX11_loaf_40 rfl rfl ?_
        refine y_iconst (v := 1) dX11_loaf_41 (by decide) ?_
        refine y_ivI1 dX11_loaf_42 mv_X11_105 my_X11_found (Or.inl rfl) sh_0 ?_
        refine c_X11_found (f := 1) rfl (by omega) (by omega) ⟨_, rfl, ?_⟩
        refine y_ireturn dX11_loaf_45 rfl rfl ?_
        refine ⟨_, rfl, ?_⟩
        obtain ⟨m1, em⟩ : ∃ m1, m1 = foundM m 1 := ⟨_, rfl⟩
        rw [← em]
        have g : ∀ a, 138 ≤ a → m1 a = m a := fun a ha => by rw [em]; exact found_o (by omega) (by omega)
        refine y_run (own := "LoafFallModel") rfl (by decide +kernel) (Nat.le_of_ble_eq_true rfl) rfl ?_
        refine y_iload_n dX12_loaf_0 rfl rfl ?_
        refine y_isI1 dX12_loaf_1 ms_X12_151 my_X12_isPlace (Or.inl rfl) ?_
        refine c_X12_isPlace (fun _ => ⟨_, rfl, ?_⟩) (fun z => absurd hr z)
        refine y_if_eq (tgt := 14) dX12_loaf_4 (by decide) (fun h4 => absurd h4 (by decide)) (fun h4 => ?_)
        refine y_iload_n dX12_loaf_7 rfl rfl ?_
        refine y_isI1 dX12_loaf_8 ms_X12_151 my_X12_isPlace (Or.inl rfl) ?_
        refine c_X12_isPlace (fun _ => ⟨_, rfl, ?_⟩) (fun z => absurd hx z)
        refine y_if_ne (tgt := 16) dX12_loaf_11 (by decide) (fun h11 => ?_) (fun h11 => absurd h11 (by decide))
        refine y_aload_n dX12_loaf_16 rfl rfl ?_
        refine y_getr dX12_loaf_17 gf_X12_29 sh_239 rfl ?_
        refine y_iload_n dX12_loaf_20 rfl rfl ?_
        refine y_zaldN dX12_loaf_21 sh_246 rfl (by first | omega | decide) (by decide) ?_
        refine y_if_eq (tgt := 34) dX12_loaf_22 (by decide) (fun h22 => ?_) (fun h22 => absurd (by rw [g _ (by omega)]; exact f1) h22)
        refine y_aload_n dX12_loaf_34 rfl rfl ?_
        refine y_iconst (v := 1) dX12_loaf_35 (by decide) ?_
        refine y_ivI1 dX12_loaf_36 mv_X12_100 my_X12_meets (Or.inl rfl) sh_239 ?_
        refine c_X12_meets (f := 1) rfl (by omega) ⟨_, rfl, ?_⟩
        refine y_ireturn dX12_loaf_39 rfl rfl ?_
        exact ⟨rfl, by rw [em]; exact Rel_met h⟩
      · rcases h.d q hq with ⟨d1, d2⟩ | ⟨d1, d2, d3, d4⟩
        · refine y_run (own := "LoafFall") rfl (by decide +kernel) (Nat.le_of_ble_eq_true rfl) rfl ?_
          refine y_iload_n dX11_loaf_0 rfl rfl ?_
          refine y_isI1 dX11_loaf_1 ms_X11_160 my_X11_isFlour (Or.inl rfl) ?_
          refine c_X11_isFlour (fun _ => ⟨_, rfl, ?_⟩) (fun z => absurd hr z)
          refine y_if_eq (tgt := 14) dX11_loaf_4 (by decide) (fun h4 => absurd h4 (by decide)) (fun h4 => ?_)
          refine y_iload_n dX11_loaf_7 rfl rfl ?_
          refine y_isI1 dX11_loaf_8 ms_X11_173 my_X11_isDoing (Or.inl rfl) ?_
          refine c_X11_isDoing (fun _ => ⟨_, rfl, ?_⟩) (fun z => absurd hx z)
          refine y_if_ne (tgt := 16) dX11_loaf_11 (by decide) (fun h11 => ?_) (fun h11 => absurd h11 (by decide))
          refine y_aload_n dX11_loaf_16 rfl rfl ?_
          refine y_getr dX11_loaf_17 gf_X11_23 sh_0 rfl ?_
          refine y_iload_n dX11_loaf_20 rfl rfl ?_
          refine y_aaldN dX11_loaf_21 (by decide) sh_3 rfl (flA (k := k) (by omega)) (by decide) ?_
          refine y_geti dX11_loaf_22 gf_X11_183 (flI (k := k) (by omega)).1 rfl ?_
          refine y_if_eq (tgt := 40) dX11_loaf_25 (by decide) (fun h25 => absurd h25 (by rw [f2]; decide)) (fun h25 => ?_)
          refine y_aload_n dX11_loaf_28 rfl rfl ?_
          refine y_getr dX11_loaf_29 gf_X11_29 sh_0 rfl ?_
          refine y_iload_n dX11_loaf_32 rfl rfl ?_
          refine y_aaldN dX11_loaf_33 (by decide) sh_4 rfl (dgA (k := q) (by omega)) (by decide) ?_
          refine y_geti dX11_loaf_34 gf_X11_190 (dgI (k := q) (by omega)).1 rfl ?_
          refine y_if_ne (tgt := 46) dX11_loaf_37 (by decide) (fun h37 => absurd d2 h37) (fun h37 => ?_)
          refine y_aload_n dX11_loaf_40 rfl rfl ?_
          refine y_iconst (v := 1) dX11_loaf_41 (by decide) ?_
          refine y_ivI1 dX11_loaf_42 mv_X11_105 my_X11_found (Or.inl rfl) sh_0 ?_
          refine c_X11_found (f := 1) rfl (by omega) (by omega) ⟨_, rfl, ?_⟩
          refine y_ireturn dX11_loaf_45 rfl rfl ?_
          refine ⟨_, rfl, ?_⟩
          obtain ⟨m1, em⟩ : ∃ m1, m1 = foundM m 1 := ⟨_, rfl⟩
          rw [← em]
          have g : ∀ a, 138 ≤ a → m1 a = m a := fun a ha => by rw [em]; exact found_o (by omega) (by omega)
          refine y_run (own := "LoafFallModel") rfl (by decide +kernel) (Nat.le_of_ble_eq_true rfl) rfl ?_
          refine y_iload_n dX12_loaf_0 rfl rfl ?_
          refine y_isI1 dX12_loaf_1 ms_X12_151 my_X12_isPlace (Or.inl rfl) ?_
          refine c_X12_isPlace (fun _ => ⟨_, rfl, ?_⟩) (fun z => absurd hr z)
          refine y_if_eq (tgt := 14) dX12_loaf_4 (by decide) (fun h4 => absurd h4 (by decide)) (fun h4 => ?_)
          refine y_iload_n dX12_loaf_7 rfl rfl ?_
          refine y_isI1 dX12_loaf_8 ms_X12_151 my_X12_isPlace (Or.inl rfl) ?_
          refine c_X12_isPlace (fun _ => ⟨_, rfl, ?_⟩) (fun z => absurd hx z)
          refine y_if_ne (tgt := 16) dX12_loaf_11 (by decide) (fun h11 => ?_) (fun h11 => absurd h11 (by decide))
          refine y_aload_n dX12_loaf_16 rfl rfl ?_
          refine y_getr dX12_loaf_17 gf_X12_29 sh_239 rfl ?_
          refine y_iload_n dX12_loaf_20 rfl rfl ?_
          refine y_zaldN dX12_loaf_21 sh_246 rfl (by first | omega | decide) (by decide) ?_
          refine y_if_eq (tgt := 34) dX12_loaf_22 (by decide) (fun h22 => absurd h22 (by rw [g _ (by omega), f1]; decide)) (fun h22 => ?_)
          refine y_aload_n dX12_loaf_25 rfl rfl ?_
          refine y_getr dX12_loaf_26 gf_X12_36 sh_239 rfl ?_
          refine y_iload_n dX12_loaf_29 rfl rfl ?_
          refine y_zaldN dX12_loaf_30 sh_248 rfl (by first | omega | decide) (by decide) ?_
          refine y_if_ne (tgt := 40) dX12_loaf_31 (by decide) (fun h31 => absurd (by rw [g _ (by omega)]; exact d1) h31) (fun h31 => ?_)
          refine y_aload_n dX12_loaf_34 rfl rfl ?_
          refine y_iconst (v := 1) dX12_loaf_35 (by decide) ?_
          refine y_ivI1 dX12_loaf_36 mv_X12_100 my_X12_meets (Or.inl rfl) sh_239 ?_
          refine c_X12_meets (f := 1) rfl (by omega) ⟨_, rfl, ?_⟩
          refine y_ireturn dX12_loaf_39 rfl rfl ?_
          exact ⟨rfl, by rw [em]; exact Rel_met h⟩
        · obtain ⟨R, hR⟩ : ∃ R, R = bothR m k q (lfR m 0) := ⟨_, rfl⟩
          have ok := both_ok (X := lfR m 0) f4 d4
          have b1 : FR m (158 + 2 * k) R := by rw [hR]; exact both_FR f3
          have b2 : DR m (166 + 4 * q) R := by rw [hR]; exact both_DR d3 d4
          rw [← hR] at ok
          have bd := begins_d ok.2
          have bs := s_begins ok.1 ok.2.1 ok.2.2.1 ok.2.2.2.1
          have c5 : beginsF R 5 = nI (cOf R) := by rw [begins_low (by omega)]; exact ok.2.1
          refine y_run (own := "LoafFall") rfl (by decide +kernel) (Nat.le_of_ble_eq_true rfl) rfl ?_
          refine y_iload_n dX11_loaf_0 rfl rfl ?_
          refine y_isI1 dX11_loaf_1 ms_X11_160 my_X11_isFlour (Or.inl rfl) ?_
          refine c_X11_isFlour (fun _ => ⟨_, rfl, ?_⟩) (fun z => absurd hr z)
          refine y_if_eq (tgt := 14) dX11_loaf_4 (by decide) (fun h4 => absurd h4 (by decide)) (fun h4 => ?_)
          refine y_iload_n dX11_loaf_7 rfl rfl ?_
          refine y_isI1 dX11_loaf_8 ms_X11_173 my_X11_isDoing (Or.inl rfl) ?_
          refine c_X11_isDoing (fun _ => ⟨_, rfl, ?_⟩) (fun z => absurd hx z)
          refine y_if_ne (tgt := 16) dX11_loaf_11 (by decide) (fun h11 => ?_) (fun h11 => absurd h11 (by decide))
          refine y_aload_n dX11_loaf_16 rfl rfl ?_
          refine y_getr dX11_loaf_17 gf_X11_23 sh_0 rfl ?_
          refine y_iload_n dX11_loaf_20 rfl rfl ?_
          refine y_aaldN dX11_loaf_21 (by decide) sh_3 rfl (flA (k := k) (by omega)) (by decide) ?_
          refine y_geti dX11_loaf_22 gf_X11_183 (flI (k := k) (by omega)).1 rfl ?_
          refine y_if_eq (tgt := 40) dX11_loaf_25 (by decide) (fun h25 => absurd h25 (by rw [f2]; decide)) (fun h25 => ?_)
          refine y_aload_n dX11_loaf_28 rfl rfl ?_
          refine y_getr dX11_loaf_29 gf_X11_29 sh_0 rfl ?_
          refine y_iload_n dX11_loaf_32 rfl rfl ?_
          refine y_aaldN dX11_loaf_33 (by decide) sh_4 rfl (dgA (k := q) (by omega)) (by decide) ?_
          refine y_geti dX11_loaf_34 gf_X11_190 (dgI (k := q) (by omega)).1 rfl ?_
          refine y_if_ne (tgt := 46) dX11_loaf_37 (by decide) (fun h37 => ?_) (fun h37 => absurd h37 (by rw [d2]; decide))
          refine y_aload_n dX11_loaf_46 rfl rfl ?_
          refine y_getr dX11_loaf_47 gf_X11_40 sh_0 rfl ?_
          refine y_aload_n dX11_loaf_50 rfl rfl ?_
          refine y_getr dX11_loaf_51 gf_X11_23 sh_0 rfl ?_
          refine y_iload_n dX11_loaf_54 rfl rfl ?_
          refine y_aaldN dX11_loaf_55 (by decide) sh_3 rfl (flA (k := k) (by omega)) (by decide) ?_
          refine y_aload_n dX11_loaf_56 rfl rfl ?_
          refine y_getr dX11_loaf_57 gf_X11_29 sh_0 rfl ?_
          refine y_iload_n dX11_loaf_60 rfl rfl ?_
          refine y_aaldN dX11_loaf_61 (by decide) sh_4 rfl (dgA (k := q) (by omega)) (by decide) ?_
          refine y_ivV2 dX11_loaf_62 mv_X11_200 my_X6_start (Or.inl rfl) sh_6 ?_
          refine c_X6_start (c := cOf R) (R := R) lf6 (flI hk) (dgI hq) (by omega) (by omega) b1 b2 ok.2.1 ok.2.2.1 (Or.inr f2) (Or.inr d2) (fun m1 t1 t2 t3 t4 t5 => ⟨rfl, ?_⟩)
          refine y_aload_n dX11_loaf_65 rfl rfl ?_
          refine y_getr dX11_loaf_66 gf_X11_40 sh_0 rfl ?_
          refine y_getr dX11_loaf_69 gf_X11_204 sh_6 rfl ?_
          refine y_ivI0 dX11_loaf_72 mv_X11_207 my_X1_turnsInAll (Or.inl rfl) sh_9 ?_
          refine c_X1_turnsInAll (R := beginsF R) lf6.2.2.1 t1.dr c5 ok.2.2.1 ⟨_, rfl, ?_⟩
          refine y_ireturn dX11_loaf_75 rfl rfl ?_
          refine ⟨_, rfl, ?_⟩
          have g : ∀ a, 239 ≤ a → m1 a = m a := fun a ha => t2 a (by omega)
          have er : bothR (wkM m1 (329 * 0)) k q (lfR m1 0) = R := by rw [hR, lfR_m (g 254 (by omega))]; exact both_m (by rw [wk_o (by omega), g _ (by omega)]) (by rw [wk_o (by omega), g _ (by omega)]) (by rw [wk_o (by omega), g _ (by omega)])
          refine y_run (own := "LoafFallModel") rfl (by decide +kernel) (Nat.le_of_ble_eq_true rfl) rfl ?_
          refine y_iload_n dX12_loaf_0 rfl rfl ?_
          refine y_isI1 dX12_loaf_1 ms_X12_151 my_X12_isPlace (Or.inl rfl) ?_
          refine c_X12_isPlace (fun _ => ⟨_, rfl, ?_⟩) (fun z => absurd hr z)
          refine y_if_eq (tgt := 14) dX12_loaf_4 (by decide) (fun h4 => absurd h4 (by decide)) (fun h4 => ?_)
          refine y_iload_n dX12_loaf_7 rfl rfl ?_
          refine y_isI1 dX12_loaf_8 ms_X12_151 my_X12_isPlace (Or.inl rfl) ?_
          refine c_X12_isPlace (fun _ => ⟨_, rfl, ?_⟩) (fun z => absurd hx z)
          refine y_if_ne (tgt := 16) dX12_loaf_11 (by decide) (fun h11 => ?_) (fun h11 => absurd h11 (by decide))
          refine y_aload_n dX12_loaf_16 rfl rfl ?_
          refine y_getr dX12_loaf_17 gf_X12_29 sh_239 rfl ?_
          refine y_iload_n dX12_loaf_20 rfl rfl ?_
          refine y_zaldN dX12_loaf_21 sh_246 rfl (by first | omega | decide) (by decide) ?_
          refine y_if_eq (tgt := 34) dX12_loaf_22 (by decide) (fun h22 => absurd h22 (by rw [g _ (by omega), f1]; decide)) (fun h22 => ?_)
          refine y_aload_n dX12_loaf_25 rfl rfl ?_
          refine y_getr dX12_loaf_26 gf_X12_36 sh_239 rfl ?_
          refine y_iload_n dX12_loaf_29 rfl rfl ?_
          refine y_zaldN dX12_loaf_30 sh_248 rfl (by first | omega | decide) (by decide) ?_
          refine y_if_ne (tgt := 40) dX12_loaf_31 (by decide) (fun h31 => ?_) (fun h31 => absurd h31 (by rw [g _ (by omega), d1]; decide))
          refine y_aload_n dX12_loaf_40 rfl rfl ?_
          refine y_iconst (v := 0) dX12_loaf_41 (by decide) ?_
          refine y_ivV1 dX12_loaf_42 mv_X12_174 my_X12_look (Or.inl rfl) sh_239 ?_
          refine c_X12_look (j := 0) rfl ⟨rfl, ?_⟩
          rw [wk_eta]
          have hb := wk_b (m := m1) (b := 329 * 0) (by omega)
          refine y_aload_n dX12_loaf_45 rfl rfl ?_
          refine y_iload_n dX12_loaf_46 rfl rfl ?_
          refine y_ivV1 dX12_loaf_47 mv_X12_178 my_X12_layFlour (Or.inl rfl) sh_239 ?_
          refine c_X12_layFlour hb (j := k) rfl hk ⟨rfl, ?_⟩
          refine y_aload_n dX12_loaf_50 rfl rfl ?_
          refine y_iload_n dX12_loaf_51 rfl rfl ?_
          refine y_ivV1 dX12_loaf_52 mv_X12_181 my_X12_layDoing (Or.inl rfl) sh_239 ?_
          refine c_X12_layDoing hb (j := q) rfl hq ⟨rfl, ?_⟩
          rw [show layN (fun i => wkM m1 (329 * 0) 250 (30 * q + i)) 6 (6 + 30) (upd (layN (fun i => wkM m1 (329 * 0) 247 (5 * k + i)) 0 (0 + 5) (lfR m1 0)) 5 (wkM m1 (329 * 0) 249 q)) = R from er]
          refine y_aload_n dX12_loaf_55 rfl rfl ?_
          refine y_ivV0 dX12_loaf_56 mv_X12_184 my_X12_begins (Or.inl rfl) sh_239 ?_
          refine c_X12_begins hb ⟨rfl, ?_⟩
          refine y_aload_n dX12_loaf_59 rfl rfl ?_
          refine y_getr dX12_loaf_60 gf_X12_51 sh_239 rfl ?_
          refine y_iconst (v := 0) dX12_loaf_63 (by decide) ?_
          refine y_iconst (v := 1) dX12_loaf_64 (by decide) ?_
          refine y_zastN dX12_loaf_65 sh_253 rfl (by first | omega | decide) (by decide) rfl ?_
          rw [stR_up (by decide) (by decide)]
          refine y_aload_n dX12_loaf_66 rfl rfl ?_
          refine y_ivI0 dX12_loaf_67 mv_X12_187 my_X12_turnsAll (Or.inl rfl) sh_239 ?_
          refine c_X12_turnsAll (b_up hb (by decide)) (c := cOf R) c5 ok.2.2.1 ⟨_, rfl, ?_⟩
          refine y_ireturn dX12_loaf_70 rfl rfl ?_
          generalize em : stR (s_up (wkM m1 (329 * 0)) 253 (upd (stR (wkM m1 (329 * 0)) (m1 255) (329 * 0) (beginsF R) 253) 0 1)) (m1 255) (329 * 0) (beginsF R) = m2
          have f1 : ∀ a, a ≠ 239 → a ≠ 253 → a ≠ 254 → a ≠ 255 → m2 a = m1 a := fun a h1 h2 h3 h4 => by rw [← em, stR_o h3 h4, s_upN h2, wk_o h1]
          have f53 : m2 253 = upd (m1 253) 0 1 := by rw [← em, stR_o (by omega) (by omega), s_upS, stR_o (by omega) (by omega), wk_o (by omega)]
          have f9 : ∀ j, j ≠ 23 → m2 239 j = m1 239 j := fun j hj => by rw [← em, stR_o (by omega) (by omega), s_upN (by omega), wk_j hj]
          have el : eqL (beginsF R) (lfR m2 0) := fun p hp => by
            show m2 254 (329 * 0 + p) = _
            rw [← em, stR_get hp]
          refine ⟨rfl, Rel_L h (fun a h1 => ?_) (fun j hj => ?_) (fun j hj => ?_) (fun p h1 h2 => ?_) (BK_m h.bk (fun c h1 h2 => ?_)) ⟨Or.inr ⟨?_, ?_, LA_m (LA_L t1 bs.q bs.c el) (fun c h1 h2 => f1 c (by omega) (by omega) (by omega) (by omega)), s_L bs el, d_L bd el, ?_, ?_⟩, fun z => ?_⟩⟩
          · rw [f1 a (by omega) (by omega) (by omega) (by omega), t2 a (by omega)]
          · rw [f9 j hj, t2 239 (by omega)]
          · rw [f53, updN hj, t2 253 (by omega)]
          · rw [← em, stR_out (by omega), s_upN (by omega), wk_o (by omega), t2 254 (by omega)]
          · rw [f1 c (by omega) (by omega) (by omega) (by omega), t2 c (by omega)]
          · rw [f53, updS]
          · rw [f1 _ (by omega) (by omega) (by omega) (by omega)]; exact t3
          · rw [f1 _ (by omega) (by omega) (by omega) (by omega), t4]; exact f2
          · rw [f1 _ (by omega) (by omega) (by omega) (by omega), t5]; exact d2
          · rw [f53, updS] at z; exact absurd z (by decide)
    · refine y_run (own := "LoafFall") rfl (by decide +kernel) (Nat.le_of_ble_eq_true rfl) rfl ?_
      refine y_iload_n dX11_loaf_0 rfl rfl ?_
      refine y_isI1 dX11_loaf_1 ms_X11_160 my_X11_isFlour (Or.inl rfl) ?_
      refine c_X11_isFlour (fun _ => ⟨_, rfl, ?_⟩) (fun z => absurd hr z)
      refine y_if_eq (tgt := 14) dX11_loaf_4 (by decide) (fun h4 => absurd h4 (by decide)) (fun h4 => ?_)
      refine y_iload_n dX11_loaf_7 rfl rfl ?_
      refine y_isI1 dX11_loaf_8 ms_X11_173 my_X11_isDoing (Or.inl rfl) ?_
      refine c_X11_isDoing (fun z => absurd z hx) (fun _ => ⟨_, rfl, ?_⟩)
      refine y_if_ne (tgt := 16) dX11_loaf_11 (by decide) (fun h11 => absurd (by decide) h11) (fun h11 => ?_)
      refine y_iconst (v := -1) dX11_loaf_14 (by decide) ?_
      refine y_ireturn dX11_loaf_15 rfl rfl ?_
      refine ⟨_, rfl, ?_⟩
      refine y_run (own := "LoafFallModel") rfl (by decide +kernel) (Nat.le_of_ble_eq_true rfl) rfl ?_
      refine y_iload_n dX12_loaf_0 rfl rfl ?_
      refine y_isI1 dX12_loaf_1 ms_X12_151 my_X12_isPlace (Or.inl rfl) ?_
      refine c_X12_isPlace (fun _ => ⟨_, rfl, ?_⟩) (fun z => absurd hr z)
      refine y_if_eq (tgt := 14) dX12_loaf_4 (by decide) (fun h4 => absurd h4 (by decide)) (fun h4 => ?_)
      refine y_iload_n dX12_loaf_7 rfl rfl ?_
      refine y_isI1 dX12_loaf_8 ms_X12_151 my_X12_isPlace (Or.inl rfl) ?_
      refine c_X12_isPlace (fun z => absurd z hx) (fun _ => ⟨_, rfl, ?_⟩)
      refine y_if_ne (tgt := 16) dX12_loaf_11 (by decide) (fun h11 => absurd (by decide) h11) (fun h11 => ?_)
      refine y_iconst (v := -1) dX12_loaf_14 (by decide) ?_
      refine y_ireturn dX12_loaf_15 rfl rfl ?_
      exact ⟨rfl, h⟩
  · refine y_run (own := "LoafFall") rfl (by decide +kernel) (Nat.le_of_ble_eq_true rfl) rfl ?_
    refine y_iload_n dX11_loaf_0 rfl rfl ?_
    refine y_isI1 dX11_loaf_1 ms_X11_160 my_X11_isFlour (Or.inl rfl) ?_
    refine c_X11_isFlour (fun z => absurd z hr) (fun _ => ⟨_, rfl, ?_⟩)
    refine y_if_eq (tgt := 14) dX11_loaf_4 (by decide) (fun h4 => ?_) (fun h4 => absurd (by decide) h4)
    refine y_iconst (v := -1) dX11_loaf_14 (by decide) ?_
    refine y_ireturn dX11_loaf_15 rfl rfl ?_
    refine ⟨_, rfl, ?_⟩
    refine y_run (own := "LoafFallModel") rfl (by decide +kernel) (Nat.le_of_ble_eq_true rfl) rfl ?_
    refine y_iload_n dX12_loaf_0 rfl rfl ?_
    refine y_isI1 dX12_loaf_1 ms_X12_151 my_X12_isPlace (Or.inl rfl) ?_
    refine c_X12_isPlace (fun z => absurd z hr) (fun _ => ⟨_, rfl, ?_⟩)
    refine y_if_eq (tgt := 14) dX12_loaf_4 (by decide) (fun h4 => ?_) (fun h4 => absurd (by decide) h4)
    refine y_iconst (v := -1) dX12_loaf_14 (by decide) ?_
    refine y_ireturn dX12_loaf_15 rfl rfl ?_
    exact ⟨rfl, h⟩
set_option maxHeartbeats 1000000 in
theorem c_X11_go_ok {L : Nat} {xs : Nat → Int32} {d : Nat} {m : sM} {n : sN} {Q : sQ} {k : Nat} {r : Int32} {R : Nat → Int32} (hr : r = nI k) (hk : k < 100) (l2 : m 6 4 = 1) (l3 : LA m 6 R) (l4 : sR R) (hle : m 13 6 + nI k ≤ 99) (hQ : ∀ m', LA m' 6 (goesF k R) → LG m m' 6 → Q (some (.int (goesF k R 38))) m' n) : sRun (scT L xs) (d + 6) yX11_go cX11_go 3 (some .int) [.ref 0, .int r] m n Q := by
  subst hr
  refine y_run (own := "LoafFall") rfl (by decide +kernel) (Nat.le_of_ble_eq_true rfl) rfl ?_
  refine y_iload_n dX11_go_0 rfl rfl ?_
  refine y_if_lt (tgt := 10) dX11_go_1 (by decide) (fun h1 => absurd h1 (nI_pos (by omega))) (fun h1 => ?_)
  refine y_iload_n dX11_go_4 rfl rfl ?_
  refine y_bipush (v := 99) dX11_go_5 (by decide) ?_
  refine y_icmp_le (tgt := 12) dX11_go_7 (by decide) (fun h7 => ?_) (fun h7 => absurd (nI_le (b := 99) (by omega) (by omega)) h7)
  refine y_aload_n dX11_go_12 rfl rfl ?_
  refine y_getr dX11_go_13 gf_X11_40 sh_0 rfl ?_
  refine y_geti dX11_go_16 gf_X11_211 sh_6 rfl ?_
  refine y_if_ne (tgt := 25) dX11_go_19 (by decide) (fun h19 => ?_) (fun h19 => absurd h19 (by rw [l2]; decide))
  refine y_aload_n dX11_go_25 rfl rfl ?_
  refine y_getr dX11_go_26 gf_X11_40 sh_0 rfl ?_
  refine y_getr dX11_go_29 gf_X11_212 sh_6 rfl ?_
  refine y_geti dX11_go_32 gf_X11_216 sh_13 rfl ?_
  refine y_iload_n dX11_go_35 rfl rfl ?_
  refine y_iadd dX11_go_36 ?_
  refine y_bipush (v := 99) dX11_go_37 (by decide) ?_
  refine y_icmp_le (tgt := 45) dX11_go_39 (by decide) (fun h39 => ?_) (fun h39 => absurd hle h39)
  refine y_iconst (v := 0) dX11_go_45 (by decide) ?_
  refine y_ist3_2 dX11_go_46 rfl ?_
  refine cnt (P := fun i => ∀ m', LA m' 6 (goesF i R) → LG m m' 6 → sV (scT L xs) (d + 5) "LoafFall" cX11_go 3 (some .int) Q 47 [some (.ref 0), some (.int (nI k)), some (.int (nI i))] [] m' n) k ?_ ?_ 0 (by omega) m l3 LG.rf
  · intro m' a1 a2
    refine y_iload_n dX11_go_47 rfl rfl ?_
    refine y_iload_n dX11_go_48 rfl rfl ?_
    refine y_icmp_ge (tgt := 65) dX11_go_49 (by decide) (fun h49 => ?_) (fun h49 => absurd (nI_le (a := k) (b := k) (Nat.le_refl _) (by omega)) h49)
    refine y_aload_n dX11_go_65 rfl rfl ?_
    refine y_getr dX11_go_66 gf_X11_40 sh_0 rfl ?_
    refine y_getr dX11_go_69 gf_X11_212 sh_6 rfl ?_
    refine y_geti dX11_go_72 gf_X11_216 sh_13 rfl ?_
    refine y_ireturn dX11_go_75 rfl rfl ?_
    rw [show m' 13 6 = goesF k R 38 from a1.1.2.2.2.1]
    exact hQ m' a1 a2
  · intro i hk hP
    intro m' a1 a2
    refine y_iload_n dX11_go_47 rfl rfl ?_
    refine y_iload_n dX11_go_48 rfl rfl ?_
    refine y_icmp_ge (tgt := 65) dX11_go_49 (by decide) (fun h49 => absurd h49 (nI_ge (a := i) (b := k) hk (by omega))) (fun h49 => ?_)
    refine y_aload_n dX11_go_52 rfl rfl ?_
    refine y_getr dX11_go_53 gf_X11_40 sh_0 rfl ?_
    refine y_ivV0 dX11_go_56 mv_X11_221 my_X6_passTurn (Or.inl rfl) sh_6 ?_
    refine c_X6_passTurn lf6 a1 (s_goes l4 i) (fun m2 a3 a4 => ⟨rfl, ?_⟩)
    refine y_iinc3_2 dX11_go_59 (nI_1 _) rfl ?_
    refine y_goto (tgt := 47) dX11_go_62 (by decide) ?_
    exact hP _ a3 (a2.tr a4)
set_option maxHeartbeats 2000000 in
theorem p_go {L : Nat} {xs : Nat → Int32} {d : Nat} {m : sM} {n : sN} {r : Int32} (h : Rel m n) : PI L xs (d + 11) yX11_go cX11_go 3 yX12_go cX12_go 2 [.int r] m n := by
  unfold PI
  by_cases hr : inN r 100
  · obtain ⟨k, hk, rfl⟩ := hr
    have hr : inN (nI k) 100 := ⟨k, hk, rfl⟩
    rcases h.l.1 with ⟨l1, l2⟩ | ⟨l1, l2, l3, l4, l5, l6, l7⟩
    · refine y_run (own := "LoafFall") rfl (by decide +kernel) (Nat.le_of_ble_eq_true rfl) rfl ?_
      refine y_iload_n dX11_go_0 rfl rfl ?_
      refine y_if_lt (tgt := 10) dX11_go_1 (by decide) (fun h1 => absurd h1 (nI_pos (by omega))) (fun h1 => ?_)
      refine y_iload_n dX11_go_4 rfl rfl ?_
      refine y_bipush (v := 99) dX11_go_5 (by decide) ?_
      refine y_icmp_le (tgt := 12) dX11_go_7 (by decide) (fun h7 => ?_) (fun h7 => absurd (nI_le (b := 99) (by omega) (by omega)) h7)
      refine y_aload_n dX11_go_12 rfl rfl ?_
      refine y_getr dX11_go_13 gf_X11_40 sh_0 rfl ?_
      refine y_geti dX11_go_16 gf_X11_211 sh_6 rfl ?_
      refine y_if_ne (tgt := 25) dX11_go_19 (by decide) (fun h19 => absurd l2 h19) (fun h19 => ?_)
      refine y_bipush (v := -4) dX11_go_22 (by decide) ?_
      refine y_ireturn dX11_go_24 rfl rfl ?_
      refine ⟨_, rfl, ?_⟩
      refine y_run (own := "LoafFallModel") rfl (by decide +kernel) (Nat.le_of_ble_eq_true rfl) rfl ?_
      refine y_iload_n dX12_go_0 rfl rfl ?_
      refine y_iconst (v := 0) dX12_go_1 (by decide) ?_
      refine y_bipush (v := 99) dX12_go_2 (by decide) ?_
      refine y_isI3 dX12_go_4 ms_X12_86 my_X12_in (Or.inl rfl) ?_
      refine c_X12_in (fun _ _ => ⟨_, rfl, ?_⟩) (fun a => absurd ((in_le (M := 99) (by decide)).mp hr) a)
      refine y_if_ne (tgt := 12) dX12_go_7 (by decide) (fun h7 => ?_) (fun h7 => absurd h7 (by decide))
      refine y_aload_n dX12_go_12 rfl rfl ?_
      refine y_getr dX12_go_13 gf_X12_51 sh_239 rfl ?_
      refine y_iconst (v := 0) dX12_go_16 (by decide) ?_
      refine y_zaldN dX12_go_17 sh_253 rfl (by first | omega | decide) (by decide) ?_
      refine y_if_ne (tgt := 24) dX12_go_18 (by decide) (fun h18 => absurd l1 h18) (fun h18 => ?_)
      refine y_bipush (v := -4) dX12_go_21 (by decide) ?_
      refine y_ireturn dX12_go_23 rfl rfl ?_
      exact ⟨rfl, h⟩
    · have e38 : m 13 6 = lfR m 0 38 := l3.1.2.2.2.1
      by_cases hle : m 13 6 + nI k ≤ 99
      · refine c_X11_go_ok rfl hk l2 l3 l4 hle (fun m1 t1 t2 => ⟨_, rfl, ?_⟩)
        have g : ∀ a, 239 ≤ a → m1 a = m a := fun a ha => t2 a (by omega)
        have e0 : lfR m1 0 = lfR m 0 := lfR_m (g 254 (by omega))
        refine y_run (own := "LoafFallModel") rfl (by decide +kernel) (Nat.le_of_ble_eq_true rfl) rfl ?_
        refine y_iload_n dX12_go_0 rfl rfl ?_
        refine y_iconst (v := 0) dX12_go_1 (by decide) ?_
        refine y_bipush (v := 99) dX12_go_2 (by decide) ?_
        refine y_isI3 dX12_go_4 ms_X12_86 my_X12_in (Or.inl rfl) ?_
        refine c_X12_in (fun _ _ => ⟨_, rfl, ?_⟩) (fun a => absurd ((in_le (M := 99) (by decide)).mp hr) a)
        refine y_if_ne (tgt := 12) dX12_go_7 (by decide) (fun h7 => ?_) (fun h7 => absurd h7 (by decide))
        refine y_aload_n dX12_go_12 rfl rfl ?_
        refine y_getr dX12_go_13 gf_X12_51 sh_239 rfl ?_
        refine y_iconst (v := 0) dX12_go_16 (by decide) ?_
        refine y_zaldN dX12_go_17 sh_253 rfl (by first | omega | decide) (by decide) ?_
        refine y_if_ne (tgt := 24) dX12_go_18 (by decide) (fun h18 => ?_) (fun h18 => absurd h18 (by rw [g _ (by omega), l1]; decide))
        refine y_aload_n dX12_go_24 rfl rfl ?_
        refine y_iconst (v := 0) dX12_go_25 (by decide) ?_
        refine y_ivV1 dX12_go_26 mv_X12_174 my_X12_look (Or.inl rfl) sh_239 ?_
        refine c_X12_look (j := 0) rfl ⟨rfl, ?_⟩
        rw [wk_eta, e0]
        have hb := wk_b (m := m1) (b := 329 * 0) (by omega)
        refine y_aload_n dX12_go_29 rfl rfl ?_
        refine y_bipush (v := 38) dX12_go_30 (by decide) ?_
        refine y_ivI1 dX12_go_32 mv_X12_160 my_X12_v (Or.inl rfl) sh_239 ?_
        refine c_X12_v hb (p := 38) rfl (by omega) ⟨_, rfl, ?_⟩
        refine y_iload_n dX12_go_35 rfl rfl ?_
        refine y_iadd dX12_go_36 ?_
        refine y_bipush (v := 99) dX12_go_37 (by decide) ?_
        refine y_icmp_le (tgt := 45) dX12_go_39 (by decide) (fun h39 => ?_) (fun h39 => absurd (by rw [← e38]; exact hle) h39)
        refine y_aload_n dX12_go_45 rfl rfl ?_
        refine y_iload_n dX12_go_46 rfl rfl ?_
        refine y_ivV1 dX12_go_47 mv_X12_229 my_X12_goes (Or.inl rfl) sh_239 ?_
        refine c_X12_goes hb (N0 := k) rfl (by omega) l4.1.wf l4.2.1 (fun h' => ⟨rfl, ?_⟩)
        refine y_aload_n dX12_go_50 rfl rfl ?_
        refine y_bipush (v := 38) dX12_go_51 (by decide) ?_
        refine y_ivI1 dX12_go_53 mv_X12_160 my_X12_v (Or.inl rfl) sh_239 ?_
        refine c_X12_v hb (p := 38) rfl (by omega) ⟨_, rfl, ?_⟩
        refine y_ireturn dX12_go_56 rfl rfl ?_
        have sg := s_goes l4 k
        have dg : dOK (goesF k (lfR m 0)) := d_eq l5 (fun p h1 h2 => (goes_ok l4.1.wf l4.2.1 k).2.2.2 p h2)
        generalize em : stR (wkM m1 (329 * 0)) h' (329 * 0) (goesF k (lfR m 0)) = m2
        have f1 : ∀ a, a ≠ 239 → a ≠ 254 → a ≠ 255 → m2 a = m1 a := fun a h1 h3 h4 => by rw [← em, stR_o h3 h4, wk_o h1]
        have f9 : ∀ j, j ≠ 23 → m2 239 j = m1 239 j := fun j hj => by rw [← em, stR_o (by omega) (by omega), wk_j hj]
        have el : eqL (goesF k (lfR m 0)) (lfR m2 0) := fun p hp => by
          show m2 254 (329 * 0 + p) = _
          rw [← em, stR_get hp]
        refine ⟨rfl, Rel_L h (fun a h1 => ?_) (fun j hj => ?_) (fun j hj => ?_) (fun p h1 h2 => ?_) (BK_m h.bk (fun c h1 h2 => ?_)) ⟨Or.inr ⟨?_, ?_, LA_m (LA_L t1 sg.q sg.c el) (fun c h1 h2 => f1 c (by omega) (by omega) (by omega)), s_L sg el, d_L dg el, ?_, ?_⟩, fun z => ?_⟩⟩
        · rw [f1 a (by omega) (by omega) (by omega), t2 a (by omega)]
        · rw [f9 j hj, t2 239 (by omega)]
        · rw [f1 253 (by omega) (by omega) (by omega), t2 253 (by omega)]
        · rw [← em, stR_out (by omega), wk_o (by omega), t2 254 (by omega)]
        · rw [f1 c (by omega) (by omega) (by omega), t2 c (by omega)]
        · rw [f1 253 (by omega) (by omega) (by omega), t2 253 (by omega)]; exact l1
        · rw [f1 _ (by omega) (by omega) (by omega), t2 _ (by omega)]; exact l2
        · rw [f1 _ (by omega) (by omega) (by omega), t2 _ (by omega)]; exact l6
        · rw [f1 _ (by omega) (by omega) (by omega), t2 _ (by omega)]; exact l7
        · rw [f1 253 (by omega) (by omega) (by omega), t2 253 (by omega), l1] at z; exact absurd z (by decide)
      · refine y_run (own := "LoafFall") rfl (by decide +kernel) (Nat.le_of_ble_eq_true rfl) rfl ?_
        refine y_iload_n dX11_go_0 rfl rfl ?_
        refine y_if_lt (tgt := 10) dX11_go_1 (by decide) (fun h1 => absurd h1 (nI_pos (by omega))) (fun h1 => ?_)
        refine y_iload_n dX11_go_4 rfl rfl ?_
        refine y_bipush (v := 99) dX11_go_5 (by decide) ?_
        refine y_icmp_le (tgt := 12) dX11_go_7 (by decide) (fun h7 => ?_) (fun h7 => absurd (nI_le (b := 99) (by omega) (by omega)) h7)
        refine y_aload_n dX11_go_12 rfl rfl ?_
        refine y_getr dX11_go_13 gf_X11_40 sh_0 rfl ?_
        refine y_geti dX11_go_16 gf_X11_211 sh_6 rfl ?_
        refine y_if_ne (tgt := 25) dX11_go_19 (by decide) (fun h19 => ?_) (fun h19 => absurd h19 (by rw [l2]; decide))
        refine y_aload_n dX11_go_25 rfl rfl ?_
        refine y_getr dX11_go_26 gf_X11_40 sh_0 rfl ?_
        refine y_getr dX11_go_29 gf_X11_212 sh_6 rfl ?_
        refine y_geti dX11_go_32 gf_X11_216 sh_13 rfl ?_
        refine y_iload_n dX11_go_35 rfl rfl ?_
        refine y_iadd dX11_go_36 ?_
        refine y_bipush (v := 99) dX11_go_37 (by decide) ?_
        refine y_icmp_le (tgt := 45) dX11_go_39 (by decide) (fun h39 => absurd h39 hle) (fun h39 => ?_)
        refine y_bipush (v := -6) dX11_go_42 (by decide) ?_
        refine y_ireturn dX11_go_44 rfl rfl ?_
        refine ⟨_, rfl, ?_⟩
        refine y_run (own := "LoafFallModel") rfl (by decide +kernel) (Nat.le_of_ble_eq_true rfl) rfl ?_
        refine y_iload_n dX12_go_0 rfl rfl ?_
        refine y_iconst (v := 0) dX12_go_1 (by decide) ?_
        refine y_bipush (v := 99) dX12_go_2 (by decide) ?_
        refine y_isI3 dX12_go_4 ms_X12_86 my_X12_in (Or.inl rfl) ?_
        refine c_X12_in (fun _ _ => ⟨_, rfl, ?_⟩) (fun a => absurd ((in_le (M := 99) (by decide)).mp hr) a)
        refine y_if_ne (tgt := 12) dX12_go_7 (by decide) (fun h7 => ?_) (fun h7 => absurd h7 (by decide))
        refine y_aload_n dX12_go_12 rfl rfl ?_
        refine y_getr dX12_go_13 gf_X12_51 sh_239 rfl ?_
        refine y_iconst (v := 0) dX12_go_16 (by decide) ?_
        refine y_zaldN dX12_go_17 sh_253 rfl (by first | omega | decide) (by decide) ?_
        refine y_if_ne (tgt := 24) dX12_go_18 (by decide) (fun h18 => ?_) (fun h18 => absurd h18 (by rw [l1]; decide))
        refine y_aload_n dX12_go_24 rfl rfl ?_
        refine y_iconst (v := 0) dX12_go_25 (by decide) ?_
        refine y_ivV1 dX12_go_26 mv_X12_174 my_X12_look (Or.inl rfl) sh_239 ?_
        refine c_X12_look (j := 0) rfl ⟨rfl, ?_⟩
        rw [wk_eta]
        have hb := wk_b (m := m) (b := 329 * 0) (by omega)
        refine y_aload_n dX12_go_29 rfl rfl ?_
        refine y_bipush (v := 38) dX12_go_30 (by decide) ?_
        refine y_ivI1 dX12_go_32 mv_X12_160 my_X12_v (Or.inl rfl) sh_239 ?_
        refine c_X12_v hb (p := 38) rfl (by omega) ⟨_, rfl, ?_⟩
        refine y_iload_n dX12_go_35 rfl rfl ?_
        refine y_iadd dX12_go_36 ?_
        refine y_bipush (v := 99) dX12_go_37 (by decide) ?_
        refine y_icmp_le (tgt := 45) dX12_go_39 (by decide) (fun h39 => absurd h39 (by rw [← e38]; exact hle)) (fun h39 => ?_)
        refine y_bipush (v := -6) dX12_go_42 (by decide) ?_
        refine y_ireturn dX12_go_44 rfl rfl ?_
        rw [← wk_eta]
        exact ⟨rfl, Rel_scr h frC.rf h.bk frM.wk⟩
  · refine y_run (own := "LoafFall") rfl (by decide +kernel) (Nat.le_of_ble_eq_true rfl) rfl ?_
    refine y_iload_n dX11_go_0 rfl rfl ?_
    refine y_if_lt (tgt := 10) dX11_go_1 (by decide) (fun h1 => ?_) (fun h1 => ?_)
    · refine y_iconst (v := -1) dX11_go_10 (by decide) ?_
      refine y_ireturn dX11_go_11 rfl rfl ?_
      refine ⟨_, rfl, ?_⟩
      refine y_run (own := "LoafFallModel") rfl (by decide +kernel) (Nat.le_of_ble_eq_true rfl) rfl ?_
      refine y_iload_n dX12_go_0 rfl rfl ?_
      refine y_iconst (v := 0) dX12_go_1 (by decide) ?_
      refine y_bipush (v := 99) dX12_go_2 (by decide) ?_
      refine y_isI3 dX12_go_4 ms_X12_86 my_X12_in (Or.inl rfl) ?_
      refine c_X12_in (fun a b => absurd ((in_le (M := 99) (by decide)).mpr ⟨a, b⟩) hr) (fun _ => ⟨_, rfl, ?_⟩)
      refine y_if_ne (tgt := 12) dX12_go_7 (by decide) (fun h7 => absurd (by decide) h7) (fun h7 => ?_)
      refine y_iconst (v := -1) dX12_go_10 (by decide) ?_
      refine y_ireturn dX12_go_11 rfl rfl ?_
      exact ⟨rfl, h⟩
    · refine y_iload_n dX11_go_4 rfl rfl ?_
      refine y_bipush (v := 99) dX11_go_5 (by decide) ?_
      refine y_icmp_le (tgt := 12) dX11_go_7 (by decide) (fun h7 => absurd h7 (fun z => hr ((in_le (M := 99) (by decide)).mpr ⟨Int32.not_lt.mp h1, z⟩))) (fun h7 => ?_)
      refine y_iconst (v := -1) dX11_go_10 (by decide) ?_
      refine y_ireturn dX11_go_11 rfl rfl ?_
      refine ⟨_, rfl, ?_⟩
      refine y_run (own := "LoafFallModel") rfl (by decide +kernel) (Nat.le_of_ble_eq_true rfl) rfl ?_
      refine y_iload_n dX12_go_0 rfl rfl ?_
      refine y_iconst (v := 0) dX12_go_1 (by decide) ?_
      refine y_bipush (v := 99) dX12_go_2 (by decide) ?_
      refine y_isI3 dX12_go_4 ms_X12_86 my_X12_in (Or.inl rfl) ?_
      refine c_X12_in (fun a b => absurd ((in_le (M := 99) (by decide)).mpr ⟨a, b⟩) hr) (fun _ => ⟨_, rfl, ?_⟩)
      refine y_if_ne (tgt := 12) dX12_go_7 (by decide) (fun h7 => absurd (by decide) h7) (fun h7 => ?_)
      refine y_iconst (v := -1) dX12_go_10 (by decide) ?_
      refine y_ireturn dX12_go_11 rfl rfl ?_
      exact ⟨rfl, h⟩
