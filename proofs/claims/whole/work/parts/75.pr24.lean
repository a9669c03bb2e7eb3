/-! ===== law, spans, foretell ===== -/
noncomputable def OL (m : sM) (f : Nat) : Nat → Int32 := fun l => oF m f l (slN m)
theorem OL_m {m m' : sM} (e1 : m' 247 = m 247) (e2 : m' 249 = m 249) (e3 : m' 250 = m 250) (e4 : m' 259 = m 259) (e5 : m' 239 28 = m 239 28) {f : Nat} : OL m' f = OL m f := by
  funext l
  unfold OL slN
  rw [e5]
  exact oF_m e1 e2 e3 e4 _
theorem Rel.slr {m : sM} {n : sN} (h : Rel m n) : slR m (slN m) := by
  obtain ⟨s1, s2, s3, s4⟩ := h.sl
  exact ⟨s1, s3, fun i hi => ⟨(s4 i hi).1, (s4 i hi).2.2.1⟩⟩
theorem slR_m {m m' : sM} {s : Nat} (h : slR m s) (e1 : m' 239 28 = m 239 28) (e2 : m' 259 = m 259) : slR m' s := by
  obtain ⟨a, b, c⟩ := h
  refine ⟨a, e1.trans b, fun i hi => ?_⟩
  rw [dS_m e2, e2]
  exact c i hi
theorem lwD {m : sM} {n : sN} {f : Nat} (h : Rel m n) (hf : f < 4) (h0 : LWp m f = 0) : ∀ i, i < slN m → flR (bo m f (dS m i)) ∧ dOK (bo m f (dS m i)) := fun i hi => by
  obtain ⟨z1, -, z3⟩ := LW_0 h0
  obtain ⟨-, -, t3⟩ := both_there h hf (h.sl.2.2.2 i hi).1 z1 (z3 i hi)
  exact ⟨(t3 _).1, (t3 _).2.1⟩
theorem nw_le (m : sM) (f : Nat) (t : Int32) : nwL m f t ≤ 5 := by
  unfold nwL
  split
  · omega
  · exact LWp_le m f
theorem nw_1 (m : sM) (f : Nat) : nwL m f 1 = LWp m f := if_neg (by decide)
theorem nw_m {m m' : sM} (e1 : m' 246 = m 246) (e2 : m' 248 = m 248) (e3 : m' 259 = m 259) (e4 : m' 239 28 = m 239 28) {f : Nat} {t : Int32} : nwL m' f t = nwL m f t := by
  unfold nwL
  rw [LWp_m e1 e2 e3 e4]
theorem nw_0 {m : sM} {f : Nat} {t : Int32} (h : nwL m f t = 0) : ¬ t = 0 ∧ LWp m f = 0 := by
  unfold nwL at h
  by_cases z : t = 0
  · rw [if_pos z] at h; omega
  · rw [if_neg z] at h; exact ⟨z, h⟩
def lwC (l : Nat) : Nat := 100 * (1 + l / 9) + (10 + 10 * (l % 9))
theorem lb81 {O : Nat → Int32} : lbF O 81 < 81 := Nat.lt_of_le_of_lt (lb_lt (O := O) 80) (by decide)
set_option maxHeartbeats 1000000 in
theorem c_X11_law_ok {L : Nat} {xs : Nat → Int32} {d : Nat} {m : sM} {n : sN} {Q : sQ} {f : Nat} {x : Int32} (h : Rel m n) (hx : x = nI f) (hf : f < 4) (h0 : LWp m f = 0) (hQ : ∀ m', frC m m' → BK m' → Q (some (.int (nI (lwC (lbF (OL m f) 81))))) (tellM m' (OL m f (lbF (OL m f) 81))) n) : sRun (scT L xs) (d + 8) yX11_law cX11_law 4 (some .int) [.ref 0, .int x] m n Q := by
  subst hx
  refine y_run (own := "LoafFall") rfl (by decide +kernel) (Nat.le_of_ble_eq_true rfl) rfl ?_
  refine y_iload_n dX11_law_0 rfl rfl ?_
  refine y_isI1 dX11_law_1 ms_X11_160 my_X11_isFlour (Or.inl rfl) ?_
  refine c_X11_isFlour (fun _ => ⟨_, rfl, ?_⟩) (fun z => absurd (⟨f, hf, rfl⟩ : inN (nI f) 4) z)
  refine y_if_ne (tgt := 9) dX11_law_4 (by decide) (fun h4 => ?_) (fun h4 => absurd h4 (by decide))
  refine y_aload_n dX11_law_9 rfl rfl ?_
  refine y_iload_n dX11_law_10 rfl rfl ?_
  refine y_ivI1 dX11_law_11 mv_X11_364 my_X11_lackOfLaw (Or.inl rfl) sh_0 ?_
  refine c_X11_lackOfLaw h rfl hf ⟨_, rfl, ?_⟩
  rw [h0]
  refine y_ist4_2 dX11_law_14 rfl ?_
  refine y_iload_n dX11_law_15 rfl rfl ?_
  refine y_if_eq (tgt := 25) dX11_law_16 (by decide) (fun h16 => ?_) (fun h16 => absurd (by decide) h16)
  refine y_aload_n dX11_law_25 rfl rfl ?_
  refine y_iload_n dX11_law_26 rfl rfl ?_
  refine y_ivI1 dX11_law_27 mv_X11_367 my_X11_bestLaw (Or.inl rfl) sh_0 ?_
  refine c_X11_bestLaw (f := f) h rfl hf h0 (fun m2 v1 v2 v3 => ⟨_, rfl, ?_⟩)
  obtain ⟨l, hl⟩ : ∃ l, l = lbF (OL m f) 81 := ⟨_, rfl⟩
  rw [show lbF (fun l => oF m f l (slN m)) 81 = l from hl.symm]
  have l81 : l < 81 := by rw [hl]; exact lb81
  replace v3 : ∀ i, i < 81 → m2 135 i = OL m f i := v3
  refine y_ist4_3 dX11_law_30 rfl ?_
  refine y_aload_n dX11_law_31 rfl rfl ?_
  refine y_aload_n dX11_law_32 rfl rfl ?_
  refine y_getr dX11_law_33 gf_X11_85 sh_0 rfl ?_
  refine y_iload_n dX11_law_36 rfl rfl ?_
  refine y_ialdN dX11_law_37 sh_135 rfl (by first | omega | decide) (by decide) ?_
  rw [v3 l l81]
  refine y_puti dX11_law_38 pf_X11_194 sh_0 rfl rfl rfl ?_
  refine y_bipush (v := 100) dX11_law_41 (by decide) ?_
  refine y_iload_n dX11_law_43 rfl rfl ?_
  refine y_isI1 dX11_law_44 ms_X11_370 my_X11_yeastOfLaw (Or.inl rfl) ?_
  refine c_X11_yeastOfLaw (l := l) rfl l81 ⟨_, rfl, ?_⟩
  refine y_imulN (a := 100) (b := (1 + l / 9)) dX11_law_47 rfl rfl ?_
  refine y_iload_n dX11_law_48 rfl rfl ?_
  refine y_isI1 dX11_law_49 ms_X11_373 my_X11_strongOfLaw (Or.inl rfl) ?_
  refine c_X11_strongOfLaw (l := l) rfl l81 ⟨_, rfl, ?_⟩
  refine y_iaddN (a := 100 * ((1 + l / 9))) (b := (10 + 10 * (l % 9))) dX11_law_52 rfl rfl ?_
  refine y_ireturn dX11_law_53 rfl rfl ?_
  rw [← hl] at hQ
  exact hQ m2 v1 v2
set_option maxHeartbeats 1000000 in
theorem c_X12_law_ok {L : Nat} {xs : Nat → Int32} {d : Nat} {m : sM} {n : sN} {Q : sQ} {f : Nat} {x : Int32} (hx : x = nI f) (hf : f < 4) (hs : slR m (slN m)) (h0 : nwL m f 1 = 0) (hD : LWp m f = 0 → ∀ i, i < slN m → flR (bo m f (dS m i)) ∧ dOK (bo m f (dS m i))) (hQ : ∀ M, frM m M → Q (some (.int (nI (lwC (lbF (OL m f) 81))))) (tellsM M (OL m f (lbF (OL m f) 81))) n) : sRun (scT L xs) (d + 11) yX12_law cX12_law 4 (some .int) [.ref 239, .int x] m n Q := by
  subst hx
  refine y_run (own := "LoafFallModel") rfl (by decide +kernel) (Nat.le_of_ble_eq_true rfl) rfl ?_
  refine y_iload_n dX12_law_0 rfl rfl ?_
  refine y_isI1 dX12_law_1 ms_X12_151 my_X12_isPlace (Or.inl rfl) ?_
  refine c_X12_isPlace (fun _ => ⟨_, rfl, ?_⟩) (fun z => absurd (⟨f, hf, rfl⟩ : inN (nI f) 4) z)
  refine y_if_ne (tgt := 9) dX12_law_4 (by decide) (fun h4 => ?_) (fun h4 => absurd h4 (by decide))
  refine y_aload_n dX12_law_9 rfl rfl ?_
  refine y_iload_n dX12_law_10 rfl rfl ?_
  refine y_iconst (v := 1) dX12_law_11 (by decide) ?_
  refine y_ivI2 dX12_law_12 mv_X12_319 my_X12_needLaws (Or.inl rfl) sh_239 ?_
  refine c_X12_needLaws (f := f) (t := 1) rfl hf hs hD (fun z => absurd h0 z) (fun _ B M hW b1 b2 => ⟨_, rfl, ?_⟩)
  have m60 : M 260 = B 260 := hW.o (by omega) (by omega) (by omega)
  obtain ⟨l, hl⟩ : ∃ l, l = lbF (OL m f) 81 := ⟨_, rfl⟩
  have l81 : l < 81 := by rw [hl]; exact lb81
  have v3 : ∀ i, i < 81 → M 260 i = OL m f i := fun i hi => by rw [m60]; exact b2 i hi
  have fm : frM m M := b1.fr.tr hW.fr
  refine y_ist4_2 dX12_law_15 rfl ?_
  refine y_iload_n dX12_law_16 rfl rfl ?_
  refine y_if_ge (tgt := 22) dX12_law_17 (by decide) (fun h17 => ?_) (fun h17 => absurd (by decide) h17)
  refine y_aload_n dX12_law_22 rfl rfl ?_
  refine y_ivI0 dX12_law_23 mv_X12_322 my_X12_leastLaw (Or.inl rfl) sh_239 ?_
  refine c_X12_leastLaw (O := OL m f) v3 ⟨_, rfl, ?_⟩
  rw [← hl]
  refine y_ist4_3 dX12_law_26 rfl ?_
  refine y_aload_n dX12_law_27 rfl rfl ?_
  refine y_aload_n dX12_law_28 rfl rfl ?_
  refine y_getr dX12_law_29 gf_X12_72 sh_239 rfl ?_
  refine y_iload_n dX12_law_32 rfl rfl ?_
  refine y_ialdN dX12_law_33 sh_260 rfl (by first | omega | decide) (by decide) ?_
  rw [v3 l l81]
  refine y_bipush (v := 100) dX12_law_34 (by decide) ?_
  refine y_iconst (v := 1) dX12_law_36 (by decide) ?_
  refine y_iload_n dX12_law_37 rfl rfl ?_
  refine y_bipush (v := 9) dX12_law_38 (by decide) ?_
  refine y_idivN (a := l) (b := 9) dX12_law_40 rfl rfl (by omega) (by first | decide | omega) (by first | decide | omega) ?_
  refine y_iaddN (a := 1) (b := l / 9) dX12_law_41 rfl rfl ?_
  refine y_imulN (a := 100) (b := 1 + (l / 9)) dX12_law_42 rfl rfl ?_
  refine y_bipush (v := 10) dX12_law_43 (by decide) ?_
  refine y_iaddN (a := 100 * (1 + (l / 9))) (b := 10) dX12_law_45 rfl rfl ?_
  refine y_bipush (v := 10) dX12_law_46 (by decide) ?_
  refine y_iload_n dX12_law_48 rfl rfl ?_
  refine y_bipush (v := 9) dX12_law_49 (by decide) ?_
  refine y_iremN (a := l) (b := 9) dX12_law_51 rfl rfl (by omega) (by first | decide | omega) (by first | decide | omega) ?_
  refine y_imulN (a := 10) (b := l % 9) dX12_law_52 rfl rfl ?_
  refine y_iaddN (a := 100 * (1 + (l / 9)) + 10) (b := 10 * (l % 9)) dX12_law_53 rfl rfl ?_
  refine y_ivI2 dX12_law_54 mv_X12_108 my_X12_tells (Or.inl rfl) sh_239 ?_
  refine c_X12_tells ⟨_, rfl, ?_⟩
  refine y_ireturn dX12_law_57 rfl rfl ?_
  rw [← hl] at hQ
  rw [show 100 * (1 + l / 9) + 10 + 10 * (l % 9) = lwC l from Nat.add_assoc _ _ _]
  exact hQ M fm
set_option maxHeartbeats 2000000 in
theorem p_law {L : Nat} {xs : Nat → Int32} {d : Nat} {m : sM} {n : sN} {x : Int32} (h : Rel m n) : PI L xs (d + 11) yX11_law cX11_law 4 yX12_law cX12_law 4 [.int x] m n := by
  unfold PI
  by_cases hx : inN x 4
  · obtain ⟨f, hf, rfl⟩ := hx
    have hx : inN (nI f) 4 := ⟨f, hf, rfl⟩
    by_cases h0 : LWp m f = 0
    · refine c_X11_law_ok h rfl hf h0 (fun m' v1 v2 => ⟨_, rfl, ?_⟩)
      generalize em : tellM m' (OL m f (lbF (OL m f) 81)) = m1
      have gg : ∀ a, 137 ≤ a → m1 a = m a := fun a ha => by rw [← em, tell_o (by omega)]; exact v1 a (by omega)
      have g9 : m1 239 28 = m 239 28 := by rw [gg _ (by omega)]
      have esn : slN m1 = slN m := by unfold slN; rw [g9]
      have eb : ∀ f g, bo m1 f g = bo m f g := fun f g => bo_m (gg _ (by omega)) (gg _ (by omega)) (gg _ (by omega))
      have ed : ∀ i, dS m1 i = dS m i := fun i => dS_m (gg _ (by omega))
      have eN : ∀ t, nwL m1 f t = nwL m f t := fun t => nw_m (gg _ (by omega)) (gg _ (by omega)) (gg _ (by omega)) g9
      have eW : LWp m1 f = LWp m f := LWp_m (gg _ (by omega)) (gg _ (by omega)) (gg _ (by omega)) g9
      have eO : OL m1 f = OL m f := OL_m (gg _ (by omega)) (gg _ (by omega)) (gg _ (by omega)) (gg _ (by omega)) g9
      refine c_X12_law_ok rfl hf (by rw [esn]; exact slR_m h.slr g9 (gg _ (by omega))) (by rw [eN, nw_1]; exact h0) (fun z i hi => by rw [ed, eb]; exact lwD h hf (eW.symm.trans z) i (by rw [← esn]; exact hi)) (fun M f1 => ?_)
      rw [eO]
      rw [← em] at f1
      exact ⟨rfl, Rel_tell h v1 v2 f1⟩
    · refine y_run (own := "LoafFall") rfl (by decide +kernel) (Nat.le_of_ble_eq_true rfl) rfl ?_
      refine y_iload_n dX11_law_0 rfl rfl ?_
      refine y_isI1 dX11_law_1 ms_X11_160 my_X11_isFlour (Or.inl rfl) ?_
      refine c_X11_isFlour (fun _ => ⟨_, rfl, ?_⟩) (fun z => absurd hx z)
      refine y_if_ne (tgt := 9) dX11_law_4 (by decide) (fun h4 => ?_) (fun h4 => absurd h4 (by decide))
      refine y_aload_n dX11_law_9 rfl rfl ?_
      refine y_iload_n dX11_law_10 rfl rfl ?_
      refine y_ivI1 dX11_law_11 mv_X11_364 my_X11_lackOfLaw (Or.inl rfl) sh_0 ?_
      refine c_X11_lackOfLaw h rfl hf ⟨_, rfl, ?_⟩
      refine y_ist4_2 dX11_law_14 rfl ?_
      refine y_iload_n dX11_law_15 rfl rfl ?_
      refine y_if_eq (tgt := 25) dX11_law_16 (by decide) (fun h16 => absurd h16 (fun e => h0 ((nI_eq (b := 0) (by have := LWp_le m f; omega) (by decide)).mp e))) (fun h16 => ?_)
      refine y_aload_n dX11_law_19 rfl rfl ?_
      refine y_iload_n dX11_law_20 rfl rfl ?_
      refine y_ivI1 dX11_law_21 mv_X11_105 my_X11_found (Or.inl rfl) sh_0 ?_
      refine c_X11_found (f := LWp m f) rfl (by omega) (LWp_le m f) ⟨_, rfl, ?_⟩
      refine y_ireturn dX11_law_24 rfl rfl ?_
      refine ⟨_, rfl, ?_⟩
      obtain ⟨m1, em⟩ : ∃ m1, m1 = foundM m (LWp m f) := ⟨_, rfl⟩
      rw [← em]
      have gg : ∀ a, 138 ≤ a → m1 a = m a := fun a ha => by rw [em]; exact found_o (by omega) (by omega)
      have g9 : m1 239 28 = m 239 28 := by rw [gg _ (by omega)]
      have esn : slN m1 = slN m := by unfold slN; rw [g9]
      have eb : ∀ f g, bo m1 f g = bo m f g := fun f g => bo_m (gg _ (by omega)) (gg _ (by omega)) (gg _ (by omega))
      have ed : ∀ i, dS m1 i = dS m i := fun i => dS_m (gg _ (by omega))
      have eN : ∀ t, nwL m1 f t = nwL m f t := fun t => nw_m (gg _ (by omega)) (gg _ (by omega)) (gg _ (by omega)) g9
      have eW : LWp m1 f = LWp m f := LWp_m (gg _ (by omega)) (gg _ (by omega)) (gg _ (by omega)) g9
      refine y_run (own := "LoafFallModel") rfl (by decide +kernel) (Nat.le_of_ble_eq_true rfl) rfl ?_
      refine y_iload_n dX12_law_0 rfl rfl ?_
      refine y_isI1 dX12_law_1 ms_X12_151 my_X12_isPlace (Or.inl rfl) ?_
      refine c_X12_isPlace (fun _ => ⟨_, rfl, ?_⟩) (fun z => absurd hx z)
      refine y_if_ne (tgt := 9) dX12_law_4 (by decide) (fun h4 => ?_) (fun h4 => absurd h4 (by decide))
      refine y_aload_n dX12_law_9 rfl rfl ?_
      refine y_iload_n dX12_law_10 rfl rfl ?_
      refine y_iconst (v := 1) dX12_law_11 (by decide) ?_
      refine y_ivI2 dX12_law_12 mv_X12_319 my_X12_needLaws (Or.inl rfl) sh_239 ?_
      refine c_X12_needLaws (f := f) (s := slN m1) (t := 1) rfl hf (by rw [esn]; exact slR_m h.slr g9 (gg _ (by omega))) (fun z i hi => by rw [ed, eb]; exact lwD h hf (eW.symm.trans z) i (by rw [← esn]; exact hi)) (fun _ => ⟨_, rfl, ?_⟩) (fun z => absurd ((eN _).symm.trans z) (by rw [nw_1]; exact h0))
      refine y_ist4_2 dX12_law_15 rfl ?_
      refine y_iload_n dX12_law_16 rfl rfl ?_
      refine y_if_ge (tgt := 22) dX12_law_17 (by decide) (fun h17 => absurd h17 (by decide)) (fun h17 => ?_)
      refine y_iload_n dX12_law_20 rfl rfl ?_
      refine y_ireturn dX12_law_21 rfl rfl ?_
      rw [eN, nw_1, em]
      exact ⟨rfl, Rel_met h⟩
  · refine y_run (own := "LoafFall") rfl (by decide +kernel) (Nat.le_of_ble_eq_true rfl) rfl ?_
    refine y_iload_n dX11_law_0 rfl rfl ?_
    refine y_isI1 dX11_law_1 ms_X11_160 my_X11_isFlour (Or.inl rfl) ?_
    refine c_X11_isFlour (fun z => absurd z hx) (fun _ => ⟨_, rfl, ?_⟩)
    refine y_if_ne (tgt := 9) dX11_law_4 (by decide) (fun h4 => absurd (by decide) h4) (fun h4 => ?_)
    refine y_iconst (v := -1) dX11_law_7 (by decide) ?_
    refine y_ireturn dX11_law_8 rfl rfl ?_
    refine ⟨_, rfl, ?_⟩
    refine y_run (own := "LoafFallModel") rfl (by decide +kernel) (Nat.le_of_ble_eq_true rfl) rfl ?_
    refine y_iload_n dX12_law_0 rfl rfl ?_
    refine y_isI1 dX12_law_1 ms_X12_151 my_X12_isPlace (Or.inl rfl) ?_
    refine c_X12_isPlace (fun z => absurd z hx) (fun _ => ⟨_, rfl, ?_⟩)
    refine y_if_ne (tgt := 9) dX12_law_4 (by decide) (fun h4 => absurd (by decide) h4) (fun h4 => ?_)
    refine y_iconst (v := -1) dX12_law_7 (by decide) ?_
    refine y_ireturn dX12_law_8 rfl rfl ?_
    exact ⟨rfl, h⟩
set_option maxHeartbeats 1000000 in
theorem c_X11_foretell_ok {L : Nat} {xs : Nat → Int32} {d : Nat} {m : sM} {n : sN} {Q : sQ} {f g : Nat} {x z : Int32} (h : Rel m n) (hx : x = nI f) (hf : f < 4) (hz : z = nI g) (hg : g < 4) (h0 : nwL m f (m 248 g) = 0) (hQ : ∀ m', frC m m' → BK m' → Q (some (.int (HL m f g (lbF (OL m f) 81)))) (tellM m' (WV (lwR (bo m f g) (lbF (OL m f) 81)))) n) : sRun (scT L xs) (d + 8) yX11_foretell cX11_foretell 5 (some .int) [.ref 0, .int x, .int z] m n Q := by
  subst hx hz
  obtain ⟨d1, h00⟩ := nw_0 h0
  have z1 := (LW_0 h00).1
  obtain ⟨t1, t3, t4, t2⟩ : m (166 + 4 * g) 4 = 1 ∧ dOK (bo m f g) ∧ DR m (166 + 4 * g) (bo m f g) ∧ flR (bo m f g) := by
    obtain ⟨-, t2, t3⟩ := both_there h hf hg z1 d1
    exact ⟨t2, (t3 _).2.1, (t3 _).2.2.2, (t3 _).1⟩
  refine y_run (own := "LoafFall") rfl (by decide +kernel) (Nat.le_of_ble_eq_true rfl) rfl ?_
  refine y_iload_n dX11_foretell_0 rfl rfl ?_
  refine y_isI1 dX11_foretell_1 ms_X11_160 my_X11_isFlour (Or.inl rfl) ?_
  refine c_X11_isFlour (fun _ => ⟨_, rfl, ?_⟩) (fun z => absurd (⟨f, hf, rfl⟩ : inN (nI f) 4) z)
  refine y_if_eq (tgt := 14) dX11_foretell_4 (by decide) (fun h4 => absurd h4 (by decide)) (fun h4 => ?_)
  refine y_iload_n dX11_foretell_7 rfl rfl ?_
  refine y_isI1 dX11_foretell_8 ms_X11_173 my_X11_isDoing (Or.inl rfl) ?_
  refine c_X11_isDoing (fun _ => ⟨_, rfl, ?_⟩) (fun z => absurd (⟨g, hg, rfl⟩ : inN (nI g) 4) z)
  refine y_if_ne (tgt := 16) dX11_foretell_11 (by decide) (fun h11 => ?_) (fun h11 => absurd h11 (by decide))
  refine y_aload_n dX11_foretell_16 rfl rfl ?_
  refine y_getr dX11_foretell_17 gf_X11_29 sh_0 rfl ?_
  refine y_iload_n dX11_foretell_20 rfl rfl ?_
  refine y_aaldN dX11_foretell_21 (by decide) sh_4 rfl (dgA (k := g) (by omega)) (by decide) ?_
  refine y_geti dX11_foretell_22 gf_X11_190 (dgI (k := g) (by omega)).1 rfl ?_
  refine y_if_eq (tgt := 36) dX11_foretell_25 (by decide) (fun h25 => absurd h25 (by rw [t1]; decide)) (fun h25 => ?_)
  refine y_aload_n dX11_foretell_28 rfl rfl ?_
  refine y_iload_n dX11_foretell_29 rfl rfl ?_
  refine y_ivI1 dX11_foretell_30 mv_X11_364 my_X11_lackOfLaw (Or.inl rfl) sh_0 ?_
  refine c_X11_lackOfLaw h rfl hf ⟨_, rfl, ?_⟩
  rw [h00]
  refine y_goto (tgt := 37) dX11_foretell_33 (by decide) ?_
  refine y_ist5_3 dX11_foretell_37 rfl ?_
  refine y_iload_n dX11_foretell_38 rfl rfl ?_
  refine y_if_eq (tgt := 48) dX11_foretell_39 (by decide) (fun h39 => ?_) (fun h39 => absurd (by decide) h39)
  refine y_aload_n dX11_foretell_48 rfl rfl ?_
  refine y_iload_n dX11_foretell_49 rfl rfl ?_
  refine y_aload_n dX11_foretell_50 rfl rfl ?_
  refine y_iload_n dX11_foretell_51 rfl rfl ?_
  refine y_ivI1 dX11_foretell_52 mv_X11_367 my_X11_bestLaw (Or.inl rfl) sh_0 ?_
  refine c_X11_bestLaw (f := f) h rfl hf h00 (fun m2 v1 v2 v3 => ⟨_, rfl, ?_⟩)
  obtain ⟨l, hl⟩ : ∃ l, l = lbF (OL m f) 81 := ⟨_, rfl⟩
  rw [show lbF (fun l => oF m f l (slN m)) 81 = l from hl.symm]
  have l81 : l < 81 := by rw [hl]; exact lb81
  replace v3 : ∀ i, i < 81 → m2 135 i = OL m f i := v3
  refine y_ivV2 dX11_foretell_55 mv_X11_376 my_X11_takeLaw (Or.inl rfl) sh_0 ?_
  refine c_X11_takeLaw (f := f) (l := l) h v1 rfl hf rfl l81 z1 (fun m3 b1 b2 b3 => ⟨rfl, ?_⟩)
  have lf := lw_f (l := l) t2 l81
  have ld := lw_d (l := l) t3
  refine y_aload_n dX11_foretell_58 rfl rfl ?_
  refine y_getr dX11_foretell_59 gf_X11_61 sh_0 rfl ?_
  refine y_aload_n dX11_foretell_62 rfl rfl ?_
  refine y_getr dX11_foretell_63 gf_X11_73 sh_0 rfl ?_
  refine y_aload_n dX11_foretell_66 rfl rfl ?_
  refine y_getr dX11_foretell_67 gf_X11_29 sh_0 rfl ?_
  refine y_iload_n dX11_foretell_70 rfl rfl ?_
  refine y_aaldN dX11_foretell_71 (by decide) sh_4 rfl (dgA (k := g) (by omega)) (by decide) ?_
  refine y_ivR2 dX11_foretell_72 mv_X11_303 my_X0_bake (Or.inl rfl) sh_35 ?_
  refine c_bakeV (R := lwR (bo m f g) l) fl125 (dgI hg) (by omega) (by omega) (b3 g) (DR_m (DR_lo t4 t3.2.1 (fun p h1 h2 => lw_lo (by omega))) (fun c h1 h2 => by rw [b1 c (by omega)]; exact v1 c (by omega))) lf ld (Or.inr b2) (Or.inr (by rw [b1 _ (by omega), v1 _ (by omega)]; exact t1)) (BK_m v2 (fun c h1 h2 => b1 c (by omega))) (fun m4 A a1 a2 a3 a4' a5 => ⟨_, rfl, ?_⟩)
  refine y_ast5_4 dX11_foretell_75 rfl ?_
  refine y_aload_n dX11_foretell_77 rfl rfl ?_
  refine y_aload dX11_foretell_78 rfl ?_
  refine y_ivI0 dX11_foretell_80 mv_X11_255 my_X2_worthNow (Or.inl rfl) dh43.1 ?_
  refine c_X2_worthNow dh43 a1 a2 ⟨_, rfl, ?_⟩
  rw [a3.w]
  refine y_puti dX11_foretell_83 pf_X11_194 sh_0 rfl rfl rfl ?_
  refine y_aload dX11_foretell_86 rfl ?_
  refine y_ivI0 dX11_foretell_88 mv_X11_258 my_X2_heightNow (Or.inl rfl) dh43.1 ?_
  refine c_X2_heightNow dh43 (DD_m a1 (fun c h1 h2 => s_upN (by omega))) ⟨_, rfl, ?_⟩
  rw [show hgt A 12 = HL m f g l from a3.h]
  refine y_ireturn dX11_foretell_91 rfl rfl ?_
  rw [← hl] at hQ
  exact hQ m4 (fun a ha => by rw [a5 a (by omega), b1 a (by omega)]; exact v1 a ha) a4'
set_option maxHeartbeats 1000000 in
theorem c_X12_foretell_ok {L : Nat} {xs : Nat → Int32} {d : Nat} {m : sM} {n : sN} {Q : sQ} {f g : Nat} {x z : Int32} (hx : x = nI f) (hf : f < 4) (hz : z = nI g) (hg : g < 4) (hs : slR m (slN m)) (h0 : nwL m f (m 248 g) = 0) (hD : LWp m f = 0 → ∀ i, i < slN m → flR (bo m f (dS m i)) ∧ dOK (bo m f (dS m i))) (hg2 : flR (bo m f g) ∧ dOK (bo m f g)) (hQ : ∀ M, frM m M → Q (some (.int (HL m f g (lbF (OL m f) 81)))) (tellsM M (WV (lwR (bo m f g) (lbF (OL m f) 81)))) n) : sRun (scT L xs) (d + 11) yX12_foretell cX12_foretell 4 (some .int) [.ref 239, .int x, .int z] m n Q := by
  subst hx hz
  refine y_run (own := "LoafFallModel") rfl (by decide +kernel) (Nat.le_of_ble_eq_true rfl) rfl ?_
  refine y_iload_n dX12_foretell_0 rfl rfl ?_
  refine y_isI1 dX12_foretell_1 ms_X12_151 my_X12_isPlace (Or.inl rfl) ?_
  refine c_X12_isPlace (fun _ => ⟨_, rfl, ?_⟩) (fun z => absurd (⟨f, hf, rfl⟩ : inN (nI f) 4) z)
  refine y_if_eq (tgt := 14) dX12_foretell_4 (by decide) (fun h4 => absurd h4 (by decide)) (fun h4 => ?_)
  refine y_iload_n dX12_foretell_7 rfl rfl ?_
  refine y_isI1 dX12_foretell_8 ms_X12_151 my_X12_isPlace (Or.inl rfl) ?_
  refine c_X12_isPlace (fun _ => ⟨_, rfl, ?_⟩) (fun z => absurd (⟨g, hg, rfl⟩ : inN (nI g) 4) z)
  refine y_if_ne (tgt := 16) dX12_foretell_11 (by decide) (fun h11 => ?_) (fun h11 => absurd h11 (by decide))
  refine y_aload_n dX12_foretell_16 rfl rfl ?_
  refine y_iload_n dX12_foretell_17 rfl rfl ?_
  refine y_aload_n dX12_foretell_18 rfl rfl ?_
  refine y_getr dX12_foretell_19 gf_X12_36 sh_239 rfl ?_
  refine y_iload_n dX12_foretell_22 rfl rfl ?_
  refine y_zaldN dX12_foretell_23 sh_248 rfl (by first | omega | decide) (by decide) ?_
  refine y_ivI2 dX12_foretell_24 mv_X12_319 my_X12_needLaws (Or.inl rfl) sh_239 ?_
  refine c_X12_needLaws (f := f) (t := m 248 g) rfl hf hs hD (fun z => absurd h0 z) (fun _ B M hW b1 b2 => ⟨_, rfl, ?_⟩)
  have m60 : M 260 = B 260 := hW.o (by omega) (by omega) (by omega)
  obtain ⟨l, hl⟩ : ∃ l, l = lbF (OL m f) 81 := ⟨_, rfl⟩
  have l81 : l < 81 := by rw [hl]; exact lb81
  have v3 : ∀ i, i < 81 → M 260 i = OL m f i := fun i hi => by rw [m60]; exact b2 i hi
  have fm : frM m M := b1.fr.tr hW.fr
  refine y_ist4_3 dX12_foretell_27 rfl ?_
  refine y_iload_n dX12_foretell_28 rfl rfl ?_
  refine y_if_ge (tgt := 34) dX12_foretell_29 (by decide) (fun h29 => ?_) (fun h29 => absurd (by decide) h29)
  refine y_aload_n dX12_foretell_34 rfl rfl ?_
  refine y_aload_n dX12_foretell_35 rfl rfl ?_
  refine y_ivI0 dX12_foretell_36 mv_X12_322 my_X12_leastLaw (Or.inl rfl) sh_239 ?_
  refine c_X12_leastLaw (O := OL m f) v3 ⟨_, rfl, ?_⟩
  rw [← hl]
  refine y_iload_n dX12_foretell_39 rfl rfl ?_
  refine y_iload_n dX12_foretell_40 rfl rfl ?_
  refine y_ivV3 dX12_foretell_41 mv_X12_316 my_X12_layLaw (Or.inl rfl) sh_239 ?_
  refine c_layLaw (l := l) (f := f) (g := g) hW rfl l81 rfl hf rfl hg (fun hh X2 => ⟨rfl, ?_⟩)
  rw [show upd (upd (bothR B f g X2) 0 (nI (1 + l / 9))) 1 (nI (10 + 10 * (l % 9))) = lwR (bothR B f g X2) l from rfl]
  have ebB : bo B f g = bo m f g := bo_m (b1 _ (by omega) (by omega)) (b1 _ (by omega) (by omega)) (b1 _ (by omega) (by omega))
  have e36 : ∀ p, p < 36 → lwR (bothR B f g X2) l p = lwR (bo m f g) l p := fun p hp => by
    unfold lwR
    rw [upd_ap, upd_ap, upd_ap, upd_ap, bo_X hp, ebB]
  have hdm := lw_d (l := l) hg2.2
  have hdX : dOK (lwR (bothR B f g X2) l) := d_eq hdm (fun p h1 h2 => e36 p h2)
  have eH : hgt (BV (lwR (bothR B f g X2) l)) 12 = HL m f g l := HV_congr hdm hdX (eqD_36 hdm.2.1 e36)
  have eWv : worthF (BV (lwR (bothR B f g X2) l)) = WV (lwR (bo m f g) l) := WV_congr hdm hdX (eqD_36 hdm.2.1 e36)
  refine y_aload_n dX12_foretell_44 rfl rfl ?_
  refine y_ivV0 dX12_foretell_45 mv_X12_263 my_X12_bakes (Or.inl rfl) sh_239 ?_
  refine c_bakesW (wk_b (by omega)) hdX (fun h' => ⟨rfl, ?_⟩)
  refine y_aload_n dX12_foretell_48 rfl rfl ?_
  refine y_aload_n dX12_foretell_49 rfl rfl ?_
  refine y_ivI0 dX12_foretell_50 mv_X12_247 my_X12_worthNow (Or.inl rfl) sh_239 ?_
  refine c_X12_worthNow (wk_b (by omega)) ⟨_, rfl, ?_⟩
  rw [eWv]
  refine y_aload_n dX12_foretell_53 rfl rfl ?_
  refine y_ivI0 dX12_foretell_54 mv_X12_241 my_X12_heightNow (Or.inl rfl) sh_239 ?_
  refine c_X12_heightNow (wk_b (by omega)) ⟨_, rfl, ?_⟩
  rw [eH]
  refine y_ivI2 dX12_foretell_57 mv_X12_108 my_X12_tells (Or.inl rfl) sh_239 ?_
  refine c_X12_tells ⟨_, rfl, ?_⟩
  refine y_ireturn dX12_foretell_60 rfl rfl ?_
  rw [← hl] at hQ
  exact hQ _ (b1.fr.tr WM.st.fr)
set_option maxHeartbeats 2000000 in
theorem p_foretell {L : Nat} {xs : Nat → Int32} {d : Nat} {m : sM} {n : sN} {x z : Int32} (h : Rel m n) : PI L xs (d + 11) yX11_foretell cX11_foretell 5 yX12_foretell cX12_foretell 4 [.int x, .int z] m n := by
  unfold PI
  by_cases hx : inN x 4
  · by_cases hz : inN z 4
    · obtain ⟨f, hf, rfl⟩ := hx
      have hx : inN (nI f) 4 := ⟨f, hf, rfl⟩
      obtain ⟨g, hg, rfl⟩ := hz
      have hz : inN (nI g) 4 := ⟨g, hg, rfl⟩
      by_cases h0 : nwL m f (m 248 g) = 0
      · obtain ⟨d1, h00⟩ := nw_0 h0
        have z1 := (LW_0 h00).1
        have hg2 : flR (bo m f g) ∧ dOK (bo m f g) := by
          obtain ⟨-, -, t3⟩ := both_there h hf hg z1 d1
          exact ⟨(t3 _).1, (t3 _).2.1⟩
        refine c_X11_foretell_ok h rfl hf rfl hg h0 (fun m' v1 v2 => ⟨_, rfl, ?_⟩)
        generalize em : tellM m' (WV (lwR (bo m f g) (lbF (OL m f) 81))) = m1
        have gg : ∀ a, 137 ≤ a → m1 a = m a := fun a ha => by rw [← em, tell_o (by omega)]; exact v1 a (by omega)
        have g9 : m1 239 28 = m 239 28 := by rw [gg _ (by omega)]
        have esn : slN m1 = slN m := by unfold slN; rw [g9]
        have eb : ∀ f g, bo m1 f g = bo m f g := fun f g => bo_m (gg _ (by omega)) (gg _ (by omega)) (gg _ (by omega))
        have ed : ∀ i, dS m1 i = dS m i := fun i => dS_m (gg _ (by omega))
        have eN : ∀ t, nwL m1 f t = nwL m f t := fun t => nw_m (gg _ (by omega)) (gg _ (by omega)) (gg _ (by omega)) g9
        have eW : LWp m1 f = LWp m f := LWp_m (gg _ (by omega)) (gg _ (by omega)) (gg _ (by omega)) g9
        have eO : OL m1 f = OL m f := OL_m (gg _ (by omega)) (gg _ (by omega)) (gg _ (by omega)) (gg _ (by omega)) g9
        refine c_X12_foretell_ok rfl hf rfl hg (by rw [esn]; exact slR_m h.slr g9 (gg _ (by omega))) (by rw [eN, gg 248 (by omega)]; exact h0) (fun z i hi => by rw [ed, eb]; exact lwD h hf (eW.symm.trans z) i (by rw [← esn]; exact hi)) (by rw [eb]; exact hg2) (fun M f1 => ?_)
        rw [eO, eb, HL_m (gg _ (by omega)) (gg _ (by omega)) (gg _ (by omega))]
        rw [← em] at f1
        exact ⟨rfl, Rel_tell h v1 v2 f1⟩
      · by_cases d1 : m 248 g = 0
        · have d2 : m (166 + 4 * g) 4 = 0 := by
            rcases h.d g hg with ⟨a, b⟩ | ⟨a, b, -⟩
            · exact b
            · exact absurd d1 (by rw [a]; decide)
          have hn : nwL m f (m 248 g) = 1 := if_pos d1
          refine y_run (own := "LoafFall") rfl (by decide +kernel) (Nat.le_of_ble_eq_true rfl) rfl ?_
          refine y_iload_n dX11_foretell_0 rfl rfl ?_
          refine y_isI1 dX11_foretell_1 ms_X11_160 my_X11_isFlour (Or.inl rfl) ?_
          refine c_X11_isFlour (fun _ => ⟨_, rfl, ?_⟩) (fun z => absurd hx z)
          refine y_if_eq (tgt := 14) dX11_foretell_4 (by decide) (fun h4 => absurd h4 (by decide)) (fun h4 => ?_)
          refine y_iload_n dX11_foretell_7 rfl rfl ?_
          refine y_isI1 dX11_foretell_8 ms_X11_173 my_X11_isDoing (Or.inl rfl) ?_
          refine c_X11_isDoing (fun _ => ⟨_, rfl, ?_⟩) (fun z => absurd hz z)
          refine y_if_ne (tgt := 16) dX11_foretell_11 (by decide) (fun h11 => ?_) (fun h11 => absurd h11 (by decide))
          refine y_aload_n dX11_foretell_16 rfl rfl ?_
          refine y_getr dX11_foretell_17 gf_X11_29 sh_0 rfl ?_
          refine y_iload_n dX11_foretell_20 rfl rfl ?_
          refine y_aaldN dX11_foretell_21 (by decide) sh_4 rfl (dgA (k := g) (by omega)) (by decide) ?_
          refine y_geti dX11_foretell_22 gf_X11_190 (dgI (k := g) (by omega)).1 rfl ?_
          refine y_if_eq (tgt := 36) dX11_foretell_25 (by decide) (fun h25 => ?_) (fun h25 => absurd d2 h25)
          refine y_iconst (v := 1) dX11_foretell_36 (by decide) ?_
          refine y_ist5_3 dX11_foretell_37 rfl ?_
          refine y_iload_n dX11_foretell_38 rfl rfl ?_
          refine y_if_eq (tgt := 48) dX11_foretell_39 (by decide) (fun h39 => absurd h39 (by decide)) (fun h39 => ?_)
          refine y_aload_n dX11_foretell_42 rfl rfl ?_
          refine y_iload_n dX11_foretell_43 rfl rfl ?_
          refine y_ivI1 dX11_foretell_44 mv_X11_105 my_X11_found (Or.inl rfl) sh_0 ?_
          refine c_X11_found (f := 1) rfl (by omega) (by omega) ⟨_, rfl, ?_⟩
          refine y_ireturn dX11_foretell_47 rfl rfl ?_
          refine ⟨_, rfl, ?_⟩
          obtain ⟨m1, em⟩ : ∃ m1, m1 = foundM m (1) := ⟨_, rfl⟩
          rw [← em]
          have gg : ∀ a, 138 ≤ a → m1 a = m a := fun a ha => by rw [em]; exact found_o (by omega) (by omega)
          have g9 : m1 239 28 = m 239 28 := by rw [gg _ (by omega)]
          have esn : slN m1 = slN m := by unfold slN; rw [g9]
          have eb : ∀ f g, bo m1 f g = bo m f g := fun f g => bo_m (gg _ (by omega)) (gg _ (by omega)) (gg _ (by omega))
          have ed : ∀ i, dS m1 i = dS m i := fun i => dS_m (gg _ (by omega))
          have eN : ∀ t, nwL m1 f t = nwL m f t := fun t => nw_m (gg _ (by omega)) (gg _ (by omega)) (gg _ (by omega)) g9
          have eW : LWp m1 f = LWp m f := LWp_m (gg _ (by omega)) (gg _ (by omega)) (gg _ (by omega)) g9
          refine y_run (own := "LoafFallModel") rfl (by decide +kernel) (Nat.le_of_ble_eq_true rfl) rfl ?_
          refine y_iload_n dX12_foretell_0 rfl rfl ?_
          refine y_isI1 dX12_foretell_1 ms_X12_151 my_X12_isPlace (Or.inl rfl) ?_
          refine c_X12_isPlace (fun _ => ⟨_, rfl, ?_⟩) (fun z => absurd hx z)
          refine y_if_eq (tgt := 14) dX12_foretell_4 (by decide) (fun h4 => absurd h4 (by decide)) (fun h4 => ?_)
          refine y_iload_n dX12_foretell_7 rfl rfl ?_
          refine y_isI1 dX12_foretell_8 ms_X12_151 my_X12_isPlace (Or.inl rfl) ?_
          refine c_X12_isPlace (fun _ => ⟨_, rfl, ?_⟩) (fun z => absurd hz z)
          refine y_if_ne (tgt := 16) dX12_foretell_11 (by decide) (fun h11 => ?_) (fun h11 => absurd h11 (by decide))
          refine y_aload_n dX12_foretell_16 rfl rfl ?_
          refine y_iload_n dX12_foretell_17 rfl rfl ?_
          refine y_aload_n dX12_foretell_18 rfl rfl ?_
          refine y_getr dX12_foretell_19 gf_X12_36 sh_239 rfl ?_
          refine y_iload_n dX12_foretell_22 rfl rfl ?_
          refine y_zaldN dX12_foretell_23 sh_248 rfl (by first | omega | decide) (by decide) ?_
          refine y_ivI2 dX12_foretell_24 mv_X12_319 my_X12_needLaws (Or.inl rfl) sh_239 ?_
          refine c_X12_needLaws (f := f) (s := slN m1) (t := m1 248 g) rfl hf (by rw [esn]; exact slR_m h.slr g9 (gg _ (by omega))) (fun z i hi => by rw [ed, eb]; exact lwD h hf (eW.symm.trans z) i (by rw [← esn]; exact hi)) (fun _ => ⟨_, rfl, ?_⟩) (fun z => absurd ((eN _).symm.trans z) (by rw [gg 248 (by omega)]; exact h0))
          refine y_ist4_3 dX12_foretell_27 rfl ?_
          refine y_iload_n dX12_foretell_28 rfl rfl ?_
          refine y_if_ge (tgt := 34) dX12_foretell_29 (by decide) (fun h29 => absurd h29 (by decide)) (fun h29 => ?_)
          refine y_iload_n dX12_foretell_32 rfl rfl ?_
          refine y_ireturn dX12_foretell_33 rfl rfl ?_
          rw [eN, gg 248 (by omega), hn, em]
          exact ⟨rfl, Rel_met h⟩
        · have d2 : ¬ m (166 + 4 * g) 4 = 0 := fun z => d1 ((h.dx hg).1 z)
          have hn : nwL m f (m 248 g) = LWp m f := if_neg d1
          refine y_run (own := "LoafFall") rfl (by decide +kernel) (Nat.le_of_ble_eq_true rfl) rfl ?_
          refine y_iload_n dX11_foretell_0 rfl rfl ?_
          refine y_isI1 dX11_foretell_1 ms_X11_160 my_X11_isFlour (Or.inl rfl) ?_
          refine c_X11_isFlour (fun _ => ⟨_, rfl, ?_⟩) (fun z => absurd hx z)
          refine y_if_eq (tgt := 14) dX11_foretell_4 (by decide) (fun h4 => absurd h4 (by decide)) (fun h4 => ?_)
          refine y_iload_n dX11_foretell_7 rfl rfl ?_
          refine y_isI1 dX11_foretell_8 ms_X11_173 my_X11_isDoing (Or.inl rfl) ?_
          refine c_X11_isDoing (fun _ => ⟨_, rfl, ?_⟩) (fun z => absurd hz z)
          refine y_if_ne (tgt := 16) dX11_foretell_11 (by decide) (fun h11 => ?_) (fun h11 => absurd h11 (by decide))
          refine y_aload_n dX11_foretell_16 rfl rfl ?_
          refine y_getr dX11_foretell_17 gf_X11_29 sh_0 rfl ?_
          refine y_iload_n dX11_foretell_20 rfl rfl ?_
          refine y_aaldN dX11_foretell_21 (by decide) sh_4 rfl (dgA (k := g) (by omega)) (by decide) ?_
          refine y_geti dX11_foretell_22 gf_X11_190 (dgI (k := g) (by omega)).1 rfl ?_
          refine y_if_eq (tgt := 36) dX11_foretell_25 (by decide) (fun h25 => absurd h25 d2) (fun h25 => ?_)
          refine y_aload_n dX11_foretell_28 rfl rfl ?_
          refine y_iload_n dX11_foretell_29 rfl rfl ?_
          refine y_ivI1 dX11_foretell_30 mv_X11_364 my_X11_lackOfLaw (Or.inl rfl) sh_0 ?_
          refine c_X11_lackOfLaw h rfl hf ⟨_, rfl, ?_⟩
          refine y_goto (tgt := 37) dX11_foretell_33 (by decide) ?_
          refine y_ist5_3 dX11_foretell_37 rfl ?_
          refine y_iload_n dX11_foretell_38 rfl rfl ?_
          refine y_if_eq (tgt := 48) dX11_foretell_39 (by decide) (fun h39 => absurd h39 (fun e => h0 ((nI_eq (b := 0) (by have := nw_le m f (m 248 g); omega) (by decide)).mp (by rw [hn]; exact e)))) (fun h39 => ?_)
          refine y_aload_n dX11_foretell_42 rfl rfl ?_
          refine y_iload_n dX11_foretell_43 rfl rfl ?_
          refine y_ivI1 dX11_foretell_44 mv_X11_105 my_X11_found (Or.inl rfl) sh_0 ?_
          refine c_X11_found (f := LWp m f) rfl (by omega) (LWp_le m f) ⟨_, rfl, ?_⟩
          refine y_ireturn dX11_foretell_47 rfl rfl ?_
          refine ⟨_, rfl, ?_⟩
          obtain ⟨m1, em⟩ : ∃ m1, m1 = foundM m (LWp m f) := ⟨_, rfl⟩
          rw [← em]
          have gg : ∀ a, 138 ≤ a → m1 a = m a := fun a ha => by rw [em]; exact found_o (by omega) (by omega)
          have g9 : m1 239 28 = m 239 28 := by rw [gg _ (by omega)]
          have esn : slN m1 = slN m := by unfold slN; rw [g9]
          have eb : ∀ f g, bo m1 f g = bo m f g := fun f g => bo_m (gg _ (by omega)) (gg _ (by omega)) (gg _ (by omega))
          have ed : ∀ i, dS m1 i = dS m i := fun i => dS_m (gg _ (by omega))
          have eN : ∀ t, nwL m1 f t = nwL m f t := fun t => nw_m (gg _ (by omega)) (gg _ (by omega)) (gg _ (by omega)) g9
          have eW : LWp m1 f = LWp m f := LWp_m (gg _ (by omega)) (gg _ (by omega)) (gg _ (by omega)) g9
          refine y_run (own := "LoafFallModel") rfl (by decide +kernel) (Nat.le_of_ble_eq_true rfl) rfl ?_
          refine y_iload_n dX12_foretell_0 rfl rfl ?_
          refine y_isI1 dX12_foretell_1 ms_X12_151 my_X12_isPlace (Or.inl rfl) ?_
          refine c_X12_isPlace (fun _ => ⟨_, rfl, ?_⟩) (fun z => absurd hx z)
          refine y_if_eq (tgt := 14) dX12_foretell_4 (by decide) (fun h4 => absurd h4 (by decide)) (fun h4 => ?_)
          refine y_iload_n dX12_foretell_7 rfl rfl ?_
          refine y_isI1 dX12_foretell_8 ms_X12_151 my_X12_isPlace (Or.inl rfl) ?_
          refine c_X12_isPlace (fun _ => ⟨_, rfl, ?_⟩) (fun z => absurd hz z)
          refine y_if_ne (tgt := 16) dX12_foretell_11 (by decide) (fun h11 => ?_) (fun h11 => absurd h11 (by decide))
          refine y_aload_n dX12_foretell_16 rfl rfl ?_
          refine y_iload_n dX12_foretell_17 rfl rfl ?_
          refine y_aload_n dX12_foretell_18 rfl rfl ?_
          refine y_getr dX12_foretell_19 gf_X12_36 sh_239 rfl ?_
          refine y_iload_n dX12_foretell_22 rfl rfl ?_
          refine y_zaldN dX12_foretell_23 sh_248 rfl (by first | omega | decide) (by decide) ?_
          refine y_ivI2 dX12_foretell_24 mv_X12_319 my_X12_needLaws (Or.inl rfl) sh_239 ?_
          refine c_X12_needLaws (f := f) (s := slN m1) (t := m1 248 g) rfl hf (by rw [esn]; exact slR_m h.slr g9 (gg _ (by omega))) (fun z i hi => by rw [ed, eb]; exact lwD h hf (eW.symm.trans z) i (by rw [← esn]; exact hi)) (fun _ => ⟨_, rfl, ?_⟩) (fun z => absurd ((eN _).symm.trans z) (by rw [gg 248 (by omega)]; exact h0))
          refine y_ist4_3 dX12_foretell_27 rfl ?_
          refine y_iload_n dX12_foretell_28 rfl rfl ?_
          refine y_if_ge (tgt := 34) dX12_foretell_29 (by decide) (fun h29 => absurd h29 (by decide)) (fun h29 => ?_)
          refine y_iload_n dX12_foretell_32 rfl rfl ?_
          refine y_ireturn dX12_foretell_33 rfl rfl ?_
          rw [eN, gg 248 (by omega), hn, em]
          exact ⟨rfl, Rel_met h⟩
    · refine y_run (own := "LoafFall") rfl (by decide +kernel) (Nat.le_of_ble_eq_true rfl) rfl ?_
      refine y_iload_n dX11_foretell_0 rfl rfl ?_
      refine y_isI1 dX11_foretell_1 ms_X11_160 my_X11_isFlour (Or.inl rfl) ?_
      refine c_X11_isFlour (fun _ => ⟨_, rfl, ?_⟩) (fun z => absurd hx z)
      refine y_if_eq (tgt := 14) dX11_foretell_4 (by decide) (fun h4 => absurd h4 (by decide)) (fun h4 => ?_)
      refine y_iload_n dX11_foretell_7 rfl rfl ?_
      refine y_isI1 dX11_foretell_8 ms_X11_173 my_X11_isDoing (Or.inl rfl) ?_
      refine c_X11_isDoing (fun z => absurd z hz) (fun _ => ⟨_, rfl, ?_⟩)
      refine y_if_ne (tgt := 16) dX11_foretell_11 (by decide) (fun h11 => absurd (by decide) h11) (fun h11 => ?_)
      refine y_iconst (v := -1) dX11_foretell_14 (by decide) ?_
      refine y_ireturn dX11_foretell_15 rfl rfl ?_
      refine ⟨_, rfl, ?_⟩
      refine y_run (own := "LoafFallModel") rfl (by decide +kernel) (Nat.le_of_ble_eq_true rfl) rfl ?_
      refine y_iload_n dX12_foretell_0 rfl rfl ?_
      refine y_isI1 dX12_foretell_1 ms_X12_151 my_X12_isPlace (Or.inl rfl) ?_
      refine c_X12_isPlace (fun _ => ⟨_, rfl, ?_⟩) (fun z => absurd hx z)
      refine y_if_eq (tgt := 14) dX12_foretell_4 (by decide) (fun h4 => absurd h4 (by decide)) (fun h4 => ?_)
      refine y_iload_n dX12_foretell_7 rfl rfl ?_
      refine y_isI1 dX12_foretell_8 ms_X12_151 my_X12_isPlace (Or.inl rfl) ?_
      refine c_X12_isPlace (fun z => absurd z hz) (fun _ => ⟨_, rfl, ?_⟩)
      refine y_if_ne (tgt := 16) dX12_foretell_11 (by decide) (fun h11 => absurd (by decide) h11) (fun h11 => ?_)
      refine y_iconst (v := -1) dX12_foretell_14 (by decide) ?_
      refine y_ireturn dX12_foretell_15 rfl rfl ?_
      exact ⟨rfl, h⟩
  · refine y_run (own := "LoafFall") rfl (by decide +kernel) (Nat.le_of_ble_eq_true rfl) rfl ?_
    refine y_iload_n dX11_foretell_0 rfl rfl ?_
    refine y_isI1 dX11_foretell_1 ms_X11_160 my_X11_isFlour (Or.inl rfl) ?_
    refine c_X11_isFlour (fun z => absurd z hx) (fun _ => ⟨_, rfl, ?_⟩)
    refine y_if_eq (tgt := 14) dX11_foretell_4 (by decide) (fun h4 => ?_) (fun h4 => absurd (by decide) h4)
    refine y_iconst (v := -1) dX11_foretell_14 (by decide) ?_
    refine y_ireturn dX11_foretell_15 rfl rfl ?_
    refine ⟨_, rfl, ?_⟩
    refine y_run (own := "LoafFallModel") rfl (by decide +kernel) (Nat.le_of_ble_eq_true rfl) rfl ?_
    refine y_iload_n dX12_foretell_0 rfl rfl ?_
    refine y_isI1 dX12_foretell_1 ms_X12_151 my_X12_isPlace (Or.inl rfl) ?_
    refine c_X12_isPlace (fun z => absurd z hx) (fun _ => ⟨_, rfl, ?_⟩)
    refine y_if_eq (tgt := 14) dX12_foretell_4 (by decide) (fun h4 => ?_) (fun h4 => absurd (by decide) h4)
    refine y_iconst (v := -1) dX12_foretell_14 (by decide) ?_
    refine y_ireturn dX12_foretell_15 rfl rfl ?_
    exact ⟨rfl, h⟩
/-- how many laws are near, their least or greatest height -/
def spF (O H : Nat → Int32) (bd mo : Int32) : Nat → Nat × Int32
  | 0 => (0, 0)
  | l + 1 => if O l ≤ bd then ((spF O H bd mo l).1 + 1, if (spF O H bd mo l).1 = 0 then H l else if mo = 0 then lsr (spF O H bd mo l).2 (H l) else gtr (spF O H bd mo l).2 (H l)) else spF O H bd mo l
theorem sp_n {O H : Nat → Int32} {bd mo : Int32} {l : Nat} (h : ¬ O l ≤ bd) : spF O H bd mo (l + 1) = spF O H bd mo l := by rw [spF, if_neg h]
theorem sp_y {O H : Nat → Int32} {bd mo v : Int32} {l : Nat} (h : O l ≤ bd) (hv : v = if (spF O H bd mo l).1 = 0 then H l else if mo = 0 then lsr (spF O H bd mo l).2 (H l) else gtr (spF O H bd mo l).2 (H l)) : spF O H bd mo (l + 1) = ((spF O H bd mo l).1 + 1, v) := by rw [spF, if_pos h, hv]
theorem sp_le {O H : Nat → Int32} {bd mo : Int32} : ∀ l, (spF O H bd mo l).1 ≤ l := by
  intro l
  induction l with
  | zero => exact Nat.le_refl _
  | succ l ih =>
    by_cases h : O l ≤ bd
    · rw [sp_y h rfl]; show (spF O H bd mo l).1 + 1 ≤ l + 1; omega
    · rw [sp_n h]; omega
theorem lsr_a {x y : Int32} (h : y < x) : lsr x y = y := by unfold lsr; rw [if_neg (Int32.not_lt.mpr (Int32.le_of_lt h))]
theorem lsr_b {x y : Int32} (h : ¬ y < x) : lsr x y = x := by
  unfold lsr
  by_cases z : x < y
  · rw [if_pos z]
  · rw [if_neg z]; exact Int32.le_antisymm (Int32.not_lt.mp z) (Int32.not_lt.mp h)
set_option maxHeartbeats 1000000 in
theorem c_X11_spans_ok {L : Nat} {xs : Nat → Int32} {d : Nat} {m : sM} {n : sN} {Q : sQ} {f g : Nat} {x z v mo : Int32} (h : Rel m n) (hx : x = nI f) (hf : f < 4) (hv : inN v 1000) (hz : z = nI g) (hg : g < 4) (h0 : nwL m f (m 248 g) = 0) (hQ : ∀ m', frC m m' → BK m' → Q (some (.int (nI (spF (OL m f) (HL m f g) (OL m f (lbF (OL m f) 81) + v) mo 81).1))) (tellM m' (spF (OL m f) (HL m f g) (OL m f (lbF (OL m f) 81) + v) mo 81).2) n) : sRun (scT L xs) (d + 8) yX11_spans cX11_spans 11 (some .int) [.ref 0, .int x, .int v, .int z, .int mo] m n Q := by
  subst hx hz
  obtain ⟨d1, h00⟩ := nw_0 h0
  have z1 := (LW_0 h00).1
  obtain ⟨t1, t3, t4, t2⟩ : m (166 + 4 * g) 4 = 1 ∧ dOK (bo m f g) ∧ DR m (166 + 4 * g) (bo m f g) ∧ flR (bo m f g) := by
    obtain ⟨-, t2, t3⟩ := both_there h hf hg z1 d1
    exact ⟨t2, (t3 _).2.1, (t3 _).2.2.2, (t3 _).1⟩
  obtain ⟨O, hO⟩ : ∃ O, O = OL m f := ⟨_, rfl⟩
  obtain ⟨H, hH⟩ : ∃ H : Nat → Int32, H = HL m f g := ⟨_, rfl⟩
  rw [← hO, ← hH] at hQ
  refine y_run (own := "LoafFall") rfl (by decide +kernel) (Nat.le_of_ble_eq_true rfl) rfl ?_
  refine y_iload_n dX11_spans_0 rfl rfl ?_
  refine y_isI1 dX11_spans_1 ms_X11_160 my_X11_isFlour (Or.inl rfl) ?_
  refine c_X11_isFlour (fun _ => ⟨_, rfl, ?_⟩) (fun z => absurd (⟨f, hf, rfl⟩ : inN (nI f) 4) z)
  refine y_if_eq (tgt := 25) dX11_spans_4 (by decide) (fun h4 => absurd h4 (by decide)) (fun h4 => ?_)
  refine y_iload_n dX11_spans_7 rfl rfl ?_
  refine y_if_lt (tgt := 25) dX11_spans_8 (by decide) (fun h8 => absurd h8 (((in_lt (M := 1000) (by decide)).mp hv).1)) (fun h8 => ?_)
  refine y_iload_n dX11_spans_11 rfl rfl ?_
  refine y_sipush (v := 999) dX11_spans_12 (by decide) ?_
  refine y_icmp_gt (tgt := 25) dX11_spans_15 (by decide) (fun h15 => absurd h15 (Int32.not_lt.mpr ((in_le (M := 999) (by decide)).mp hv).2)) (fun h15 => ?_)
  refine y_iload_n dX11_spans_18 rfl rfl ?_
  refine y_isI1 dX11_spans_19 ms_X11_173 my_X11_isDoing (Or.inl rfl) ?_
  refine c_X11_isDoing (fun _ => ⟨_, rfl, ?_⟩) (fun z => absurd (⟨g, hg, rfl⟩ : inN (nI g) 4) z)
  refine y_if_ne (tgt := 27) dX11_spans_22 (by decide) (fun h22 => ?_) (fun h22 => absurd h22 (by decide))
  refine y_aload_n dX11_spans_27 rfl rfl ?_
  refine y_getr dX11_spans_28 gf_X11_29 sh_0 rfl ?_
  refine y_iload_n dX11_spans_31 rfl rfl ?_
  refine y_aaldN dX11_spans_32 (by decide) sh_4 rfl (dgA (k := g) (by omega)) (by decide) ?_
  refine y_geti dX11_spans_33 gf_X11_190 (dgI (k := g) (by omega)).1 rfl ?_
  refine y_if_eq (tgt := 47) dX11_spans_36 (by decide) (fun h36 => absurd h36 (by rw [t1]; decide)) (fun h36 => ?_)
  refine y_aload_n dX11_spans_39 rfl rfl ?_
  refine y_iload_n dX11_spans_40 rfl rfl ?_
  refine y_ivI1 dX11_spans_41 mv_X11_364 my_X11_lackOfLaw (Or.inl rfl) sh_0 ?_
  refine c_X11_lackOfLaw h rfl hf ⟨_, rfl, ?_⟩
  rw [h00]
  refine y_goto (tgt := 48) dX11_spans_44 (by decide) ?_
  refine y_ist11_5 dX11_spans_48 rfl ?_
  refine y_iload dX11_spans_50 rfl ?_
  refine y_if_eq (tgt := 62) dX11_spans_52 (by decide) (fun h52 => ?_) (fun h52 => absurd (by decide) h52)
  refine y_aload_n dX11_spans_62 rfl rfl ?_
  refine y_getr dX11_spans_63 gf_X11_85 sh_0 rfl ?_
  refine y_aload_n dX11_spans_66 rfl rfl ?_
  refine y_iload_n dX11_spans_67 rfl rfl ?_
  refine y_ivI1 dX11_spans_68 mv_X11_367 my_X11_bestLaw (Or.inl rfl) sh_0 ?_
  refine c_X11_bestLaw (f := f) h rfl hf h00 (fun m2 v1 v2 v3 => ⟨_, rfl, ?_⟩)
  rw [show lbF (fun l => oF m f l (slN m)) 81 = lbF O 81 from by rw [hO]; rfl]
  have l81 : lbF O 81 < 81 := lb81
  replace v3 : ∀ i, i < 81 → m2 135 i = O i := fun i hi => by rw [v3 i hi, hO]; rfl
  refine y_ialdN dX11_spans_71 sh_135 rfl (by first | omega | decide) (by decide) ?_
  rw [v3 _ l81]
  refine y_iload_n dX11_spans_72 rfl rfl ?_
  refine y_iadd dX11_spans_73 ?_
  refine y_ist11_6 dX11_spans_74 rfl ?_
  refine y_iconst (v := 0) dX11_spans_76 (by decide) ?_
  refine y_ist11_7 dX11_spans_77 rfl ?_
  refine y_iconst (v := 0) dX11_spans_79 (by decide) ?_
  refine y_ist11_8 dX11_spans_80 rfl ?_
  refine y_iconst (v := 0) dX11_spans_82 (by decide) ?_
  refine y_ist11_9 dX11_spans_83 rfl ?_
  refine cnt (P := fun l => ∀ m2, ∀ a10 : Option Value, frC m m2 → BK m2 → (∀ i, i < 81 → m2 135 i = O i) → sV (scT L xs) (d + 7) "LoafFall" cX11_spans 11 (some .int) Q 85 [some (.ref 0), some (.int (nI f)), some (.int v), some (.int (nI g)), some (.int mo), some (.int (nI 0)), some (.int (O (lbF O 81) + v)), some (.int (nI (spF O H (O (lbF O 81) + v) mo l).1)), some (.int (spF O H (O (lbF O 81) + v) mo l).2), some (.int (nI l)), a10] [] m2 n) 81 ?_ ?_ 0 (by omega) m2 none v1 v2 v3
  · intro m2 a10 v1 v2 v3
    refine y_iload dX11_spans_85 rfl ?_
    refine y_bipush (v := 81) dX11_spans_87 (by decide) ?_
    refine y_icmp_ge (tgt := 176) dX11_spans_89 (by decide) (fun h89 => ?_) (fun h89 => absurd (nI_le (a := 81) (b := 81) (Nat.le_refl _) (by decide)) h89)
    refine y_aload_n dX11_spans_176 rfl rfl ?_
    refine y_iload dX11_spans_177 rfl ?_
    refine y_puti dX11_spans_179 pf_X11_194 sh_0 rfl rfl rfl ?_
    refine y_iload dX11_spans_182 rfl ?_
    refine y_ireturn dX11_spans_184 rfl rfl ?_
    exact hQ m2 v1 v2
  · intro l hk hP
    intro m2 a10 v1 v2 v3
    refine y_iload dX11_spans_85 rfl ?_
    refine y_bipush (v := 81) dX11_spans_87 (by decide) ?_
    refine y_icmp_ge (tgt := 176) dX11_spans_89 (by decide) (fun h89 => absurd h89 (nI_ge (a := l) (b := 81) hk (by decide))) (fun h89 => ?_)
    refine y_aload_n dX11_spans_92 rfl rfl ?_
    refine y_getr dX11_spans_93 gf_X11_85 sh_0 rfl ?_
    refine y_iload dX11_spans_96 rfl ?_
    refine y_ialdN dX11_spans_98 sh_135 rfl (by first | omega | decide) (by decide) ?_
    rw [v3 l hk]
    refine y_iload dX11_spans_99 rfl ?_
    refine y_icmp_le (tgt := 107) dX11_spans_101 (by decide) (fun h101 => ?_) (fun h101 => ?_)
    · have l81 : l < 81 := hk
      refine y_aload_n dX11_spans_107 rfl rfl ?_
      refine y_iload_n dX11_spans_108 rfl rfl ?_
      refine y_iload dX11_spans_109 rfl ?_
      refine y_ivV2 dX11_spans_111 mv_X11_376 my_X11_takeLaw (Or.inl rfl) sh_0 ?_
      refine c_X11_takeLaw (f := f) (l := l) h v1 rfl hf rfl l81 z1 (fun m3 b1 b2 b3 => ⟨rfl, ?_⟩)
      have lf := lw_f (l := l) t2 l81
      have ld := lw_d (l := l) t3
      refine y_aload_n dX11_spans_114 rfl rfl ?_
      refine y_getr dX11_spans_115 gf_X11_61 sh_0 rfl ?_
      refine y_aload_n dX11_spans_118 rfl rfl ?_
      refine y_getr dX11_spans_119 gf_X11_73 sh_0 rfl ?_
      refine y_aload_n dX11_spans_122 rfl rfl ?_
      refine y_getr dX11_spans_123 gf_X11_29 sh_0 rfl ?_
      refine y_iload_n dX11_spans_126 rfl rfl ?_
      refine y_aaldN dX11_spans_127 (by decide) sh_4 rfl (dgA (k := g) (by omega)) (by decide) ?_
      refine y_ivR2 dX11_spans_128 mv_X11_303 my_X0_bake (Or.inl rfl) sh_35 ?_
      refine c_bakeV (R := lwR (bo m f g) l) fl125 (dgI hg) (by omega) (by omega) (b3 g) (DR_m (DR_lo t4 t3.2.1 (fun p h1 h2 => lw_lo (by omega))) (fun c h1 h2 => by rw [b1 c (by omega)]; exact v1 c (by omega))) lf ld (Or.inr b2) (Or.inr (by rw [b1 _ (by omega), v1 _ (by omega)]; exact t1)) (BK_m v2 (fun c h1 h2 => b1 c (by omega))) (fun m4 A a1 a2 a3 a4' a5 => ⟨_, rfl, ?_⟩)
      refine y_ivI0 dX11_spans_131 mv_X11_258 my_X2_heightNow (Or.inl rfl) dh43.1 ?_
      refine c_X2_heightNow dh43 a1 ⟨_, rfl, ?_⟩
      rw [show hgt A 12 = H l from by rw [hH]; exact a3.h]
      refine y_ist11_10 dX11_spans_134 rfl ?_
      refine y_iload dX11_spans_136 rfl ?_
      have sl := sp_le (O := O) (H := H) (bd := O (lbF O 81) + v) (mo := mo) l
      refine y_if_eq (tgt := 163) dX11_spans_138 (by decide) (fun h138 => ?_) (fun h138 => ?_)
      · try have n0 : (spF O H (O (lbF O 81) + v) mo l).1 = 0 := (nI_eq (b := 0) (by omega) (by decide)).mp h138
        refine y_iload dX11_spans_163 rfl ?_
        refine y_ist11_8 dX11_spans_165 rfl ?_
        refine y_iinc11_7 dX11_spans_167 (nI_1 _) rfl ?_
        refine y_iinc11_9 dX11_spans_170 (nI_1 _) rfl ?_
        refine y_goto (tgt := 85) dX11_spans_173 (by decide) ?_
        have key : ∀ w0 : Int32, w0 = (if (spF O H (O (lbF O 81) + v) mo l).1 = 0 then H l else if mo = 0 then lsr (spF O H (O (lbF O 81) + v) mo l).2 (H l) else gtr (spF O H (O (lbF O 81) + v) mo l).2 (H l)) → sV (scT L xs) (d + 7) "LoafFall" cX11_spans 11 (some .int) Q 85 [some (.ref 0), some (.int (nI f)), some (.int v), some (.int (nI g)), some (.int mo), some (.int (nI 0)), some (.int (O (lbF O 81) + v)), some (.int (nI ((spF O H (O (lbF O 81) + v) mo l).1 + 1))), some (.int w0), some (.int (nI (l + 1))), some (.int (H l))] [] m4 n := fun w0 e => by
          have := hP m4 (some (.int (H l))) (fun a ha => by rw [a5 a (by omega), b1 a (by omega)]; exact v1 a ha) a4' (fun i hi => by rw [a5 _ (by omega), b1 _ (by omega)]; exact v3 i hi)
          rw [sp_y h101 e] at this
          exact this
        refine key _ ?_
        first
          | exact (if_pos n0).symm
          | (rw [if_neg n0, if_pos h143]; first | exact (lsr_b (Int32.not_lt.mpr h160)).symm | exact (lsr_a (Int32.not_le.mp h160)).symm)
          | (rw [if_neg n0, if_neg h143]; first | exact (gtr_a h150).symm | exact (gtr_b h150).symm)
      · have n0 : ¬ (spF O H (O (lbF O 81) + v) mo l).1 = 0 := fun e => h138 (by rw [e]; rfl)
        refine y_iload dX11_spans_141 rfl ?_
        refine y_if_eq (tgt := 156) dX11_spans_143 (by decide) (fun h143 => ?_) (fun h143 => ?_)
        · refine y_iload dX11_spans_156 rfl ?_
          refine y_iload dX11_spans_158 rfl ?_
          refine y_icmp_ge (tgt := 167) dX11_spans_160 (by decide) (fun h160 => ?_) (fun h160 => ?_)
          · refine y_iinc11_7 dX11_spans_167 (nI_1 _) rfl ?_
            refine y_iinc11_9 dX11_spans_170 (nI_1 _) rfl ?_
            refine y_goto (tgt := 85) dX11_spans_173 (by decide) ?_
            have key : ∀ w0 : Int32, w0 = (if (spF O H (O (lbF O 81) + v) mo l).1 = 0 then H l else if mo = 0 then lsr (spF O H (O (lbF O 81) + v) mo l).2 (H l) else gtr (spF O H (O (lbF O 81) + v) mo l).2 (H l)) → sV (scT L xs) (d + 7) "LoafFall" cX11_spans 11 (some .int) Q 85 [some (.ref 0), some (.int (nI f)), some (.int v), some (.int (nI g)), some (.int mo), some (.int (nI 0)), some (.int (O (lbF O 81) + v)), some (.int (nI ((spF O H (O (lbF O 81) + v) mo l).1 + 1))), some (.int w0), some (.int (nI (l + 1))), some (.int (H l))] [] m4 n := fun w0 e => by
              have := hP m4 (some (.int (H l))) (fun a ha => by rw [a5 a (by omega), b1 a (by omega)]; exact v1 a ha) a4' (fun i hi => by rw [a5 _ (by omega), b1 _ (by omega)]; exact v3 i hi)
              rw [sp_y h101 e] at this
              exact this
            refine key _ ?_
            first
              | exact (if_pos n0).symm
              | (rw [if_neg n0, if_pos h143]; first | exact (lsr_b (Int32.not_lt.mpr h160)).symm | exact (lsr_a (Int32.not_le.mp h160)).symm)
              | (rw [if_neg n0, if_neg h143]; first | exact (gtr_a h150).symm | exact (gtr_b h150).symm)
          · try have n0 : (spF O H (O (lbF O 81) + v) mo l).1 = 0 := (nI_eq (b := 0) (by omega) (by decide)).mp h138
            refine y_iload dX11_spans_163 rfl ?_
            refine y_ist11_8 dX11_spans_165 rfl ?_
            refine y_iinc11_7 dX11_spans_167 (nI_1 _) rfl ?_
            refine y_iinc11_9 dX11_spans_170 (nI_1 _) rfl ?_
            refine y_goto (tgt := 85) dX11_spans_173 (by decide) ?_
            have key : ∀ w0 : Int32, w0 = (if (spF O H (O (lbF O 81) + v) mo l).1 = 0 then H l else if mo = 0 then lsr (spF O H (O (lbF O 81) + v) mo l).2 (H l) else gtr (spF O H (O (lbF O 81) + v) mo l).2 (H l)) → sV (scT L xs) (d + 7) "LoafFall" cX11_spans 11 (some .int) Q 85 [some (.ref 0), some (.int (nI f)), some (.int v), some (.int (nI g)), some (.int mo), some (.int (nI 0)), some (.int (O (lbF O 81) + v)), some (.int (nI ((spF O H (O (lbF O 81) + v) mo l).1 + 1))), some (.int w0), some (.int (nI (l + 1))), some (.int (H l))] [] m4 n := fun w0 e => by
              have := hP m4 (some (.int (H l))) (fun a ha => by rw [a5 a (by omega), b1 a (by omega)]; exact v1 a ha) a4' (fun i hi => by rw [a5 _ (by omega), b1 _ (by omega)]; exact v3 i hi)
              rw [sp_y h101 e] at this
              exact this
            refine key _ ?_
            first
              | exact (if_pos n0).symm
              | (rw [if_neg n0, if_pos h143]; first | exact (lsr_b (Int32.not_lt.mpr h160)).symm | exact (lsr_a (Int32.not_le.mp h160)).symm)
              | (rw [if_neg n0, if_neg h143]; first | exact (gtr_a h150).symm | exact (gtr_b h150).symm)
        · refine y_iload dX11_spans_146 rfl ?_
          refine y_iload dX11_spans_148 rfl ?_
          refine y_icmp_le (tgt := 167) dX11_spans_150 (by decide) (fun h150 => ?_) (fun h150 => ?_)
          · refine y_iinc11_7 dX11_spans_167 (nI_1 _) rfl ?_
            refine y_iinc11_9 dX11_spans_170 (nI_1 _) rfl ?_
            refine y_goto (tgt := 85) dX11_spans_173 (by decide) ?_
            have key : ∀ w0 : Int32, w0 = (if (spF O H (O (lbF O 81) + v) mo l).1 = 0 then H l else if mo = 0 then lsr (spF O H (O (lbF O 81) + v) mo l).2 (H l) else gtr (spF O H (O (lbF O 81) + v) mo l).2 (H l)) → sV (scT L xs) (d + 7) "LoafFall" cX11_spans 11 (some .int) Q 85 [some (.ref 0), some (.int (nI f)), some (.int v), some (.int (nI g)), some (.int mo), some (.int (nI 0)), some (.int (O (lbF O 81) + v)), some (.int (nI ((spF O H (O (lbF O 81) + v) mo l).1 + 1))), some (.int w0), some (.int (nI (l + 1))), some (.int (H l))] [] m4 n := fun w0 e => by
              have := hP m4 (some (.int (H l))) (fun a ha => by rw [a5 a (by omega), b1 a (by omega)]; exact v1 a ha) a4' (fun i hi => by rw [a5 _ (by omega), b1 _ (by omega)]; exact v3 i hi)
              rw [sp_y h101 e] at this
              exact this
            refine key _ ?_
            first
              | exact (if_pos n0).symm
              | (rw [if_neg n0, if_pos h143]; first | exact (lsr_b (Int32.not_lt.mpr h160)).symm | exact (lsr_a (Int32.not_le.mp h160)).symm)
              | (rw [if_neg n0, if_neg h143]; first | exact (gtr_a h150).symm | exact (gtr_b h150).symm)
          · refine y_goto (tgt := 163) dX11_spans_153 (by decide) ?_
            try have n0 : (spF O H (O (lbF O 81) + v) mo l).1 = 0 := (nI_eq (b := 0) (by omega) (by decide)).mp h138
            refine y_iload dX11_spans_163 rfl ?_
            refine y_ist11_8 dX11_spans_165 rfl ?_
            refine y_iinc11_7 dX11_spans_167 (nI_1 _) rfl ?_
            refine y_iinc11_9 dX11_spans_170 (nI_1 _) rfl ?_
            refine y_goto (tgt := 85) dX11_spans_173 (by decide) ?_
            have key : ∀ w0 : Int32, w0 = (if (spF O H (O (lbF O 81) + v) mo l).1 = 0 then H l else if mo = 0 then lsr (spF O H (O (lbF O 81) + v) mo l).2 (H l) else gtr (spF O H (O (lbF O 81) + v) mo l).2 (H l)) → sV (scT L xs) (d + 7) "LoafFall" cX11_spans 11 (some .int) Q 85 [some (.ref 0), some (.int (nI f)), some (.int v), some (.int (nI g)), some (.int mo), some (.int (nI 0)), some (.int (O (lbF O 81) + v)), some (.int (nI ((spF O H (O (lbF O 81) + v) mo l).1 + 1))), some (.int w0), some (.int (nI (l + 1))), some (.int (H l))] [] m4 n := fun w0 e => by
              have := hP m4 (some (.int (H l))) (fun a ha => by rw [a5 a (by omega), b1 a (by omega)]; exact v1 a ha) a4' (fun i hi => by rw [a5 _ (by omega), b1 _ (by omega)]; exact v3 i hi)
              rw [sp_y h101 e] at this
              exact this
            refine key _ ?_
            first
              | exact (if_pos n0).symm
              | (rw [if_neg n0, if_pos h143]; first | exact (lsr_b (Int32.not_lt.mpr h160)).symm | exact (lsr_a (Int32.not_le.mp h160)).symm)
              | (rw [if_neg n0, if_neg h143]; first | exact (gtr_a h150).symm | exact (gtr_b h150).symm)
    · refine y_goto (tgt := 170) dX11_spans_104 (by decide) ?_
      refine y_iinc11_9 dX11_spans_170 (nI_1 _) rfl ?_
      refine y_goto (tgt := 85) dX11_spans_173 (by decide) ?_
      have := hP m2 a10 v1 v2 v3
      rw [sp_n h101] at this
      exact this
set_option maxHeartbeats 1000000 in
theorem c_X12_spans_ok {L : Nat} {xs : Nat → Int32} {d : Nat} {m : sM} {n : sN} {Q : sQ} {f g : Nat} {x z v mo : Int32} (hx : x = nI f) (hf : f < 4) (hv : inN v 1000) (hz : z = nI g) (hg : g < 4) (hs : slR m (slN m)) (h0 : nwL m f (m 248 g) = 0) (hD : LWp m f = 0 → ∀ i, i < slN m → flR (bo m f (dS m i)) ∧ dOK (bo m f (dS m i))) (hg2 : flR (bo m f g) ∧ dOK (bo m f g)) (hQ : ∀ M, frM m M → Q (some (.int (nI (spF (OL m f) (HL m f g) (OL m f (lbF (OL m f) 81) + v) mo 81).1))) (tellsM M (spF (OL m f) (HL m f g) (OL m f (lbF (OL m f) 81) + v) mo 81).2) n) : sRun (scT L xs) (d + 11) yX12_spans cX12_spans 11 (some .int) [.ref 239, .int x, .int v, .int z, .int mo] m n Q := by
  subst hx hz
  obtain ⟨O, hO⟩ : ∃ O, O = OL m f := ⟨_, rfl⟩
  obtain ⟨H, hH⟩ : ∃ H : Nat → Int32, H = HL m f g := ⟨_, rfl⟩
  rw [← hO, ← hH] at hQ
  refine y_run (own := "LoafFallModel") rfl (by decide +kernel) (Nat.le_of_ble_eq_true rfl) rfl ?_
  refine y_iload_n dX12_spans_0 rfl rfl ?_
  refine y_isI1 dX12_spans_1 ms_X12_151 my_X12_isPlace (Or.inl rfl) ?_
  refine c_X12_isPlace (fun _ => ⟨_, rfl, ?_⟩) (fun z => absurd (⟨f, hf, rfl⟩ : inN (nI f) 4) z)
  refine y_if_eq (tgt := 25) dX12_spans_4 (by decide) (fun h4 => absurd h4 (by decide)) (fun h4 => ?_)
  refine y_iload_n dX12_spans_7 rfl rfl ?_
  refine y_iconst (v := 0) dX12_spans_8 (by decide) ?_
  refine y_sipush (v := 999) dX12_spans_9 (by decide) ?_
  refine y_isI3 dX12_spans_12 ms_X12_86 my_X12_in (Or.inl rfl) ?_
  refine c_X12_in (fun _ _ => ⟨_, rfl, ?_⟩) (fun a => absurd ((in_le (M := 999) (by decide)).mp hv) a)
  refine y_if_eq (tgt := 25) dX12_spans_15 (by decide) (fun h15 => absurd h15 (by decide)) (fun h15 => ?_)
  refine y_iload_n dX12_spans_18 rfl rfl ?_
  refine y_isI1 dX12_spans_19 ms_X12_151 my_X12_isPlace (Or.inl rfl) ?_
  refine c_X12_isPlace (fun _ => ⟨_, rfl, ?_⟩) (fun z => absurd (⟨g, hg, rfl⟩ : inN (nI g) 4) z)
  refine y_if_ne (tgt := 27) dX12_spans_22 (by decide) (fun h22 => ?_) (fun h22 => absurd h22 (by decide))
  refine y_aload_n dX12_spans_27 rfl rfl ?_
  refine y_iload_n dX12_spans_28 rfl rfl ?_
  refine y_aload_n dX12_spans_29 rfl rfl ?_
  refine y_getr dX12_spans_30 gf_X12_36 sh_239 rfl ?_
  refine y_iload_n dX12_spans_33 rfl rfl ?_
  refine y_zaldN dX12_spans_34 sh_248 rfl (by first | omega | decide) (by decide) ?_
  refine y_ivI2 dX12_spans_35 mv_X12_319 my_X12_needLaws (Or.inl rfl) sh_239 ?_
  refine c_X12_needLaws (f := f) (t := m 248 g) rfl hf hs hD (fun z => absurd h0 z) (fun _ B M hW b1 b2 => ⟨_, rfl, ?_⟩)
  replace b2 : ∀ i, i < 81 → B 260 i = O i := fun i hi => by rw [b2 i hi, hO]; rfl
  have m60 : M 260 = B 260 := hW.o (by omega) (by omega) (by omega)
  refine y_ist11_5 dX12_spans_38 rfl ?_
  refine y_iload dX12_spans_40 rfl ?_
  refine y_if_ge (tgt := 48) dX12_spans_42 (by decide) (fun h42 => ?_) (fun h42 => absurd (by decide) h42)
  refine y_iconst (v := 0) dX12_spans_48 (by decide) ?_
  refine y_ist11_6 dX12_spans_49 rfl ?_
  refine y_iconst (v := 0) dX12_spans_51 (by decide) ?_
  refine y_ist11_7 dX12_spans_52 rfl ?_
  refine y_aload_n dX12_spans_54 rfl rfl ?_
  refine y_getr dX12_spans_55 gf_X12_72 sh_239 rfl ?_
  refine y_aload_n dX12_spans_58 rfl rfl ?_
  refine y_ivI0 dX12_spans_59 mv_X12_322 my_X12_leastLaw (Or.inl rfl) sh_239 ?_
  refine c_X12_leastLaw (O := O) (fun i hi => by rw [m60]; exact b2 i hi) ⟨_, rfl, ?_⟩
  have l81 : lbF O 81 < 81 := lb81
  refine y_ialdN dX12_spans_62 sh_260 rfl (by first | omega | decide) (by decide) ?_
  rw [m60, b2 _ l81]
  refine y_ist11_8 dX12_spans_63 rfl ?_
  refine y_iconst (v := 0) dX12_spans_65 (by decide) ?_
  refine y_ist11_9 dX12_spans_66 rfl ?_
  refine cnt (P := fun l => ∀ M, ∀ a10 : Option Value, WM B M → sV (scT L xs) (d + 10) "LoafFallModel" cX12_spans 11 (some .int) Q 68 [some (.ref 239), some (.int (nI f)), some (.int v), some (.int (nI g)), some (.int mo), some (.int 0), some (.int (nI (spF O H (O (lbF O 81) + v) mo l).1)), some (.int (spF O H (O (lbF O 81) + v) mo l).2), some (.int (O (lbF O 81))), some (.int (nI l)), a10] [] M n) 81 ?_ ?_ 0 (by omega) M none hW
  · intro M a10 hW
    refine y_iload dX12_spans_68 rfl ?_
    refine y_bipush (v := 81) dX12_spans_70 (by decide) ?_
    refine y_icmp_ge (tgt := 150) dX12_spans_72 (by decide) (fun h72 => ?_) (fun h72 => absurd (nI_le (a := 81) (b := 81) (Nat.le_refl _) (by decide)) h72)
    refine y_aload_n dX12_spans_150 rfl rfl ?_
    refine y_iload dX12_spans_151 rfl ?_
    refine y_iload dX12_spans_153 rfl ?_
    refine y_ivI2 dX12_spans_155 mv_X12_108 my_X12_tells (Or.inl rfl) sh_239 ?_
    refine c_X12_tells ⟨_, rfl, ?_⟩
    refine y_ireturn dX12_spans_158 rfl rfl ?_
    exact hQ M (b1.fr.tr hW.fr)
  · intro l hk hP
    intro M a10 hW
    have m60 : M 260 = B 260 := hW.o (by omega) (by omega) (by omega)
    refine y_iload dX12_spans_68 rfl ?_
    refine y_bipush (v := 81) dX12_spans_70 (by decide) ?_
    refine y_icmp_ge (tgt := 150) dX12_spans_72 (by decide) (fun h72 => absurd h72 (nI_ge (a := l) (b := 81) hk (by decide))) (fun h72 => ?_)
    refine y_aload_n dX12_spans_75 rfl rfl ?_
    refine y_getr dX12_spans_76 gf_X12_72 sh_239 rfl ?_
    refine y_iload dX12_spans_79 rfl ?_
    refine y_ialdN dX12_spans_81 sh_260 rfl (by first | omega | decide) (by decide) ?_
    rw [m60, b2 l hk]
    refine y_iload dX12_spans_82 rfl ?_
    refine y_iload_n dX12_spans_84 rfl rfl ?_
    refine y_iadd dX12_spans_85 ?_
    refine y_icmp_gt (tgt := 144) dX12_spans_86 (by decide) (fun h86 => ?_) (fun h86 => ?_)
    · refine y_iinc11_9 dX12_spans_144 (nI_1 _) rfl ?_
      refine y_goto (tgt := 68) dX12_spans_147 (by decide) ?_
      first
        | (rw [sp_n (Int32.not_le.mpr h86)] at hP; exact hP _ _ hW)
        | (have key : ∀ w0 : Int32, w0 = (if (spF O H (O (lbF O 81) + v) mo l).1 = 0 then H l else if mo = 0 then lsr (spF O H (O (lbF O 81) + v) mo l).2 (H l) else gtr (spF O H (O (lbF O 81) + v) mo l).2 (H l)) → sV (scT L xs) (d + 10) "LoafFallModel" cX12_spans 11 (some .int) Q 68 [some (.ref 239), some (.int (nI f)), some (.int v), some (.int (nI g)), some (.int mo), some (.int 0), some (.int (nI ((spF O H (O (lbF O 81) + v) mo l).1 + 1))), some (.int w0), some (.int (O (lbF O 81))), some (.int (nI (l + 1))), some (.int (H l))] [] (stR (wkM B 1316) h' 1316 (BV (lwR (bothR B f g X2) l))) n := fun w0 e => by
             have := hP _ (some (.int (H l))) (WM.st (m0 := B) (h := h') (R := BV (lwR (bothR B f g X2) l)))
             rw [sp_y (Int32.not_lt.mp h86) e] at this
             exact this
           refine key _ ?_
           first
             | exact (if_pos n0).symm
             | (rw [if_neg n0, if_pos h119])
             | (rw [if_neg n0, if_neg h119]))
    · refine y_aload_n dX12_spans_89 rfl rfl ?_
      refine y_iload dX12_spans_90 rfl ?_
      refine y_iload_n dX12_spans_92 rfl rfl ?_
      refine y_iload_n dX12_spans_93 rfl rfl ?_
      refine y_ivV3 dX12_spans_94 mv_X12_316 my_X12_layLaw (Or.inl rfl) sh_239 ?_
      refine c_layLaw (l := l) (f := f) (g := g) hW rfl hk rfl hf rfl hg (fun hh X2 => ⟨rfl, ?_⟩)
      rw [show upd (upd (bothR B f g X2) 0 (nI (1 + l / 9))) 1 (nI (10 + 10 * (l % 9))) = lwR (bothR B f g X2) l from rfl]
      have ebB : bo B f g = bo m f g := bo_m (b1 _ (by omega) (by omega)) (b1 _ (by omega) (by omega)) (b1 _ (by omega) (by omega))
      have e36 : ∀ p, p < 36 → lwR (bothR B f g X2) l p = lwR (bo m f g) l p := fun p hp => by
        unfold lwR
        rw [upd_ap, upd_ap, upd_ap, upd_ap, bo_X hp, ebB]
      have hdm := lw_d (l := l) hg2.2
      have hdX : dOK (lwR (bothR B f g X2) l) := d_eq hdm (fun p h1 h2 => e36 p h2)
      have eH : hgt (BV (lwR (bothR B f g X2) l)) 12 = HL m f g l := HV_congr hdm hdX (eqD_36 hdm.2.1 e36)
      refine y_aload_n dX12_spans_97 rfl rfl ?_
      refine y_ivV0 dX12_spans_98 mv_X12_263 my_X12_bakes (Or.inl rfl) sh_239 ?_
      refine c_bakesW (wk_b (by omega)) hdX (fun h' => ⟨rfl, ?_⟩)
      refine y_aload_n dX12_spans_101 rfl rfl ?_
      refine y_ivI0 dX12_spans_102 mv_X12_241 my_X12_heightNow (Or.inl rfl) sh_239 ?_
      refine c_X12_heightNow (wk_b (by omega)) ⟨_, rfl, ?_⟩
      rw [show hgt (BV (lwR (bothR B f g X2) l)) 12 = H l from by rw [hH]; exact eH]
      have sl := sp_le (O := O) (H := H) (bd := O (lbF O 81) + v) (mo := mo) l
      refine y_ist11_10 dX12_spans_105 rfl ?_
      refine y_iload dX12_spans_107 rfl ?_
      refine y_if_ne (tgt := 117) dX12_spans_109 (by decide) (fun h109 => ?_) (fun h109 => ?_)
      · have n0 : ¬ (spF O H (O (lbF O 81) + v) mo l).1 = 0 := fun e => h109 (by rw [e]; rfl)
        refine y_iload dX12_spans_117 rfl ?_
        refine y_if_eq (tgt := 132) dX12_spans_119 (by decide) (fun h119 => ?_) (fun h119 => ?_)
        · refine y_iload dX12_spans_132 rfl ?_
          refine y_iload dX12_spans_134 rfl ?_
          refine y_isI2 dX12_spans_136 ms_X12_200 my_X12_lesser (Or.inl rfl) ?_
          refine c_X12_lesser ⟨_, rfl, ?_⟩
          refine y_ist11_7 dX12_spans_139 rfl ?_
          refine y_iinc11_6 dX12_spans_141 (nI_1 _) rfl ?_
          refine y_iinc11_9 dX12_spans_144 (nI_1 _) rfl ?_
          refine y_goto (tgt := 68) dX12_spans_147 (by decide) ?_
          first
            | (rw [sp_n (Int32.not_le.mpr h86)] at hP; exact hP _ _ hW)
            | (have key : ∀ w0 : Int32, w0 = (if (spF O H (O (lbF O 81) + v) mo l).1 = 0 then H l else if mo = 0 then lsr (spF O H (O (lbF O 81) + v) mo l).2 (H l) else gtr (spF O H (O (lbF O 81) + v) mo l).2 (H l)) → sV (scT L xs) (d + 10) "LoafFallModel" cX12_spans 11 (some .int) Q 68 [some (.ref 239), some (.int (nI f)), some (.int v), some (.int (nI g)), some (.int mo), some (.int 0), some (.int (nI ((spF O H (O (lbF O 81) + v) mo l).1 + 1))), some (.int w0), some (.int (O (lbF O 81))), some (.int (nI (l + 1))), some (.int (H l))] [] (stR (wkM B 1316) h' 1316 (BV (lwR (bothR B f g X2) l))) n := fun w0 e => by
                 have := hP _ (some (.int (H l))) (WM.st (m0 := B) (h := h') (R := BV (lwR (bothR B f g X2) l)))
                 rw [sp_y (Int32.not_lt.mp h86) e] at this
                 exact this
               refine key _ ?_
               first
                 | exact (if_pos n0).symm
                 | (rw [if_neg n0, if_pos h119])
                 | (rw [if_neg n0, if_neg h119]))
        · refine y_iload dX12_spans_122 rfl ?_
          refine y_iload dX12_spans_124 rfl ?_
          refine y_isI2 dX12_spans_126 ms_X12_197 my_X12_greater (Or.inl rfl) ?_
          refine c_X12_greater ⟨_, rfl, ?_⟩
          refine y_goto (tgt := 139) dX12_spans_129 (by decide) ?_
          refine y_ist11_7 dX12_spans_139 rfl ?_
          refine y_iinc11_6 dX12_spans_141 (nI_1 _) rfl ?_
          refine y_iinc11_9 dX12_spans_144 (nI_1 _) rfl ?_
          refine y_goto (tgt := 68) dX12_spans_147 (by decide) ?_
          first
            | (rw [sp_n (Int32.not_le.mpr h86)] at hP; exact hP _ _ hW)
            | (have key : ∀ w0 : Int32, w0 = (if (spF O H (O (lbF O 81) + v) mo l).1 = 0 then H l else if mo = 0 then lsr (spF O H (O (lbF O 81) + v) mo l).2 (H l) else gtr (spF O H (O (lbF O 81) + v) mo l).2 (H l)) → sV (scT L xs) (d + 10) "LoafFallModel" cX12_spans 11 (some .int) Q 68 [some (.ref 239), some (.int (nI f)), some (.int v), some (.int (nI g)), some (.int mo), some (.int 0), some (.int (nI ((spF O H (O (lbF O 81) + v) mo l).1 + 1))), some (.int w0), some (.int (O (lbF O 81))), some (.int (nI (l + 1))), some (.int (H l))] [] (stR (wkM B 1316) h' 1316 (BV (lwR (bothR B f g X2) l))) n := fun w0 e => by
                 have := hP _ (some (.int (H l))) (WM.st (m0 := B) (h := h') (R := BV (lwR (bothR B f g X2) l)))
                 rw [sp_y (Int32.not_lt.mp h86) e] at this
                 exact this
               refine key _ ?_
               first
                 | exact (if_pos n0).symm
                 | (rw [if_neg n0, if_pos h119])
                 | (rw [if_neg n0, if_neg h119]))
      · have n0 : (spF O H (O (lbF O 81) + v) mo l).1 = 0 := (nI_eq (b := 0) (by omega) (by decide)).mp h109
        refine y_iload dX12_spans_112 rfl ?_
        refine y_goto (tgt := 139) dX12_spans_114 (by decide) ?_
        refine y_ist11_7 dX12_spans_139 rfl ?_
        refine y_iinc11_6 dX12_spans_141 (nI_1 _) rfl ?_
        refine y_iinc11_9 dX12_spans_144 (nI_1 _) rfl ?_
        refine y_goto (tgt := 68) dX12_spans_147 (by decide) ?_
        first
          | (rw [sp_n (Int32.not_le.mpr h86)] at hP; exact hP _ _ hW)
          | (have key : ∀ w0 : Int32, w0 = (if (spF O H (O (lbF O 81) + v) mo l).1 = 0 then H l else if mo = 0 then lsr (spF O H (O (lbF O 81) + v) mo l).2 (H l) else gtr (spF O H (O (lbF O 81) + v) mo l).2 (H l)) → sV (scT L xs) (d + 10) "LoafFallModel" cX12_spans 11 (some .int) Q 68 [some (.ref 239), some (.int (nI f)), some (.int v), some (.int (nI g)), some (.int mo), some (.int 0), some (.int (nI ((spF O H (O (lbF O 81) + v) mo l).1 + 1))), some (.int w0), some (.int (O (lbF O 81))), some (.int (nI (l + 1))), some (.int (H l))] [] (stR (wkM B 1316) h' 1316 (BV (lwR (bothR B f g X2) l))) n := fun w0 e => by
               have := hP _ (some (.int (H l))) (WM.st (m0 := B) (h := h') (R := BV (lwR (bothR B f g X2) l)))
               rw [sp_y (Int32.not_lt.mp h86) e] at this
               exact this
             refine key _ ?_
             first
               | exact (if_pos n0).symm
               | (rw [if_neg n0, if_pos h119])
               | (rw [if_neg n0, if_neg h119]))
set_option maxHeartbeats 2000000 in
theorem p_spans {L : Nat} {xs : Nat → Int32} {d : Nat} {m : sM} {n : sN} {x v z mo : Int32} (h : Rel m n) : PI L xs (d + 11) yX11_spans cX11_spans 11 yX12_spans cX12_spans 11 [.int x, .int v, .int z, .int mo] m n := by
  unfold PI
  by_cases hx : inN x 4
  · by_cases hv : inN v 1000
    · by_cases hz : inN z 4
      · obtain ⟨f, hf, rfl⟩ := hx
        have hx : inN (nI f) 4 := ⟨f, hf, rfl⟩
        obtain ⟨g, hg, rfl⟩ := hz
        have hz : inN (nI g) 4 := ⟨g, hg, rfl⟩
        by_cases h0 : nwL m f (m 248 g) = 0
        · obtain ⟨d1, h00⟩ := nw_0 h0
          have z1 := (LW_0 h00).1
          have hg2 : flR (bo m f g) ∧ dOK (bo m f g) := by
            obtain ⟨-, -, t3⟩ := both_there h hf hg z1 d1
            exact ⟨(t3 _).1, (t3 _).2.1⟩
          refine c_X11_spans_ok h rfl hf hv rfl hg h0 (fun m' v1 v2 => ⟨_, rfl, ?_⟩)
          generalize em : tellM m' ((spF (OL m f) (HL m f g) (OL m f (lbF (OL m f) 81) + v) mo 81).2) = m1
          have gg : ∀ a, 137 ≤ a → m1 a = m a := fun a ha => by rw [← em, tell_o (by omega)]; exact v1 a (by omega)
          have g9 : m1 239 28 = m 239 28 := by rw [gg _ (by omega)]
          have esn : slN m1 = slN m := by unfold slN; rw [g9]
          have eb : ∀ f g, bo m1 f g = bo m f g := fun f g => bo_m (gg _ (by omega)) (gg _ (by omega)) (gg _ (by omega))
          have ed : ∀ i, dS m1 i = dS m i := fun i => dS_m (gg _ (by omega))
          have eN : ∀ t, nwL m1 f t = nwL m f t := fun t => nw_m (gg _ (by omega)) (gg _ (by omega)) (gg _ (by omega)) g9
          have eW : LWp m1 f = LWp m f := LWp_m (gg _ (by omega)) (gg _ (by omega)) (gg _ (by omega)) g9
          have eO : OL m1 f = OL m f := OL_m (gg _ (by omega)) (gg _ (by omega)) (gg _ (by omega)) (gg _ (by omega)) g9
          refine c_X12_spans_ok rfl hf hv rfl hg (by rw [esn]; exact slR_m h.slr g9 (gg _ (by omega))) (by rw [eN, gg 248 (by omega)]; exact h0) (fun z i hi => by rw [ed, eb]; exact lwD h hf (eW.symm.trans z) i (by rw [← esn]; exact hi)) (by rw [eb]; exact hg2) (fun M f1 => ?_)
          rw [eO, show HL m1 f g = HL m f g from by funext l; exact HL_m (gg _ (by omega)) (gg _ (by omega)) (gg _ (by omega))]
          rw [← em] at f1
          exact ⟨rfl, Rel_tell h v1 v2 f1⟩
        · by_cases d1 : m 248 g = 0
          · have d2 : m (166 + 4 * g) 4 = 0 := by
              rcases h.d g hg with ⟨a, b⟩ | ⟨a, b, -⟩
              · exact b
              · exact absurd d1 (by rw [a]; decide)
            have hn : nwL m f (m 248 g) = 1 := if_pos d1
            refine y_run (own := "LoafFall") rfl (by decide +kernel) (Nat.le_of_ble_eq_true rfl) rfl ?_
            refine y_iload_n dX11_spans_0 rfl rfl ?_
            refine y_isI1 dX11_spans_1 ms_X11_160 my_X11_isFlour (Or.inl rfl) ?_
            refine c_X11_isFlour (fun _ => ⟨_, rfl, ?_⟩) (fun z => absurd hx z)
            refine y_if_eq (tgt := 25) dX11_spans_4 (by decide) (fun h4 => absurd h4 (by decide)) (fun h4 => ?_)
            refine y_iload_n dX11_spans_7 rfl rfl ?_
            refine y_if_lt (tgt := 25) dX11_spans_8 (by decide) (fun h8 => absurd h8 (((in_lt (M := 1000) (by decide)).mp hv).1)) (fun h8 => ?_)
            refine y_iload_n dX11_spans_11 rfl rfl ?_
            refine y_sipush (v := 999) dX11_spans_12 (by decide) ?_
            refine y_icmp_gt (tgt := 25) dX11_spans_15 (by decide) (fun h15 => absurd h15 (Int32.not_lt.mpr ((in_le (M := 999) (by decide)).mp hv).2)) (fun h15 => ?_)
            refine y_iload_n dX11_spans_18 rfl rfl ?_
            refine y_isI1 dX11_spans_19 ms_X11_173 my_X11_isDoing (Or.inl rfl) ?_
            refine c_X11_isDoing (fun _ => ⟨_, rfl, ?_⟩) (fun z => absurd hz z)
            refine y_if_ne (tgt := 27) dX11_spans_22 (by decide) (fun h22 => ?_) (fun h22 => absurd h22 (by decide))
            refine y_aload_n dX11_spans_27 rfl rfl ?_
            refine y_getr dX11_spans_28 gf_X11_29 sh_0 rfl ?_
            refine y_iload_n dX11_spans_31 rfl rfl ?_
            refine y_aaldN dX11_spans_32 (by decide) sh_4 rfl (dgA (k := g) (by omega)) (by decide) ?_
            refine y_geti dX11_spans_33 gf_X11_190 (dgI (k := g) (by omega)).1 rfl ?_
            refine y_if_eq (tgt := 47) dX11_spans_36 (by decide) (fun h36 => ?_) (fun h36 => absurd d2 h36)
            refine y_iconst (v := 1) dX11_spans_47 (by decide) ?_
            refine y_ist11_5 dX11_spans_48 rfl ?_
            refine y_iload dX11_spans_50 rfl ?_
            refine y_if_eq (tgt := 62) dX11_spans_52 (by decide) (fun h52 => absurd h52 (by decide)) (fun h52 => ?_)
            refine y_aload_n dX11_spans_55 rfl rfl ?_
            refine y_iload dX11_spans_56 rfl ?_
            refine y_ivI1 dX11_spans_58 mv_X11_105 my_X11_found (Or.inl rfl) sh_0 ?_
            refine c_X11_found (f := 1) rfl (by omega) (by omega) ⟨_, rfl, ?_⟩
            refine y_ireturn dX11_spans_61 rfl rfl ?_
            refine ⟨_, rfl, ?_⟩
            obtain ⟨m1, em⟩ : ∃ m1, m1 = foundM m (1) := ⟨_, rfl⟩
            rw [← em]
            have gg : ∀ a, 138 ≤ a → m1 a = m a := fun a ha => by rw [em]; exact found_o (by omega) (by omega)
            have g9 : m1 239 28 = m 239 28 := by rw [gg _ (by omega)]
            have esn : slN m1 = slN m := by unfold slN; rw [g9]
            have eb : ∀ f g, bo m1 f g = bo m f g := fun f g => bo_m (gg _ (by omega)) (gg _ (by omega)) (gg _ (by omega))
            have ed : ∀ i, dS m1 i = dS m i := fun i => dS_m (gg _ (by omega))
            have eN : ∀ t, nwL m1 f t = nwL m f t := fun t => nw_m (gg _ (by omega)) (gg _ (by omega)) (gg _ (by omega)) g9
            have eW : LWp m1 f = LWp m f := LWp_m (gg _ (by omega)) (gg _ (by omega)) (gg _ (by omega)) g9
            refine y_run (own := "LoafFallModel") rfl (by decide +kernel) (Nat.le_of_ble_eq_true rfl) rfl ?_
            refine y_iload_n dX12_spans_0 rfl rfl ?_
            refine y_isI1 dX12_spans_1 ms_X12_151 my_X12_isPlace (Or.inl rfl) ?_
            refine c_X12_isPlace (fun _ => ⟨_, rfl, ?_⟩) (fun z => absurd hx z)
            refine y_if_eq (tgt := 25) dX12_spans_4 (by decide) (fun h4 => absurd h4 (by decide)) (fun h4 => ?_)
            refine y_iload_n dX12_spans_7 rfl rfl ?_
            refine y_iconst (v := 0) dX12_spans_8 (by decide) ?_
            refine y_sipush (v := 999) dX12_spans_9 (by decide) ?_
            refine y_isI3 dX12_spans_12 ms_X12_86 my_X12_in (Or.inl rfl) ?_
            refine c_X12_in (fun _ _ => ⟨_, rfl, ?_⟩) (fun a => absurd ((in_le (M := 999) (by decide)).mp hv) a)
            refine y_if_eq (tgt := 25) dX12_spans_15 (by decide) (fun h15 => absurd h15 (by decide)) (fun h15 => ?_)
            refine y_iload_n dX12_spans_18 rfl rfl ?_
            refine y_isI1 dX12_spans_19 ms_X12_151 my_X12_isPlace (Or.inl rfl) ?_
            refine c_X12_isPlace (fun _ => ⟨_, rfl, ?_⟩) (fun z => absurd hz z)
            refine y_if_ne (tgt := 27) dX12_spans_22 (by decide) (fun h22 => ?_) (fun h22 => absurd h22 (by decide))
            refine y_aload_n dX12_spans_27 rfl rfl ?_
            refine y_iload_n dX12_spans_28 rfl rfl ?_
            refine y_aload_n dX12_spans_29 rfl rfl ?_
            refine y_getr dX12_spans_30 gf_X12_36 sh_239 rfl ?_
            refine y_iload_n dX12_spans_33 rfl rfl ?_
            refine y_zaldN dX12_spans_34 sh_248 rfl (by first | omega | decide) (by decide) ?_
            refine y_ivI2 dX12_spans_35 mv_X12_319 my_X12_needLaws (Or.inl rfl) sh_239 ?_
            refine c_X12_needLaws (f := f) (s := slN m1) (t := m1 248 g) rfl hf (by rw [esn]; exact slR_m h.slr g9 (gg _ (by omega))) (fun z i hi => by rw [ed, eb]; exact lwD h hf (eW.symm.trans z) i (by rw [← esn]; exact hi)) (fun _ => ⟨_, rfl, ?_⟩) (fun z => absurd ((eN _).symm.trans z) (by rw [gg 248 (by omega)]; exact h0))
            refine y_ist11_5 dX12_spans_38 rfl ?_
            refine y_iload dX12_spans_40 rfl ?_
            refine y_if_ge (tgt := 48) dX12_spans_42 (by decide) (fun h42 => absurd h42 (by decide)) (fun h42 => ?_)
            refine y_iload dX12_spans_45 rfl ?_
            refine y_ireturn dX12_spans_47 rfl rfl ?_
            rw [eN, gg 248 (by omega), hn, em]
            exact ⟨rfl, Rel_met h⟩
          · have d2 : ¬ m (166 + 4 * g) 4 = 0 := fun z => d1 ((h.dx hg).1 z)
            have hn : nwL m f (m 248 g) = LWp m f := if_neg d1
            refine y_run (own := "LoafFall") rfl (by decide +kernel) (Nat.le_of_ble_eq_true rfl) rfl ?_
            refine y_iload_n dX11_spans_0 rfl rfl ?_
            refine y_isI1 dX11_spans_1 ms_X11_160 my_X11_isFlour (Or.inl rfl) ?_
            refine c_X11_isFlour (fun _ => ⟨_, rfl, ?_⟩) (fun z => absurd hx z)
            refine y_if_eq (tgt := 25) dX11_spans_4 (by decide) (fun h4 => absurd h4 (by decide)) (fun h4 => ?_)
            refine y_iload_n dX11_spans_7 rfl rfl ?_
            refine y_if_lt (tgt := 25) dX11_spans_8 (by decide) (fun h8 => absurd h8 (((in_lt (M := 1000) (by decide)).mp hv).1)) (fun h8 => ?_)
            refine y_iload_n dX11_spans_11 rfl rfl ?_
            refine y_sipush (v := 999) dX11_spans_12 (by decide) ?_
            refine y_icmp_gt (tgt := 25) dX11_spans_15 (by decide) (fun h15 => absurd h15 (Int32.not_lt.mpr ((in_le (M := 999) (by decide)).mp hv).2)) (fun h15 => ?_)
            refine y_iload_n dX11_spans_18 rfl rfl ?_
            refine y_isI1 dX11_spans_19 ms_X11_173 my_X11_isDoing (Or.inl rfl) ?_
            refine c_X11_isDoing (fun _ => ⟨_, rfl, ?_⟩) (fun z => absurd hz z)
            refine y_if_ne (tgt := 27) dX11_spans_22 (by decide) (fun h22 => ?_) (fun h22 => absurd h22 (by decide))
            refine y_aload_n dX11_spans_27 rfl rfl ?_
            refine y_getr dX11_spans_28 gf_X11_29 sh_0 rfl ?_
            refine y_iload_n dX11_spans_31 rfl rfl ?_
            refine y_aaldN dX11_spans_32 (by decide) sh_4 rfl (dgA (k := g) (by omega)) (by decide) ?_
            refine y_geti dX11_spans_33 gf_X11_190 (dgI (k := g) (by omega)).1 rfl ?_
            refine y_if_eq (tgt := 47) dX11_spans_36 (by decide) (fun h36 => absurd h36 d2) (fun h36 => ?_)
            refine y_aload_n dX11_spans_39 rfl rfl ?_
            refine y_iload_n dX11_spans_40 rfl rfl ?_
            refine y_ivI1 dX11_spans_41 mv_X11_364 my_X11_lackOfLaw (Or.inl rfl) sh_0 ?_
            refine c_X11_lackOfLaw h rfl hf ⟨_, rfl, ?_⟩
            refine y_goto (tgt := 48) dX11_spans_44 (by decide) ?_
            refine y_ist11_5 dX11_spans_48 rfl ?_
            refine y_iload dX11_spans_50 rfl ?_
            refine y_if_eq (tgt := 62) dX11_spans_52 (by decide) (fun h52 => absurd h52 (fun e => h0 ((nI_eq (b := 0) (by have := nw_le m f (m 248 g); omega) (by decide)).mp (by rw [hn]; exact e)))) (fun h52 => ?_)
            refine y_aload_n dX11_spans_55 rfl rfl ?_
            refine y_iload dX11_spans_56 rfl ?_
            refine y_ivI1 dX11_spans_58 mv_X11_105 my_X11_found (Or.inl rfl) sh_0 ?_
            refine c_X11_found (f := LWp m f) rfl (by omega) (LWp_le m f) ⟨_, rfl, ?_⟩
            refine y_ireturn dX11_spans_61 rfl rfl ?_
            refine ⟨_, rfl, ?_⟩
            obtain ⟨m1, em⟩ : ∃ m1, m1 = foundM m (LWp m f) := ⟨_, rfl⟩
            rw [← em]
            have gg : ∀ a, 138 ≤ a → m1 a = m a := fun a ha => by rw [em]; exact found_o (by omega) (by omega)
            have g9 : m1 239 28 = m 239 28 := by rw [gg _ (by omega)]
            have esn : slN m1 = slN m := by unfold slN; rw [g9]
            have eb : ∀ f g, bo m1 f g = bo m f g := fun f g => bo_m (gg _ (by omega)) (gg _ (by omega)) (gg _ (by omega))
            have ed : ∀ i, dS m1 i = dS m i := fun i => dS_m (gg _ (by omega))
            have eN : ∀ t, nwL m1 f t = nwL m f t := fun t => nw_m (gg _ (by omega)) (gg _ (by omega)) (gg _ (by omega)) g9
            have eW : LWp m1 f = LWp m f := LWp_m (gg _ (by omega)) (gg _ (by omega)) (gg _ (by omega)) g9
            refine y_run (own := "LoafFallModel") rfl (by decide +kernel) (Nat.le_of_ble_eq_true rfl) rfl ?_
            refine y_iload_n dX12_spans_0 rfl rfl ?_
            refine y_isI1 dX12_spans_1 ms_X12_151 my_X12_isPlace (Or.inl rfl) ?_
            refine c_X12_isPlace (fun _ => ⟨_, rfl, ?_⟩) (fun z => absurd hx z)
            refine y_if_eq (tgt := 25) dX12_spans_4 (by decide) (fun h4 => absurd h4 (by decide)) (fun h4 => ?_)
            refine y_iload_n dX12_spans_7 rfl rfl ?_
            refine y_iconst (v := 0) dX12_spans_8 (by decide) ?_
            refine y_sipush (v := 999) dX12_spans_9 (by decide) ?_
            refine y_isI3 dX12_spans_12 ms_X12_86 my_X12_in (Or.inl rfl) ?_
            refine c_X12_in (fun _ _ => ⟨_, rfl, ?_⟩) (fun a => absurd ((in_le (M := 999) (by decide)).mp hv) a)
            refine y_if_eq (tgt := 25) dX12_spans_15 (by decide) (fun h15 => absurd h15 (by decide)) (fun h15 => ?_)
            refine y_iload_n dX12_spans_18 rfl rfl ?_
            refine y_isI1 dX12_spans_19 ms_X12_151 my_X12_isPlace (Or.inl rfl) ?_
            refine c_X12_isPlace (fun _ => ⟨_, rfl, ?_⟩) (fun z => absurd hz z)
            refine y_if_ne (tgt := 27) dX12_spans_22 (by decide) (fun h22 => ?_) (fun h22 => absurd h22 (by decide))
            refine y_aload_n dX12_spans_27 rfl rfl ?_
            refine y_iload_n dX12_spans_28 rfl rfl ?_
            refine y_aload_n dX12_spans_29 rfl rfl ?_
            refine y_getr dX12_spans_30 gf_X12_36 sh_239 rfl ?_
            refine y_iload_n dX12_spans_33 rfl rfl ?_
            refine y_zaldN dX12_spans_34 sh_248 rfl (by first | omega | decide) (by decide) ?_
            refine y_ivI2 dX12_spans_35 mv_X12_319 my_X12_needLaws (Or.inl rfl) sh_239 ?_
            refine c_X12_needLaws (f := f) (s := slN m1) (t := m1 248 g) rfl hf (by rw [esn]; exact slR_m h.slr g9 (gg _ (by omega))) (fun z i hi => by rw [ed, eb]; exact lwD h hf (eW.symm.trans z) i (by rw [← esn]; exact hi)) (fun _ => ⟨_, rfl, ?_⟩) (fun z => absurd ((eN _).symm.trans z) (by rw [gg 248 (by omega)]; exact h0))
            refine y_ist11_5 dX12_spans_38 rfl ?_
            refine y_iload dX12_spans_40 rfl ?_
            refine y_if_ge (tgt := 48) dX12_spans_42 (by decide) (fun h42 => absurd h42 (by decide)) (fun h42 => ?_)
            refine y_iload dX12_spans_45 rfl ?_
            refine y_ireturn dX12_spans_47 rfl rfl ?_
            rw [eN, gg 248 (by omega), hn, em]
            exact ⟨rfl, Rel_met h⟩
      · refine y_run (own := "LoafFall") rfl (by decide +kernel) (Nat.le_of_ble_eq_true rfl) rfl ?_
        refine y_iload_n dX11_spans_0 rfl rfl ?_
        refine y_isI1 dX11_spans_1 ms_X11_160 my_X11_isFlour (Or.inl rfl) ?_
        refine c_X11_isFlour (fun _ => ⟨_, rfl, ?_⟩) (fun z => absurd hx z)
        refine y_if_eq (tgt := 25) dX11_spans_4 (by decide) (fun h4 => absurd h4 (by decide)) (fun h4 => ?_)
        refine y_iload_n dX11_spans_7 rfl rfl ?_
        refine y_if_lt (tgt := 25) dX11_spans_8 (by decide) (fun h8 => absurd h8 (((in_lt (M := 1000) (by decide)).mp hv).1)) (fun h8 => ?_)
        refine y_iload_n dX11_spans_11 rfl rfl ?_
        refine y_sipush (v := 999) dX11_spans_12 (by decide) ?_
        refine y_icmp_gt (tgt := 25) dX11_spans_15 (by decide) (fun h15 => absurd h15 (Int32.not_lt.mpr ((in_le (M := 999) (by decide)).mp hv).2)) (fun h15 => ?_)
        refine y_iload_n dX11_spans_18 rfl rfl ?_
        refine y_isI1 dX11_spans_19 ms_X11_173 my_X11_isDoing (Or.inl rfl) ?_
        refine c_X11_isDoing (fun z => absurd z hz) (fun _ => ⟨_, rfl, ?_⟩)
        refine y_if_ne (tgt := 27) dX11_spans_22 (by decide) (fun h22 => absurd (by decide) h22) (fun h22 => ?_)
        refine y_iconst (v := -1) dX11_spans_25 (by decide) ?_
        refine y_ireturn dX11_spans_26 rfl rfl ?_
        refine ⟨_, rfl, ?_⟩
        refine y_run (own := "LoafFallModel") rfl (by decide +kernel) (Nat.le_of_ble_eq_true rfl) rfl ?_
        refine y_iload_n dX12_spans_0 rfl rfl ?_
        refine y_isI1 dX12_spans_1 ms_X12_151 my_X12_isPlace (Or.inl rfl) ?_
        refine c_X12_isPlace (fun _ => ⟨_, rfl, ?_⟩) (fun z => absurd hx z)
        refine y_if_eq (tgt := 25) dX12_spans_4 (by decide) (fun h4 => absurd h4 (by decide)) (fun h4 => ?_)
        refine y_iload_n dX12_spans_7 rfl rfl ?_
        refine y_iconst (v := 0) dX12_spans_8 (by decide) ?_
        refine y_sipush (v := 999) dX12_spans_9 (by decide) ?_
        refine y_isI3 dX12_spans_12 ms_X12_86 my_X12_in (Or.inl rfl) ?_
        refine c_X12_in (fun _ _ => ⟨_, rfl, ?_⟩) (fun a => absurd ((in_le (M := 999) (by decide)).mp hv) a)
        refine y_if_eq (tgt := 25) dX12_spans_15 (by decide) (fun h15 => absurd h15 (by decide)) (fun h15 => ?_)
        refine y_iload_n dX12_spans_18 rfl rfl ?_
        refine y_isI1 dX12_spans_19 ms_X12_151 my_X12_isPlace (Or.inl rfl) ?_
        refine c_X12_isPlace (fun z => absurd z hz) (fun _ => ⟨_, rfl, ?_⟩)
        refine y_if_ne (tgt := 27) dX12_spans_22 (by decide) (fun h22 => absurd (by decide) h22) (fun h22 => ?_)
        refine y_iconst (v := -1) dX12_spans_25 (by decide) ?_
        refine y_ireturn dX12_spans_26 rfl rfl ?_
        exact ⟨rfl, h⟩
    · refine y_run (own := "LoafFall") rfl (by decide +kernel) (Nat.le_of_ble_eq_true rfl) rfl ?_
      refine y_iload_n dX11_spans_0 rfl rfl ?_
      refine y_isI1 dX11_spans_1 ms_X11_160 my_X11_isFlour (Or.inl rfl) ?_
      refine c_X11_isFlour (fun _ => ⟨_, rfl, ?_⟩) (fun z => absurd hx z)
      refine y_if_eq (tgt := 25) dX11_spans_4 (by decide) (fun h4 => absurd h4 (by decide)) (fun h4 => ?_)
      refine y_iload_n dX11_spans_7 rfl rfl ?_
      refine y_if_lt (tgt := 25) dX11_spans_8 (by decide) (fun h8 => ?_) (fun h8 => ?_)
      · refine y_iconst (v := -1) dX11_spans_25 (by decide) ?_
        refine y_ireturn dX11_spans_26 rfl rfl ?_
        refine ⟨_, rfl, ?_⟩
        refine y_run (own := "LoafFallModel") rfl (by decide +kernel) (Nat.le_of_ble_eq_true rfl) rfl ?_
        refine y_iload_n dX12_spans_0 rfl rfl ?_
        refine y_isI1 dX12_spans_1 ms_X12_151 my_X12_isPlace (Or.inl rfl) ?_
        refine c_X12_isPlace (fun _ => ⟨_, rfl, ?_⟩) (fun z => absurd hx z)
        refine y_if_eq (tgt := 25) dX12_spans_4 (by decide) (fun h4 => absurd h4 (by decide)) (fun h4 => ?_)
        refine y_iload_n dX12_spans_7 rfl rfl ?_
        refine y_iconst (v := 0) dX12_spans_8 (by decide) ?_
        refine y_sipush (v := 999) dX12_spans_9 (by decide) ?_
        refine y_isI3 dX12_spans_12 ms_X12_86 my_X12_in (Or.inl rfl) ?_
        refine c_X12_in (fun a b => absurd ((in_le (M := 999) (by decide)).mpr ⟨a, b⟩) hv) (fun _ => ⟨_, rfl, ?_⟩)
        refine y_if_eq (tgt := 25) dX12_spans_15 (by decide) (fun h15 => ?_) (fun h15 => absurd (by decide) h15)
        refine y_iconst (v := -1) dX12_spans_25 (by decide) ?_
        refine y_ireturn dX12_spans_26 rfl rfl ?_
        exact ⟨rfl, h⟩
      · refine y_iload_n dX11_spans_11 rfl rfl ?_
        refine y_sipush (v := 999) dX11_spans_12 (by decide) ?_
        refine y_icmp_gt (tgt := 25) dX11_spans_15 (by decide) (fun h15 => ?_) (fun h15 => absurd (Int32.not_le.mp (fun z => hv ((in_le (M := 999) (by decide)).mpr ⟨Int32.not_lt.mp h8, z⟩))) h15)
        refine y_iconst (v := -1) dX11_spans_25 (by decide) ?_
        refine y_ireturn dX11_spans_26 rfl rfl ?_
        refine ⟨_, rfl, ?_⟩
        refine y_run (own := "LoafFallModel") rfl (by decide +kernel) (Nat.le_of_ble_eq_true rfl) rfl ?_
        refine y_iload_n dX12_spans_0 rfl rfl ?_
        refine y_isI1 dX12_spans_1 ms_X12_151 my_X12_isPlace (Or.inl rfl) ?_
        refine c_X12_isPlace (fun _ => ⟨_, rfl, ?_⟩) (fun z => absurd hx z)
        refine y_if_eq (tgt := 25) dX12_spans_4 (by decide) (fun h4 => absurd h4 (by decide)) (fun h4 => ?_)
        refine y_iload_n dX12_spans_7 rfl rfl ?_
        refine y_iconst (v := 0) dX12_spans_8 (by decide) ?_
        refine y_sipush (v := 999) dX12_spans_9 (by decide) ?_
        refine y_isI3 dX12_spans_12 ms_X12_86 my_X12_in (Or.inl rfl) ?_
        refine c_X12_in (fun a b => absurd ((in_le (M := 999) (by decide)).mpr ⟨a, b⟩) hv) (fun _ => ⟨_, rfl, ?_⟩)
        refine y_if_eq (tgt := 25) dX12_spans_15 (by decide) (fun h15 => ?_) (fun h15 => absurd (by decide) h15)
        refine y_iconst (v := -1) dX12_spans_25 (by decide) ?_
        refine y_ireturn dX12_spans_26 rfl rfl ?_
        exact ⟨rfl, h⟩
  · refine y_run (own := "LoafFall") rfl (by decide +kernel) (Nat.le_of_ble_eq_true rfl) rfl ?_
    refine y_iload_n dX11_spans_0 rfl rfl ?_
    refine y_isI1 dX11_spans_1 ms_X11_160 my_X11_isFlour (Or.inl rfl) ?_
    refine c_X11_isFlour (fun z => absurd z hx) (fun _ => ⟨_, rfl, ?_⟩)
    refine y_if_eq (tgt := 25) dX11_spans_4 (by decide) (fun h4 => ?_) (fun h4 => absurd (by decide) h4)
    refine y_iconst (v := -1) dX11_spans_25 (by decide) ?_
    refine y_ireturn dX11_spans_26 rfl rfl ?_
    refine ⟨_, rfl, ?_⟩
    refine y_run (own := "LoafFallModel") rfl (by decide +kernel) (Nat.le_of_ble_eq_true rfl) rfl ?_
    refine y_iload_n dX12_spans_0 rfl rfl ?_
    refine y_isI1 dX12_spans_1 ms_X12_151 my_X12_isPlace (Or.inl rfl) ?_
    refine c_X12_isPlace (fun z => absurd z hx) (fun _ => ⟨_, rfl, ?_⟩)
    refine y_if_eq (tgt := 25) dX12_spans_4 (by decide) (fun h4 => ?_) (fun h4 => absurd (by decide) h4)
    refine y_iconst (v := -1) dX12_spans_25 (by decide) ?_
    refine y_ireturn dX12_spans_26 rfl rfl ?_
    exact ⟨rfl, h⟩
