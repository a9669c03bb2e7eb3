/-! ===== odds of the reference ===== -/
set_option maxHeartbeats 1000000 in
theorem c_X12_odds_ok {L : Nat} {xs : Nat → Int32} {d : Nat} {m : sM} {n : sN} {Q : sQ} {k f : Nat} {r x : Int32} (hr : r = nI k) (hk : k < 6) (hx : x = nI f) (hf : f < 4) (h0 : PLp m k = 0) (hs : m 241 k = -1 ∨ ∃ s : Nat, s ≤ 40 ∧ m 241 k = nI s) (hD : ∀ p, p < 16 → okP m p → flR (bo m (p / 4) (p % 4)) ∧ dOK (bo m (p / 4) (p % 4))) (hex : ∃ p, p < 16 ∧ okP m p) (hQ : ∀ M j, frM m M → j < 16 → okP m j → (∀ q, q < 16 → okP m q → gP m (fun i => m 242 (40 * k + i)) j ≤ gP m (fun i => m 242 (40 * k + i)) q) → ∀ a b, a = cN (pF (okP m) (gP m (fun i => m 242 (40 * k + i))) f (gP m (fun i => m 242 (40 * k + i)) j)) 16 → b = cN (pE (okP m) (gP m (fun i => m 242 (40 * k + i))) (gP m (fun i => m 242 (40 * k + i)) j)) 16 → Q (some (.int (nI b))) M (s_upL (s_upL n 239 3 (lN (a / Nat.gcd a b))) 239 4 (lN (b / Nat.gcd a b)))) : sRun (scT L xs) (d + 11) yX12_odds cX12_odds 8 (some .int) [.ref 239, .int r, .int x] m n Q := by
  subst hr hx
  obtain ⟨p0, q1, q2⟩ := hex
  obtain ⟨G, hG⟩ : ∃ G, G = gP m (fun i => m 242 (40 * k + i)) := ⟨_, rfl⟩
  rw [← hG] at hQ
  obtain ⟨j, j1, j2, j3⟩ := (sel_ex (ok := okP m) (bt := ltI) (cd := nI) (g := G) 16).resolve_left (fun e => sel_some' (bt := ltI) (cd := nI) (g := G) q2 16 (fun i hi => nI_n9' (by omega)) q1 (by rw [e]))
  have jm : ∀ q, q < 16 → okP m q → G j ≤ G q := fun q hq okq => by
    have := sel_min (ok := okP m) (cd := nI) (g := G) 16 (fun i hi => nI_n9' (by omega)) q hq okq
    rw [j3] at this
    exact this
  have gn : ∀ p, ¬ G p < 0 := fun p => by rw [hG]; exact gP_n
  refine y_run (own := "LoafFallModel") rfl (by decide +kernel) (Nat.le_of_ble_eq_true rfl) rfl ?_
  refine y_iload_n dX12_odds_0 rfl rfl ?_
  refine y_isI1 dX12_odds_1 ms_X12_96 my_X12_isRow (Or.inl rfl) ?_
  refine c_X12_isRow (fun _ => ⟨_, rfl, ?_⟩) (fun z => absurd (⟨k, hk, rfl⟩ : inN (nI k) 6) z)
  refine y_if_eq (tgt := 14) dX12_odds_4 (by decide) (fun h4 => absurd h4 (by decide)) (fun h4 => ?_)
  refine y_iload_n dX12_odds_7 rfl rfl ?_
  refine y_isI1 dX12_odds_8 ms_X12_151 my_X12_isPlace (Or.inl rfl) ?_
  refine c_X12_isPlace (fun _ => ⟨_, rfl, ?_⟩) (fun z => absurd (⟨f, hf, rfl⟩ : inN (nI f) 4) z)
  refine y_if_ne (tgt := 16) dX12_odds_11 (by decide) (fun h11 => ?_) (fun h11 => absurd h11 (by decide))
  refine y_aload_n dX12_odds_16 rfl rfl ?_
  refine y_iload_n dX12_odds_17 rfl rfl ?_
  refine y_ivI1 dX12_odds_18 mv_X12_269 my_X12_needPairs (Or.inl rfl) sh_239 ?_
  refine c_X12_needPairs rfl hk hs hD (fun z => absurd h0 z) (fun _ B M hW b1 b2 b3 => ⟨_, rfl, ?_⟩)
  have m257 : M 257 = B 257 := hW.o (by omega) (by omega) (by omega)
  rw [← hG] at b2
  refine y_ist8_3 dX12_odds_21 rfl ?_
  refine y_iload_n dX12_odds_22 rfl rfl ?_
  refine y_if_ge (tgt := 28) dX12_odds_23 (by decide) (fun h23 => ?_) (fun h23 => absurd (by decide) h23)
  refine y_iconst (v := 0) dX12_odds_28 (by decide) ?_
  refine y_ist8_4 dX12_odds_29 rfl ?_
  refine y_iconst (v := 0) dX12_odds_31 (by decide) ?_
  refine y_ist8_5 dX12_odds_32 rfl ?_
  refine y_iconst (v := 0) dX12_odds_34 (by decide) ?_
  refine y_ist8_6 dX12_odds_35 rfl ?_
  refine cnt (P := fun p => ∀ a7 : Option Value, sV (scT L xs) (d + 10) "LoafFallModel" cX12_odds 8 (some .int) Q 37 [some (.ref 239), some (.int (nI k)), some (.int (nI f)), some (.int 0), some (.int (nI (cN (pE (okP m) G (G j)) p))), some (.int (nI (cN (pF (okP m) G f (G j)) p))), some (.int (nI p)), a7] [] M n) 16 ?_ ?_ 0 (by omega) none
  · intro a7
    refine y_iload dX12_odds_37 rfl ?_
    refine y_bipush (v := 16) dX12_odds_39 (by decide) ?_
    refine y_icmp_ge (tgt := 124) dX12_odds_41 (by decide) (fun h41 => ?_) (fun h41 => absurd (nI_le (a := 16) (b := 16) (Nat.le_refl _) (by decide)) h41)
    refine y_aload_n dX12_odds_124 rfl rfl ?_
    refine y_iload dX12_odds_125 rfl ?_
    refine y_i2l dX12_odds_127 ?_
    refine y_iload dX12_odds_128 rfl ?_
    refine y_i2l dX12_odds_130 ?_
    refine y_iload dX12_odds_131 rfl ?_
    refine y_ivI3 dX12_odds_133 mv_X12_275 my_X12_fraction (Or.inl rfl) sh_239 ?_
    refine c_X12_fraction (a := cN (pF (okP m) G f (G j)) 16) (b := cN (pE (okP m) G (G j)) 16) (nI_l (by have := cN_le (P := pF (okP m) G f (G j)) 16; omega)) (nI_l (by have := cN_le (P := pE (okP m) G (G j)) 16; omega)) (cN_le 16) (cN_pos ⟨j2, rfl⟩ 16 j1) (cN_le 16) ⟨_, rfl, ?_⟩
    refine y_ireturn dX12_odds_136 rfl rfl ?_
    exact hQ M j ((fr_257 b1).tr hW.fr) j1 j2 jm _ _ rfl rfl
  · intro p hk hP
    intro a7
    have nokk : M 257 p < 0 → ¬ okP m p := fun z ok => gn p (by rw [← b2 p hk ok, ← m257]; exact z)
    have key : ∀ (a b : Nat) (a7 : Option Value), a = cN (pE (okP m) G (G j)) (p + 1) → b = cN (pF (okP m) G f (G j)) (p + 1) → sV (scT L xs) (d + 10) "LoafFallModel" cX12_odds 8 (some .int) Q 37 [some (.ref 239), some (.int (nI k)), some (.int (nI f)), some (.int 0), some (.int (nI a)), some (.int (nI b)), some (.int (nI (p + 1))), a7] [] M n := fun a b a7 k6 k7 => by
      have := hP a7
      rw [← k6, ← k7] at this
      exact this
    refine y_iload dX12_odds_37 rfl ?_
    refine y_bipush (v := 16) dX12_odds_39 (by decide) ?_
    refine y_icmp_ge (tgt := 124) dX12_odds_41 (by decide) (fun h41 => absurd h41 (nI_ge (a := p) (b := 16) hk (by decide))) (fun h41 => ?_)
    refine y_aload_n dX12_odds_44 rfl rfl ?_
    refine y_getr dX12_odds_45 gf_X12_63 sh_239 rfl ?_
    refine y_iload dX12_odds_48 rfl ?_
    refine y_ialdN dX12_odds_50 sh_257 rfl (by first | omega | decide) (by decide) ?_
    refine y_if_lt (tgt := 77) dX12_odds_51 (by decide) (fun h51 => ?_) (fun h51 => ?_)
    · refine y_iconst (v := 0) dX12_odds_77 (by decide) ?_
      refine y_ist8_7 dX12_odds_78 rfl ?_
      refine y_iload dX12_odds_80 rfl ?_
      refine y_iload dX12_odds_82 rfl ?_
      refine y_if_eq (tgt := 91) dX12_odds_84 (by decide) (fun h84 => ?_) (fun h84 => absurd (by decide) h84)
      refine y_iconst (v := 0) dX12_odds_91 (by decide) ?_
      refine y_iaddN (a := (cN (pE (okP m) G (G j)) p)) (b := 0) dX12_odds_92 rfl rfl ?_
      refine y_ist8_4 dX12_odds_93 rfl ?_
      refine y_iload dX12_odds_95 rfl ?_
      refine y_iload dX12_odds_97 rfl ?_
      refine y_if_eq (tgt := 114) dX12_odds_99 (by decide) (fun h99 => ?_) (fun h99 => absurd (by decide) h99)
      refine y_iconst (v := 0) dX12_odds_114 (by decide) ?_
      refine y_iaddN (a := (cN (pF (okP m) G f (G j)) p)) (b := 0) dX12_odds_115 rfl rfl ?_
      refine y_ist8_5 dX12_odds_116 rfl ?_
      refine y_iinc8_6 dX12_odds_118 (nI_1 _) rfl ?_
      refine y_goto (tgt := 37) dX12_odds_121 (by decide) ?_
      first
        | exact key _ _ _ (cN_y ⟨ok, h70⟩).symm (cN_y ⟨ok, h70, (nI_eq (by omega) (by omega)).mp h107⟩).symm
        | exact key _ _ _ (cN_y ⟨ok, h70⟩).symm (cN_n (fun z => h107 (by rw [z.2.2]))).symm
        | exact key _ _ _ (cN_n (fun z => h70 z.2)).symm (cN_n (fun z => h70 z.2.1)).symm
        | exact key _ _ _ (cN_n (fun z => nokk h51 z.1)).symm (cN_n (fun z => nokk h51 z.1)).symm
    · have ok : okP m p := Classical.byContradiction (fun z => h51 (by rw [m257, b3 p hk z]; decide))
      refine y_aload_n dX12_odds_54 rfl rfl ?_
      refine y_getr dX12_odds_55 gf_X12_63 sh_239 rfl ?_
      refine y_iload dX12_odds_58 rfl ?_
      refine y_ialdN dX12_odds_60 sh_257 rfl (by first | omega | decide) (by decide) ?_
      rw [show M 257 p = G p from by rw [m257]; exact b2 p hk ok]
      refine y_aload_n dX12_odds_61 rfl rfl ?_
      refine y_getr dX12_odds_62 gf_X12_63 sh_239 rfl ?_
      refine y_aload_n dX12_odds_65 rfl rfl ?_
      refine y_ivI0 dX12_odds_66 mv_X12_272 my_X12_leastPair (Or.inl rfl) sh_239 ?_
      refine c_X12_leastPair (ok := okP m) (U := G) (fun p hp ok => by rw [m257]; exact b2 p hp ok) (fun p hp ok => by rw [m257]; exact b3 p hp ok) gn ⟨_, rfl, ?_⟩
      rw [j3]
      refine y_ialdN dX12_odds_69 sh_257 rfl (by first | omega | decide) (by decide) ?_
      rw [show M 257 j = G j from by rw [m257]; exact b2 j j1 j2]
      refine y_icmp_ne (tgt := 77) dX12_odds_70 (by decide) (fun h70 => ?_) (fun h70 => ?_)
      · refine y_iconst (v := 0) dX12_odds_77 (by decide) ?_
        refine y_ist8_7 dX12_odds_78 rfl ?_
        refine y_iload dX12_odds_80 rfl ?_
        refine y_iload dX12_odds_82 rfl ?_
        refine y_if_eq (tgt := 91) dX12_odds_84 (by decide) (fun h84 => ?_) (fun h84 => absurd (by decide) h84)
        refine y_iconst (v := 0) dX12_odds_91 (by decide) ?_
        refine y_iaddN (a := (cN (pE (okP m) G (G j)) p)) (b := 0) dX12_odds_92 rfl rfl ?_
        refine y_ist8_4 dX12_odds_93 rfl ?_
        refine y_iload dX12_odds_95 rfl ?_
        refine y_iload dX12_odds_97 rfl ?_
        refine y_if_eq (tgt := 114) dX12_odds_99 (by decide) (fun h99 => ?_) (fun h99 => absurd (by decide) h99)
        refine y_iconst (v := 0) dX12_odds_114 (by decide) ?_
        refine y_iaddN (a := (cN (pF (okP m) G f (G j)) p)) (b := 0) dX12_odds_115 rfl rfl ?_
        refine y_ist8_5 dX12_odds_116 rfl ?_
        refine y_iinc8_6 dX12_odds_118 (nI_1 _) rfl ?_
        refine y_goto (tgt := 37) dX12_odds_121 (by decide) ?_
        first
          | exact key _ _ _ (cN_y ⟨ok, h70⟩).symm (cN_y ⟨ok, h70, (nI_eq (by omega) (by omega)).mp h107⟩).symm
          | exact key _ _ _ (cN_y ⟨ok, h70⟩).symm (cN_n (fun z => h107 (by rw [z.2.2]))).symm
          | exact key _ _ _ (cN_n (fun z => h70 z.2)).symm (cN_n (fun z => h70 z.2.1)).symm
          | exact key _ _ _ (cN_n (fun z => nokk h51 z.1)).symm (cN_n (fun z => nokk h51 z.1)).symm
      · refine y_iconst (v := 1) dX12_odds_73 (by decide) ?_
        refine y_goto (tgt := 78) dX12_odds_74 (by decide) ?_
        refine y_ist8_7 dX12_odds_78 rfl ?_
        refine y_iload dX12_odds_80 rfl ?_
        refine y_iload dX12_odds_82 rfl ?_
        refine y_if_eq (tgt := 91) dX12_odds_84 (by decide) (fun h84 => absurd h84 (by decide)) (fun h84 => ?_)
        refine y_iconst (v := 1) dX12_odds_87 (by decide) ?_
        refine y_goto (tgt := 92) dX12_odds_88 (by decide) ?_
        refine y_iaddN (a := (cN (pE (okP m) G (G j)) p)) (b := 1) dX12_odds_92 rfl rfl ?_
        refine y_ist8_4 dX12_odds_93 rfl ?_
        refine y_iload dX12_odds_95 rfl ?_
        refine y_iload dX12_odds_97 rfl ?_
        refine y_if_eq (tgt := 114) dX12_odds_99 (by decide) (fun h99 => absurd h99 (by decide)) (fun h99 => ?_)
        refine y_iload dX12_odds_102 rfl ?_
        refine y_iconst (v := 4) dX12_odds_104 (by decide) ?_
        refine y_idivN (a := p) (b := 4) dX12_odds_105 rfl rfl (by omega) (by first | decide | omega) (by first | decide | omega) ?_
        refine y_iload_n dX12_odds_106 rfl rfl ?_
        refine y_icmp_ne (tgt := 114) dX12_odds_107 (by decide) (fun h107 => ?_) (fun h107 => ?_)
        · refine y_iconst (v := 0) dX12_odds_114 (by decide) ?_
          refine y_iaddN (a := (cN (pF (okP m) G f (G j)) p)) (b := 0) dX12_odds_115 rfl rfl ?_
          refine y_ist8_5 dX12_odds_116 rfl ?_
          refine y_iinc8_6 dX12_odds_118 (nI_1 _) rfl ?_
          refine y_goto (tgt := 37) dX12_odds_121 (by decide) ?_
          first
            | exact key _ _ _ (cN_y ⟨ok, h70⟩).symm (cN_y ⟨ok, h70, (nI_eq (by omega) (by omega)).mp h107⟩).symm
            | exact key _ _ _ (cN_y ⟨ok, h70⟩).symm (cN_n (fun z => h107 (by rw [z.2.2]))).symm
            | exact key _ _ _ (cN_n (fun z => h70 z.2)).symm (cN_n (fun z => h70 z.2.1)).symm
            | exact key _ _ _ (cN_n (fun z => nokk h51 z.1)).symm (cN_n (fun z => nokk h51 z.1)).symm
        · refine y_iconst (v := 1) dX12_odds_110 (by decide) ?_
          refine y_goto (tgt := 115) dX12_odds_111 (by decide) ?_
          refine y_iaddN (a := (cN (pF (okP m) G f (G j)) p)) (b := 1) dX12_odds_115 rfl rfl ?_
          refine y_ist8_5 dX12_odds_116 rfl ?_
          refine y_iinc8_6 dX12_odds_118 (nI_1 _) rfl ?_
          refine y_goto (tgt := 37) dX12_odds_121 (by decide) ?_
          first
            | exact key _ _ _ (cN_y ⟨ok, h70⟩).symm (cN_y ⟨ok, h70, (nI_eq (by omega) (by omega)).mp h107⟩).symm
            | exact key _ _ _ (cN_y ⟨ok, h70⟩).symm (cN_n (fun z => h107 (by rw [z.2.2]))).symm
            | exact key _ _ _ (cN_n (fun z => h70 z.2)).symm (cN_n (fun z => h70 z.2.1)).symm
            | exact key _ _ _ (cN_n (fun z => nokk h51 z.1)).symm (cN_n (fun z => nokk h51 z.1)).symm
theorem uL_s {n : sN} {a k : Nat} {x : Int64} : s_upL n a k x a k = x := if_pos ⟨rfl, rfl⟩
theorem uL_n {n : sN} {a k b j : Nat} {x : Int64} (h : ¬ (b = a ∧ j = k)) : s_upL n a k x b j = n b j := if_neg h
set_option maxHeartbeats 2000000 in
theorem p_odds {L : Nat} {xs : Nat → Int32} {d : Nat} {m : sM} {n : sN} {r x : Int32} (h : Rel m n) : PI L xs (d + 11) yX11_odds cX11_odds 9 yX12_odds cX12_odds 8 [.int r, .int x] m n := by
  unfold PI
  by_cases hr : inN r 6
  · by_cases hx : inN x 4
    · obtain ⟨k, hk, rfl⟩ := hr
      have hr : inN (nI k) 6 := ⟨k, hk, rfl⟩
      obtain ⟨f, hf, rfl⟩ := hx
      have hx : inN (nI f) 4 := ⟨f, hf, rfl⟩
      by_cases h0 : PLp m k = 0
      · refine c_X11_odds_ok h rfl hk rfl hf h0 (fun m' lv v1 v2 v4 v5 a b ea eb0 => ⟨_, rfl, ?_⟩)
        have gg : ∀ a, 137 ≤ a → m' a = m a := fun a ha => v1 a (by omega)
        have eo := okP_f (gg 246 (by omega)) (gg 248 (by omega))
        have eb : ∀ f g, bo m' f g = bo m f g := fun f g => bo_m (gg _ (by omega)) (gg _ (by omega)) (gg _ (by omega))
        refine c_X12_odds_ok rfl hk rfl hf (by rw [PLp_m (gg _ (by omega)) (gg _ (by omega)) (gg _ (by omega)) (gg _ (by omega))]; exact h0) (by rw [gg _ (by omega)]; exact h.szs.1 k hk) (fun p hp ok => by rw [eb]; rw [eo] at ok; exact pD h p hp ok) (by rw [eo]; exact pairs_some h h0) (fun M j f1 j1 j2 jm a' b' ea' eb' => ?_)
        rw [eo] at j2
        rw [eo, gP_f (gg 247 (by omega)) (gg 249 (by omega)) (gg 250 (by omega)), gg 242 (by omega)] at ea' eb' jm
        obtain ⟨q, q1, q2, q3⟩ := v4
        have el : gP m (fun i => m 242 (40 * k + i)) j = lv := Int32.le_antisymm (by rw [← q3]; exact jm q q1 q2) (v5 j j1 j2)
        rw [el, ← ea] at ea'
        rw [el, ← eb0] at eb'
        subst ea' eb'
        refine ⟨rfl, ?_⟩
        have hA := RA_fr h.1 v1 f1
        refine Rel_gen h ⟨hA.1, hA.2.1, hA.2.2.1, ?_, ?_⟩ (fun a ha => (f1.1 a (by omega)).trans (v1 a (by omega))) (f1.2.1.2.2.trans (by rw [v1 239 (by omega)])) (fun p hp => (f1.2.2 p hp).trans (by rw [v1 254 (by omega)])) (BK_m v2 (fun c h1 h2 => f1.1 c (by omega)))
        · rw [uL_n (by omega), uL_n (by omega), uL_n (by omega), uL_s, uL_n (by omega), uL_s]
        · rw [uL_n (by omega), uL_n (by omega), uL_s, uL_s]
      · refine y_run (own := "LoafFall") rfl (by decide +kernel) (Nat.le_of_ble_eq_true rfl) rfl ?_
        refine y_iload_n dX11_odds_0 rfl rfl ?_
        refine y_isI1 dX11_odds_1 ms_X11_101 my_X11_isRow (Or.inl rfl) ?_
        refine c_X11_isRow (fun _ => ⟨_, rfl, ?_⟩) (fun z => absurd hr z)
        refine y_if_eq (tgt := 14) dX11_odds_4 (by decide) (fun h4 => absurd h4 (by decide)) (fun h4 => ?_)
        refine y_iload_n dX11_odds_7 rfl rfl ?_
        refine y_isI1 dX11_odds_8 ms_X11_160 my_X11_isFlour (Or.inl rfl) ?_
        refine c_X11_isFlour (fun _ => ⟨_, rfl, ?_⟩) (fun z => absurd hx z)
        refine y_if_ne (tgt := 16) dX11_odds_11 (by decide) (fun h11 => ?_) (fun h11 => absurd h11 (by decide))
        refine y_aload_n dX11_odds_16 rfl rfl ?_
        refine y_iload_n dX11_odds_17 rfl rfl ?_
        refine y_ivI1 dX11_odds_18 mv_X11_283 my_X11_lackOfPairs (Or.inl rfl) sh_0 ?_
        refine c_X11_lackOfPairs h rfl hk ⟨_, rfl, ?_⟩
        refine y_ist9_3 dX11_odds_21 rfl ?_
        refine y_iload_n dX11_odds_22 rfl rfl ?_
        refine y_if_eq (tgt := 32) dX11_odds_23 (by decide) (fun h23 => absurd h23 (fun e => h0 ((nI_eq (b := 0) (by have := PLp_le m k; omega) (by decide)).mp e))) (fun h23 => ?_)
        refine y_aload_n dX11_odds_26 rfl rfl ?_
        refine y_iload_n dX11_odds_27 rfl rfl ?_
        refine y_ivI1 dX11_odds_28 mv_X11_105 my_X11_found (Or.inl rfl) sh_0 ?_
        refine c_X11_found (f := PLp m k) rfl (by omega) (PLp_le m k) ⟨_, rfl, ?_⟩
        refine y_ireturn dX11_odds_31 rfl rfl ?_
        refine ⟨_, rfl, ?_⟩
        obtain ⟨m1, em⟩ : ∃ m1, m1 = foundM m (PLp m k) := ⟨_, rfl⟩
        rw [← em]
        have gg : ∀ a, 138 ≤ a → m1 a = m a := fun a ha => by rw [em]; exact found_o (by omega) (by omega)
        have eL : PLp m1 k = PLp m k := PLp_m (gg _ (by omega)) (gg _ (by omega)) (gg _ (by omega)) (gg _ (by omega))
        have eb : ∀ f g, bo m1 f g = bo m f g := fun f g => bo_m (gg _ (by omega)) (gg _ (by omega)) (gg _ (by omega))
        have eo := okP_f (gg 246 (by omega)) (gg 248 (by omega))
        refine y_run (own := "LoafFallModel") rfl (by decide +kernel) (Nat.le_of_ble_eq_true rfl) rfl ?_
        refine y_iload_n dX12_odds_0 rfl rfl ?_
        refine y_isI1 dX12_odds_1 ms_X12_96 my_X12_isRow (Or.inl rfl) ?_
        refine c_X12_isRow (fun _ => ⟨_, rfl, ?_⟩) (fun z => absurd hr z)
        refine y_if_eq (tgt := 14) dX12_odds_4 (by decide) (fun h4 => absurd h4 (by decide)) (fun h4 => ?_)
        refine y_iload_n dX12_odds_7 rfl rfl ?_
        refine y_isI1 dX12_odds_8 ms_X12_151 my_X12_isPlace (Or.inl rfl) ?_
        refine c_X12_isPlace (fun _ => ⟨_, rfl, ?_⟩) (fun z => absurd hx z)
        refine y_if_ne (tgt := 16) dX12_odds_11 (by decide) (fun h11 => ?_) (fun h11 => absurd h11 (by decide))
        refine y_aload_n dX12_odds_16 rfl rfl ?_
        refine y_iload_n dX12_odds_17 rfl rfl ?_
        refine y_ivI1 dX12_odds_18 mv_X12_269 my_X12_needPairs (Or.inl rfl) sh_239 ?_
        refine c_X12_needPairs rfl hk (by rw [gg _ (by omega)]; exact h.szs.1 k hk) (fun p hp ok => by rw [eb]; rw [eo] at ok; exact pD h p hp ok) (fun _ => ⟨_, rfl, ?_⟩) (fun z => absurd (eL.symm.trans z) h0)
        refine y_ist8_3 dX12_odds_21 rfl ?_
        refine y_iload_n dX12_odds_22 rfl rfl ?_
        refine y_if_ge (tgt := 28) dX12_odds_23 (by decide) (fun h23 => absurd h23 (by decide)) (fun h23 => ?_)
        refine y_iload_n dX12_odds_26 rfl rfl ?_
        refine y_ireturn dX12_odds_27 rfl rfl ?_
        rw [eL, em]
        exact ⟨rfl, Rel_met h⟩
    · refine y_run (own := "LoafFall") rfl (by decide +kernel) (Nat.le_of_ble_eq_true rfl) rfl ?_
      refine y_iload_n dX11_odds_0 rfl rfl ?_
      refine y_isI1 dX11_odds_1 ms_X11_101 my_X11_isRow (Or.inl rfl) ?_
      refine c_X11_isRow (fun _ => ⟨_, rfl, ?_⟩) (fun z => absurd hr z)
      refine y_if_eq (tgt := 14) dX11_odds_4 (by decide) (fun h4 => absurd h4 (by decide)) (fun h4 => ?_)
      refine y_iload_n dX11_odds_7 rfl rfl ?_
      refine y_isI1 dX11_odds_8 ms_X11_160 my_X11_isFlour (Or.inl rfl) ?_
      refine c_X11_isFlour (fun z => absurd z hx) (fun _ => ⟨_, rfl, ?_⟩)
      refine y_if_ne (tgt := 16) dX11_odds_11 (by decide) (fun h11 => absurd (by decide) h11) (fun h11 => ?_)
      refine y_iconst (v := -1) dX11_odds_14 (by decide) ?_
      refine y_ireturn dX11_odds_15 rfl rfl ?_
      refine ⟨_, rfl, ?_⟩
      refine y_run (own := "LoafFallModel") rfl (by decide +kernel) (Nat.le_of_ble_eq_true rfl) rfl ?_
      refine y_iload_n dX12_odds_0 rfl rfl ?_
      refine y_isI1 dX12_odds_1 ms_X12_96 my_X12_isRow (Or.inl rfl) ?_
      refine c_X12_isRow (fun _ => ⟨_, rfl, ?_⟩) (fun z => absurd hr z)
      refine y_if_eq (tgt := 14) dX12_odds_4 (by decide) (fun h4 => absurd h4 (by decide)) (fun h4 => ?_)
      refine y_iload_n dX12_odds_7 rfl rfl ?_
      refine y_isI1 dX12_odds_8 ms_X12_151 my_X12_isPlace (Or.inl rfl) ?_
      refine c_X12_isPlace (fun z => absurd z hx) (fun _ => ⟨_, rfl, ?_⟩)
      refine y_if_ne (tgt := 16) dX12_odds_11 (by decide) (fun h11 => absurd (by decide) h11) (fun h11 => ?_)
      refine y_iconst (v := -1) dX12_odds_14 (by decide) ?_
      refine y_ireturn dX12_odds_15 rfl rfl ?_
      exact ⟨rfl, h⟩
  · refine y_run (own := "LoafFall") rfl (by decide +kernel) (Nat.le_of_ble_eq_true rfl) rfl ?_
    refine y_iload_n dX11_odds_0 rfl rfl ?_
    refine y_isI1 dX11_odds_1 ms_X11_101 my_X11_isRow (Or.inl rfl) ?_
    refine c_X11_isRow (fun z => absurd z hr) (fun _ => ⟨_, rfl, ?_⟩)
    refine y_if_eq (tgt := 14) dX11_odds_4 (by decide) (fun h4 => ?_) (fun h4 => absurd (by decide) h4)
    refine y_iconst (v := -1) dX11_odds_14 (by decide) ?_
    refine y_ireturn dX11_odds_15 rfl rfl ?_
    refine ⟨_, rfl, ?_⟩
    refine y_run (own := "LoafFallModel") rfl (by decide +kernel) (Nat.le_of_ble_eq_true rfl) rfl ?_
    refine y_iload_n dX12_odds_0 rfl rfl ?_
    refine y_isI1 dX12_odds_1 ms_X12_96 my_X12_isRow (Or.inl rfl) ?_
    refine c_X12_isRow (fun z => absurd z hr) (fun _ => ⟨_, rfl, ?_⟩)
    refine y_if_eq (tgt := 14) dX12_odds_4 (by decide) (fun h4 => ?_) (fun h4 => absurd (by decide) h4)
    refine y_iconst (v := -1) dX12_odds_14 (by decide) ?_
    refine y_ireturn dX12_odds_15 rfl rfl ?_
    exact ⟨rfl, h⟩
