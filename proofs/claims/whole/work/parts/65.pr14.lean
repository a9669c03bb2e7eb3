/-! ===== change, changes ===== -/
theorem chg_lo {c q p : Nat} {R : Nat → Int32} (hp : p < 5) : changeR c q R p = R p := by
  unfold changeR
  split
  · rw [updN (by omega)]
  · split
    · rw [updN (by omega)]
    · split
      · rw [updN (by omega)]
      · split
        · rw [updN (by omega)]
        · unfold leaveR
          rw [if_neg (by omega), if_neg (by omega)]
theorem rsum_36 {R R' : Nat → Int32} (e : ∀ p, p < 36 → R' p = R p) {k : Nat} (hk : k ≤ 10) : rsum R' k = rsum R k := rsum_congr e k hk
theorem can_36 {R R' : Nat → Int32} {c q : Nat} (e : ∀ p, p < 36 → R' p = R p) (hc : c ≤ 10) : canC R' c q ↔ canC R c q := by
  by_cases hq : q / 10 < c
  · unfold canC lst mayL
    rw [rsum_36 e hc, e (6 + 3 * (q / 10) + 0) (by omega), e (6 + 3 * (q / 10) + 1) (by omega), e (6 + 3 * (q / 10) + 2) (by omega)]
  · exact ⟨fun z => absurd z.1 hq, fun z => absurd z.1 hq⟩
theorem chg_36 {R R' : Nat → Int32} {c q : Nat} (e : ∀ p, p < 36 → R' p = R p) (hc : c ≤ 10) (hq : q / 10 < c) : ∀ p, p < 36 → changeR c q R' p = changeR c q R p := by
  intro p hp
  unfold changeR
  split
  · rw [upd_ap, upd_ap, e p hp, e _ (by omega)]
  · split
    · rw [upd_ap, upd_ap, e p hp, e _ (by omega)]
    · split
      · rw [upd_ap, upd_ap, e p hp, e _ (by omega)]
      · split
        · rw [upd_ap, upd_ap, e p hp, e _ (by omega)]
        · unfold leaveR
          split
          · rfl
          · split
            · exact e _ (by omega)
            · exact e p hp
theorem BV_low {R : Nat → Int32} (h : dOK R) {p : Nat} (hp : p < 36) : BV R p = R p := by
  obtain ⟨h1, h2, h3, h4, h5⟩ := h
  unfold BV bakesF
  rw [(goes_ok (wf_begins R) (wfA_begins h1 h2) _).2.2.2 p hp, begins_low hp]
def gCh (R : Nat → Int32) (q : Nat) : Int32 := WV (changeR (cOf R) q R)
def okC (R : Nat → Int32) (q : Nat) : Prop := canC R (cOf R) q
def c1R (R : Nat → Int32) (k : Nat) : Nat → Int32 := changeR (cOf R) (k / 100) R
def okC2 (R : Nat → Int32) (k : Nat) : Prop := okC R (k / 100) ∧ okC (c1R R k) (k % 100)
def gC2 (R : Nat → Int32) (k : Nat) : Int32 := gCh (c1R R k) (k % 100)
theorem c1_at {R : Nat → Int32} {a b : Nat} (hb : b < 100) : c1R R (100 * a + b) = changeR (cOf R) a R := by unfold c1R; rw [show (100 * a + b) / 100 = a by omega]
theorem ok2_at {R : Nat → Int32} {a b : Nat} (hb : b < 100) : okC2 R (100 * a + b) ↔ (okC R a ∧ okC (changeR (cOf R) a R) b) := by
  unfold okC2
  rw [c1_at hb, show (100 * a + b) / 100 = a by omega, show (100 * a + b) % 100 = b by omega]
theorem g2_at {R : Nat → Int32} {a b : Nat} (hb : b < 100) : gC2 R (100 * a + b) = gCh (changeR (cOf R) a R) b := by
  unfold gC2
  rw [c1_at hb, show (100 * a + b) % 100 = b by omega]
theorem okC_lt {R : Nat → Int32} {q : Nat} (h : okC R q) : q < 10 * cOf R := by
  have := h.1
  omega
theorem okC_c {R : Nat → Int32} {c q : Nat} (hc : c = cOf R) : okC R q ↔ canC R c q := by rw [hc]; exact Iff.rfl
theorem nI_n9' {i : Nat} (h : i < 100000) : ¬ nI i = -9 := fun e => by
  have := nI_pos' (n := i) (by omega)
  rw [e] at this
  exact absurd this (by decide)
/-- the loaf is there: all that the searches take of it -/
theorem Rel.own {m : sM} {n : sN} (h : Rel m n) (l : ¬ m 253 0 = 0) : m 253 0 = 1 ∧ m 6 4 = 1 ∧ LA m 6 (lfR m 0) ∧ sR (lfR m 0) ∧ dOK (lfR m 0) ∧ m 7 1 = 1 ∧ m 9 4 = 1 ∧ flR (lfR m 0) := by
  rcases h.l.1 with ⟨l1, l2⟩ | ⟨l1, l2, l3, l4, l5, l6, l7⟩
  · exact absurd l1 l
  · exact ⟨l1, l2, l3, l4, l5, l6, l7, l4.1.2.2.2.2.1⟩
theorem Rel.none {m : sM} {n : sN} (h : Rel m n) (l : m 253 0 = 0) : m 6 4 = 0 := by
  rcases h.l.1 with ⟨l1, l2⟩ | ⟨l1, l2, l3, l4, l5, l6, l7⟩
  · exact l2
  · exact absurd l (by rw [l1]; decide)
set_option maxHeartbeats 1000000 in
theorem c_X11_change_ok {L : Nat} {xs : Nat → Int32} {d : Nat} {m : sM} {n : sN} {Q : sQ} (h : Rel m n) (l : ¬ m 253 0 = 0) (hQ : ∀ m' b wv, frC m m' → BK m' → SC (okC (lfR m 0)) gtI nI (gCh (lfR m 0)) (-1) 100 b wv → (b = -9 → Q (some (.int b)) m' n) ∧ (¬ b = -9 → Q (some (.int b)) (tellM m' wv) n)) : sRun (scT L xs) (d + 7) yX11_change cX11_change 5 (some .int) [.ref 0] m n Q := by
  obtain ⟨l1, l2, l3, l4, l5, l6, l7, lf⟩ := h.own l
  obtain ⟨R, hR⟩ : ∃ R, R = lfR m 0 := ⟨_, rfl⟩
  obtain ⟨c, hc⟩ : ∃ c, c = cOf R := ⟨_, rfl⟩
  rw [← hR] at l3 l4 l5 lf hQ
  have c5 : R 5 = nI c := by rw [hc]; exact l5.1
  have c10 : c ≤ 10 := by rw [hc]; exact l5.2.1
  obtain ⟨G, hG⟩ : ∃ G, G = gCh R := ⟨_, rfl⟩
  rw [← hG] at hQ
  refine y_run (own := "LoafFall") rfl (by decide +kernel) (Nat.le_of_ble_eq_true rfl) rfl ?_
  refine y_aload_n dX11_change_0 rfl rfl ?_
  refine y_getr dX11_change_1 gf_X11_40 sh_0 rfl ?_
  refine y_geti dX11_change_4 gf_X11_211 sh_6 rfl ?_
  refine y_if_ne (tgt := 13) dX11_change_7 (by decide) (fun h7 => ?_) (fun h7 => absurd h7 (by rw [l2]; decide))
  refine y_bipush (v := -9) dX11_change_13 (by decide) ?_
  refine y_ist5_1 dX11_change_15 rfl ?_
  refine y_iconst (v := -1) dX11_change_16 (by decide) ?_
  refine y_ist5_2 dX11_change_17 rfl ?_
  refine y_iconst (v := 0) dX11_change_18 (by decide) ?_
  refine y_ist5_3 dX11_change_19 rfl ?_
  refine cnt (P := fun q => ∀ m' b wv, ∀ a4 : Option Value, frC m m' → BK m' → SC (okC R) gtI nI G (-1) q b wv → sV (scT L xs) (d + 6) "LoafFall" cX11_change 5 (some .int) Q 20 [some (.ref 0), some (.int b), some (.int wv), some (.int (nI q)), a4] [] m' n) (10 * c) ?_ ?_ 0 (by omega) m (-9) (-1) none frC.rf h.bk SC.zero
  · intro m' b wv a4 v1 v2 sc
    have e93 : m' 9 3 = nI c := by rw [v1 _ (by omega)]; exact l3.2.2.1.trans c5
    have tD : DR m' 9 R := DR_m l3.dr (fun c h1 h2 => v1 c (by omega))
    refine y_iload_n dX11_change_20 rfl rfl ?_
    refine y_bipush (v := 10) dX11_change_21 (by decide) ?_
    refine y_aload_n dX11_change_23 rfl rfl ?_
    refine y_getr dX11_change_24 gf_X11_40 sh_0 rfl ?_
    refine y_getr dX11_change_27 gf_X11_204 sh_6 rfl ?_
    refine y_geti dX11_change_30 gf_X11_182 sh_9 rfl ?_
    rw [e93]
    refine y_imulN (a := 10) (b := c) dX11_change_33 rfl rfl ?_
    refine y_icmp_ge (tgt := 116) dX11_change_34 (by decide) (fun h34 => ?_) (fun h34 => absurd (nI_le (a := (10 * c)) (b := (10 * c)) (Nat.le_refl _) (by omega)) h34)
    refine y_iload_n dX11_change_116 rfl rfl ?_
    refine y_bipush (v := -9) dX11_change_117 (by decide) ?_
    refine y_icmp_eq (tgt := 127) dX11_change_119 (by decide) (fun h119 => ?_) (fun h119 => ?_)
    · refine y_iload_n dX11_change_127 rfl rfl ?_
      refine y_ireturn dX11_change_128 rfl rfl ?_
      have sc2 := sc.nos (100 - 10 * c) (fun i h1 h2 z => by have := okC_lt z; omega)
      rw [show 10 * c + (100 - 10 * c) = 100 by omega] at sc2
      first
        | exact (hQ m' b wv v1 v2 sc2).1 h119
        | exact (hQ m' b wv v1 v2 sc2).2 h119
    · refine y_aload_n dX11_change_122 rfl rfl ?_
      refine y_iload_n dX11_change_123 rfl rfl ?_
      refine y_puti dX11_change_124 pf_X11_194 sh_0 rfl rfl rfl ?_
      refine y_iload_n dX11_change_127 rfl rfl ?_
      refine y_ireturn dX11_change_128 rfl rfl ?_
      have sc2 := sc.nos (100 - 10 * c) (fun i h1 h2 z => by have := okC_lt z; omega)
      rw [show 10 * c + (100 - 10 * c) = 100 by omega] at sc2
      first
        | exact (hQ m' b wv v1 v2 sc2).1 h119
        | exact (hQ m' b wv v1 v2 sc2).2 h119
  · intro q hk hP
    intro m' b wv a4 v1 v2 sc
    have e93 : m' 9 3 = nI c := by rw [v1 _ (by omega)]; exact l3.2.2.1.trans c5
    have tD : DR m' 9 R := DR_m l3.dr (fun c h1 h2 => v1 c (by omega))
    refine y_iload_n dX11_change_20 rfl rfl ?_
    refine y_bipush (v := 10) dX11_change_21 (by decide) ?_
    refine y_aload_n dX11_change_23 rfl rfl ?_
    refine y_getr dX11_change_24 gf_X11_40 sh_0 rfl ?_
    refine y_getr dX11_change_27 gf_X11_204 sh_6 rfl ?_
    refine y_geti dX11_change_30 gf_X11_182 sh_9 rfl ?_
    rw [e93]
    refine y_imulN (a := 10) (b := c) dX11_change_33 rfl rfl ?_
    refine y_icmp_ge (tgt := 116) dX11_change_34 (by decide) (fun h34 => absurd h34 (nI_ge (a := q) (b := (10 * c)) hk (by omega))) (fun h34 => ?_)
    refine y_aload_n dX11_change_37 rfl rfl ?_
    refine y_getr dX11_change_38 gf_X11_40 sh_0 rfl ?_
    refine y_getr dX11_change_41 gf_X11_204 sh_6 rfl ?_
    refine y_iload_n dX11_change_44 rfl rfl ?_
    refine y_ivI1 dX11_change_45 mv_X11_317 my_X1_allows (Or.inl rfl) sh_9 ?_
    refine c_X1_allows (R := R) (c := c) (q := q) lf6.2.2.1 tD c5 c10 rfl (by omega) (fun ok => ⟨_, rfl, ?_⟩) (fun ok => ⟨_, rfl, ?_⟩)
    · refine y_if_ne (tgt := 54) dX11_change_48 (by decide) (fun h48 => ?_) (fun h48 => absurd h48 (by decide))
      refine y_aload_n dX11_change_54 rfl rfl ?_
      refine y_getr dX11_change_55 gf_X11_78 sh_0 rfl ?_
      refine y_aload_n dX11_change_58 rfl rfl ?_
      refine y_getr dX11_change_59 gf_X11_40 sh_0 rfl ?_
      refine y_getr dX11_change_62 gf_X11_204 sh_6 rfl ?_
      refine y_ivV1 dX11_change_65 mv_X11_179 my_X1_take (Or.inl rfl) sh_127 ?_
      refine c_X1_take (s := c) dg127 lf6.2.2.1 (by omega) e93 c10 (Or.inr (by rw [v1 _ (by omega)]; exact l7)) (fun m2 s1 => ⟨rfl, ?_⟩)
      refine y_aload_n dX11_change_68 rfl rfl ?_
      refine y_getr dX11_change_69 gf_X11_78 sh_0 rfl ?_
      refine y_iload_n dX11_change_72 rfl rfl ?_
      refine y_ivV1 dX11_change_73 mv_X11_320 my_X1_changeBy (Or.inl rfl) sh_127 ?_
      refine c_X1_changeBy (R := R) (c := c) (q := q) dg127 (DR_t2 tD hc s1) c5 c10 rfl (by omega) (fun _ m3 s3 s2 => ⟨rfl, ?_⟩) (fun z => absurd ok z)
      have hD : dOK (changeR c q R) := by rw [hc] at ok ⊢; exact d_change l5 ok
      have eg : G q = WV (changeR c q R) := by rw [hG]; unfold gCh; rw [← hc]
      have gw : gtI (G q) (-1) := by rw [eg]; exact wv_gt (fl_low lf (fun p hp => chg_lo hp)) hD
      refine y_aload_n dX11_change_76 rfl rfl ?_
      refine y_getr dX11_change_77 gf_X11_61 sh_0 rfl ?_
      refine y_aload_n dX11_change_80 rfl rfl ?_
      refine y_getr dX11_change_81 gf_X11_40 sh_0 rfl ?_
      refine y_getr dX11_change_84 gf_X11_240 sh_6 rfl ?_
      refine y_aload_n dX11_change_87 rfl rfl ?_
      refine y_getr dX11_change_88 gf_X11_78 sh_0 rfl ?_
      refine y_ivR2 dX11_change_91 mv_X11_303 my_X0_bake (Or.inl rfl) sh_35 ?_
      refine c_bakeV (R := changeR c q R) lf6.2.1 dg127 (by omega) (by omega) (fun i hi => by rw [s2.1 _ (by omega), s1.1 _ (by omega), v1 _ (by omega), chg_lo hi]; exact l3.fr i hi) s3 (fl_low lf (fun p hp => chg_lo hp)) hD (Or.inr (by rw [s2.1 _ (by omega), s1.1 _ (by omega), v1 _ (by omega)]; exact l6)) (Or.inr (by rw [s2.2, s1.2.2.2, v1 _ (by omega)]; exact l7)) (BK_m v2 (fun c h1 h2 => by rw [s2.1 c (by omega), s1.1 c (by omega)])) (fun m4 A a1 a2 a3 a4' a5 => ⟨_, rfl, ?_⟩)
      refine y_ivI0 dX11_change_94 mv_X11_255 my_X2_worthNow (Or.inl rfl) dh43.1 ?_
      refine c_X2_worthNow dh43 a1 a2 ⟨_, rfl, ?_⟩
      rw [a3.w, ← eg]
      refine y_ist5_4 dX11_change_97 rfl ?_
      refine y_iload dX11_change_99 rfl ?_
      refine y_iload_n dX11_change_101 rfl rfl ?_
      refine y_icmp_le (tgt := 110) dX11_change_102 (by decide) (fun h102 => ?_) (fun h102 => ?_)
      · refine y_iinc5_3 dX11_change_110 (nI_1 _) rfl ?_
        refine y_goto (tgt := 20) dX11_change_113 (by decide) ?_
        first
          | exact hP m4 (nI q) (G q) _ (fun a ha => by rw [a5 a (by omega), s2.1 a (by omega), s1.1 a (by omega)]; exact v1 a ha) a4' (sc.take ((okC_c hc).mpr ok) (nI_n9' (by omega)) (Int32.not_le.mp h102))
          | exact hP m4 b wv _ (fun a ha => by rw [a5 a (by omega), s2.1 a (by omega), s1.1 a (by omega)]; exact v1 a ha) a4' (sc.skip gw (Int32.not_lt.mpr h102))
          | exact hP m' b wv _ v1 v2 (sc.no (fun z => ok ((okC_c hc).mp z)))
      · refine y_iload dX11_change_105 rfl ?_
        refine y_ist5_2 dX11_change_107 rfl ?_
        refine y_iload_n dX11_change_108 rfl rfl ?_
        refine y_ist5_1 dX11_change_109 rfl ?_
        refine y_iinc5_3 dX11_change_110 (nI_1 _) rfl ?_
        refine y_goto (tgt := 20) dX11_change_113 (by decide) ?_
        first
          | exact hP m4 (nI q) (G q) _ (fun a ha => by rw [a5 a (by omega), s2.1 a (by omega), s1.1 a (by omega)]; exact v1 a ha) a4' (sc.take ((okC_c hc).mpr ok) (nI_n9' (by omega)) (Int32.not_le.mp h102))
          | exact hP m4 b wv _ (fun a ha => by rw [a5 a (by omega), s2.1 a (by omega), s1.1 a (by omega)]; exact v1 a ha) a4' (sc.skip gw (Int32.not_lt.mpr h102))
          | exact hP m' b wv _ v1 v2 (sc.no (fun z => ok ((okC_c hc).mp z)))
    · refine y_if_ne (tgt := 54) dX11_change_48 (by decide) (fun h48 => absurd (by decide) h48) (fun h48 => ?_)
      refine y_goto (tgt := 110) dX11_change_51 (by decide) ?_
      refine y_iinc5_3 dX11_change_110 (nI_1 _) rfl ?_
      refine y_goto (tgt := 20) dX11_change_113 (by decide) ?_
      first
        | exact hP m4 (nI q) (G q) _ (fun a ha => by rw [a5 a (by omega), s2.1 a (by omega), s1.1 a (by omega)]; exact v1 a ha) a4' (sc.take ((okC_c hc).mpr ok) (nI_n9' (by omega)) (Int32.not_le.mp h102))
        | exact hP m4 b wv _ (fun a ha => by rw [a5 a (by omega), s2.1 a (by omega), s1.1 a (by omega)]; exact v1 a ha) a4' (sc.skip gw (Int32.not_lt.mpr h102))
        | exact hP m' b wv _ v1 v2 (sc.no (fun z => ok ((okC_c hc).mp z)))
set_option maxHeartbeats 1000000 in
theorem c_X12_change_ok {L : Nat} {xs : Nat → Int32} {d : Nat} {m : sM} {n : sN} {Q : sQ} (l1 : m 253 0 = 1) (l5 : dOK (lfR m 0)) (hQ : ∀ M, WM m M → ((selF (okC (lfR m 0)) gtI nI (gCh (lfR m 0)) 100).1 = -9 → Q (some (.int (-9))) M n) ∧ (¬ (selF (okC (lfR m 0)) gtI nI (gCh (lfR m 0)) 100).1 = -9 → Q (some (.int (selF (okC (lfR m 0)) gtI nI (gCh (lfR m 0)) 100).1)) (tellsM M (selF (okC (lfR m 0)) gtI nI (gCh (lfR m 0)) 100).2) n)) : sRun (scT L xs) (d + 10) yX12_change cX12_change 4 (some .int) [.ref 239] m n Q := by
  obtain ⟨R, hR⟩ : ∃ R, R = lfR m 0 := ⟨_, rfl⟩
  obtain ⟨c, hc⟩ : ∃ c, c = cOf R := ⟨_, rfl⟩
  rw [← hR] at l5 hQ
  have c5 : R 5 = nI c := by rw [hc]; exact l5.1
  have c10 : c ≤ 10 := by rw [hc]; exact l5.2.1
  have hT : rsum R c = nI (Tn R c) := by rw [hc]; exact rsum_Tn l5.2.2.1 l5.2.2.2.1 _ (Nat.le_refl _)
  have hT2 : Tn R c ≤ 90 := by rw [hc]; exact l5.2.2.2.2
  obtain ⟨G, hG⟩ : ∃ G, G = gCh R := ⟨_, rfl⟩
  rw [← hG] at hQ
  refine y_run (own := "LoafFallModel") rfl (by decide +kernel) (Nat.le_of_ble_eq_true rfl) rfl ?_
  refine y_aload_n dX12_change_0 rfl rfl ?_
  refine y_getr dX12_change_1 gf_X12_51 sh_239 rfl ?_
  refine y_iconst (v := 0) dX12_change_4 (by decide) ?_
  refine y_zaldN dX12_change_5 sh_253 rfl (by first | omega | decide) (by decide) ?_
  refine y_if_ne (tgt := 12) dX12_change_6 (by decide) (fun h6 => ?_) (fun h6 => absurd h6 (by rw [l1]; decide))
  refine y_bipush (v := -9) dX12_change_12 (by decide) ?_
  refine y_ist4_1 dX12_change_14 rfl ?_
  refine y_iconst (v := 0) dX12_change_15 (by decide) ?_
  refine y_ist4_2 dX12_change_16 rfl ?_
  refine y_iconst (v := 0) dX12_change_17 (by decide) ?_
  refine y_ist4_3 dX12_change_18 rfl ?_
  refine cnt (P := fun q => ∀ M, WM m M → sV (scT L xs) (d + 9) "LoafFallModel" cX12_change 4 (some .int) Q 19 [some (.ref 239), some (.int (selF (okC R) gtI nI G q).1), some (.int (selF (okC R) gtI nI G q).2), some (.int (nI q))] [] M n) 100 ?_ ?_ 0 (by omega) m (Or.inl rfl)
  · intro M hW
    refine y_iload_n dX12_change_19 rfl rfl ?_
    refine y_bipush (v := 100) dX12_change_20 (by decide) ?_
    refine y_icmp_ge (tgt := 68) dX12_change_22 (by decide) (fun h22 => ?_) (fun h22 => absurd (nI_le (a := 100) (b := 100) (Nat.le_refl _) (by decide)) h22)
    refine y_iload_n dX12_change_68 rfl rfl ?_
    refine y_bipush (v := -9) dX12_change_69 (by decide) ?_
    refine y_icmp_ne (tgt := 79) dX12_change_71 (by decide) (fun h71 => ?_) (fun h71 => ?_)
    · refine y_aload_n dX12_change_79 rfl rfl ?_
      refine y_iload_n dX12_change_80 rfl rfl ?_
      refine y_iload_n dX12_change_81 rfl rfl ?_
      refine y_ivI2 dX12_change_82 mv_X12_108 my_X12_tells (Or.inl rfl) sh_239 ?_
      refine c_X12_tells ⟨_, rfl, ?_⟩
      refine y_ireturn dX12_change_85 rfl rfl ?_
      first
        | exact (hQ M hW).1 h71
        | exact (hQ M hW).2 h71
    · refine y_bipush (v := -9) dX12_change_74 (by decide) ?_
      refine y_goto (tgt := 85) dX12_change_76 (by decide) ?_
      refine y_ireturn dX12_change_85 rfl rfl ?_
      first
        | exact (hQ M hW).1 h71
        | exact (hQ M hW).2 h71
  · intro q hk hP
    intro M hW
    refine y_iload_n dX12_change_19 rfl rfl ?_
    refine y_bipush (v := 100) dX12_change_20 (by decide) ?_
    refine y_icmp_ge (tgt := 68) dX12_change_22 (by decide) (fun h22 => absurd h22 (nI_ge (a := q) (b := 100) hk (by decide))) (fun h22 => ?_)
    refine y_aload_n dX12_change_25 rfl rfl ?_
    refine y_ivV0 dX12_change_26 mv_X12_289 my_X12_layOwn (Or.inl rfl) sh_239 ?_
    refine c_layOwn hW (fun hh => ⟨rfl, ?_⟩)
    rw [← hR]
    refine y_aload_n dX12_change_29 rfl rfl ?_
    refine y_iload_n dX12_change_30 rfl rfl ?_
    refine y_ivI1 dX12_change_31 mv_X12_292 my_X12_canChange (Or.inl rfl) sh_239 ?_
    refine c_X12_canChange (wk_b (by omega)) (q := q) (c := c) rfl (by omega) c5 c10 l5.2.2.1 hT hT2 (fun ok => ⟨_, rfl, ?_⟩) (fun ok => ⟨_, rfl, ?_⟩)
    · refine y_if_eq (tgt := 62) dX12_change_34 (by decide) (fun h34 => absurd h34 (by decide)) (fun h34 => ?_)
      refine y_aload_n dX12_change_37 rfl rfl ?_
      have hD : dOK (changeR c q R) := by rw [hc] at ok ⊢; exact d_change l5 ok
      have eg : WV (changeR c q R) = G q := by rw [hG]; unfold gCh; rw [← hc]
      refine y_ivV0 dX12_change_38 mv_X12_263 my_X12_bakes (Or.inl rfl) sh_239 ?_
      refine c_bakesW (wk_b (by omega)) hD (fun h' => ⟨rfl, ?_⟩)
      refine y_iload_n dX12_change_41 rfl rfl ?_
      refine y_bipush (v := -9) dX12_change_42 (by decide) ?_
      refine y_icmp_eq (tgt := 55) dX12_change_44 (by decide) (fun h44 => ?_) (fun h44 => ?_)
      · refine y_iload_n dX12_change_55 rfl rfl ?_
        refine y_ist4_1 dX12_change_56 rfl ?_
        refine y_aload_n dX12_change_57 rfl rfl ?_
        refine y_ivI0 dX12_change_58 mv_X12_247 my_X12_worthNow (Or.inl rfl) sh_239 ?_
        refine c_X12_worthNow (wk_b (by omega)) ⟨_, rfl, ?_⟩
        rw [show worthF (BV (changeR c q R)) = G q from eg]
        refine y_ist4_2 dX12_change_61 rfl ?_
        refine y_iinc4_3 dX12_change_62 (nI_1 _) rfl ?_
        refine y_goto (tgt := 19) dX12_change_65 (by decide) ?_
        first
          | (rw [sel_y (ok := okC R) (bt := gtI) (k := q) ((okC_c hc).mpr ok) (Or.inr (Int32.not_le.mp h52))] at hP; exact hP _ WM.st)
          | (rw [sel_n (ok := okC R) (bt := gtI) (k := q) (fun z => z.2.elim h44 (fun y => absurd h52 (Int32.not_le.mpr y)))] at hP; exact hP _ WM.st)
          | (rw [sel_y (ok := okC R) (bt := gtI) (k := q) ((okC_c hc).mpr ok) (Or.inl h44)] at hP; exact hP _ WM.st)
          | (rw [sel_no (ok := okC R) (k := q) (fun z => ok ((okC_c hc).mp z))] at hP; exact hP _ WM.st)
      · refine y_aload_n dX12_change_47 rfl rfl ?_
        refine y_ivI0 dX12_change_48 mv_X12_247 my_X12_worthNow (Or.inl rfl) sh_239 ?_
        refine c_X12_worthNow (wk_b (by omega)) ⟨_, rfl, ?_⟩
        rw [show worthF (BV (changeR c q R)) = G q from eg]
        refine y_iload_n dX12_change_51 rfl rfl ?_
        refine y_icmp_le (tgt := 62) dX12_change_52 (by decide) (fun h52 => ?_) (fun h52 => ?_)
        · refine y_iinc4_3 dX12_change_62 (nI_1 _) rfl ?_
          refine y_goto (tgt := 19) dX12_change_65 (by decide) ?_
          first
            | (rw [sel_y (ok := okC R) (bt := gtI) (k := q) ((okC_c hc).mpr ok) (Or.inr (Int32.not_le.mp h52))] at hP; exact hP _ WM.st)
            | (rw [sel_n (ok := okC R) (bt := gtI) (k := q) (fun z => z.2.elim h44 (fun y => absurd h52 (Int32.not_le.mpr y)))] at hP; exact hP _ WM.st)
            | (rw [sel_y (ok := okC R) (bt := gtI) (k := q) ((okC_c hc).mpr ok) (Or.inl h44)] at hP; exact hP _ WM.st)
            | (rw [sel_no (ok := okC R) (k := q) (fun z => ok ((okC_c hc).mp z))] at hP; exact hP _ WM.st)
        · refine y_iload_n dX12_change_55 rfl rfl ?_
          refine y_ist4_1 dX12_change_56 rfl ?_
          refine y_aload_n dX12_change_57 rfl rfl ?_
          refine y_ivI0 dX12_change_58 mv_X12_247 my_X12_worthNow (Or.inl rfl) sh_239 ?_
          refine c_X12_worthNow (wk_b (by omega)) ⟨_, rfl, ?_⟩
          rw [show worthF (BV (changeR c q R)) = G q from eg]
          refine y_ist4_2 dX12_change_61 rfl ?_
          refine y_iinc4_3 dX12_change_62 (nI_1 _) rfl ?_
          refine y_goto (tgt := 19) dX12_change_65 (by decide) ?_
          first
            | (rw [sel_y (ok := okC R) (bt := gtI) (k := q) ((okC_c hc).mpr ok) (Or.inr (Int32.not_le.mp h52))] at hP; exact hP _ WM.st)
            | (rw [sel_n (ok := okC R) (bt := gtI) (k := q) (fun z => z.2.elim h44 (fun y => absurd h52 (Int32.not_le.mpr y)))] at hP; exact hP _ WM.st)
            | (rw [sel_y (ok := okC R) (bt := gtI) (k := q) ((okC_c hc).mpr ok) (Or.inl h44)] at hP; exact hP _ WM.st)
            | (rw [sel_no (ok := okC R) (k := q) (fun z => ok ((okC_c hc).mp z))] at hP; exact hP _ WM.st)
    · refine y_if_eq (tgt := 62) dX12_change_34 (by decide) (fun h34 => ?_) (fun h34 => absurd (by decide) h34)
      refine y_iinc4_3 dX12_change_62 (nI_1 _) rfl ?_
      refine y_goto (tgt := 19) dX12_change_65 (by decide) ?_
      first
        | (rw [sel_y (ok := okC R) (bt := gtI) (k := q) ((okC_c hc).mpr ok) (Or.inr (Int32.not_le.mp h52))] at hP; exact hP _ WM.st)
        | (rw [sel_n (ok := okC R) (bt := gtI) (k := q) (fun z => z.2.elim h44 (fun y => absurd h52 (Int32.not_le.mpr y)))] at hP; exact hP _ WM.st)
        | (rw [sel_y (ok := okC R) (bt := gtI) (k := q) ((okC_c hc).mpr ok) (Or.inl h44)] at hP; exact hP _ WM.st)
        | (rw [sel_no (ok := okC R) (k := q) (fun z => ok ((okC_c hc).mp z))] at hP; exact hP _ WM.st)
set_option maxHeartbeats 2000000 in
theorem p_change {L : Nat} {xs : Nat → Int32} {d : Nat} {m : sM} {n : sN} (h : Rel m n) : PI L xs (d + 11) yX11_change cX11_change 5 yX12_change cX12_change 4 [] m n := by
  unfold PI
  by_cases l : m 253 0 = 0
  · refine y_run (own := "LoafFall") rfl (by decide +kernel) (Nat.le_of_ble_eq_true rfl) rfl ?_
    refine y_aload_n dX11_change_0 rfl rfl ?_
    refine y_getr dX11_change_1 gf_X11_40 sh_0 rfl ?_
    refine y_geti dX11_change_4 gf_X11_211 sh_6 rfl ?_
    refine y_if_ne (tgt := 13) dX11_change_7 (by decide) (fun h7 => absurd (h.none l) h7) (fun h7 => ?_)
    refine y_bipush (v := -4) dX11_change_10 (by decide) ?_
    refine y_ireturn dX11_change_12 rfl rfl ?_
    refine ⟨_, rfl, ?_⟩
    refine y_run (own := "LoafFallModel") rfl (by decide +kernel) (Nat.le_of_ble_eq_true rfl) rfl ?_
    refine y_aload_n dX12_change_0 rfl rfl ?_
    refine y_getr dX12_change_1 gf_X12_51 sh_239 rfl ?_
    refine y_iconst (v := 0) dX12_change_4 (by decide) ?_
    refine y_zaldN dX12_change_5 sh_253 rfl (by first | omega | decide) (by decide) ?_
    refine y_if_ne (tgt := 12) dX12_change_6 (by decide) (fun h6 => absurd l h6) (fun h6 => ?_)
    refine y_bipush (v := -4) dX12_change_9 (by decide) ?_
    refine y_ireturn dX12_change_11 rfl rfl ?_
    exact ⟨rfl, h⟩
  · refine c_X11_change_ok h l (fun m' b wv v1 v2 sc => ⟨fun hb => ⟨_, rfl, ?_⟩, fun hb => ⟨_, rfl, ?_⟩⟩)
    · have e0 : lfR m' 0 = lfR m 0 := lfR_m (v1 254 (by omega))
      refine c_X12_change_ok (by rw [v1 _ (by omega)]; exact (h.own l).1) (by rw [e0]; exact (h.own l).2.2.2.2.1) (fun M hW => ?_)
      rw [e0]
      exact ⟨fun _ => ⟨by rw [hb], Rel_scr h v1 v2 hW.fr⟩, fun z => absurd (sc.1.symm.trans hb) z⟩
    · generalize em : tellM m' wv = m1
      have gg : ∀ a, 137 ≤ a → m1 a = m a := fun a ha => by rw [← em, tell_o (by omega)]; exact v1 a (by omega)
      have e0 : lfR m1 0 = lfR m 0 := lfR_m (gg 254 (by omega))
      refine c_X12_change_ok (by rw [gg _ (by omega)]; exact (h.own l).1) (by rw [e0]; exact (h.own l).2.2.2.2.1) (fun M hW => ?_)
      rw [e0]
      refine ⟨fun z => absurd (sc.1.trans z) hb, fun _ => ⟨by rw [sc.1], ?_⟩⟩
      rw [← sc.2.1 hb]
      rw [← em] at hW
      exact Rel_tell h v1 v2 hW.fr
set_option maxHeartbeats 1000000 in
theorem c_X11_changes_ok {L : Nat} {xs : Nat → Int32} {d : Nat} {m : sM} {n : sN} {Q : sQ} (h : Rel m n) (l : ¬ m 253 0 = 0) (hQ : ∀ m' b wv, frC m m' → BK m' → SC (okC2 (lfR m 0)) gtI nI (gC2 (lfR m 0)) (-1) 10000 b wv → (b = -9 → Q (some (.int b)) m' n) ∧ (¬ b = -9 → Q (some (.int b)) (tellM m' wv) n)) : sRun (scT L xs) (d + 7) yX11_changes cX11_changes 6 (some .int) [.ref 0] m n Q := by
  obtain ⟨l1, l2, l3, l4, l5, l6, l7, lf⟩ := h.own l
  obtain ⟨R, hR⟩ : ∃ R, R = lfR m 0 := ⟨_, rfl⟩
  obtain ⟨c, hc⟩ : ∃ c, c = cOf R := ⟨_, rfl⟩
  rw [← hR] at l3 l4 l5 lf hQ
  have c5 : R 5 = nI c := by rw [hc]; exact l5.1
  have c10 : c ≤ 10 := by rw [hc]; exact l5.2.1
  obtain ⟨G, hG⟩ : ∃ G, G = gC2 R := ⟨_, rfl⟩
  rw [← hG] at hQ
  refine y_run (own := "LoafFall") rfl (by decide +kernel) (Nat.le_of_ble_eq_true rfl) rfl ?_
  refine y_aload_n dX11_changes_0 rfl rfl ?_
  refine y_getr dX11_changes_1 gf_X11_40 sh_0 rfl ?_
  refine y_geti dX11_changes_4 gf_X11_211 sh_6 rfl ?_
  refine y_if_ne (tgt := 13) dX11_changes_7 (by decide) (fun h7 => ?_) (fun h7 => absurd h7 (by rw [l2]; decide))
  refine y_bipush (v := -9) dX11_changes_13 (by decide) ?_
  refine y_ist6_1 dX11_changes_15 rfl ?_
  refine y_iconst (v := -1) dX11_changes_16 (by decide) ?_
  refine y_ist6_2 dX11_changes_17 rfl ?_
  refine y_iconst (v := 0) dX11_changes_18 (by decide) ?_
  refine y_ist6_3 dX11_changes_19 rfl ?_
  refine cnt (P := fun q => ∀ m' b wv, ∀ a4 a5 : Option Value, a_isL a4 = false → frC m m' → BK m' → SC (okC2 R) gtI nI G (-1) (100 * q) b wv → sV (scT L xs) (d + 6) "LoafFall" cX11_changes 6 (some .int) Q 20 [some (.ref 0), some (.int b), some (.int wv), some (.int (nI q)), a4, a5] [] m' n) (10 * c) ?_ ?_ 0 (by omega) m (-9) (-1) none none rfl frC.rf h.bk SC.zero
  · intro m' b wv a4 a5 ha4 v1 v2 sc
    have e93 : m' 9 3 = nI c := by rw [v1 _ (by omega)]; exact l3.2.2.1.trans c5
    have tD : DR m' 9 R := DR_m l3.dr (fun c h1 h2 => v1 c (by omega))
    refine y_iload_n dX11_changes_20 rfl rfl ?_
    refine y_bipush (v := 10) dX11_changes_21 (by decide) ?_
    refine y_aload_n dX11_changes_23 rfl rfl ?_
    refine y_getr dX11_changes_24 gf_X11_40 sh_0 rfl ?_
    refine y_getr dX11_changes_27 gf_X11_204 sh_6 rfl ?_
    refine y_geti dX11_changes_30 gf_X11_182 sh_9 rfl ?_
    rw [e93]
    refine y_imulN (a := 10) (b := c) dX11_changes_33 rfl rfl ?_
    refine y_icmp_ge (tgt := 181) dX11_changes_34 (by decide) (fun h34 => ?_) (fun h34 => absurd (nI_le (a := (10 * c)) (b := (10 * c)) (Nat.le_refl _) (by omega)) h34)
    refine y_iload_n dX11_changes_181 rfl rfl ?_
    refine y_bipush (v := -9) dX11_changes_182 (by decide) ?_
    refine y_icmp_eq (tgt := 192) dX11_changes_184 (by decide) (fun h184 => ?_) (fun h184 => ?_)
    · refine y_iload_n dX11_changes_192 rfl rfl ?_
      refine y_ireturn dX11_changes_193 rfl rfl ?_
      have sc2 := sc.nos (10000 - 100 * (10 * c)) (fun i h1 h2 z => by have := okC_lt z.1; omega)
      rw [show 100 * (10 * c) + (10000 - 100 * (10 * c)) = 10000 by omega] at sc2
      first
        | exact (hQ m' b wv v1 v2 sc2).1 h184
        | exact (hQ m' b wv v1 v2 sc2).2 h184
    · refine y_aload_n dX11_changes_187 rfl rfl ?_
      refine y_iload_n dX11_changes_188 rfl rfl ?_
      refine y_puti dX11_changes_189 pf_X11_194 sh_0 rfl rfl rfl ?_
      refine y_iload_n dX11_changes_192 rfl rfl ?_
      refine y_ireturn dX11_changes_193 rfl rfl ?_
      have sc2 := sc.nos (10000 - 100 * (10 * c)) (fun i h1 h2 z => by have := okC_lt z.1; omega)
      rw [show 100 * (10 * c) + (10000 - 100 * (10 * c)) = 10000 by omega] at sc2
      first
        | exact (hQ m' b wv v1 v2 sc2).1 h184
        | exact (hQ m' b wv v1 v2 sc2).2 h184
  · intro q hk hP
    intro m' b wv a4 a5 ha4 v1 v2 sc
    have e93 : m' 9 3 = nI c := by rw [v1 _ (by omega)]; exact l3.2.2.1.trans c5
    have tD : DR m' 9 R := DR_m l3.dr (fun c h1 h2 => v1 c (by omega))
    refine y_iload_n dX11_changes_20 rfl rfl ?_
    refine y_bipush (v := 10) dX11_changes_21 (by decide) ?_
    refine y_aload_n dX11_changes_23 rfl rfl ?_
    refine y_getr dX11_changes_24 gf_X11_40 sh_0 rfl ?_
    refine y_getr dX11_changes_27 gf_X11_204 sh_6 rfl ?_
    refine y_geti dX11_changes_30 gf_X11_182 sh_9 rfl ?_
    rw [e93]
    refine y_imulN (a := 10) (b := c) dX11_changes_33 rfl rfl ?_
    refine y_icmp_ge (tgt := 181) dX11_changes_34 (by decide) (fun h34 => absurd h34 (nI_ge (a := q) (b := (10 * c)) hk (by omega))) (fun h34 => ?_)
    refine y_aload_n dX11_changes_37 rfl rfl ?_
    refine y_getr dX11_changes_38 gf_X11_40 sh_0 rfl ?_
    refine y_getr dX11_changes_41 gf_X11_204 sh_6 rfl ?_
    refine y_iload_n dX11_changes_44 rfl rfl ?_
    refine y_ivI1 dX11_changes_45 mv_X11_317 my_X1_allows (Or.inl rfl) sh_9 ?_
    refine c_X1_allows (R := R) (c := c) (q := q) lf6.2.2.1 tD c5 c10 rfl (by omega) (fun ok => ⟨_, rfl, ?_⟩) (fun ok => ⟨_, rfl, ?_⟩)
    · refine y_if_ne (tgt := 54) dX11_changes_48 (by decide) (fun h48 => ?_) (fun h48 => absurd h48 (by decide))
      refine y_aload_n dX11_changes_54 rfl rfl ?_
      refine y_getr dX11_changes_55 gf_X11_82 sh_0 rfl ?_
      refine y_aload_n dX11_changes_58 rfl rfl ?_
      refine y_getr dX11_changes_59 gf_X11_40 sh_0 rfl ?_
      refine y_getr dX11_changes_62 gf_X11_204 sh_6 rfl ?_
      refine y_ivV1 dX11_changes_65 mv_X11_179 my_X1_take (Or.inl rfl) sh_131 ?_
      refine c_X1_take (s := c) dg131 lf6.2.2.1 (by omega) e93 c10 (Or.inr (by rw [v1 _ (by omega)]; exact l7)) (fun m2 s1 => ⟨rfl, ?_⟩)
      refine y_aload_n dX11_changes_68 rfl rfl ?_
      refine y_getr dX11_changes_69 gf_X11_82 sh_0 rfl ?_
      refine y_iload_n dX11_changes_72 rfl rfl ?_
      refine y_ivV1 dX11_changes_73 mv_X11_320 my_X1_changeBy (Or.inl rfl) sh_131 ?_
      refine c_X1_changeBy (R := R) (c := c) (q := q) dg131 (DR_t2 tD hc s1) c5 c10 rfl (by omega) (fun _ m3 s3 s2 => ⟨rfl, ?_⟩) (fun z => absurd ok z)
      refine y_iconst (v := 0) dX11_changes_76 (by decide) ?_
      refine y_ist6_4 dX11_changes_77 rfl ?_
      obtain ⟨R1, hR1⟩ : ∃ R1, R1 = changeR c q R := ⟨_, rfl⟩
      have hD1 : dOK R1 := by rw [hR1]; rw [hc] at ok ⊢; exact d_change l5 ok
      have lf1 : flR R1 := by rw [hR1]; exact fl_low lf (fun p hp => chg_lo hp)
      have lo1 : ∀ p, p < 5 → R1 p = R p := fun p hp => by rw [hR1]; exact chg_lo hp
      obtain ⟨c', hc'⟩ : ∃ c', c' = cOf R1 := ⟨_, rfl⟩
      have c5' : R1 5 = nI c' := by rw [hc']; exact hD1.1
      have c10' : c' ≤ 10 := by rw [hc']; exact hD1.2.1
      rw [← hR1] at s3
      have okq : okC R q := by unfold okC; rw [← hc]; exact ok
      have er : changeR (cOf R) q R = R1 := by rw [hR1, hc]
      refine cnt (P := fun j => ∀ m' b wv, ∀ a5 : Option Value, frC m m' → BK m' → DR m' 131 R1 → m' 131 4 = 1 → SC (okC2 R) gtI nI G (-1) (100 * q + j) b wv → sV (scT L xs) (d + 6) "LoafFall" cX11_changes 6 (some .int) Q 79 [some (.ref 0), some (.int b), some (.int wv), some (.int (nI q)), some (.int (nI j)), a5] [] m' n) (10 * c') ?_ ?_ 0 (by omega) _ b wv a5 (fun a ha => by rw [s2.1 a (by omega), s1.1 a (by omega)]; exact v1 a ha) (BK_m v2 (fun c h1 h2 => by rw [s2.1 c (by omega), s1.1 c (by omega)])) s3 (by rw [s2.2, s1.2.2.2, v1 _ (by omega)]; exact l7) sc
      · intro m' b wv a5 v1 v2 v3 v4 sc
        have e13 : m' 131 3 = nI c' := v3.2.trans c5'
        refine y_iload dX11_changes_79 rfl ?_
        refine y_bipush (v := 10) dX11_changes_81 (by decide) ?_
        refine y_aload_n dX11_changes_83 rfl rfl ?_
        refine y_getr dX11_changes_84 gf_X11_82 sh_0 rfl ?_
        refine y_geti dX11_changes_87 gf_X11_182 sh_131 rfl ?_
        rw [e13]
        refine y_imulN (a := 10) (b := c') dX11_changes_90 rfl rfl ?_
        refine y_icmp_ge (tgt := 175) dX11_changes_91 (by decide) (fun h91 => ?_) (fun h91 => absurd (nI_le (a := (10 * c')) (b := (10 * c')) (Nat.le_refl _) (by omega)) h91)
        refine y_iinc6_3 dX11_changes_175 (nI_1 _) rfl ?_
        refine y_goto (tgt := 20) dX11_changes_178 (by decide) ?_
        have sc2 := sc.nos (100 - 10 * c') (fun i h1 h2 z => by
          obtain ⟨u, rfl⟩ : ∃ u, i = 100 * q + u := ⟨i - 100 * q, by omega⟩
          have := okC_lt ((ok2_at (by omega)).mp z).2
          rw [er, ← hc'] at this
          omega)
        rw [show 100 * q + 10 * c' + (100 - 10 * c') = 100 * (q + 1) by omega] at sc2
        exact hP m' b wv _ _ rfl v1 v2 sc2
      · intro j hk hP
        intro m' b wv a5 v1 v2 v3 v4 sc
        have e13 : m' 131 3 = nI c' := v3.2.trans c5'
        refine y_iload dX11_changes_79 rfl ?_
        refine y_bipush (v := 10) dX11_changes_81 (by decide) ?_
        refine y_aload_n dX11_changes_83 rfl rfl ?_
        refine y_getr dX11_changes_84 gf_X11_82 sh_0 rfl ?_
        refine y_geti dX11_changes_87 gf_X11_182 sh_131 rfl ?_
        rw [e13]
        refine y_imulN (a := 10) (b := c') dX11_changes_90 rfl rfl ?_
        refine y_icmp_ge (tgt := 175) dX11_changes_91 (by decide) (fun h91 => absurd h91 (nI_ge (a := j) (b := (10 * c')) hk (by omega))) (fun h91 => ?_)
        refine y_aload_n dX11_changes_94 rfl rfl ?_
        refine y_getr dX11_changes_95 gf_X11_82 sh_0 rfl ?_
        refine y_iload dX11_changes_98 rfl ?_
        refine y_ivI1 dX11_changes_100 mv_X11_317 my_X1_allows (Or.inl rfl) sh_131 ?_
        refine c_X1_allows (R := R1) (c := c') (q := j) dg131 v3 c5' c10' rfl (by omega) (fun ok2 => ⟨_, rfl, ?_⟩) (fun ok2 => ⟨_, rfl, ?_⟩)
        · refine y_if_ne (tgt := 109) dX11_changes_103 (by decide) (fun h103 => ?_) (fun h103 => absurd h103 (by decide))
          refine y_aload_n dX11_changes_109 rfl rfl ?_
          refine y_getr dX11_changes_110 gf_X11_78 sh_0 rfl ?_
          refine y_aload_n dX11_changes_113 rfl rfl ?_
          refine y_getr dX11_changes_114 gf_X11_82 sh_0 rfl ?_
          refine y_ivV1 dX11_changes_117 mv_X11_179 my_X1_take (Or.inl rfl) sh_127 ?_
          refine c_X1_take (s := c') dg127 dg131 (by omega) e13 c10' (Or.inr v4) (fun m2 s1 => ⟨rfl, ?_⟩)
          refine y_aload_n dX11_changes_120 rfl rfl ?_
          refine y_getr dX11_changes_121 gf_X11_78 sh_0 rfl ?_
          refine y_iload dX11_changes_124 rfl ?_
          refine y_ivV1 dX11_changes_126 mv_X11_320 my_X1_changeBy (Or.inl rfl) sh_127 ?_
          refine c_X1_changeBy (R := R1) (c := c') (q := j) dg127 (DR_t2 v3 hc' s1) c5' c10' rfl (by omega) (fun _ m3 s3 s2 => ⟨rfl, ?_⟩) (fun z => absurd ok2 z)
          have hD : dOK (changeR c' j R1) := by rw [hc'] at ok2 ⊢; exact d_change hD1 ok2
          have eg : G (100 * q + j) = WV (changeR c' j R1) := by rw [hG, g2_at (by omega), er]; unfold gCh; rw [← hc']
          have gw : gtI (G (100 * q + j)) (-1) := by rw [eg]; exact wv_gt (fl_low lf1 (fun p hp => chg_lo hp)) hD
          have okk : okC2 R (100 * q + j) := (ok2_at (by omega)).mpr ⟨okq, by rw [er]; exact (okC_c hc').mpr ok2⟩
          refine y_aload_n dX11_changes_129 rfl rfl ?_
          refine y_getr dX11_changes_130 gf_X11_61 sh_0 rfl ?_
          refine y_aload_n dX11_changes_133 rfl rfl ?_
          refine y_getr dX11_changes_134 gf_X11_40 sh_0 rfl ?_
          refine y_getr dX11_changes_137 gf_X11_240 sh_6 rfl ?_
          refine y_aload_n dX11_changes_140 rfl rfl ?_
          refine y_getr dX11_changes_141 gf_X11_78 sh_0 rfl ?_
          refine y_ivR2 dX11_changes_144 mv_X11_303 my_X0_bake (Or.inl rfl) sh_35 ?_
          refine c_bakeV (R := changeR c' j R1) lf6.2.1 dg127 (by omega) (by omega) (fun i hi => by rw [s2.1 _ (by omega), s1.1 _ (by omega), v1 _ (by omega), chg_lo hi, lo1 i hi]; exact l3.fr i hi) s3 (fl_low lf1 (fun p hp => chg_lo hp)) hD (Or.inr (by rw [s2.1 _ (by omega), s1.1 _ (by omega), v1 _ (by omega)]; exact l6)) (Or.inr (by rw [s2.2, s1.2.2.2]; exact v4)) (BK_m v2 (fun c h1 h2 => by rw [s2.1 c (by omega), s1.1 c (by omega)])) (fun m4 A a1 a2 a3 a4' a5' => ⟨_, rfl, ?_⟩)
          refine y_ivI0 dX11_changes_147 mv_X11_255 my_X2_worthNow (Or.inl rfl) dh43.1 ?_
          refine c_X2_worthNow dh43 a1 a2 ⟨_, rfl, ?_⟩
          rw [a3.w, ← eg]
          refine y_ist6_5 dX11_changes_150 rfl ?_
          refine y_iload dX11_changes_152 rfl ?_
          refine y_iload_n dX11_changes_154 rfl rfl ?_
          refine y_icmp_le (tgt := 169) dX11_changes_155 (by decide) (fun h155 => ?_) (fun h155 => ?_)
          · refine y_iinc6_4 dX11_changes_169 (nI_1 _) rfl ?_
            refine y_goto (tgt := 79) dX11_changes_172 (by decide) ?_
            first
              | exact hP m4 (nI (100 * q + j)) (G (100 * q + j)) _ (fun a ha => by rw [a5' a (by omega), s2.1 a (by omega), s1.1 a (by omega)]; exact v1 a ha) a4' (DR_m v3 (fun c h1 h2 => by rw [a5' c (by omega), s2.1 c (by omega), s1.1 c (by omega)])) (by rw [a5' _ (by omega), s2.1 _ (by omega), s1.1 _ (by omega)]; exact v4) (sc.take okk (nI_n9' (by omega)) (Int32.not_le.mp h155))
              | exact hP m4 b wv _ (fun a ha => by rw [a5' a (by omega), s2.1 a (by omega), s1.1 a (by omega)]; exact v1 a ha) a4' (DR_m v3 (fun c h1 h2 => by rw [a5' c (by omega), s2.1 c (by omega), s1.1 c (by omega)])) (by rw [a5' _ (by omega), s2.1 _ (by omega), s1.1 _ (by omega)]; exact v4) (sc.skip gw (Int32.not_lt.mpr h155))
              | exact hP m' b wv _ v1 v2 v3 v4 (sc.no (fun z => ok2 ((okC_c hc').mp (er ▸ ((ok2_at (by omega)).mp z).2))))
          · refine y_iload dX11_changes_158 rfl ?_
            refine y_ist6_2 dX11_changes_160 rfl ?_
            refine y_bipush (v := 100) dX11_changes_161 (by decide) ?_
            refine y_iload_n dX11_changes_163 rfl rfl ?_
            refine y_imulN (a := 100) (b := q) dX11_changes_164 rfl rfl ?_
            refine y_iload dX11_changes_165 rfl ?_
            refine y_iaddN (a := 100 * q) (b := j) dX11_changes_167 rfl rfl ?_
            refine y_ist6_1 dX11_changes_168 rfl ?_
            refine y_iinc6_4 dX11_changes_169 (nI_1 _) rfl ?_
            refine y_goto (tgt := 79) dX11_changes_172 (by decide) ?_
            first
              | exact hP m4 (nI (100 * q + j)) (G (100 * q + j)) _ (fun a ha => by rw [a5' a (by omega), s2.1 a (by omega), s1.1 a (by omega)]; exact v1 a ha) a4' (DR_m v3 (fun c h1 h2 => by rw [a5' c (by omega), s2.1 c (by omega), s1.1 c (by omega)])) (by rw [a5' _ (by omega), s2.1 _ (by omega), s1.1 _ (by omega)]; exact v4) (sc.take okk (nI_n9' (by omega)) (Int32.not_le.mp h155))
              | exact hP m4 b wv _ (fun a ha => by rw [a5' a (by omega), s2.1 a (by omega), s1.1 a (by omega)]; exact v1 a ha) a4' (DR_m v3 (fun c h1 h2 => by rw [a5' c (by omega), s2.1 c (by omega), s1.1 c (by omega)])) (by rw [a5' _ (by omega), s2.1 _ (by omega), s1.1 _ (by omega)]; exact v4) (sc.skip gw (Int32.not_lt.mpr h155))
              | exact hP m' b wv _ v1 v2 v3 v4 (sc.no (fun z => ok2 ((okC_c hc').mp (er ▸ ((ok2_at (by omega)).mp z).2))))
        · refine y_if_ne (tgt := 109) dX11_changes_103 (by decide) (fun h103 => absurd (by decide) h103) (fun h103 => ?_)
          refine y_goto (tgt := 169) dX11_changes_106 (by decide) ?_
          refine y_iinc6_4 dX11_changes_169 (nI_1 _) rfl ?_
          refine y_goto (tgt := 79) dX11_changes_172 (by decide) ?_
          first
            | exact hP m4 (nI (100 * q + j)) (G (100 * q + j)) _ (fun a ha => by rw [a5' a (by omega), s2.1 a (by omega), s1.1 a (by omega)]; exact v1 a ha) a4' (DR_m v3 (fun c h1 h2 => by rw [a5' c (by omega), s2.1 c (by omega), s1.1 c (by omega)])) (by rw [a5' _ (by omega), s2.1 _ (by omega), s1.1 _ (by omega)]; exact v4) (sc.take okk (nI_n9' (by omega)) (Int32.not_le.mp h155))
            | exact hP m4 b wv _ (fun a ha => by rw [a5' a (by omega), s2.1 a (by omega), s1.1 a (by omega)]; exact v1 a ha) a4' (DR_m v3 (fun c h1 h2 => by rw [a5' c (by omega), s2.1 c (by omega), s1.1 c (by omega)])) (by rw [a5' _ (by omega), s2.1 _ (by omega), s1.1 _ (by omega)]; exact v4) (sc.skip gw (Int32.not_lt.mpr h155))
            | exact hP m' b wv _ v1 v2 v3 v4 (sc.no (fun z => ok2 ((okC_c hc').mp (er ▸ ((ok2_at (by omega)).mp z).2))))
    · refine y_if_ne (tgt := 54) dX11_changes_48 (by decide) (fun h48 => absurd (by decide) h48) (fun h48 => ?_)
      refine y_goto (tgt := 175) dX11_changes_51 (by decide) ?_
      refine y_iinc6_3 dX11_changes_175 (nI_1 _) rfl ?_
      refine y_goto (tgt := 20) dX11_changes_178 (by decide) ?_
      have sc2 := sc.nos 100 (fun i h1 h2 z => by
        obtain ⟨u, rfl⟩ : ∃ u, i = 100 * q + u := ⟨i - 100 * q, by omega⟩
        have := ((ok2_at (by omega)).mp z).1
        unfold okC at this
        rw [← hc] at this
        exact ok this)
      rw [show 100 * q + 100 = 100 * (q + 1) by omega] at sc2
      exact hP m' b wv _ _ ha4 v1 v2 sc2
/-- the reference aside, its kept doing too -/
def WK (m0 M : sM) : Prop := ∃ K, WM (s_up m0 258 K) M
theorem WK.fr {m0 M : sM} (h : WK m0 M) : frM m0 M := by
  obtain ⟨K, h⟩ := h
  exact frM.tr (frM.up (by omega)) h.fr
theorem wk_up {m : sM} {K : Nat → Int32} {b : Nat} : s_up (wkM m b) 258 K = wkM (s_up m 258 K) b := by
  funext a
  unfold wkM
  by_cases h1 : a = 258
  · rw [h1, s_upS, s_upN (by omega), s_upS]
  · by_cases h2 : a = 239
    · rw [h2, s_upN (by omega), s_upS, s_upS, s_upN (by omega)]
    · rw [s_upN h1, s_upN h2, s_upN h2, s_upN h1]
theorem lfR_K {m : sM} {K : Nat → Int32} {j : Nat} : lfR (s_up m 258 K) j = lfR m j := lfR_m (s_upN (by omega))
set_option maxHeartbeats 1000000 in
theorem c_X12_changes_ok {L : Nat} {xs : Nat → Int32} {d : Nat} {m : sM} {n : sN} {Q : sQ} (l1 : m 253 0 = 1) (l5 : dOK (lfR m 0)) (hQ : ∀ M, WK m M → ((selF (okC2 (lfR m 0)) gtI nI (gC2 (lfR m 0)) 10000).1 = -9 → Q (some (.int (-9))) M n) ∧ (¬ (selF (okC2 (lfR m 0)) gtI nI (gC2 (lfR m 0)) 10000).1 = -9 → Q (some (.int (selF (okC2 (lfR m 0)) gtI nI (gC2 (lfR m 0)) 10000).1)) (tellsM M (selF (okC2 (lfR m 0)) gtI nI (gC2 (lfR m 0)) 10000).2) n)) : sRun (scT L xs) (d + 10) yX12_changes cX12_changes 5 (some .int) [.ref 239] m n Q := by
  obtain ⟨R, hR⟩ : ∃ R, R = lfR m 0 := ⟨_, rfl⟩
  obtain ⟨c, hc⟩ : ∃ c, c = cOf R := ⟨_, rfl⟩
  rw [← hR] at l5 hQ
  have c5 : R 5 = nI c := by rw [hc]; exact l5.1
  have c10 : c ≤ 10 := by rw [hc]; exact l5.2.1
  have hT : rsum R c = nI (Tn R c) := by rw [hc]; exact rsum_Tn l5.2.2.1 l5.2.2.2.1 _ (Nat.le_refl _)
  have hT2 : Tn R c ≤ 90 := by rw [hc]; exact l5.2.2.2.2
  obtain ⟨G, hG⟩ : ∃ G, G = gC2 R := ⟨_, rfl⟩
  rw [← hG] at hQ
  refine y_run (own := "LoafFallModel") rfl (by decide +kernel) (Nat.le_of_ble_eq_true rfl) rfl ?_
  refine y_aload_n dX12_changes_0 rfl rfl ?_
  refine y_getr dX12_changes_1 gf_X12_51 sh_239 rfl ?_
  refine y_iconst (v := 0) dX12_changes_4 (by decide) ?_
  refine y_zaldN dX12_changes_5 sh_253 rfl (by first | omega | decide) (by decide) ?_
  refine y_if_ne (tgt := 12) dX12_changes_6 (by decide) (fun h6 => ?_) (fun h6 => absurd h6 (by rw [l1]; decide))
  refine y_bipush (v := -9) dX12_changes_12 (by decide) ?_
  refine y_ist5_1 dX12_changes_14 rfl ?_
  refine y_iconst (v := 0) dX12_changes_15 (by decide) ?_
  refine y_ist5_2 dX12_changes_16 rfl ?_
  refine y_iconst (v := 0) dX12_changes_17 (by decide) ?_
  refine y_ist5_3 dX12_changes_18 rfl ?_
  refine cnt (P := fun q => ∀ M, ∀ a4 : Option Value, WK m M → sV (scT L xs) (d + 9) "LoafFallModel" cX12_changes 5 (some .int) Q 19 [some (.ref 239), some (.int (selF (okC2 R) gtI nI G (100 * q)).1), some (.int (selF (okC2 R) gtI nI G (100 * q)).2), some (.int (nI q)), a4] [] M n) 100 ?_ ?_ 0 (by omega) m none ⟨m 258, Or.inl s_id.symm⟩
  · intro M a4 ⟨K, hW⟩
    refine y_iload_n dX12_changes_19 rfl rfl ?_
    refine y_bipush (v := 100) dX12_changes_20 (by decide) ?_
    refine y_icmp_ge (tgt := 107) dX12_changes_22 (by decide) (fun h22 => ?_) (fun h22 => absurd (nI_le (a := 100) (b := 100) (Nat.le_refl _) (by decide)) h22)
    refine y_iload_n dX12_changes_107 rfl rfl ?_
    refine y_bipush (v := -9) dX12_changes_108 (by decide) ?_
    refine y_icmp_ne (tgt := 118) dX12_changes_110 (by decide) (fun h110 => ?_) (fun h110 => ?_)
    · refine y_aload_n dX12_changes_118 rfl rfl ?_
      refine y_iload_n dX12_changes_119 rfl rfl ?_
      refine y_iload_n dX12_changes_120 rfl rfl ?_
      refine y_ivI2 dX12_changes_121 mv_X12_108 my_X12_tells (Or.inl rfl) sh_239 ?_
      refine c_X12_tells ⟨_, rfl, ?_⟩
      refine y_ireturn dX12_changes_124 rfl rfl ?_
      first
        | exact (hQ M ⟨K, hW⟩).1 h110
        | exact (hQ M ⟨K, hW⟩).2 h110
    · refine y_bipush (v := -9) dX12_changes_113 (by decide) ?_
      refine y_goto (tgt := 124) dX12_changes_115 (by decide) ?_
      refine y_ireturn dX12_changes_124 rfl rfl ?_
      first
        | exact (hQ M ⟨K, hW⟩).1 h110
        | exact (hQ M ⟨K, hW⟩).2 h110
  · intro q hk hP
    intro M a4 ⟨K, hW⟩
    refine y_iload_n dX12_changes_19 rfl rfl ?_
    refine y_bipush (v := 100) dX12_changes_20 (by decide) ?_
    refine y_icmp_ge (tgt := 107) dX12_changes_22 (by decide) (fun h22 => absurd h22 (nI_ge (a := q) (b := 100) hk (by decide))) (fun h22 => ?_)
    refine y_aload_n dX12_changes_25 rfl rfl ?_
    refine y_ivV0 dX12_changes_26 mv_X12_289 my_X12_layOwn (Or.inl rfl) sh_239 ?_
    refine c_layOwn hW (fun hh => ⟨rfl, ?_⟩)
    rw [lfR_K, ← hR]
    refine y_aload_n dX12_changes_29 rfl rfl ?_
    refine y_iload_n dX12_changes_30 rfl rfl ?_
    refine y_ivI1 dX12_changes_31 mv_X12_292 my_X12_canChange (Or.inl rfl) sh_239 ?_
    refine c_X12_canChange (wk_b (by omega)) (q := q) (c := c) rfl (by omega) c5 c10 l5.2.2.1 hT hT2 (fun ok => ⟨_, rfl, ?_⟩) (fun ok => ⟨_, rfl, ?_⟩)
    · refine y_if_eq (tgt := 101) dX12_changes_34 (by decide) (fun h34 => absurd h34 (by decide)) (fun h34 => ?_)
      obtain ⟨R1, hR1⟩ : ∃ R1, R1 = changeR c q R := ⟨_, rfl⟩
      have hD1 : dOK R1 := by rw [hR1]; rw [hc] at ok ⊢; exact d_change l5 ok
      obtain ⟨c', hc'⟩ : ∃ c', c' = cOf R1 := ⟨_, rfl⟩
      have c5' : R1 5 = nI c' := by rw [hc']; exact hD1.1
      have c10' : c' ≤ 10 := by rw [hc']; exact hD1.2.1
      rw [← hR1]
      have okq : okC R q := by unfold okC; rw [← hc]; exact ok
      have er : changeR (cOf R) q R = R1 := by rw [hR1, hc]
      have lo1 : ∀ p, p < 5 → R1 p = R p := fun p hp => by rw [hR1]; exact chg_lo hp
      refine y_aload_n dX12_changes_37 rfl rfl ?_
      refine y_ivV0 dX12_changes_38 mv_X12_295 my_X12_keepDoing (Or.inl rfl) sh_239 ?_
      refine c_X12_keepDoing (wk_b (by omega)) ⟨rfl, ?_⟩
      rw [wk_up, s_up2]
      obtain ⟨K2, hK2⟩ : ∃ K2, K2 = layN (fun i => R1 (5 + i)) 0 (0 + 31) (wkM (s_up m 258 K) 1316 258) := ⟨_, rfl⟩
      rw [← hK2]
      have kk : ∀ i, i < 31 → K2 i = R1 (5 + i) := fun i hi => by rw [hK2]; unfold layN; rw [if_pos (by omega), Nat.sub_zero]
      refine y_iconst (v := 0) dX12_changes_41 (by decide) ?_
      refine y_ist5_4 dX12_changes_42 rfl ?_
      refine cnt (P := fun j => ∀ hh X, (∀ p, p < 5 → X p = R p) → sV (scT L xs) (d + 9) "LoafFallModel" cX12_changes 5 (some .int) Q 44 [some (.ref 239), some (.int (selF (okC2 R) gtI nI G (100 * q + j)).1), some (.int (selF (okC2 R) gtI nI G (100 * q + j)).2), some (.int (nI q)), some (.int (nI j))] [] (stR (wkM (s_up m 258 K2) 1316) hh 1316 X) n) 100 ?_ ?_ 0 (by omega) _ _ (fun p hp => lo1 p hp)
      · intro hh X hX
        refine y_iload dX12_changes_44 rfl ?_
        refine y_bipush (v := 100) dX12_changes_46 (by decide) ?_
        refine y_icmp_ge (tgt := 101) dX12_changes_48 (by decide) (fun h48 => ?_) (fun h48 => absurd (nI_le (a := 100) (b := 100) (Nat.le_refl _) (by decide)) h48)
        refine y_iinc5_3 dX12_changes_101 (nI_1 _) rfl ?_
        refine y_goto (tgt := 19) dX12_changes_104 (by decide) ?_
        exact hP _ _ ⟨K2, WM.st⟩
      · intro j hk hP
        intro hh X hX
        refine y_iload dX12_changes_44 rfl ?_
        refine y_bipush (v := 100) dX12_changes_46 (by decide) ?_
        refine y_icmp_ge (tgt := 101) dX12_changes_48 (by decide) (fun h48 => absurd h48 (nI_ge (a := j) (b := 100) hk (by decide))) (fun h48 => ?_)
        refine y_aload_n dX12_changes_51 rfl rfl ?_
        refine y_ivV0 dX12_changes_52 mv_X12_298 my_X12_backDoing (Or.inl rfl) sh_239 ?_
        refine c_X12_backDoing (wk_b (by omega)) ⟨rfl, ?_⟩
        rw [wk_o (show 258 ≠ 239 by omega), s_upS]
        obtain ⟨Y, hY⟩ : ∃ Y, Y = layN K2 5 (5 + 31) X := ⟨_, rfl⟩
        rw [← hY]
        have y36 : ∀ p, p < 36 → Y p = R1 p := fun p hp => by
          rw [hY]
          unfold layN
          by_cases z : p < 5
          · rw [if_neg (by omega), hX p z, lo1 p z]
          · rw [if_pos (by omega), kk _ (by omega), show 5 + (p - 5) = p by omega]
        have hDY : dOK Y := d_eq hD1 (fun p h1 h2 => y36 p h2)
        have cY : Y 5 = nI c' := by rw [y36 5 (by omega)]; exact c5'
        have ecY : cOf Y = c' := by rw [hc']; exact cOf_36 y36
        refine y_aload_n dX12_changes_55 rfl rfl ?_
        refine y_iload dX12_changes_56 rfl ?_
        refine y_ivI1 dX12_changes_58 mv_X12_292 my_X12_canChange (Or.inl rfl) sh_239 ?_
        refine c_X12_canChange (wk_b (by omega)) (q := j) (c := c') (T := Tn Y c') rfl (by omega) cY c10' hDY.2.2.1 (by rw [← ecY]; exact rsum_Tn hDY.2.2.1 hDY.2.2.2.1 _ (Nat.le_refl _)) (by rw [← ecY]; exact hDY.2.2.2.2) (fun ok2 => ⟨_, rfl, ?_⟩) (fun ok2 => ⟨_, rfl, ?_⟩)
        · refine y_if_eq (tgt := 95) dX12_changes_61 (by decide) (fun h61 => absurd h61 (by decide)) (fun h61 => ?_)
          refine y_aload_n dX12_changes_64 rfl rfl ?_
          have okj : canC R1 c' j := (can_36 y36 c10').mp ok2
          have hD2 : dOK (changeR c' j R1) := by rw [hc'] at okj ⊢; exact d_change hD1 okj
          have e36 := chg_36 y36 c10' okj.1
          have hDZ : dOK (changeR c' j Y) := d_eq hD2 (fun p h1 h2 => e36 p h2)
          have eg : WV (changeR c' j Y) = G (100 * q + j) := by
            rw [hG, g2_at (by omega), er]
            unfold gCh
            rw [← hc']
            exact WV_congr hD2 hDZ (eqD_36 hD2.2.1 e36)
          have okk : okC2 R (100 * q + j) := (ok2_at (by omega)).mpr ⟨okq, by rw [er]; unfold okC; rw [← hc']; exact okj⟩
          refine y_ivV0 dX12_changes_65 mv_X12_263 my_X12_bakes (Or.inl rfl) sh_239 ?_
          refine c_bakesW (wk_b (by omega)) hDZ (fun h' => ⟨rfl, ?_⟩)
          refine y_iload_n dX12_changes_68 rfl rfl ?_
          refine y_bipush (v := -9) dX12_changes_69 (by decide) ?_
          refine y_icmp_eq (tgt := 82) dX12_changes_71 (by decide) (fun h71 => ?_) (fun h71 => ?_)
          · refine y_bipush (v := 100) dX12_changes_82 (by decide) ?_
            refine y_iload_n dX12_changes_84 rfl rfl ?_
            refine y_imulN (a := 100) (b := q) dX12_changes_85 rfl rfl ?_
            refine y_iload dX12_changes_86 rfl ?_
            refine y_iaddN (a := 100 * q) (b := j) dX12_changes_88 rfl rfl ?_
            refine y_ist5_1 dX12_changes_89 rfl ?_
            refine y_aload_n dX12_changes_90 rfl rfl ?_
            refine y_ivI0 dX12_changes_91 mv_X12_247 my_X12_worthNow (Or.inl rfl) sh_239 ?_
            refine c_X12_worthNow (wk_b (by omega)) ⟨_, rfl, ?_⟩
            rw [show worthF (BV (changeR c' j Y)) = G (100 * q + j) from eg]
            refine y_ist5_2 dX12_changes_94 rfl ?_
            refine y_iinc5_4 dX12_changes_95 (nI_1 _) rfl ?_
            refine y_goto (tgt := 44) dX12_changes_98 (by decide) ?_
            first
              | (rw [show selF (okC2 R) gtI nI G (100 * q + (j + 1)) = (nI (100 * q + j), G (100 * q + j)) from sel_y okk (Or.inr (Int32.not_le.mp h79))] at hP; exact hP _ _ (fun p hp => by rw [BV_low hDZ (by omega), chg_lo hp, y36 p (by omega), lo1 p hp]))
              | (rw [show selF (okC2 R) gtI nI G (100 * q + (j + 1)) = selF (okC2 R) gtI nI G (100 * q + j) from sel_n (fun z => z.2.elim h71 (fun y => absurd h79 (Int32.not_le.mpr y)))] at hP; exact hP _ _ (fun p hp => by rw [BV_low hDZ (by omega), chg_lo hp, y36 p (by omega), lo1 p hp]))
              | (rw [show selF (okC2 R) gtI nI G (100 * q + (j + 1)) = (nI (100 * q + j), G (100 * q + j)) from sel_y okk (Or.inl h71)] at hP; exact hP _ _ (fun p hp => by rw [BV_low hDZ (by omega), chg_lo hp, y36 p (by omega), lo1 p hp]))
              | (rw [show selF (okC2 R) gtI nI G (100 * q + (j + 1)) = selF (okC2 R) gtI nI G (100 * q + j) from sel_no (fun z => ok2 ((can_36 y36 c10').mpr ((okC_c hc').mp (er ▸ ((ok2_at (by omega)).mp z).2))))] at hP; exact hP _ _ (fun p hp => by rw [y36 p (by omega), lo1 p hp]))
          · refine y_aload_n dX12_changes_74 rfl rfl ?_
            refine y_ivI0 dX12_changes_75 mv_X12_247 my_X12_worthNow (Or.inl rfl) sh_239 ?_
            refine c_X12_worthNow (wk_b (by omega)) ⟨_, rfl, ?_⟩
            rw [show worthF (BV (changeR c' j Y)) = G (100 * q + j) from eg]
            refine y_iload_n dX12_changes_78 rfl rfl ?_
            refine y_icmp_le (tgt := 95) dX12_changes_79 (by decide) (fun h79 => ?_) (fun h79 => ?_)
            · refine y_iinc5_4 dX12_changes_95 (nI_1 _) rfl ?_
              refine y_goto (tgt := 44) dX12_changes_98 (by decide) ?_
              first
                | (rw [show selF (okC2 R) gtI nI G (100 * q + (j + 1)) = (nI (100 * q + j), G (100 * q + j)) from sel_y okk (Or.inr (Int32.not_le.mp h79))] at hP; exact hP _ _ (fun p hp => by rw [BV_low hDZ (by omega), chg_lo hp, y36 p (by omega), lo1 p hp]))
                | (rw [show selF (okC2 R) gtI nI G (100 * q + (j + 1)) = selF (okC2 R) gtI nI G (100 * q + j) from sel_n (fun z => z.2.elim h71 (fun y => absurd h79 (Int32.not_le.mpr y)))] at hP; exact hP _ _ (fun p hp => by rw [BV_low hDZ (by omega), chg_lo hp, y36 p (by omega), lo1 p hp]))
                | (rw [show selF (okC2 R) gtI nI G (100 * q + (j + 1)) = (nI (100 * q + j), G (100 * q + j)) from sel_y okk (Or.inl h71)] at hP; exact hP _ _ (fun p hp => by rw [BV_low hDZ (by omega), chg_lo hp, y36 p (by omega), lo1 p hp]))
                | (rw [show selF (okC2 R) gtI nI G (100 * q + (j + 1)) = selF (okC2 R) gtI nI G (100 * q + j) from sel_no (fun z => ok2 ((can_36 y36 c10').mpr ((okC_c hc').mp (er ▸ ((ok2_at (by omega)).mp z).2))))] at hP; exact hP _ _ (fun p hp => by rw [y36 p (by omega), lo1 p hp]))
            · refine y_bipush (v := 100) dX12_changes_82 (by decide) ?_
              refine y_iload_n dX12_changes_84 rfl rfl ?_
              refine y_imulN (a := 100) (b := q) dX12_changes_85 rfl rfl ?_
              refine y_iload dX12_changes_86 rfl ?_
              refine y_iaddN (a := 100 * q) (b := j) dX12_changes_88 rfl rfl ?_
              refine y_ist5_1 dX12_changes_89 rfl ?_
              refine y_aload_n dX12_changes_90 rfl rfl ?_
              refine y_ivI0 dX12_changes_91 mv_X12_247 my_X12_worthNow (Or.inl rfl) sh_239 ?_
              refine c_X12_worthNow (wk_b (by omega)) ⟨_, rfl, ?_⟩
              rw [show worthF (BV (changeR c' j Y)) = G (100 * q + j) from eg]
              refine y_ist5_2 dX12_changes_94 rfl ?_
              refine y_iinc5_4 dX12_changes_95 (nI_1 _) rfl ?_
              refine y_goto (tgt := 44) dX12_changes_98 (by decide) ?_
              first
                | (rw [show selF (okC2 R) gtI nI G (100 * q + (j + 1)) = (nI (100 * q + j), G (100 * q + j)) from sel_y okk (Or.inr (Int32.not_le.mp h79))] at hP; exact hP _ _ (fun p hp => by rw [BV_low hDZ (by omega), chg_lo hp, y36 p (by omega), lo1 p hp]))
                | (rw [show selF (okC2 R) gtI nI G (100 * q + (j + 1)) = selF (okC2 R) gtI nI G (100 * q + j) from sel_n (fun z => z.2.elim h71 (fun y => absurd h79 (Int32.not_le.mpr y)))] at hP; exact hP _ _ (fun p hp => by rw [BV_low hDZ (by omega), chg_lo hp, y36 p (by omega), lo1 p hp]))
                | (rw [show selF (okC2 R) gtI nI G (100 * q + (j + 1)) = (nI (100 * q + j), G (100 * q + j)) from sel_y okk (Or.inl h71)] at hP; exact hP _ _ (fun p hp => by rw [BV_low hDZ (by omega), chg_lo hp, y36 p (by omega), lo1 p hp]))
                | (rw [show selF (okC2 R) gtI nI G (100 * q + (j + 1)) = selF (okC2 R) gtI nI G (100 * q + j) from sel_no (fun z => ok2 ((can_36 y36 c10').mpr ((okC_c hc').mp (er ▸ ((ok2_at (by omega)).mp z).2))))] at hP; exact hP _ _ (fun p hp => by rw [y36 p (by omega), lo1 p hp]))
        · refine y_if_eq (tgt := 95) dX12_changes_61 (by decide) (fun h61 => ?_) (fun h61 => absurd (by decide) h61)
          refine y_iinc5_4 dX12_changes_95 (nI_1 _) rfl ?_
          refine y_goto (tgt := 44) dX12_changes_98 (by decide) ?_
          first
            | (rw [show selF (okC2 R) gtI nI G (100 * q + (j + 1)) = (nI (100 * q + j), G (100 * q + j)) from sel_y okk (Or.inr (Int32.not_le.mp h79))] at hP; exact hP _ _ (fun p hp => by rw [BV_low hDZ (by omega), chg_lo hp, y36 p (by omega), lo1 p hp]))
            | (rw [show selF (okC2 R) gtI nI G (100 * q + (j + 1)) = selF (okC2 R) gtI nI G (100 * q + j) from sel_n (fun z => z.2.elim h71 (fun y => absurd h79 (Int32.not_le.mpr y)))] at hP; exact hP _ _ (fun p hp => by rw [BV_low hDZ (by omega), chg_lo hp, y36 p (by omega), lo1 p hp]))
            | (rw [show selF (okC2 R) gtI nI G (100 * q + (j + 1)) = (nI (100 * q + j), G (100 * q + j)) from sel_y okk (Or.inl h71)] at hP; exact hP _ _ (fun p hp => by rw [BV_low hDZ (by omega), chg_lo hp, y36 p (by omega), lo1 p hp]))
            | (rw [show selF (okC2 R) gtI nI G (100 * q + (j + 1)) = selF (okC2 R) gtI nI G (100 * q + j) from sel_no (fun z => ok2 ((can_36 y36 c10').mpr ((okC_c hc').mp (er ▸ ((ok2_at (by omega)).mp z).2))))] at hP; exact hP _ _ (fun p hp => by rw [y36 p (by omega), lo1 p hp]))
    · refine y_if_eq (tgt := 101) dX12_changes_34 (by decide) (fun h34 => ?_) (fun h34 => absurd (by decide) h34)
      refine y_iinc5_3 dX12_changes_101 (nI_1 _) rfl ?_
      refine y_goto (tgt := 19) dX12_changes_104 (by decide) ?_
      rw [show selF (okC2 R) gtI nI G (100 * (q + 1)) = selF (okC2 R) gtI nI G (100 * q) from by
        rw [show 100 * (q + 1) = 100 * q + 100 by omega]
        exact sel_nos 100 (fun i h1 h2 z => by
          obtain ⟨u, rfl⟩ : ∃ u, i = 100 * q + u := ⟨i - 100 * q, by omega⟩
          have := ((ok2_at (by omega)).mp z).1
          unfold okC at this
          rw [← hc] at this
          exact ok this)] at hP
      exact hP _ _ ⟨K, WM.st⟩
set_option maxHeartbeats 2000000 in
theorem p_changes {L : Nat} {xs : Nat → Int32} {d : Nat} {m : sM} {n : sN} (h : Rel m n) : PI L xs (d + 11) yX11_changes cX11_changes 6 yX12_changes cX12_changes 5 [] m n := by
  unfold PI
  by_cases l : m 253 0 = 0
  · refine y_run (own := "LoafFall") rfl (by decide +kernel) (Nat.le_of_ble_eq_true rfl) rfl ?_
    refine y_aload_n dX11_changes_0 rfl rfl ?_
    refine y_getr dX11_changes_1 gf_X11_40 sh_0 rfl ?_
    refine y_geti dX11_changes_4 gf_X11_211 sh_6 rfl ?_
    refine y_if_ne (tgt := 13) dX11_changes_7 (by decide) (fun h7 => absurd (h.none l) h7) (fun h7 => ?_)
    refine y_bipush (v := -4) dX11_changes_10 (by decide) ?_
    refine y_ireturn dX11_changes_12 rfl rfl ?_
    refine ⟨_, rfl, ?_⟩
    refine y_run (own := "LoafFallModel") rfl (by decide +kernel) (Nat.le_of_ble_eq_true rfl) rfl ?_
    refine y_aload_n dX12_changes_0 rfl rfl ?_
    refine y_getr dX12_changes_1 gf_X12_51 sh_239 rfl ?_
    refine y_iconst (v := 0) dX12_changes_4 (by decide) ?_
    refine y_zaldN dX12_changes_5 sh_253 rfl (by first | omega | decide) (by decide) ?_
    refine y_if_ne (tgt := 12) dX12_changes_6 (by decide) (fun h6 => absurd l h6) (fun h6 => ?_)
    refine y_bipush (v := -4) dX12_changes_9 (by decide) ?_
    refine y_ireturn dX12_changes_11 rfl rfl ?_
    exact ⟨rfl, h⟩
  · refine c_X11_changes_ok h l (fun m' b wv v1 v2 sc => ⟨fun hb => ⟨_, rfl, ?_⟩, fun hb => ⟨_, rfl, ?_⟩⟩)
    · have e0 : lfR m' 0 = lfR m 0 := lfR_m (v1 254 (by omega))
      refine c_X12_changes_ok (by rw [v1 _ (by omega)]; exact (h.own l).1) (by rw [e0]; exact (h.own l).2.2.2.2.1) (fun M hW => ?_)
      rw [e0]
      exact ⟨fun _ => ⟨by rw [hb], Rel_scr h v1 v2 hW.fr⟩, fun z => absurd (sc.1.symm.trans hb) z⟩
    · generalize em : tellM m' wv = m1
      have gg : ∀ a, 137 ≤ a → m1 a = m a := fun a ha => by rw [← em, tell_o (by omega)]; exact v1 a (by omega)
      have e0 : lfR m1 0 = lfR m 0 := lfR_m (gg 254 (by omega))
      refine c_X12_changes_ok (by rw [gg _ (by omega)]; exact (h.own l).1) (by rw [e0]; exact (h.own l).2.2.2.2.1) (fun M hW => ?_)
      rw [e0]
      refine ⟨fun z => absurd (sc.1.trans z) hb, fun _ => ⟨by rw [sc.1], ?_⟩⟩
      rw [← sc.2.1 hb]
      rw [← em] at hW
      exact Rel_tell h v1 v2 hW.fr
