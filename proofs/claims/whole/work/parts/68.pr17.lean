/-! ===== oven, even ===== -/
set_option maxHeartbeats 1000000 in
theorem c_X11_oven_ok {L : Nat} {xs : Nat → Int32} {d : Nat} {m : sM} {n : sN} {Q : sQ} (h : Rel m n) (l : ¬ m 253 0 = 0) {a : Nat} {v : Int32} (hv : -2 ≤ v ∧ v ≤ 2) (ha : a < cOf (lfR m 0)) (hk1 : lfR m 0 (6 + 3 * a + 0) = 2) (hk2 : ∀ j, a < j → j < cOf (lfR m 0) → ¬ lfR m 0 (6 + 3 * j + 0) = 2) (hQ : ∀ m', frC m m' → BK m' → Q (some (.int (selF (oTn (lfR m 0) a) ltI nI (gOv (lfR m 0) v a) 31).1)) (tellM m' (selF (oTn (lfR m 0) a) ltI nI (gOv (lfR m 0) v a) 31).2) n) : sRun (scT L xs) (d + 7) yX11_oven cX11_oven 8 (some .int) [.ref 0, .int v] m n Q := by
  obtain ⟨l1, l2, l3, l4, l5, l6, l7, lf⟩ := h.own l
  obtain ⟨R, hR⟩ : ∃ R, R = lfR m 0 := ⟨_, rfl⟩
  obtain ⟨c, hc⟩ : ∃ c, c = cOf R := ⟨_, rfl⟩
  rw [← hR] at l3 l4 l5 lf ha hk1 hk2 hQ
  have c5 : R 5 = nI c := by rw [hc]; exact l5.1
  have c10 : c ≤ 10 := by rw [hc]; exact l5.2.1
  obtain ⟨G, hG⟩ : ∃ G, G = gOv R v a := ⟨_, rfl⟩
  rw [← hG] at hQ
  have ha2 : a < c := by omega
  have hl : lastsR R a := lst_d l5 ha (Or.inr hk1)
  have bd : dOK (shB R v) := sh_d l5
  have bl : lastsR (shB R v) a := lasts_3 bd sh_c ha (fun p hp => shB_3 hp) hl
  refine y_run (own := "LoafFall") rfl (by decide +kernel) (Nat.le_of_ble_eq_true rfl) rfl ?_
  refine y_iload_n dX11_oven_0 rfl rfl ?_
  refine y_bipush (v := -2) dX11_oven_1 (by decide) ?_
  refine y_icmp_lt (tgt := 11) dX11_oven_3 (by decide) (fun h3 => absurd h3 (Int32.not_lt.mpr hv.1)) (fun h3 => ?_)
  refine y_iload_n dX11_oven_6 rfl rfl ?_
  refine y_iconst (v := 2) dX11_oven_7 (by decide) ?_
  refine y_icmp_le (tgt := 13) dX11_oven_8 (by decide) (fun h8 => ?_) (fun h8 => absurd hv.2 h8)
  refine y_aload_n dX11_oven_13 rfl rfl ?_
  refine y_getr dX11_oven_14 gf_X11_40 sh_0 rfl ?_
  refine y_geti dX11_oven_17 gf_X11_211 sh_6 rfl ?_
  refine y_if_ne (tgt := 26) dX11_oven_20 (by decide) (fun h20 => ?_) (fun h20 => absurd h20 (by rw [l2]; decide))
  refine y_aload_n dX11_oven_26 rfl rfl ?_
  refine y_getr dX11_oven_27 gf_X11_40 sh_0 rfl ?_
  refine y_getr dX11_oven_30 gf_X11_204 sh_6 rfl ?_
  refine y_ivI0 dX11_oven_33 mv_X11_341 my_X1_lastOven (Or.inl rfl) sh_9 ?_
  refine c_lastOven (R := R) (c := c) (i := a) lf6.2.2.1 l3.dr c5 c10 ha2 hk1 (fun j h1 h2 => hk2 j h1 (by omega)) ⟨_, rfl, ?_⟩
  refine y_ist8_2 dX11_oven_36 rfl ?_
  refine y_iload_n dX11_oven_37 rfl rfl ?_
  refine y_bipush (v := -9) dX11_oven_38 (by decide) ?_
  refine y_icmp_ne (tgt := 49) dX11_oven_40 (by decide) (fun h40 => ?_) (fun h40 => absurd h40 (nI_n9' (by omega)))
  refine y_aload_n dX11_oven_49 rfl rfl ?_
  refine y_getr dX11_oven_50 gf_X11_61 sh_0 rfl ?_
  refine y_aload_n dX11_oven_53 rfl rfl ?_
  refine y_getr dX11_oven_54 gf_X11_40 sh_0 rfl ?_
  refine y_getr dX11_oven_57 gf_X11_240 sh_6 rfl ?_
  refine y_aload_n dX11_oven_60 rfl rfl ?_
  refine y_getr dX11_oven_61 gf_X11_40 sh_0 rfl ?_
  refine y_getr dX11_oven_64 gf_X11_204 sh_6 rfl ?_
  refine y_ivR2 dX11_oven_67 mv_X11_303 my_X0_bake (Or.inl rfl) sh_35 ?_
  refine c_bakeV (R := R) lf6.2.1 lf6.2.2.1 (by omega) (by omega) l3.fr l3.dr lf l5 (Or.inr l6) (Or.inr l7) h.bk (fun m0 A0 q1 q2 q3 q4 q5 => ⟨_, rfl, ?_⟩)
  refine y_ivI0 dX11_oven_70 mv_X11_255 my_X2_worthNow (Or.inl rfl) dh43.1 ?_
  refine c_X2_worthNow dh43 q1 q2 ⟨_, rfl, ?_⟩
  rw [q3.w]
  obtain ⟨ow, how⟩ : ∃ ow, ow = WV R := ⟨_, rfl⟩
  rw [← how]
  refine y_ist8_3 dX11_oven_73 rfl ?_
  refine y_bipush (v := -9) dX11_oven_74 (by decide) ?_
  refine y_ist8_4 dX11_oven_76 rfl ?_
  refine y_iconst (v := 0) dX11_oven_78 (by decide) ?_
  refine y_ist8_5 dX11_oven_79 rfl ?_
  refine y_aload_n dX11_oven_81 rfl rfl ?_
  refine y_getr dX11_oven_82 gf_X11_78 sh_0 rfl ?_
  refine y_aload_n dX11_oven_85 rfl rfl ?_
  refine y_getr dX11_oven_86 gf_X11_40 sh_0 rfl ?_
  refine y_getr dX11_oven_89 gf_X11_204 sh_6 rfl ?_
  refine y_ivV1 dX11_oven_92 mv_X11_179 my_X1_take (Or.inl rfl) sh_127 ?_
  refine c_X1_take (s := c) dg127 lf6.2.2.1 (by omega) (by rw [q5 _ (by omega)]; exact l3.2.2.1.trans c5) c10 (Or.inr (by rw [q5 _ (by omega)]; exact l7)) (fun m1 s1 => ⟨rfl, ?_⟩)
  refine y_aload_n dX11_oven_95 rfl rfl ?_
  refine y_getr dX11_oven_96 gf_X11_78 sh_0 rfl ?_
  refine y_iload_n dX11_oven_99 rfl rfl ?_
  refine y_ivV1 dX11_oven_100 mv_X11_314 my_X1_shiftOvens (Or.inl rfl) sh_127 ?_
  refine c_X1_shiftOvens (R := R) (c := c) dg127 (DR_t2 (DR_m l3.dr (fun c h1 h2 => q5 c (by omega))) hc s1) c5 c10 (fun m2 s3 s2 => ⟨rfl, ?_⟩)
  refine y_iconst (v := 1) dX11_oven_103 (by decide) ?_
  refine y_ist8_6 dX11_oven_104 rfl ?_
  rw [show foldR (shiftC v) c R = shB R v from by rw [hc]; rfl] at s3
  have w1 : selF (oTn R a) ltI nI G 1 = (-9, 0) := sel_1 oTn_0
  suffices hs : ∀ a7 : Option Value, sV (scT L xs) (d + 6) "LoafFall" cX11_oven 8 (some .int) Q 106 [some (.ref 0), some (.int v), some (.int (nI a)), some (.int ow), some (.int (selF (oTn R a) ltI nI G 1).1), some (.int (selF (oTn R a) ltI nI G 1).2), some (.int (nI 1)), a7] [] m2 n by
    have hs := hs none
    rw [w1] at hs
    exact hs
  intro a7
  refine cnt2 (P := fun k => ∀ m' v', ∀ a7 : Option Value, frC m m' → BK m' → DR m' 127 (upd (shB R v) (6 + 3 * a + 2) v') → m' 127 4 = 1 → sV (scT L xs) (d + 6) "LoafFall" cX11_oven 8 (some .int) Q 106 [some (.ref 0), some (.int v), some (.int (nI a)), some (.int ow), some (.int (selF (oTn R a) ltI nI G k).1), some (.int (selF (oTn R a) ltI nI G k).2), some (.int (nI k)), a7] [] m' n) 1 31 ?_ ?_ 1 (Nat.le_refl _) (by omega) m2 (shB R v (6 + 3 * a + 2)) a7 (fun q hq => by rw [s2.1 q (by omega), s1.1 q (by omega)]; exact q5 q (by omega)) (BK_m q4 (fun c h1 h2 => by rw [s2.1 c (by omega)]; exact s1.1 c (by omega))) (by rw [updId]; exact s3) (s2.2.trans (s1.2.2.2.trans (by rw [q5 _ (by omega)]; exact l7)))
  · intro m' v' a7 v1 v2 v3 v4
    have e93 : m' 9 3 = nI c := by rw [v1 _ (by omega)]; exact l3.2.2.1.trans c5
    have tD : DR m' 9 R := DR_m l3.dr (fun c h1 h2 => v1 c (by omega))
    refine y_iload dX11_oven_106 rfl ?_
    refine y_bipush (v := 30) dX11_oven_108 (by decide) ?_
    refine y_icmp_gt (tgt := 199) dX11_oven_110 (by decide) (fun h110 => ?_) (fun h110 => absurd (by decide) h110)
    refine y_aload_n dX11_oven_199 rfl rfl ?_
    refine y_iload dX11_oven_200 rfl ?_
    refine y_puti dX11_oven_202 pf_X11_194 sh_0 rfl rfl rfl ?_
    refine y_iload dX11_oven_205 rfl ?_
    refine y_ireturn dX11_oven_207 rfl rfl ?_
    exact hQ m' v1 v2
  · intro k hk0 hk hP
    intro m' v' a7 v1 v2 v3 v4
    have e93 : m' 9 3 = nI c := by rw [v1 _ (by omega)]; exact l3.2.2.1.trans c5
    have tD : DR m' 9 R := DR_m l3.dr (fun c h1 h2 => v1 c (by omega))
    refine y_iload dX11_oven_106 rfl ?_
    refine y_bipush (v := 30) dX11_oven_108 (by decide) ?_
    refine y_icmp_gt (tgt := 199) dX11_oven_110 (by decide) (fun h110 => absurd h110 (Int32.not_lt.mpr (nI_le (b := 30) (by omega) (by decide)))) (fun h110 => ?_)
    refine y_aload_n dX11_oven_113 rfl rfl ?_
    refine y_getr dX11_oven_114 gf_X11_40 sh_0 rfl ?_
    refine y_getr dX11_oven_117 gf_X11_204 sh_6 rfl ?_
    refine y_iload_n dX11_oven_120 rfl rfl ?_
    refine y_iload dX11_oven_121 rfl ?_
    refine y_ivI2 dX11_oven_123 mv_X11_326 my_X1_mayLast (Or.inl rfl) sh_9 ?_
    refine c_X1_mayLast (R := R) (c := c) (i := a) lf6.2.2.1 tD c5 c10 rfl ha2 (fun ok => ⟨_, rfl, ?_⟩) (fun ok => ⟨_, rfl, ?_⟩)
    · refine y_if_ne (tgt := 132) dX11_oven_126 (by decide) (fun h126 => ?_) (fun h126 => absurd h126 (by decide))
      refine y_aload_n dX11_oven_132 rfl rfl ?_
      refine y_getr dX11_oven_133 gf_X11_78 sh_0 rfl ?_
      refine y_getr dX11_oven_136 gf_X11_329 sh_127 rfl ?_
      refine y_iload_n dX11_oven_139 rfl rfl ?_
      refine y_iload dX11_oven_140 rfl ?_
      refine y_iastN dX11_oven_142 sh_130 rfl (by first | omega | decide) (by decide) ?_
      have okt : oTn R a k := by unfold oTn mayL; rw [← hc]; exact ok
      have okt2 : oTn (shB R v) a k := (oTn_eq sh_c (fun p hp => shB_3 hp)).mpr okt
      have hD : dOK (tR (shB R v) a k) := tR_d bd (by rw [sh_c]; exact ha) bl (by omega) (by omega) okt2
      have lfn : flR (tR (shB R v) a k) := fl_low lf (fun p hp => (tR_lo (by omega)).trans (sh_lo (by omega) _))
      have loR : ∀ i, i < 5 → tR (shB R v) a k i = R i := fun i hi => (tR_lo (by omega)).trans (sh_lo (by omega) _)
      have v3' : DR (s_up m' 130 (upd (m' 130) a (nI k))) 127 (tR (shB R v) a k) := by
        have := DR_t (k := a) (v := nI k) v3 (by rw [cOf_upd (by omega), sh_c]; exact l5.2.1) (by omega)
        rw [tR_tR] at this
        exact this
      have ea : (if 0 ≤ WV (tR (shB R v) a k) - ow then WV (tR (shB R v) a k) - ow else 0 - (WV (tR (shB R v) a k) - ow)) = G k := by
        obtain ⟨u1, u2, u3⟩ := wv_le lfn hD
        obtain ⟨w1, w2, w3⟩ := wv_le lf l5
        rw [how, hG]
        exact abs_dst u2 w2 u3 w3
      refine y_aload_n dX11_oven_143 rfl rfl ?_
      refine y_getr dX11_oven_144 gf_X11_61 sh_0 rfl ?_
      refine y_aload_n dX11_oven_147 rfl rfl ?_
      refine y_getr dX11_oven_148 gf_X11_40 sh_0 rfl ?_
      refine y_getr dX11_oven_151 gf_X11_240 sh_6 rfl ?_
      refine y_aload_n dX11_oven_154 rfl rfl ?_
      refine y_getr dX11_oven_155 gf_X11_78 sh_0 rfl ?_
      refine y_ivR2 dX11_oven_158 mv_X11_303 my_X0_bake (Or.inl rfl) sh_35 ?_
      refine c_bakeV (R := tR (shB R v) a k) lf6.2.1 dg127 (by omega) (by omega) (fun i hi => by rw [s_upN (by omega), v1 _ (by omega), show tR (shB R v) a k i = R i from loR i hi]; exact l3.fr i hi) v3' lfn hD (Or.inr (by rw [s_upN (by omega), v1 _ (by omega)]; exact l6)) (Or.inr (by rw [s_upN (by omega)]; exact v4)) (BK_m v2 (fun c h1 h2 => s_upN (by omega))) (fun m4 A a1 a2 a3 a4' a5 => ⟨_, rfl, ?_⟩)
      refine y_ivI0 dX11_oven_161 mv_X11_255 my_X2_worthNow (Or.inl rfl) dh43.1 ?_
      refine c_X2_worthNow dh43 a1 a2 ⟨_, rfl, ?_⟩
      rw [a3.w]
      refine y_iload_n dX11_oven_164 rfl rfl ?_
      refine y_isub dX11_oven_165 ?_
      refine y_mabs dX11_oven_166 mm_X11_344 (Nat.le_of_ble_eq_true rfl) ?_
      rw [ea]
      refine y_ist8_7 dX11_oven_169 rfl ?_
      refine y_iload dX11_oven_171 rfl ?_
      refine y_bipush (v := -9) dX11_oven_173 (by decide) ?_
      refine y_icmp_eq (tgt := 185) dX11_oven_175 (by decide) (fun h175 => ?_) (fun h175 => ?_)
      · refine y_iload dX11_oven_185 rfl ?_
        refine y_ist8_5 dX11_oven_187 rfl ?_
        refine y_iload dX11_oven_189 rfl ?_
        refine y_ist8_4 dX11_oven_191 rfl ?_
        refine y_iinc8_6 dX11_oven_193 (nI_1 _) rfl ?_
        refine y_goto (tgt := 106) dX11_oven_196 (by decide) ?_
        first
          | (rw [sel_y (bt := ltI) okt (Or.inr (Int32.not_le.mp h182))] at hP; exact hP m4 _ _ (fun q hq => by rw [a5 q (by omega), s_upN (by omega)]; exact v1 q hq) a4' (DR_m v3' (fun c h1 h2 => a5 c (by omega))) (by rw [a5 _ (by omega), s_upN (by omega)]; exact v4))
          | (rw [sel_n (bt := ltI) (fun z => z.2.elim h175 (fun y => absurd h182 (Int32.not_le.mpr y)))] at hP; exact hP m4 _ _ (fun q hq => by rw [a5 q (by omega), s_upN (by omega)]; exact v1 q hq) a4' (DR_m v3' (fun c h1 h2 => a5 c (by omega))) (by rw [a5 _ (by omega), s_upN (by omega)]; exact v4))
          | (rw [sel_y (bt := ltI) okt (Or.inl h175)] at hP; exact hP m4 _ _ (fun q hq => by rw [a5 q (by omega), s_upN (by omega)]; exact v1 q hq) a4' (DR_m v3' (fun c h1 h2 => a5 c (by omega))) (by rw [a5 _ (by omega), s_upN (by omega)]; exact v4))
          | (rw [sel_no nok] at hP; exact hP m' _ _ v1 v2 v3 v4)
      · refine y_iload dX11_oven_178 rfl ?_
        refine y_iload dX11_oven_180 rfl ?_
        refine y_icmp_ge (tgt := 193) dX11_oven_182 (by decide) (fun h182 => ?_) (fun h182 => ?_)
        · refine y_iinc8_6 dX11_oven_193 (nI_1 _) rfl ?_
          refine y_goto (tgt := 106) dX11_oven_196 (by decide) ?_
          first
            | (rw [sel_y (bt := ltI) okt (Or.inr (Int32.not_le.mp h182))] at hP; exact hP m4 _ _ (fun q hq => by rw [a5 q (by omega), s_upN (by omega)]; exact v1 q hq) a4' (DR_m v3' (fun c h1 h2 => a5 c (by omega))) (by rw [a5 _ (by omega), s_upN (by omega)]; exact v4))
            | (rw [sel_n (bt := ltI) (fun z => z.2.elim h175 (fun y => absurd h182 (Int32.not_le.mpr y)))] at hP; exact hP m4 _ _ (fun q hq => by rw [a5 q (by omega), s_upN (by omega)]; exact v1 q hq) a4' (DR_m v3' (fun c h1 h2 => a5 c (by omega))) (by rw [a5 _ (by omega), s_upN (by omega)]; exact v4))
            | (rw [sel_y (bt := ltI) okt (Or.inl h175)] at hP; exact hP m4 _ _ (fun q hq => by rw [a5 q (by omega), s_upN (by omega)]; exact v1 q hq) a4' (DR_m v3' (fun c h1 h2 => a5 c (by omega))) (by rw [a5 _ (by omega), s_upN (by omega)]; exact v4))
            | (rw [sel_no nok] at hP; exact hP m' _ _ v1 v2 v3 v4)
        · refine y_iload dX11_oven_185 rfl ?_
          refine y_ist8_5 dX11_oven_187 rfl ?_
          refine y_iload dX11_oven_189 rfl ?_
          refine y_ist8_4 dX11_oven_191 rfl ?_
          refine y_iinc8_6 dX11_oven_193 (nI_1 _) rfl ?_
          refine y_goto (tgt := 106) dX11_oven_196 (by decide) ?_
          first
            | (rw [sel_y (bt := ltI) okt (Or.inr (Int32.not_le.mp h182))] at hP; exact hP m4 _ _ (fun q hq => by rw [a5 q (by omega), s_upN (by omega)]; exact v1 q hq) a4' (DR_m v3' (fun c h1 h2 => a5 c (by omega))) (by rw [a5 _ (by omega), s_upN (by omega)]; exact v4))
            | (rw [sel_n (bt := ltI) (fun z => z.2.elim h175 (fun y => absurd h182 (Int32.not_le.mpr y)))] at hP; exact hP m4 _ _ (fun q hq => by rw [a5 q (by omega), s_upN (by omega)]; exact v1 q hq) a4' (DR_m v3' (fun c h1 h2 => a5 c (by omega))) (by rw [a5 _ (by omega), s_upN (by omega)]; exact v4))
            | (rw [sel_y (bt := ltI) okt (Or.inl h175)] at hP; exact hP m4 _ _ (fun q hq => by rw [a5 q (by omega), s_upN (by omega)]; exact v1 q hq) a4' (DR_m v3' (fun c h1 h2 => a5 c (by omega))) (by rw [a5 _ (by omega), s_upN (by omega)]; exact v4))
            | (rw [sel_no nok] at hP; exact hP m' _ _ v1 v2 v3 v4)
    · refine y_if_ne (tgt := 132) dX11_oven_126 (by decide) (fun h126 => absurd (by decide) h126) (fun h126 => ?_)
      have nok : ¬ oTn R a k := fun z => ok (by unfold oTn mayL at z; rw [← hc] at z; exact z)
      refine y_goto (tgt := 193) dX11_oven_129 (by decide) ?_
      refine y_iinc8_6 dX11_oven_193 (nI_1 _) rfl ?_
      refine y_goto (tgt := 106) dX11_oven_196 (by decide) ?_
      first
        | (rw [sel_y (bt := ltI) okt (Or.inr (Int32.not_le.mp h182))] at hP; exact hP m4 _ _ (fun q hq => by rw [a5 q (by omega), s_upN (by omega)]; exact v1 q hq) a4' (DR_m v3' (fun c h1 h2 => a5 c (by omega))) (by rw [a5 _ (by omega), s_upN (by omega)]; exact v4))
        | (rw [sel_n (bt := ltI) (fun z => z.2.elim h175 (fun y => absurd h182 (Int32.not_le.mpr y)))] at hP; exact hP m4 _ _ (fun q hq => by rw [a5 q (by omega), s_upN (by omega)]; exact v1 q hq) a4' (DR_m v3' (fun c h1 h2 => a5 c (by omega))) (by rw [a5 _ (by omega), s_upN (by omega)]; exact v4))
        | (rw [sel_y (bt := ltI) okt (Or.inl h175)] at hP; exact hP m4 _ _ (fun q hq => by rw [a5 q (by omega), s_upN (by omega)]; exact v1 q hq) a4' (DR_m v3' (fun c h1 h2 => a5 c (by omega))) (by rw [a5 _ (by omega), s_upN (by omega)]; exact v4))
        | (rw [sel_no nok] at hP; exact hP m' _ _ v1 v2 v3 v4)
set_option maxHeartbeats 1000000 in
theorem c_X12_oven_ok {L : Nat} {xs : Nat → Int32} {d : Nat} {m : sM} {n : sN} {Q : sQ} (l1 : m 253 0 = 1) (l5 : dOK (lfR m 0)) {a : Nat} {v : Int32} (hv : -2 ≤ v ∧ v ≤ 2) (ha : a < cOf (lfR m 0)) (hk1 : lfR m 0 (6 + 3 * a + 0) = 2) (hk2 : ∀ j, a < j → j < cOf (lfR m 0) → ¬ lfR m 0 (6 + 3 * j + 0) = 2) (hQ : ∀ M, WM m M → Q (some (.int (selF (oTn (lfR m 0) a) ltI nI (gOv (lfR m 0) v a) 31).1)) (tellsM M (selF (oTn (lfR m 0) a) ltI nI (gOv (lfR m 0) v a) 31).2) n) : sRun (scT L xs) (d + 10) yX12_oven cX12_oven 8 (some .int) [.ref 239, .int v] m n Q := by
  obtain ⟨R, hR⟩ : ∃ R, R = lfR m 0 := ⟨_, rfl⟩
  obtain ⟨c, hc⟩ : ∃ c, c = cOf R := ⟨_, rfl⟩
  rw [← hR] at l5 ha hk1 hk2 hQ
  have c5 : R 5 = nI c := by rw [hc]; exact l5.1
  have c10 : c ≤ 10 := by rw [hc]; exact l5.2.1
  obtain ⟨G, hG⟩ : ∃ G, G = gOv R v a := ⟨_, rfl⟩
  rw [← hG] at hQ
  have ha2 : a < c := by omega
  have hl : lastsR R a := lst_d l5 ha (Or.inr hk1)
  have bd : dOK (shB R v) := sh_d l5
  have bl : lastsR (shB R v) a := lasts_3 bd sh_c ha (fun p hp => shB_3 hp) hl
  have hfd : findS 2 1 R c = nI a := by
    rcases find_last (kd := 2) (R := R) c with ⟨i, i1, i2, i3, i4⟩ | ⟨z, -⟩
    · have : i = a := by
        rcases Nat.lt_trichotomy i a with y | y | y
        · exact absurd hk1 (i3 a y ha2)
        · exact y
        · exact absurd i2 (hk2 i y (by omega))
      rw [← this]; exact i4
    · exact absurd hk1 (z a ha2)
  have c5w : shB R v 5 = nI c := by rw [show shB R v 5 = R 5 from sh_lo (by omega) _]; exact c5
  refine y_run (own := "LoafFallModel") rfl (by decide +kernel) (Nat.le_of_ble_eq_true rfl) rfl ?_
  refine y_iload_n dX12_oven_0 rfl rfl ?_
  refine y_bipush (v := -2) dX12_oven_1 (by decide) ?_
  refine y_iconst (v := 2) dX12_oven_3 (by decide) ?_
  refine y_isI3 dX12_oven_4 ms_X12_86 my_X12_in (Or.inl rfl) ?_
  refine c_X12_in (fun _ _ => ⟨_, rfl, ?_⟩) (fun z => absurd hv z)
  refine y_if_ne (tgt := 12) dX12_oven_7 (by decide) (fun h7 => ?_) (fun h7 => absurd h7 (by decide))
  refine y_aload_n dX12_oven_12 rfl rfl ?_
  refine y_getr dX12_oven_13 gf_X12_51 sh_239 rfl ?_
  refine y_iconst (v := 0) dX12_oven_16 (by decide) ?_
  refine y_zaldN dX12_oven_17 sh_253 rfl (by first | omega | decide) (by decide) ?_
  refine y_if_ne (tgt := 24) dX12_oven_18 (by decide) (fun h18 => ?_) (fun h18 => absurd h18 (by rw [l1]; decide))
  refine y_aload_n dX12_oven_24 rfl rfl ?_
  refine y_ivV0 dX12_oven_25 mv_X12_289 my_X12_layOwn (Or.inl rfl) sh_239 ?_
  refine c_layOwn (Or.inl rfl) (fun hh => ⟨rfl, ?_⟩)
  rw [← hR]
  refine y_aload_n dX12_oven_28 rfl rfl ?_
  refine y_iconst (v := 2) dX12_oven_29 (by decide) ?_
  refine y_iconst (v := 1) dX12_oven_30 (by decide) ?_
  refine y_ivI2 dX12_oven_31 mv_X12_304 my_X12_find (Or.inl rfl) sh_239 ?_
  refine c_X12_find (wk_b (by omega)) (c := c) c5 c10 ⟨_, rfl, ?_⟩
  rw [hfd]
  refine y_ist8_2 dX12_oven_34 rfl ?_
  refine y_iload_n dX12_oven_35 rfl rfl ?_
  refine y_bipush (v := -9) dX12_oven_36 (by decide) ?_
  refine y_icmp_ne (tgt := 47) dX12_oven_38 (by decide) (fun h38 => ?_) (fun h38 => absurd h38 (nI_n9' (by omega)))
  refine y_aload_n dX12_oven_47 rfl rfl ?_
  refine y_ivV0 dX12_oven_48 mv_X12_263 my_X12_bakes (Or.inl rfl) sh_239 ?_
  refine c_bakesW (wk_b (by omega)) l5 (fun h1 => ⟨rfl, ?_⟩)
  refine y_aload_n dX12_oven_51 rfl rfl ?_
  refine y_ivI0 dX12_oven_52 mv_X12_247 my_X12_worthNow (Or.inl rfl) sh_239 ?_
  refine c_X12_worthNow (wk_b (by omega)) ⟨_, rfl, ?_⟩
  obtain ⟨ow, how⟩ : ∃ ow, ow = WV R := ⟨_, rfl⟩
  rw [show worthF (BV R) = ow from how.symm]
  refine y_ist8_3 dX12_oven_55 rfl ?_
  refine y_bipush (v := -9) dX12_oven_56 (by decide) ?_
  refine y_ist8_4 dX12_oven_58 rfl ?_
  refine y_iconst (v := 0) dX12_oven_60 (by decide) ?_
  refine y_ist8_5 dX12_oven_61 rfl ?_
  refine y_iconst (v := 1) dX12_oven_63 (by decide) ?_
  refine y_ist8_6 dX12_oven_64 rfl ?_
  have w1 : selF (oTn R a) ltI nI G 1 = (-9, 0) := sel_1 oTn_0
  suffices hs : ∀ a7 : Option Value, sV (scT L xs) (d + 9) "LoafFallModel" cX12_oven 8 (some .int) Q 66 [some (.ref 239), some (.int v), some (.int (nI a)), some (.int ow), some (.int (selF (oTn R a) ltI nI G 1).1), some (.int (selF (oTn R a) ltI nI G 1).2), some (.int (nI 1)), a7] [] (stR (wkM m 1316) h1 1316 (BV R)) n by
    have hs := hs none
    rw [w1] at hs
    exact hs
  intro a7
  refine cnt2 (P := fun k => ∀ M, ∀ a7 : Option Value, WM m M → sV (scT L xs) (d + 9) "LoafFallModel" cX12_oven 8 (some .int) Q 66 [some (.ref 239), some (.int v), some (.int (nI a)), some (.int ow), some (.int (selF (oTn R a) ltI nI G k).1), some (.int (selF (oTn R a) ltI nI G k).2), some (.int (nI k)), a7] [] M n) 1 31 ?_ ?_ 1 (Nat.le_refl _) (by omega) _ a7 WM.st
  · intro M a7 hW
    refine y_iload dX12_oven_66 rfl ?_
    refine y_bipush (v := 30) dX12_oven_68 (by decide) ?_
    refine y_icmp_gt (tgt := 134) dX12_oven_70 (by decide) (fun h70 => ?_) (fun h70 => absurd (by decide) h70)
    refine y_aload_n dX12_oven_134 rfl rfl ?_
    refine y_iload dX12_oven_135 rfl ?_
    refine y_iload dX12_oven_137 rfl ?_
    refine y_ivI2 dX12_oven_139 mv_X12_108 my_X12_tells (Or.inl rfl) sh_239 ?_
    refine c_X12_tells ⟨_, rfl, ?_⟩
    refine y_ireturn dX12_oven_142 rfl rfl ?_
    exact hQ M hW
  · intro k hk0 hk hP
    intro M a7 hW
    refine y_iload dX12_oven_66 rfl ?_
    refine y_bipush (v := 30) dX12_oven_68 (by decide) ?_
    refine y_icmp_gt (tgt := 134) dX12_oven_70 (by decide) (fun h70 => absurd h70 (Int32.not_lt.mpr (nI_le (b := 30) (by omega) (by decide)))) (fun h70 => ?_)
    refine y_aload_n dX12_oven_73 rfl rfl ?_
    refine y_ivV0 dX12_oven_74 mv_X12_289 my_X12_layOwn (Or.inl rfl) sh_239 ?_
    refine c_layOwn hW (fun hh => ⟨rfl, ?_⟩)
    rw [← hR]
    refine y_aload_n dX12_oven_77 rfl rfl ?_
    refine y_iload_n dX12_oven_78 rfl rfl ?_
    refine y_ivV1 dX12_oven_79 mv_X12_283 my_X12_shiftOvens (Or.inl rfl) sh_239 ?_
    refine c_X12_shiftOvens (wk_b (by omega)) (c := c) c5 c10 ⟨rfl, ?_⟩
    rw [show foldR (shiftC v) c R = shB R v from by rw [hc]; rfl]
    refine y_aload_n dX12_oven_82 rfl rfl ?_
    refine y_iload_n dX12_oven_83 rfl rfl ?_
    refine y_iload dX12_oven_84 rfl ?_
    refine y_ivI2 dX12_oven_86 mv_X12_301 my_X12_turnsOf (Or.inl rfl) sh_239 ?_
    refine c_X12_turnsOf (wk_b (by omega)) (i := a) (c := c) rfl ha2 c5w c10 (fun ok => ⟨_, rfl, ?_⟩) (fun ok => ⟨_, rfl, ?_⟩)
    · refine y_if_eq (tgt := 128) dX12_oven_89 (by decide) (fun h89 => absurd h89 (by decide)) (fun h89 => ?_)
      have okt2 : oTn (shB R v) a k := (oTn_i (by omega) (by omega)).mpr (by rw [sh_c, ← hc]; exact ok)
      have okt : oTn R a k := (oTn_eq sh_c (fun p hp => shB_3 hp)).mp okt2
      have hD : dOK (tR (shB R v) a k) := tR_d bd (by rw [sh_c]; exact ha) bl (by omega) (by omega) okt2
      rw [show upd (shB R v) (6 + 3 * a + 2) (nI k) = tR (shB R v) a k from rfl]
      have eg : dst (worthF (BV (tR (shB R v) a k))) ow = G k := by rw [hG, how]; rfl
      refine y_aload_n dX12_oven_92 rfl rfl ?_
      refine y_ivV0 dX12_oven_93 mv_X12_263 my_X12_bakes (Or.inl rfl) sh_239 ?_
      refine c_bakesW (wk_b (by omega)) hD (fun h' => ⟨rfl, ?_⟩)
      refine y_aload_n dX12_oven_96 rfl rfl ?_
      refine y_ivI0 dX12_oven_97 mv_X12_247 my_X12_worthNow (Or.inl rfl) sh_239 ?_
      refine c_X12_worthNow (wk_b (by omega)) ⟨_, rfl, ?_⟩
      refine y_iload_n dX12_oven_100 rfl rfl ?_
      refine y_isI2 dX12_oven_101 ms_X12_307 my_X12_off (Or.inl rfl) ?_
      refine c_X12_off ⟨_, rfl, ?_⟩
      rw [eg]
      refine y_ist8_7 dX12_oven_104 rfl ?_
      refine y_iload dX12_oven_106 rfl ?_
      refine y_bipush (v := -9) dX12_oven_108 (by decide) ?_
      refine y_icmp_eq (tgt := 120) dX12_oven_110 (by decide) (fun h110 => ?_) (fun h110 => ?_)
      · refine y_iload dX12_oven_120 rfl ?_
        refine y_ist8_4 dX12_oven_122 rfl ?_
        refine y_iload dX12_oven_124 rfl ?_
        refine y_ist8_5 dX12_oven_126 rfl ?_
        refine y_iinc8_6 dX12_oven_128 (nI_1 _) rfl ?_
        refine y_goto (tgt := 66) dX12_oven_131 (by decide) ?_
        first
          | (rw [sel_y (bt := ltI) okt (Or.inr (Int32.not_le.mp h117))] at hP; exact hP _ _ WM.st)
          | (rw [sel_n (bt := ltI) (fun z => z.2.elim h110 (fun y => absurd h117 (Int32.not_le.mpr y)))] at hP; exact hP _ _ WM.st)
          | (rw [sel_y (bt := ltI) okt (Or.inl h110)] at hP; exact hP _ _ WM.st)
          | (rw [sel_no nok] at hP; exact hP _ _ WM.st)
      · refine y_iload dX12_oven_113 rfl ?_
        refine y_iload dX12_oven_115 rfl ?_
        refine y_icmp_ge (tgt := 128) dX12_oven_117 (by decide) (fun h117 => ?_) (fun h117 => ?_)
        · refine y_iinc8_6 dX12_oven_128 (nI_1 _) rfl ?_
          refine y_goto (tgt := 66) dX12_oven_131 (by decide) ?_
          first
            | (rw [sel_y (bt := ltI) okt (Or.inr (Int32.not_le.mp h117))] at hP; exact hP _ _ WM.st)
            | (rw [sel_n (bt := ltI) (fun z => z.2.elim h110 (fun y => absurd h117 (Int32.not_le.mpr y)))] at hP; exact hP _ _ WM.st)
            | (rw [sel_y (bt := ltI) okt (Or.inl h110)] at hP; exact hP _ _ WM.st)
            | (rw [sel_no nok] at hP; exact hP _ _ WM.st)
        · refine y_iload dX12_oven_120 rfl ?_
          refine y_ist8_4 dX12_oven_122 rfl ?_
          refine y_iload dX12_oven_124 rfl ?_
          refine y_ist8_5 dX12_oven_126 rfl ?_
          refine y_iinc8_6 dX12_oven_128 (nI_1 _) rfl ?_
          refine y_goto (tgt := 66) dX12_oven_131 (by decide) ?_
          first
            | (rw [sel_y (bt := ltI) okt (Or.inr (Int32.not_le.mp h117))] at hP; exact hP _ _ WM.st)
            | (rw [sel_n (bt := ltI) (fun z => z.2.elim h110 (fun y => absurd h117 (Int32.not_le.mpr y)))] at hP; exact hP _ _ WM.st)
            | (rw [sel_y (bt := ltI) okt (Or.inl h110)] at hP; exact hP _ _ WM.st)
            | (rw [sel_no nok] at hP; exact hP _ _ WM.st)
    · have nok : ¬ oTn R a k := fun z => ok (by have := (oTn_i (by omega) (by omega)).mp ((oTn_eq (R := R) (R' := shB R v) sh_c (fun p hp => shB_3 hp)).mpr z); rw [sh_c, ← hc] at this; exact this)
      refine y_if_eq (tgt := 128) dX12_oven_89 (by decide) (fun h89 => ?_) (fun h89 => absurd (by decide) h89)
      refine y_iinc8_6 dX12_oven_128 (nI_1 _) rfl ?_
      refine y_goto (tgt := 66) dX12_oven_131 (by decide) ?_
      first
        | (rw [sel_y (bt := ltI) okt (Or.inr (Int32.not_le.mp h117))] at hP; exact hP _ _ WM.st)
        | (rw [sel_n (bt := ltI) (fun z => z.2.elim h110 (fun y => absurd h117 (Int32.not_le.mpr y)))] at hP; exact hP _ _ WM.st)
        | (rw [sel_y (bt := ltI) okt (Or.inl h110)] at hP; exact hP _ _ WM.st)
        | (rw [sel_no nok] at hP; exact hP _ _ WM.st)
set_option maxHeartbeats 2000000 in
theorem p_oven {L : Nat} {xs : Nat → Int32} {d : Nat} {m : sM} {n : sN} {v : Int32} (h : Rel m n) : PI L xs (d + 11) yX11_oven cX11_oven 8 yX12_oven cX12_oven 8 [.int v] m n := by
  unfold PI
  by_cases hv : -2 ≤ v ∧ v ≤ 2
  · by_cases l : m 253 0 = 0
    · refine y_run (own := "LoafFall") rfl (by decide +kernel) (Nat.le_of_ble_eq_true rfl) rfl ?_
      refine y_iload_n dX11_oven_0 rfl rfl ?_
      refine y_bipush (v := -2) dX11_oven_1 (by decide) ?_
      refine y_icmp_lt (tgt := 11) dX11_oven_3 (by decide) (fun h3 => absurd h3 (Int32.not_lt.mpr hv.1)) (fun h3 => ?_)
      refine y_iload_n dX11_oven_6 rfl rfl ?_
      refine y_iconst (v := 2) dX11_oven_7 (by decide) ?_
      refine y_icmp_le (tgt := 13) dX11_oven_8 (by decide) (fun h8 => ?_) (fun h8 => absurd hv.2 h8)
      refine y_aload_n dX11_oven_13 rfl rfl ?_
      refine y_getr dX11_oven_14 gf_X11_40 sh_0 rfl ?_
      refine y_geti dX11_oven_17 gf_X11_211 sh_6 rfl ?_
      refine y_if_ne (tgt := 26) dX11_oven_20 (by decide) (fun h20 => absurd (h.none l) h20) (fun h20 => ?_)
      refine y_bipush (v := -4) dX11_oven_23 (by decide) ?_
      refine y_ireturn dX11_oven_25 rfl rfl ?_
      refine ⟨_, rfl, ?_⟩
      refine y_run (own := "LoafFallModel") rfl (by decide +kernel) (Nat.le_of_ble_eq_true rfl) rfl ?_
      refine y_iload_n dX12_oven_0 rfl rfl ?_
      refine y_bipush (v := -2) dX12_oven_1 (by decide) ?_
      refine y_iconst (v := 2) dX12_oven_3 (by decide) ?_
      refine y_isI3 dX12_oven_4 ms_X12_86 my_X12_in (Or.inl rfl) ?_
      refine c_X12_in (fun _ _ => ⟨_, rfl, ?_⟩) (fun z => absurd hv z)
      refine y_if_ne (tgt := 12) dX12_oven_7 (by decide) (fun h7 => ?_) (fun h7 => absurd h7 (by decide))
      refine y_aload_n dX12_oven_12 rfl rfl ?_
      refine y_getr dX12_oven_13 gf_X12_51 sh_239 rfl ?_
      refine y_iconst (v := 0) dX12_oven_16 (by decide) ?_
      refine y_zaldN dX12_oven_17 sh_253 rfl (by first | omega | decide) (by decide) ?_
      refine y_if_ne (tgt := 24) dX12_oven_18 (by decide) (fun h18 => absurd l h18) (fun h18 => ?_)
      refine y_bipush (v := -4) dX12_oven_21 (by decide) ?_
      refine y_ireturn dX12_oven_23 rfl rfl ?_
      exact ⟨rfl, h⟩
    · obtain ⟨l1, l2, l3, l4, l5, l6, l7, lf⟩ := h.own l
      have c5 : lfR m 0 5 = nI (cOf (lfR m 0)) := l5.1
      have c10 := l5.2.1
      rcases find_last (kd := 2) (R := lfR m 0) (cOf (lfR m 0)) with ⟨a, ha, hk1, hk2, -⟩ | ⟨hz, hz2⟩
      · refine c_X11_oven_ok h l hv ha hk1 hk2 (fun m' v1 v2 => ⟨_, rfl, ?_⟩)
        generalize em : tellM m' (selF (oTn (lfR m 0) a) ltI nI (gOv (lfR m 0) v a) 31).2 = m1
        have gg : ∀ a, 137 ≤ a → m1 a = m a := fun a ha => by rw [← em, tell_o (by omega)]; exact v1 a (by omega)
        have e0 : lfR m1 0 = lfR m 0 := lfR_m (gg 254 (by omega))
        refine c_X12_oven_ok (a := a) (by rw [gg _ (by omega)]; exact l1) (by rw [e0]; exact l5) hv (by rw [e0]; exact ha) (by rw [e0]; exact hk1) (by rw [e0]; exact hk2) (fun M hW => ?_)
        rw [e0]
        rw [← em] at hW
        exact ⟨rfl, Rel_tell h v1 v2 hW.fr⟩
      · refine y_run (own := "LoafFall") rfl (by decide +kernel) (Nat.le_of_ble_eq_true rfl) rfl ?_
        refine y_iload_n dX11_oven_0 rfl rfl ?_
        refine y_bipush (v := -2) dX11_oven_1 (by decide) ?_
        refine y_icmp_lt (tgt := 11) dX11_oven_3 (by decide) (fun h3 => absurd h3 (Int32.not_lt.mpr hv.1)) (fun h3 => ?_)
        refine y_iload_n dX11_oven_6 rfl rfl ?_
        refine y_iconst (v := 2) dX11_oven_7 (by decide) ?_
        refine y_icmp_le (tgt := 13) dX11_oven_8 (by decide) (fun h8 => ?_) (fun h8 => absurd hv.2 h8)
        refine y_aload_n dX11_oven_13 rfl rfl ?_
        refine y_getr dX11_oven_14 gf_X11_40 sh_0 rfl ?_
        refine y_geti dX11_oven_17 gf_X11_211 sh_6 rfl ?_
        refine y_if_ne (tgt := 26) dX11_oven_20 (by decide) (fun h20 => ?_) (fun h20 => absurd h20 (by rw [l2]; decide))
        refine y_aload_n dX11_oven_26 rfl rfl ?_
        refine y_getr dX11_oven_27 gf_X11_40 sh_0 rfl ?_
        refine y_getr dX11_oven_30 gf_X11_204 sh_6 rfl ?_
        refine y_ivI0 dX11_oven_33 mv_X11_341 my_X1_lastOven (Or.inl rfl) sh_9 ?_
        refine c_X1_lastOven (R := lfR m 0) lf6.2.2.1 l3.dr c5 c10 (fun i a b _ => absurd b (hz i a)) (fun _ => ⟨_, rfl, ?_⟩)
        refine y_ist8_2 dX11_oven_36 rfl ?_
        refine y_iload_n dX11_oven_37 rfl rfl ?_
        refine y_bipush (v := -9) dX11_oven_38 (by decide) ?_
        refine y_icmp_ne (tgt := 49) dX11_oven_40 (by decide) (fun h40 => absurd rfl h40) (fun h40 => ?_)
        refine y_aload_n dX11_oven_43 rfl rfl ?_
        refine y_iconst (v := 3) dX11_oven_44 (by decide) ?_
        refine y_ivI1 dX11_oven_45 mv_X11_105 my_X11_found (Or.inl rfl) sh_0 ?_
        refine c_X11_found (f := 3) rfl (by omega) (by omega) ⟨_, rfl, ?_⟩
        refine y_ireturn dX11_oven_48 rfl rfl ?_
        refine ⟨_, rfl, ?_⟩
        obtain ⟨m1, em⟩ : ∃ m1, m1 = foundM m 3 := ⟨_, rfl⟩
        rw [← em]
        have g : ∀ a, 138 ≤ a → m1 a = m a := fun a ha => by rw [em]; exact found_o (by omega) (by omega)
        have e0 : lfR m1 0 = lfR m 0 := lfR_m (g 254 (by omega))
        refine y_run (own := "LoafFallModel") rfl (by decide +kernel) (Nat.le_of_ble_eq_true rfl) rfl ?_
        refine y_iload_n dX12_oven_0 rfl rfl ?_
        refine y_bipush (v := -2) dX12_oven_1 (by decide) ?_
        refine y_iconst (v := 2) dX12_oven_3 (by decide) ?_
        refine y_isI3 dX12_oven_4 ms_X12_86 my_X12_in (Or.inl rfl) ?_
        refine c_X12_in (fun _ _ => ⟨_, rfl, ?_⟩) (fun z => absurd hv z)
        refine y_if_ne (tgt := 12) dX12_oven_7 (by decide) (fun h7 => ?_) (fun h7 => absurd h7 (by decide))
        refine y_aload_n dX12_oven_12 rfl rfl ?_
        refine y_getr dX12_oven_13 gf_X12_51 sh_239 rfl ?_
        refine y_iconst (v := 0) dX12_oven_16 (by decide) ?_
        refine y_zaldN dX12_oven_17 sh_253 rfl (by first | omega | decide) (by decide) ?_
        refine y_if_ne (tgt := 24) dX12_oven_18 (by decide) (fun h18 => ?_) (fun h18 => absurd h18 (by rw [g _ (by omega), l1]; decide))
        refine y_aload_n dX12_oven_24 rfl rfl ?_
        refine y_ivV0 dX12_oven_25 mv_X12_289 my_X12_layOwn (Or.inl rfl) sh_239 ?_
        refine c_layOwn (m0 := m1) (Or.inl rfl) (fun hh => ⟨rfl, ?_⟩)
        rw [e0]
        refine y_aload_n dX12_oven_28 rfl rfl ?_
        refine y_iconst (v := 2) dX12_oven_29 (by decide) ?_
        refine y_iconst (v := 1) dX12_oven_30 (by decide) ?_
        refine y_ivI2 dX12_oven_31 mv_X12_304 my_X12_find (Or.inl rfl) sh_239 ?_
        refine c_X12_find (wk_b (by omega)) c5 c10 ⟨_, rfl, ?_⟩
        rw [hz2]
        refine y_ist8_2 dX12_oven_34 rfl ?_
        refine y_iload_n dX12_oven_35 rfl rfl ?_
        refine y_bipush (v := -9) dX12_oven_36 (by decide) ?_
        refine y_icmp_ne (tgt := 47) dX12_oven_38 (by decide) (fun h38 => absurd rfl h38) (fun h38 => ?_)
        refine y_aload_n dX12_oven_41 rfl rfl ?_
        refine y_iconst (v := 3) dX12_oven_42 (by decide) ?_
        refine y_ivI1 dX12_oven_43 mv_X12_100 my_X12_meets (Or.inl rfl) sh_239 ?_
        refine c_X12_meets (f := 3) rfl (by omega) ⟨_, rfl, ?_⟩
        refine y_ireturn dX12_oven_46 rfl rfl ?_
        rw [em]
        exact ⟨rfl, Rel_meet h frC.rf h.bk (frM.wk.tr frM.st)⟩
  · refine y_run (own := "LoafFall") rfl (by decide +kernel) (Nat.le_of_ble_eq_true rfl) rfl ?_
    refine y_iload_n dX11_oven_0 rfl rfl ?_
    refine y_bipush (v := -2) dX11_oven_1 (by decide) ?_
    refine y_icmp_lt (tgt := 11) dX11_oven_3 (by decide) (fun h3 => ?_) (fun h3 => ?_)
    · refine y_iconst (v := -1) dX11_oven_11 (by decide) ?_
      refine y_ireturn dX11_oven_12 rfl rfl ?_
      refine ⟨_, rfl, ?_⟩
      refine y_run (own := "LoafFallModel") rfl (by decide +kernel) (Nat.le_of_ble_eq_true rfl) rfl ?_
      refine y_iload_n dX12_oven_0 rfl rfl ?_
      refine y_bipush (v := -2) dX12_oven_1 (by decide) ?_
      refine y_iconst (v := 2) dX12_oven_3 (by decide) ?_
      refine y_isI3 dX12_oven_4 ms_X12_86 my_X12_in (Or.inl rfl) ?_
      refine c_X12_in (fun a b => absurd ⟨a, b⟩ hv) (fun _ => ⟨_, rfl, ?_⟩)
      refine y_if_ne (tgt := 12) dX12_oven_7 (by decide) (fun h7 => absurd (by decide) h7) (fun h7 => ?_)
      refine y_iconst (v := -1) dX12_oven_10 (by decide) ?_
      refine y_ireturn dX12_oven_11 rfl rfl ?_
      exact ⟨rfl, h⟩
    · refine y_iload_n dX11_oven_6 rfl rfl ?_
      refine y_iconst (v := 2) dX11_oven_7 (by decide) ?_
      refine y_icmp_le (tgt := 13) dX11_oven_8 (by decide) (fun h8 => absurd h8 (fun z => hv ⟨Int32.not_lt.mp h3, z⟩)) (fun h8 => ?_)
      refine y_iconst (v := -1) dX11_oven_11 (by decide) ?_
      refine y_ireturn dX11_oven_12 rfl rfl ?_
      refine ⟨_, rfl, ?_⟩
      refine y_run (own := "LoafFallModel") rfl (by decide +kernel) (Nat.le_of_ble_eq_true rfl) rfl ?_
      refine y_iload_n dX12_oven_0 rfl rfl ?_
      refine y_bipush (v := -2) dX12_oven_1 (by decide) ?_
      refine y_iconst (v := 2) dX12_oven_3 (by decide) ?_
      refine y_isI3 dX12_oven_4 ms_X12_86 my_X12_in (Or.inl rfl) ?_
      refine c_X12_in (fun a b => absurd ⟨a, b⟩ hv) (fun _ => ⟨_, rfl, ?_⟩)
      refine y_if_ne (tgt := 12) dX12_oven_7 (by decide) (fun h7 => absurd (by decide) h7) (fun h7 => ?_)
      refine y_iconst (v := -1) dX12_oven_10 (by decide) ?_
      refine y_ireturn dX12_oven_11 rfl rfl ?_
      exact ⟨rfl, h⟩
theorem nI_5 (a : Nat) : nI a + Int32.ofInt 5 = nI (a + 5) := nI_add a 5
def evR (R : Nat → Int32) (a u t : Nat) : Nat → Int32 := tR (upd R (6 + 3 * a + 1) (nI u)) a t
def okE (R : Nat → Int32) (a k : Nat) : Prop := oTn R a (5 * (k % 6 + 1))
def cdE (k : Nat) : Int32 := nI (100 * (k / 6) + 5 * (k % 6 + 1))
def gEv (R : Nat → Int32) (a k : Nat) : Int32 := spoS (CV (evR R a (k / 6) (5 * (k % 6 + 1)))) 24
theorem okE_at {R : Nat → Int32} {a u t : Nat} (ht : t < 6) : okE R a (6 * u + t) ↔ oTn R a (5 * (t + 1)) := by unfold okE; rw [show (6 * u + t) % 6 = t by omega]
theorem cdE_at {u t : Nat} (ht : t < 6) : cdE (6 * u + t) = nI (100 * u + 5 * (t + 1)) := by unfold cdE; rw [show (6 * u + t) % 6 = t by omega, show (6 * u + t) / 6 = u by omega]
theorem gEv_at {R : Nat → Int32} {a u t : Nat} (ht : t < 6) : gEv R a (6 * u + t) = spoS (CV (evR R a u (5 * (t + 1)))) 24 := by unfold gEv; rw [show (6 * u + t) % 6 = t by omega, show (6 * u + t) / 6 = u by omega]
theorem up12 {R : Nat → Int32} {a : Nat} {x y z : Int32} : upd (upd (upd R (6 + 3 * a + 1) x) (6 + 3 * a + 2) y) (6 + 3 * a + 1) z = upd (upd R (6 + 3 * a + 1) z) (6 + 3 * a + 2) y := by
  funext p
  rw [upd_ap, upd_ap, upd_ap, upd_ap, upd_ap]
  by_cases h1 : p = 6 + 3 * a + 1
  · rw [if_pos h1, if_neg (by omega), if_pos h1]
  · rw [if_neg h1, if_neg h1, if_neg h1]
theorem cut_pos {R : Nat → Int32} {k : Nat} : cutF R k ≤ 0 ↔ cutF R k = 0 := by
  unfold cutF
  by_cases h : R (41 + 5 * k + 4) = 1
  · rw [if_pos h]; decide
  · rw [if_neg h]
    by_cases h2 : R (41 + 5 * k + 3) < 50
    · rw [if_pos h2]; decide
    · rw [if_neg h2]; decide
theorem spo_p {f : Nat → Int32} {k : Nat} (h : f k = 0) : spoS f (k + 1) = spoS f k + 0 := by rw [spoS, if_pos h]
theorem spo_n {f : Nat → Int32} {k : Nat} (h : ¬ f k = 0) : spoS f (k + 1) = spoS f k + 1 := by rw [spoS, if_neg h]
set_option maxHeartbeats 1000000 in
theorem c_X11_even_ok {L : Nat} {xs : Nat → Int32} {d : Nat} {m : sM} {n : sN} {Q : sQ} (h : Rel m n) (l : ¬ m 253 0 = 0) {a : Nat} (ha : a < cOf (lfR m 0)) (hk1 : lfR m 0 (6 + 3 * a + 0) = 1) (hk2 : ∀ j, j < a → ¬ lfR m 0 (6 + 3 * j + 0) = 1) (hQ : ∀ m' b wv, frC m m' → BK m' → SC (okE (lfR m 0) a) ltI cdE (gEv (lfR m 0) a) 25 60 b wv → (b = -9 → Q (some (.int b)) m' n) ∧ (¬ b = -9 → Q (some (.int b)) (tellM m' wv) n)) : sRun (scT L xs) (d + 7) yX11_even cX11_even 7 (some .int) [.ref 0] m n Q := by
  obtain ⟨l1, l2, l3, l4, l5, l6, l7, lf⟩ := h.own l
  obtain ⟨R, hR⟩ : ∃ R, R = lfR m 0 := ⟨_, rfl⟩
  obtain ⟨c, hc⟩ : ∃ c, c = cOf R := ⟨_, rfl⟩
  rw [← hR] at l3 l4 l5 lf ha hk1 hk2 hQ
  have c5 : R 5 = nI c := by rw [hc]; exact l5.1
  have c10 : c ≤ 10 := by rw [hc]; exact l5.2.1
  obtain ⟨G, hG⟩ : ∃ G, G = gEv R a := ⟨_, rfl⟩
  rw [← hG] at hQ
  have ha2 : a < c := by omega
  have hl : lastsR R a := lst_d l5 ha (Or.inl hk1)
  refine y_run (own := "LoafFall") rfl (by decide +kernel) (Nat.le_of_ble_eq_true rfl) rfl ?_
  refine y_aload_n dX11_even_0 rfl rfl ?_
  refine y_getr dX11_even_1 gf_X11_40 sh_0 rfl ?_
  refine y_geti dX11_even_4 gf_X11_211 sh_6 rfl ?_
  refine y_if_ne (tgt := 13) dX11_even_7 (by decide) (fun h7 => ?_) (fun h7 => absurd h7 (by rw [l2]; decide))
  refine y_aload_n dX11_even_13 rfl rfl ?_
  refine y_getr dX11_even_14 gf_X11_40 sh_0 rfl ?_
  refine y_getr dX11_even_17 gf_X11_204 sh_6 rfl ?_
  refine y_ivI0 dX11_even_20 mv_X11_335 my_X1_firstRest (Or.inl rfl) sh_9 ?_
  refine c_firstRest (R := R) (c := c) (i := a) lf6.2.2.1 l3.dr c5 c10 ha2 hk1 hk2 ⟨_, rfl, ?_⟩
  refine y_ist7_1 dX11_even_23 rfl ?_
  refine y_iload_n dX11_even_24 rfl rfl ?_
  refine y_bipush (v := -9) dX11_even_25 (by decide) ?_
  refine y_icmp_ne (tgt := 36) dX11_even_27 (by decide) (fun h27 => ?_) (fun h27 => absurd h27 (nI_n9' (by omega)))
  refine y_bipush (v := -9) dX11_even_36 (by decide) ?_
  refine y_ist7_2 dX11_even_38 rfl ?_
  refine y_bipush (v := 25) dX11_even_39 (by decide) ?_
  refine y_ist7_3 dX11_even_41 rfl ?_
  refine y_aload_n dX11_even_42 rfl rfl ?_
  refine y_getr dX11_even_43 gf_X11_78 sh_0 rfl ?_
  refine y_aload_n dX11_even_46 rfl rfl ?_
  refine y_getr dX11_even_47 gf_X11_40 sh_0 rfl ?_
  refine y_getr dX11_even_50 gf_X11_204 sh_6 rfl ?_
  refine y_ivV1 dX11_even_53 mv_X11_179 my_X1_take (Or.inl rfl) sh_127 ?_
  refine c_X1_take (s := c) dg127 lf6.2.2.1 (by omega) (l3.2.2.1.trans c5) c10 (Or.inr l7) (fun m1 s1 => ⟨rfl, ?_⟩)
  refine y_iconst (v := 0) dX11_even_56 (by decide) ?_
  refine y_ist7_4 dX11_even_57 rfl ?_
  refine cnt (P := fun u => ∀ m' b wv x1 x2, ∀ a5 a6 : Option Value, a_isL a5 = false → frC m m' → BK m' → DR m' 127 (upd (upd R (6 + 3 * a + 1) x1) (6 + 3 * a + 2) x2) → m' 127 4 = 1 → SC (okE R a) ltI cdE G 25 (6 * u) b wv → sV (scT L xs) (d + 6) "LoafFall" cX11_even 7 (some .int) Q 59 [some (.ref 0), some (.int (nI a)), some (.int b), some (.int wv), some (.int (nI u)), a5, a6] [] m' n) 10 ?_ ?_ 0 (by omega) m1 (-9) 25 (R (6 + 3 * a + 1)) (R (6 + 3 * a + 2)) none none rfl (fun q hq => s1.1 q (by omega)) (BK_m h.bk (fun c h1 h2 => s1.1 c (by omega))) (by rw [updId, updId]; exact DR_t2 l3.dr hc s1) (s1.2.2.2.trans l7) SC.zero
  · intro m' b wv x1 x2 a5 a6 ha5 v1 v2 v3 v4 sc
    refine y_iload dX11_even_59 rfl ?_
    refine y_bipush (v := 9) dX11_even_61 (by decide) ?_
    refine y_icmp_gt (tgt := 170) dX11_even_63 (by decide) (fun h63 => ?_) (fun h63 => absurd (by decide) h63)
    refine y_iload_n dX11_even_170 rfl rfl ?_
    refine y_bipush (v := -9) dX11_even_171 (by decide) ?_
    refine y_icmp_eq (tgt := 181) dX11_even_173 (by decide) (fun h173 => ?_) (fun h173 => ?_)
    · refine y_iload_n dX11_even_181 rfl rfl ?_
      refine y_ireturn dX11_even_182 rfl rfl ?_
      first
        | exact (hQ m' b wv v1 v2 sc).1 h173
        | exact (hQ m' b wv v1 v2 sc).2 h173
    · refine y_aload_n dX11_even_176 rfl rfl ?_
      refine y_iload_n dX11_even_177 rfl rfl ?_
      refine y_puti dX11_even_178 pf_X11_194 sh_0 rfl rfl rfl ?_
      refine y_iload_n dX11_even_181 rfl rfl ?_
      refine y_ireturn dX11_even_182 rfl rfl ?_
      first
        | exact (hQ m' b wv v1 v2 sc).1 h173
        | exact (hQ m' b wv v1 v2 sc).2 h173
  · intro u hk hP
    intro m' b wv x1 x2 a5 a6 ha5 v1 v2 v3 v4 sc
    refine y_iload dX11_even_59 rfl ?_
    refine y_bipush (v := 9) dX11_even_61 (by decide) ?_
    refine y_icmp_gt (tgt := 170) dX11_even_63 (by decide) (fun h63 => absurd h63 (Int32.not_lt.mpr (nI_le (b := 9) (by omega) (by decide)))) (fun h63 => ?_)
    refine y_aload_n dX11_even_66 rfl rfl ?_
    refine y_getr dX11_even_67 gf_X11_78 sh_0 rfl ?_
    refine y_getr dX11_even_70 gf_X11_349 sh_127 rfl ?_
    refine y_iload_n dX11_even_73 rfl rfl ?_
    refine y_iload dX11_even_74 rfl ?_
    refine y_iastN dX11_even_76 sh_129 rfl (by first | omega | decide) (by decide) ?_
    refine y_iconst (v := 5) dX11_even_77 (by decide) ?_
    refine y_ist7_5 dX11_even_78 rfl ?_
    have v3w : DR (s_up m' 129 (upd (m' 129) a (nI u))) 127 (upd (upd R (6 + 3 * a + 1) (nI u)) (6 + 3 * a + 2) x2) := by
      have := DR_w (k := a) (v := nI u) v3 (by rw [cOf_upd (by omega), cOf_upd (by omega)]; exact l5.2.1) (by omega)
      rw [up12] at this
      exact this
    have bd : dOK (upd R (6 + 3 * a + 1) (nI u)) := d_warm l5 ha rfl (by omega)
    have bc : cOf (upd R (6 + 3 * a + 1) (nI u)) = cOf R := cOf_upd (by omega)
    have b3 : ∀ p, p % 3 ≠ 1 → upd R (6 + 3 * a + 1) (nI u) p = R p := fun p hp => updN (by omega)
    have bl : lastsR (upd R (6 + 3 * a + 1) (nI u)) a := lasts_3 bd bc ha b3 hl
    refine cnt (P := fun t => ∀ m' b wv x2, ∀ a6 : Option Value, frC m m' → BK m' → DR m' 127 (upd (upd R (6 + 3 * a + 1) (nI u)) (6 + 3 * a + 2) x2) → m' 127 4 = 1 → SC (okE R a) ltI cdE G 25 (6 * u + t) b wv → sV (scT L xs) (d + 6) "LoafFall" cX11_even 7 (some .int) Q 80 [some (.ref 0), some (.int (nI a)), some (.int b), some (.int wv), some (.int (nI u)), some (.int (nI (5 * (t + 1)))), a6] [] m' n) 6 ?_ ?_ 0 (by omega) _ b wv x2 a6 (fun q hq => by rw [s_upN (by omega)]; exact v1 q hq) (BK_m v2 (fun c h1 h2 => s_upN (by omega))) v3w (by rw [s_upN (by omega)]; exact v4) sc
    · intro m' b wv x2 a6 v1 v2 v3 v4 sc
      have e93 : m' 9 3 = nI c := by rw [v1 _ (by omega)]; exact l3.2.2.1.trans c5
      have tD : DR m' 9 R := DR_m l3.dr (fun c h1 h2 => v1 c (by omega))
      refine y_iload dX11_even_80 rfl ?_
      refine y_bipush (v := 30) dX11_even_82 (by decide) ?_
      refine y_icmp_gt (tgt := 164) dX11_even_84 (by decide) (fun h84 => ?_) (fun h84 => absurd (by decide) h84)
      refine y_iinc7_4 dX11_even_164 (nI_1 _) rfl ?_
      refine y_goto (tgt := 59) dX11_even_167 (by decide) ?_
      exact hP m' b wv _ _ _ _ rfl v1 v2 v3 v4 sc
    · intro t hk hP
      intro m' b wv x2 a6 v1 v2 v3 v4 sc
      have e93 : m' 9 3 = nI c := by rw [v1 _ (by omega)]; exact l3.2.2.1.trans c5
      have tD : DR m' 9 R := DR_m l3.dr (fun c h1 h2 => v1 c (by omega))
      refine y_iload dX11_even_80 rfl ?_
      refine y_bipush (v := 30) dX11_even_82 (by decide) ?_
      refine y_icmp_gt (tgt := 164) dX11_even_84 (by decide) (fun h84 => absurd h84 (Int32.not_lt.mpr (nI_le (b := 30) (by omega) (by decide)))) (fun h84 => ?_)
      refine y_aload_n dX11_even_87 rfl rfl ?_
      refine y_getr dX11_even_88 gf_X11_40 sh_0 rfl ?_
      refine y_getr dX11_even_91 gf_X11_204 sh_6 rfl ?_
      refine y_iload_n dX11_even_94 rfl rfl ?_
      refine y_iload dX11_even_95 rfl ?_
      refine y_ivI2 dX11_even_97 mv_X11_326 my_X1_mayLast (Or.inl rfl) sh_9 ?_
      refine c_X1_mayLast (R := R) (c := c) (i := a) lf6.2.2.1 tD c5 c10 rfl ha2 (fun ok => ⟨_, rfl, ?_⟩) (fun ok => ⟨_, rfl, ?_⟩)
      · refine y_if_ne (tgt := 106) dX11_even_100 (by decide) (fun h100 => ?_) (fun h100 => absurd h100 (by decide))
        refine y_aload_n dX11_even_106 rfl rfl ?_
        refine y_getr dX11_even_107 gf_X11_78 sh_0 rfl ?_
        refine y_getr dX11_even_110 gf_X11_329 sh_127 rfl ?_
        refine y_iload_n dX11_even_113 rfl rfl ?_
        refine y_iload dX11_even_114 rfl ?_
        refine y_iastN dX11_even_116 sh_130 rfl (by first | omega | decide) (by decide) ?_
        have okt : oTn R a (5 * (t + 1)) := by unfold oTn mayL; rw [← hc]; exact ok
        have okk : okE R a (6 * u + t) := (okE_at (by omega)).mpr okt
        have okt2 : oTn (upd R (6 + 3 * a + 1) (nI u)) a (5 * (t + 1)) := (oTn_eq bc b3).mpr okt
        have hD : dOK (evR R a u (5 * (t + 1))) := tR_d bd (by rw [bc]; exact ha) bl (by omega) (by omega) okt2
        have loR : ∀ i, i < 5 → evR R a u (5 * (t + 1)) i = R i := fun i hi => (tR_lo (by omega)).trans (updN (by omega))
        have lfn : flR (evR R a u (5 * (t + 1))) := fl_low lf loR
        have v3' : DR (s_up m' 130 (upd (m' 130) a (nI (5 * (t + 1))))) 127 (evR R a u (5 * (t + 1))) := by
          have := DR_t (k := a) (v := nI (5 * (t + 1))) v3 (by rw [cOf_upd (by omega), bc]; exact l5.2.1) (by omega)
          rw [tR_tR] at this
          exact this
        have eg : G (6 * u + t) = spoS (CV (evR R a u (5 * (t + 1)))) 24 := by rw [hG]; exact gEv_at (by omega)
        have gw : ltI (G (6 * u + t)) 25 := by rw [eg]; exact spo_lt
        refine y_aload_n dX11_even_117 rfl rfl ?_
        refine y_getr dX11_even_118 gf_X11_61 sh_0 rfl ?_
        refine y_aload_n dX11_even_121 rfl rfl ?_
        refine y_getr dX11_even_122 gf_X11_40 sh_0 rfl ?_
        refine y_getr dX11_even_125 gf_X11_240 sh_6 rfl ?_
        refine y_aload_n dX11_even_128 rfl rfl ?_
        refine y_getr dX11_even_129 gf_X11_78 sh_0 rfl ?_
        refine y_ivR2 dX11_even_132 mv_X11_303 my_X0_bake (Or.inl rfl) sh_35 ?_
        refine c_bakeV (R := evR R a u (5 * (t + 1))) lf6.2.1 dg127 (by omega) (by omega) (fun i hi => by rw [s_upN (by omega), v1 _ (by omega), show evR R a u (5 * (t + 1)) i = R i from loR i hi]; exact l3.fr i hi) v3' lfn hD (Or.inr (by rw [s_upN (by omega), v1 _ (by omega)]; exact l6)) (Or.inr (by rw [s_upN (by omega)]; exact v4)) (BK_m v2 (fun c h1 h2 => s_upN (by omega))) (fun m4 A a1 a2 a3 a4' a5 => ⟨_, rfl, ?_⟩)
        refine y_ivI0 dX11_even_135 mv_X11_352 my_X2_spoiledCells (Or.inl rfl) dh43.1 ?_
        refine c_X2_spoiledCells dh43 a1 a2.2.2.1 ⟨_, rfl, ?_⟩
        rw [show spoS (cutF A) 24 = G (6 * u + t) from by rw [eg]; exact spo_eq 24 (fun i hi => a3.c lfn hD hi)]
        refine y_ist7_6 dX11_even_138 rfl ?_
        refine y_iload dX11_even_140 rfl ?_
        refine y_iload_n dX11_even_142 rfl rfl ?_
        refine y_icmp_ge (tgt := 158) dX11_even_143 (by decide) (fun h143 => ?_) (fun h143 => ?_)
        · refine y_iinc7_5 dX11_even_158 (nI_5 _) rfl ?_
          refine y_goto (tgt := 80) dX11_even_161 (by decide) ?_
          first
            | exact hP m4 (nI (100 * u + 5 * (t + 1))) (G (6 * u + t)) _ _ (fun q hq => by rw [a5 q (by omega), s_upN (by omega)]; exact v1 q hq) a4' (DR_m v3' (fun c h1 h2 => a5 c (by omega))) (by rw [a5 _ (by omega), s_upN (by omega)]; exact v4) (by rw [← cdE_at (by omega)]; exact sc.take okk (nI_n9' (by omega)) (Int32.not_le.mp h143))
            | exact hP m4 b wv _ _ (fun q hq => by rw [a5 q (by omega), s_upN (by omega)]; exact v1 q hq) a4' (DR_m v3' (fun c h1 h2 => a5 c (by omega))) (by rw [a5 _ (by omega), s_upN (by omega)]; exact v4) (sc.skip gw (Int32.not_lt.mpr h143))
            | exact hP m' b wv x2 _ v1 v2 v3 v4 (sc.no (fun z => nok ((okE_at (by omega)).mp z)))
        · refine y_iload dX11_even_146 rfl ?_
          refine y_ist7_3 dX11_even_148 rfl ?_
          refine y_bipush (v := 100) dX11_even_149 (by decide) ?_
          refine y_iload dX11_even_151 rfl ?_
          refine y_imulN (a := 100) (b := u) dX11_even_153 rfl rfl ?_
          refine y_iload dX11_even_154 rfl ?_
          refine y_iaddN (a := 100 * u) (b := 5 * (t + 1)) dX11_even_156 rfl rfl ?_
          refine y_ist7_2 dX11_even_157 rfl ?_
          refine y_iinc7_5 dX11_even_158 (nI_5 _) rfl ?_
          refine y_goto (tgt := 80) dX11_even_161 (by decide) ?_
          first
            | exact hP m4 (nI (100 * u + 5 * (t + 1))) (G (6 * u + t)) _ _ (fun q hq => by rw [a5 q (by omega), s_upN (by omega)]; exact v1 q hq) a4' (DR_m v3' (fun c h1 h2 => a5 c (by omega))) (by rw [a5 _ (by omega), s_upN (by omega)]; exact v4) (by rw [← cdE_at (by omega)]; exact sc.take okk (nI_n9' (by omega)) (Int32.not_le.mp h143))
            | exact hP m4 b wv _ _ (fun q hq => by rw [a5 q (by omega), s_upN (by omega)]; exact v1 q hq) a4' (DR_m v3' (fun c h1 h2 => a5 c (by omega))) (by rw [a5 _ (by omega), s_upN (by omega)]; exact v4) (sc.skip gw (Int32.not_lt.mpr h143))
            | exact hP m' b wv x2 _ v1 v2 v3 v4 (sc.no (fun z => nok ((okE_at (by omega)).mp z)))
      · refine y_if_ne (tgt := 106) dX11_even_100 (by decide) (fun h100 => absurd (by decide) h100) (fun h100 => ?_)
        have nok : ¬ oTn R a (5 * (t + 1)) := fun z => ok (by unfold oTn mayL at z; rw [← hc] at z; exact z)
        refine y_goto (tgt := 158) dX11_even_103 (by decide) ?_
        refine y_iinc7_5 dX11_even_158 (nI_5 _) rfl ?_
        refine y_goto (tgt := 80) dX11_even_161 (by decide) ?_
        first
          | exact hP m4 (nI (100 * u + 5 * (t + 1))) (G (6 * u + t)) _ _ (fun q hq => by rw [a5 q (by omega), s_upN (by omega)]; exact v1 q hq) a4' (DR_m v3' (fun c h1 h2 => a5 c (by omega))) (by rw [a5 _ (by omega), s_upN (by omega)]; exact v4) (by rw [← cdE_at (by omega)]; exact sc.take okk (nI_n9' (by omega)) (Int32.not_le.mp h143))
          | exact hP m4 b wv _ _ (fun q hq => by rw [a5 q (by omega), s_upN (by omega)]; exact v1 q hq) a4' (DR_m v3' (fun c h1 h2 => a5 c (by omega))) (by rw [a5 _ (by omega), s_upN (by omega)]; exact v4) (sc.skip gw (Int32.not_lt.mpr h143))
          | exact hP m' b wv x2 _ v1 v2 v3 v4 (sc.no (fun z => nok ((okE_at (by omega)).mp z)))
set_option maxHeartbeats 1000000 in
theorem c_X12_even_ok {L : Nat} {xs : Nat → Int32} {d : Nat} {m : sM} {n : sN} {Q : sQ} (l1 : m 253 0 = 1) (l5 : dOK (lfR m 0)) {a : Nat} (ha : a < cOf (lfR m 0)) (hk1 : lfR m 0 (6 + 3 * a + 0) = 1) (hk2 : ∀ j, j < a → ¬ lfR m 0 (6 + 3 * j + 0) = 1) (hQ : ∀ M, WM m M → ((selF (okE (lfR m 0) a) ltI cdE (gEv (lfR m 0) a) 60).1 = -9 → Q (some (.int (-9))) M n) ∧ (¬ (selF (okE (lfR m 0) a) ltI cdE (gEv (lfR m 0) a) 60).1 = -9 → Q (some (.int (selF (okE (lfR m 0) a) ltI cdE (gEv (lfR m 0) a) 60).1)) (tellsM M (selF (okE (lfR m 0) a) ltI cdE (gEv (lfR m 0) a) 60).2) n)) : sRun (scT L xs) (d + 10) yX12_even cX12_even 8 (some .int) [.ref 239] m n Q := by
  obtain ⟨R, hR⟩ : ∃ R, R = lfR m 0 := ⟨_, rfl⟩
  obtain ⟨c, hc⟩ : ∃ c, c = cOf R := ⟨_, rfl⟩
  rw [← hR] at l5 ha hk1 hk2 hQ
  have c5 : R 5 = nI c := by rw [hc]; exact l5.1
  have c10 : c ≤ 10 := by rw [hc]; exact l5.2.1
  obtain ⟨G, hG⟩ : ∃ G, G = gEv R a := ⟨_, rfl⟩
  rw [← hG] at hQ
  have ha2 : a < c := by omega
  have hl : lastsR R a := lst_d l5 ha (Or.inl hk1)
  have hfd : findS 1 0 R c = nI a := by
    rcases find_first (kd := 1) (R := R) c c10 with ⟨i, i1, i2, i3, i4⟩ | ⟨z, -⟩
    · have : i = a := by
        rcases Nat.lt_trichotomy i a with y | y | y
        · exact absurd i2 (hk2 i y)
        · exact y
        · exact absurd hk1 (i3 a y)
      rw [← this]; exact i4
    · exact absurd hk1 (z a ha2)
  refine y_run (own := "LoafFallModel") rfl (by decide +kernel) (Nat.le_of_ble_eq_true rfl) rfl ?_
  refine y_aload_n dX12_even_0 rfl rfl ?_
  refine y_getr dX12_even_1 gf_X12_51 sh_239 rfl ?_
  refine y_iconst (v := 0) dX12_even_4 (by decide) ?_
  refine y_zaldN dX12_even_5 sh_253 rfl (by first | omega | decide) (by decide) ?_
  refine y_if_ne (tgt := 12) dX12_even_6 (by decide) (fun h6 => ?_) (fun h6 => absurd h6 (by rw [l1]; decide))
  refine y_aload_n dX12_even_12 rfl rfl ?_
  refine y_ivV0 dX12_even_13 mv_X12_289 my_X12_layOwn (Or.inl rfl) sh_239 ?_
  refine c_layOwn (Or.inl rfl) (fun hh => ⟨rfl, ?_⟩)
  rw [← hR]
  refine y_aload_n dX12_even_16 rfl rfl ?_
  refine y_iconst (v := 1) dX12_even_17 (by decide) ?_
  refine y_iconst (v := 0) dX12_even_18 (by decide) ?_
  refine y_ivI2 dX12_even_19 mv_X12_304 my_X12_find (Or.inl rfl) sh_239 ?_
  refine c_X12_find (wk_b (by omega)) (c := c) c5 c10 ⟨_, rfl, ?_⟩
  rw [hfd]
  refine y_ist8_1 dX12_even_22 rfl ?_
  refine y_iload_n dX12_even_23 rfl rfl ?_
  refine y_bipush (v := -9) dX12_even_24 (by decide) ?_
  refine y_icmp_ne (tgt := 35) dX12_even_26 (by decide) (fun h26 => ?_) (fun h26 => absurd h26 (nI_n9' (by omega)))
  refine y_bipush (v := -9) dX12_even_35 (by decide) ?_
  refine y_ist8_2 dX12_even_37 rfl ?_
  refine y_iconst (v := 0) dX12_even_38 (by decide) ?_
  refine y_ist8_3 dX12_even_39 rfl ?_
  refine y_iconst (v := 0) dX12_even_40 (by decide) ?_
  refine y_ist8_4 dX12_even_41 rfl ?_
  refine cnt (P := fun u => ∀ M, ∀ a5 a6 a7 : Option Value, a_isL a5 = false → a_isL a6 = false → WM m M → sV (scT L xs) (d + 9) "LoafFallModel" cX12_even 8 (some .int) Q 43 [some (.ref 239), some (.int (nI a)), some (.int (selF (okE R a) ltI cdE G (6 * u)).1), some (.int (selF (okE R a) ltI cdE G (6 * u)).2), some (.int (nI u)), a5, a6, a7] [] M n) 10 ?_ ?_ 0 (by omega) _ none none none rfl rfl WM.st
  · intro M a5 a6 a7 ha5 ha6 hW
    refine y_iload dX12_even_43 rfl ?_
    refine y_bipush (v := 9) dX12_even_45 (by decide) ?_
    refine y_icmp_gt (tgt := 166) dX12_even_47 (by decide) (fun h47 => ?_) (fun h47 => absurd (by decide) h47)
    refine y_iload_n dX12_even_166 rfl rfl ?_
    refine y_bipush (v := -9) dX12_even_167 (by decide) ?_
    refine y_icmp_ne (tgt := 177) dX12_even_169 (by decide) (fun h169 => ?_) (fun h169 => ?_)
    · refine y_aload_n dX12_even_177 rfl rfl ?_
      refine y_iload_n dX12_even_178 rfl rfl ?_
      refine y_iload_n dX12_even_179 rfl rfl ?_
      refine y_ivI2 dX12_even_180 mv_X12_108 my_X12_tells (Or.inl rfl) sh_239 ?_
      refine c_X12_tells ⟨_, rfl, ?_⟩
      refine y_ireturn dX12_even_183 rfl rfl ?_
      first
        | exact (hQ M hW).1 h169
        | exact (hQ M hW).2 h169
    · refine y_bipush (v := -9) dX12_even_172 (by decide) ?_
      refine y_goto (tgt := 183) dX12_even_174 (by decide) ?_
      refine y_ireturn dX12_even_183 rfl rfl ?_
      first
        | exact (hQ M hW).1 h169
        | exact (hQ M hW).2 h169
  · intro u hk hP
    intro M a5 a6 a7 ha5 ha6 hW
    refine y_iload dX12_even_43 rfl ?_
    refine y_bipush (v := 9) dX12_even_45 (by decide) ?_
    refine y_icmp_gt (tgt := 166) dX12_even_47 (by decide) (fun h47 => absurd h47 (Int32.not_lt.mpr (nI_le (b := 9) (by omega) (by decide)))) (fun h47 => ?_)
    refine y_iconst (v := 5) dX12_even_50 (by decide) ?_
    refine y_ist8_5 dX12_even_51 rfl ?_
    have bd : dOK (upd R (6 + 3 * a + 1) (nI u)) := d_warm l5 ha rfl (by omega)
    have bc : cOf (upd R (6 + 3 * a + 1) (nI u)) = cOf R := cOf_upd (by omega)
    have b3 : ∀ p, p % 3 ≠ 1 → upd R (6 + 3 * a + 1) (nI u) p = R p := fun p hp => updN (by omega)
    have bl : lastsR (upd R (6 + 3 * a + 1) (nI u)) a := lasts_3 bd bc ha b3 hl
    have c5u : upd R (6 + 3 * a + 1) (nI u) 5 = nI c := (updN (by omega)).trans c5
    refine cnt (P := fun t => ∀ M, ∀ a6 a7 : Option Value, a_isL a6 = false → WM m M → sV (scT L xs) (d + 9) "LoafFallModel" cX12_even 8 (some .int) Q 53 [some (.ref 239), some (.int (nI a)), some (.int (selF (okE R a) ltI cdE G (6 * u + t)).1), some (.int (selF (okE R a) ltI cdE G (6 * u + t)).2), some (.int (nI u)), some (.int (nI (5 * (t + 1)))), a6, a7] [] M n) 6 ?_ ?_ 0 (by omega) _ _ _ ha6 hW
    · intro M a6 a7 ha6 hW
      refine y_iload dX12_even_53 rfl ?_
      refine y_bipush (v := 30) dX12_even_55 (by decide) ?_
      refine y_icmp_gt (tgt := 160) dX12_even_57 (by decide) (fun h57 => ?_) (fun h57 => absurd (by decide) h57)
      refine y_iinc8_4 dX12_even_160 (nI_1 _) rfl ?_
      refine y_goto (tgt := 43) dX12_even_163 (by decide) ?_
      exact hP _ _ _ _ rfl ha6 hW
    · intro t hk hP
      intro M a6 a7 ha6 hW
      refine y_iload dX12_even_53 rfl ?_
      refine y_bipush (v := 30) dX12_even_55 (by decide) ?_
      refine y_icmp_gt (tgt := 160) dX12_even_57 (by decide) (fun h57 => absurd h57 (Int32.not_lt.mpr (nI_le (b := 30) (by omega) (by decide)))) (fun h57 => ?_)
      refine y_aload_n dX12_even_60 rfl rfl ?_
      refine y_ivV0 dX12_even_61 mv_X12_289 my_X12_layOwn (Or.inl rfl) sh_239 ?_
      refine c_layOwn hW (fun hh => ⟨rfl, ?_⟩)
      rw [← hR]
      refine y_aload_n dX12_even_64 rfl rfl ?_
      refine y_bipush (v := 6) dX12_even_65 (by decide) ?_
      refine y_iconst (v := 3) dX12_even_67 (by decide) ?_
      refine y_iload_n dX12_even_68 rfl rfl ?_
      refine y_imulN (a := 3) (b := a) dX12_even_69 rfl rfl ?_
      refine y_iaddN (a := 6) (b := 3 * a) dX12_even_70 rfl rfl ?_
      refine y_iconst (v := 1) dX12_even_71 (by decide) ?_
      refine y_iaddN (a := 6 + (3 * a)) (b := 1) dX12_even_72 rfl rfl ?_
      refine y_iload dX12_even_73 rfl ?_
      refine y_ivV2 dX12_even_75 mv_X12_163 my_X12_put_ (Or.inl rfl) sh_239 ?_
      refine c_X12_put_ (wk_b (by omega)) (p := 6 + 3 * a + 1) rfl (by omega) ⟨rfl, ?_⟩
      refine y_aload_n dX12_even_78 rfl rfl ?_
      refine y_iload_n dX12_even_79 rfl rfl ?_
      refine y_iload dX12_even_80 rfl ?_
      refine y_ivI2 dX12_even_82 mv_X12_301 my_X12_turnsOf (Or.inl rfl) sh_239 ?_
      refine c_X12_turnsOf (wk_b (by omega)) (i := a) (c := c) rfl ha2 c5u c10 (fun ok => ⟨_, rfl, ?_⟩) (fun ok => ⟨_, rfl, ?_⟩)
      · refine y_if_eq (tgt := 154) dX12_even_85 (by decide) (fun h85 => absurd h85 (by decide)) (fun h85 => ?_)
        have okt2 : oTn (upd R (6 + 3 * a + 1) (nI u)) a (5 * (t + 1)) := (oTn_i (by omega) (by omega)).mpr (by rw [bc, ← hc]; exact ok)
        have okk : okE R a (6 * u + t) := (okE_at (by omega)).mpr ((oTn_eq bc b3).mp okt2)
        have hD : dOK (evR R a u (5 * (t + 1))) := tR_d bd (by rw [bc]; exact ha) bl (by omega) (by omega) okt2
        rw [show upd (upd R (6 + 3 * a + 1) (nI u)) (6 + 3 * a + 2) (nI (5 * (t + 1))) = evR R a u (5 * (t + 1)) from rfl]
        have eg : spoS (CV (evR R a u (5 * (t + 1)))) 24 = G (6 * u + t) := by rw [hG]; exact (gEv_at (by omega)).symm
        refine y_aload_n dX12_even_88 rfl rfl ?_
        refine y_ivV0 dX12_even_89 mv_X12_263 my_X12_bakes (Or.inl rfl) sh_239 ?_
        refine c_bakesW (wk_b (by omega)) hD (fun h' => ⟨rfl, ?_⟩)
        suffices hs : ∀ a7 : Option Value, sV (scT L xs) (d + 9) "LoafFallModel" cX12_even 8 (some .int) Q 130 [some (.ref 239), some (.int (nI a)), some (.int (selF (okE R a) ltI cdE G (6 * u + t)).1), some (.int (selF (okE R a) ltI cdE G (6 * u + t)).2), some (.int (nI u)), some (.int (nI (5 * (t + 1)))), some (.int (G (6 * u + t))), a7] [] (stR (wkM m 1316) h' 1316 (BV (evR R a u (5 * (t + 1))))) n by
          refine y_iconst (v := 0) dX12_even_92 (by decide) ?_
          refine y_ist8_6 dX12_even_93 rfl ?_
          refine y_iconst (v := 0) dX12_even_95 (by decide) ?_
          refine y_ist8_7 dX12_even_96 rfl ?_
          refine cnt (P := fun j => sV (scT L xs) (d + 9) "LoafFallModel" cX12_even 8 (some .int) Q 98 [some (.ref 239), some (.int (nI a)), some (.int (selF (okE R a) ltI cdE G (6 * u + t)).1), some (.int (selF (okE R a) ltI cdE G (6 * u + t)).2), some (.int (nI u)), some (.int (nI (5 * (t + 1)))), some (.int (spoS (cutF (BV (evR R a u (5 * (t + 1))))) j)), some (.int (nI j))] [] (stR (wkM m 1316) h' 1316 (BV (evR R a u (5 * (t + 1))))) n) 24 ?_ ?_ 0 (by omega)
          · refine y_iload dX12_even_98 rfl ?_
            refine y_bipush (v := 24) dX12_even_100 (by decide) ?_
            refine y_icmp_ge (tgt := 130) dX12_even_102 (by decide) (fun h102 => ?_) (fun h102 => absurd (nI_le (a := 24) (b := 24) (Nat.le_refl _) (by decide)) h102)
            rw [show spoS (cutF (BV (evR R a u (5 * (t + 1))))) 24 = G (6 * u + t) from eg]
            exact hs _
          · intro j hk hP
            refine y_iload dX12_even_98 rfl ?_
            refine y_bipush (v := 24) dX12_even_100 (by decide) ?_
            refine y_icmp_ge (tgt := 130) dX12_even_102 (by decide) (fun h102 => absurd h102 (nI_ge (a := j) (b := 24) hk (by decide))) (fun h102 => ?_)
            refine y_iload dX12_even_105 rfl ?_
            refine y_aload_n dX12_even_107 rfl rfl ?_
            refine y_iload dX12_even_108 rfl ?_
            refine y_ivI1 dX12_even_110 mv_X12_253 my_X12_cutOf (Or.inl rfl) sh_239 ?_
            refine c_X12_cutOf (wk_b (by omega)) (k := j) rfl hk ⟨_, rfl, ?_⟩
            refine y_if_le (tgt := 120) dX12_even_113 (by decide) (fun h113 => ?_) (fun h113 => ?_)
            · refine y_iconst (v := 0) dX12_even_120 (by decide) ?_
              refine y_iadd dX12_even_121 ?_
              refine y_ist8_6 dX12_even_122 rfl ?_
              refine y_iinc8_7 dX12_even_124 (nI_1 _) rfl ?_
              refine y_goto (tgt := 98) dX12_even_127 (by decide) ?_
              first
                | (rw [spo_p (f := (cutF (BV (evR R a u (5 * (t + 1)))))) (k := j) (cut_pos.mp h113)] at hP; exact hP)
                | (rw [spo_n (f := (cutF (BV (evR R a u (5 * (t + 1)))))) (k := j) (fun z => h113 (cut_pos.mpr z))] at hP; exact hP)
            · refine y_iconst (v := 1) dX12_even_116 (by decide) ?_
              refine y_goto (tgt := 121) dX12_even_117 (by decide) ?_
              refine y_iadd dX12_even_121 ?_
              refine y_ist8_6 dX12_even_122 rfl ?_
              refine y_iinc8_7 dX12_even_124 (nI_1 _) rfl ?_
              refine y_goto (tgt := 98) dX12_even_127 (by decide) ?_
              first
                | (rw [spo_p (f := (cutF (BV (evR R a u (5 * (t + 1)))))) (k := j) (cut_pos.mp h113)] at hP; exact hP)
                | (rw [spo_n (f := (cutF (BV (evR R a u (5 * (t + 1)))))) (k := j) (fun z => h113 (cut_pos.mpr z))] at hP; exact hP)
        intro a7
        refine y_iload_n dX12_even_130 rfl rfl ?_
        refine y_bipush (v := -9) dX12_even_131 (by decide) ?_
        refine y_icmp_eq (tgt := 142) dX12_even_133 (by decide) (fun h133 => ?_) (fun h133 => ?_)
        · refine y_bipush (v := 100) dX12_even_142 (by decide) ?_
          refine y_iload dX12_even_144 rfl ?_
          refine y_imulN (a := 100) (b := u) dX12_even_146 rfl rfl ?_
          refine y_iload dX12_even_147 rfl ?_
          refine y_iaddN (a := 100 * u) (b := 5 * (t + 1)) dX12_even_149 rfl rfl ?_
          refine y_ist8_2 dX12_even_150 rfl ?_
          refine y_iload dX12_even_151 rfl ?_
          refine y_ist8_3 dX12_even_153 rfl ?_
          refine y_iinc8_5 dX12_even_154 (nI_5 _) rfl ?_
          refine y_goto (tgt := 53) dX12_even_157 (by decide) ?_
          first
            | (rw [show (selF (okE R a) ltI cdE G (6 * u + (t + 1))) = (cdE (6 * u + t), G (6 * u + t)) from sel_y okk (Or.inr (Int32.not_le.mp h139)), cdE_at (by omega)] at hP; exact hP _ _ _ rfl WM.st)
            | (rw [show (selF (okE R a) ltI cdE G (6 * u + (t + 1))) = (selF (okE R a) ltI cdE G (6 * u + t)) from sel_n (fun z => z.2.elim h133 (fun y => absurd h139 (Int32.not_le.mpr y)))] at hP; exact hP _ _ _ rfl WM.st)
            | (rw [show (selF (okE R a) ltI cdE G (6 * u + (t + 1))) = (cdE (6 * u + t), G (6 * u + t)) from sel_y okk (Or.inl h133), cdE_at (by omega)] at hP; exact hP _ _ _ rfl WM.st)
            | (rw [show (selF (okE R a) ltI cdE G (6 * u + (t + 1))) = (selF (okE R a) ltI cdE G (6 * u + t)) from sel_no nok] at hP; exact hP _ _ _ ha6 WM.st)
        · refine y_iload dX12_even_136 rfl ?_
          refine y_iload_n dX12_even_138 rfl rfl ?_
          refine y_icmp_ge (tgt := 154) dX12_even_139 (by decide) (fun h139 => ?_) (fun h139 => ?_)
          · refine y_iinc8_5 dX12_even_154 (nI_5 _) rfl ?_
            refine y_goto (tgt := 53) dX12_even_157 (by decide) ?_
            first
              | (rw [show (selF (okE R a) ltI cdE G (6 * u + (t + 1))) = (cdE (6 * u + t), G (6 * u + t)) from sel_y okk (Or.inr (Int32.not_le.mp h139)), cdE_at (by omega)] at hP; exact hP _ _ _ rfl WM.st)
              | (rw [show (selF (okE R a) ltI cdE G (6 * u + (t + 1))) = (selF (okE R a) ltI cdE G (6 * u + t)) from sel_n (fun z => z.2.elim h133 (fun y => absurd h139 (Int32.not_le.mpr y)))] at hP; exact hP _ _ _ rfl WM.st)
              | (rw [show (selF (okE R a) ltI cdE G (6 * u + (t + 1))) = (cdE (6 * u + t), G (6 * u + t)) from sel_y okk (Or.inl h133), cdE_at (by omega)] at hP; exact hP _ _ _ rfl WM.st)
              | (rw [show (selF (okE R a) ltI cdE G (6 * u + (t + 1))) = (selF (okE R a) ltI cdE G (6 * u + t)) from sel_no nok] at hP; exact hP _ _ _ ha6 WM.st)
          · refine y_bipush (v := 100) dX12_even_142 (by decide) ?_
            refine y_iload dX12_even_144 rfl ?_
            refine y_imulN (a := 100) (b := u) dX12_even_146 rfl rfl ?_
            refine y_iload dX12_even_147 rfl ?_
            refine y_iaddN (a := 100 * u) (b := 5 * (t + 1)) dX12_even_149 rfl rfl ?_
            refine y_ist8_2 dX12_even_150 rfl ?_
            refine y_iload dX12_even_151 rfl ?_
            refine y_ist8_3 dX12_even_153 rfl ?_
            refine y_iinc8_5 dX12_even_154 (nI_5 _) rfl ?_
            refine y_goto (tgt := 53) dX12_even_157 (by decide) ?_
            first
              | (rw [show (selF (okE R a) ltI cdE G (6 * u + (t + 1))) = (cdE (6 * u + t), G (6 * u + t)) from sel_y okk (Or.inr (Int32.not_le.mp h139)), cdE_at (by omega)] at hP; exact hP _ _ _ rfl WM.st)
              | (rw [show (selF (okE R a) ltI cdE G (6 * u + (t + 1))) = (selF (okE R a) ltI cdE G (6 * u + t)) from sel_n (fun z => z.2.elim h133 (fun y => absurd h139 (Int32.not_le.mpr y)))] at hP; exact hP _ _ _ rfl WM.st)
              | (rw [show (selF (okE R a) ltI cdE G (6 * u + (t + 1))) = (cdE (6 * u + t), G (6 * u + t)) from sel_y okk (Or.inl h133), cdE_at (by omega)] at hP; exact hP _ _ _ rfl WM.st)
              | (rw [show (selF (okE R a) ltI cdE G (6 * u + (t + 1))) = (selF (okE R a) ltI cdE G (6 * u + t)) from sel_no nok] at hP; exact hP _ _ _ ha6 WM.st)
      · have nok : ¬ okE R a (6 * u + t) := fun z => ok (by have := (oTn_i (by omega) (by omega)).mp ((oTn_eq (R := R) (R' := upd R (6 + 3 * a + 1) (nI u)) bc b3).mpr ((okE_at (by omega)).mp z)); rw [bc, ← hc] at this; exact this)
        refine y_if_eq (tgt := 154) dX12_even_85 (by decide) (fun h85 => ?_) (fun h85 => absurd (by decide) h85)
        refine y_iinc8_5 dX12_even_154 (nI_5 _) rfl ?_
        refine y_goto (tgt := 53) dX12_even_157 (by decide) ?_
        first
          | (rw [show (selF (okE R a) ltI cdE G (6 * u + (t + 1))) = (cdE (6 * u + t), G (6 * u + t)) from sel_y okk (Or.inr (Int32.not_le.mp h139)), cdE_at (by omega)] at hP; exact hP _ _ _ rfl WM.st)
          | (rw [show (selF (okE R a) ltI cdE G (6 * u + (t + 1))) = (selF (okE R a) ltI cdE G (6 * u + t)) from sel_n (fun z => z.2.elim h133 (fun y => absurd h139 (Int32.not_le.mpr y)))] at hP; exact hP _ _ _ rfl WM.st)
          | (rw [show (selF (okE R a) ltI cdE G (6 * u + (t + 1))) = (cdE (6 * u + t), G (6 * u + t)) from sel_y okk (Or.inl h133), cdE_at (by omega)] at hP; exact hP _ _ _ rfl WM.st)
          | (rw [show (selF (okE R a) ltI cdE G (6 * u + (t + 1))) = (selF (okE R a) ltI cdE G (6 * u + t)) from sel_no nok] at hP; exact hP _ _ _ ha6 WM.st)
set_option maxHeartbeats 2000000 in
theorem p_even {L : Nat} {xs : Nat → Int32} {d : Nat} {m : sM} {n : sN} (h : Rel m n) : PI L xs (d + 11) yX11_even cX11_even 7 yX12_even cX12_even 8 [] m n := by
  unfold PI
  by_cases l : m 253 0 = 0
  · refine y_run (own := "LoafFall") rfl (by decide +kernel) (Nat.le_of_ble_eq_true rfl) rfl ?_
    refine y_aload_n dX11_even_0 rfl rfl ?_
    refine y_getr dX11_even_1 gf_X11_40 sh_0 rfl ?_
    refine y_geti dX11_even_4 gf_X11_211 sh_6 rfl ?_
    refine y_if_ne (tgt := 13) dX11_even_7 (by decide) (fun h7 => absurd (h.none l) h7) (fun h7 => ?_)
    refine y_bipush (v := -4) dX11_even_10 (by decide) ?_
    refine y_ireturn dX11_even_12 rfl rfl ?_
    refine ⟨_, rfl, ?_⟩
    refine y_run (own := "LoafFallModel") rfl (by decide +kernel) (Nat.le_of_ble_eq_true rfl) rfl ?_
    refine y_aload_n dX12_even_0 rfl rfl ?_
    refine y_getr dX12_even_1 gf_X12_51 sh_239 rfl ?_
    refine y_iconst (v := 0) dX12_even_4 (by decide) ?_
    refine y_zaldN dX12_even_5 sh_253 rfl (by first | omega | decide) (by decide) ?_
    refine y_if_ne (tgt := 12) dX12_even_6 (by decide) (fun h6 => absurd l h6) (fun h6 => ?_)
    refine y_bipush (v := -4) dX12_even_9 (by decide) ?_
    refine y_ireturn dX12_even_11 rfl rfl ?_
    exact ⟨rfl, h⟩
  · obtain ⟨l1, l2, l3, l4, l5, l6, l7, lf⟩ := h.own l
    have c5 : lfR m 0 5 = nI (cOf (lfR m 0)) := l5.1
    have c10 := l5.2.1
    rcases find_first (kd := 1) (R := lfR m 0) (cOf (lfR m 0)) c10 with ⟨a, ha, hk1, hk2, -⟩ | ⟨hz, hz2⟩
    · refine c_X11_even_ok h l ha hk1 hk2 (fun m' b wv v1 v2 sc => ⟨fun hb => ⟨_, rfl, ?_⟩, fun hb => ⟨_, rfl, ?_⟩⟩)
      · have e0 : lfR m' 0 = lfR m 0 := lfR_m (v1 254 (by omega))
        refine c_X12_even_ok (a := a) (by rw [v1 _ (by omega)]; exact l1) (by rw [e0]; exact l5) (by rw [e0]; exact ha) (by rw [e0]; exact hk1) (by rw [e0]; exact hk2) (fun M hW => ?_)
        rw [e0]
        exact ⟨fun _ => ⟨by rw [hb], Rel_scr h v1 v2 hW.fr⟩, fun z => absurd (sc.1.symm.trans hb) z⟩
      · generalize em : tellM m' wv = m1
        have gg : ∀ a, 137 ≤ a → m1 a = m a := fun a ha => by rw [← em, tell_o (by omega)]; exact v1 a (by omega)
        have e0 : lfR m1 0 = lfR m 0 := lfR_m (gg 254 (by omega))
        refine c_X12_even_ok (a := a) (by rw [gg _ (by omega)]; exact l1) (by rw [e0]; exact l5) (by rw [e0]; exact ha) (by rw [e0]; exact hk1) (by rw [e0]; exact hk2) (fun M hW => ?_)
        rw [e0]
        refine ⟨fun z => absurd (sc.1.trans z) hb, fun _ => ⟨by rw [sc.1], ?_⟩⟩
        rw [← sc.2.1 hb]
        rw [← em] at hW
        exact Rel_tell h v1 v2 hW.fr
    · refine y_run (own := "LoafFall") rfl (by decide +kernel) (Nat.le_of_ble_eq_true rfl) rfl ?_
      refine y_aload_n dX11_even_0 rfl rfl ?_
      refine y_getr dX11_even_1 gf_X11_40 sh_0 rfl ?_
      refine y_geti dX11_even_4 gf_X11_211 sh_6 rfl ?_
      refine y_if_ne (tgt := 13) dX11_even_7 (by decide) (fun h7 => ?_) (fun h7 => absurd h7 (by rw [l2]; decide))
      refine y_aload_n dX11_even_13 rfl rfl ?_
      refine y_getr dX11_even_14 gf_X11_40 sh_0 rfl ?_
      refine y_getr dX11_even_17 gf_X11_204 sh_6 rfl ?_
      refine y_ivI0 dX11_even_20 mv_X11_335 my_X1_firstRest (Or.inl rfl) sh_9 ?_
      refine c_X1_firstRest (R := lfR m 0) lf6.2.2.1 l3.dr c5 c10 (fun i a b _ => absurd b (hz i a)) (fun _ => ⟨_, rfl, ?_⟩)
      refine y_ist7_1 dX11_even_23 rfl ?_
      refine y_iload_n dX11_even_24 rfl rfl ?_
      refine y_bipush (v := -9) dX11_even_25 (by decide) ?_
      refine y_icmp_ne (tgt := 36) dX11_even_27 (by decide) (fun h27 => absurd rfl h27) (fun h27 => ?_)
      refine y_aload_n dX11_even_30 rfl rfl ?_
      refine y_iconst (v := 3) dX11_even_31 (by decide) ?_
      refine y_ivI1 dX11_even_32 mv_X11_105 my_X11_found (Or.inl rfl) sh_0 ?_
      refine c_X11_found (f := 3) rfl (by omega) (by omega) ⟨_, rfl, ?_⟩
      refine y_ireturn dX11_even_35 rfl rfl ?_
      refine ⟨_, rfl, ?_⟩
      obtain ⟨m1, em⟩ : ∃ m1, m1 = foundM m 3 := ⟨_, rfl⟩
      rw [← em]
      have g : ∀ a, 138 ≤ a → m1 a = m a := fun a ha => by rw [em]; exact found_o (by omega) (by omega)
      have e0 : lfR m1 0 = lfR m 0 := lfR_m (g 254 (by omega))
      refine y_run (own := "LoafFallModel") rfl (by decide +kernel) (Nat.le_of_ble_eq_true rfl) rfl ?_
      refine y_aload_n dX12_even_0 rfl rfl ?_
      refine y_getr dX12_even_1 gf_X12_51 sh_239 rfl ?_
      refine y_iconst (v := 0) dX12_even_4 (by decide) ?_
      refine y_zaldN dX12_even_5 sh_253 rfl (by first | omega | decide) (by decide) ?_
      refine y_if_ne (tgt := 12) dX12_even_6 (by decide) (fun h6 => ?_) (fun h6 => absurd h6 (by rw [g _ (by omega), l1]; decide))
      refine y_aload_n dX12_even_12 rfl rfl ?_
      refine y_ivV0 dX12_even_13 mv_X12_289 my_X12_layOwn (Or.inl rfl) sh_239 ?_
      refine c_layOwn (m0 := m1) (Or.inl rfl) (fun hh => ⟨rfl, ?_⟩)
      rw [e0]
      refine y_aload_n dX12_even_16 rfl rfl ?_
      refine y_iconst (v := 1) dX12_even_17 (by decide) ?_
      refine y_iconst (v := 0) dX12_even_18 (by decide) ?_
      refine y_ivI2 dX12_even_19 mv_X12_304 my_X12_find (Or.inl rfl) sh_239 ?_
      refine c_X12_find (wk_b (by omega)) c5 c10 ⟨_, rfl, ?_⟩
      rw [hz2]
      refine y_ist8_1 dX12_even_22 rfl ?_
      refine y_iload_n dX12_even_23 rfl rfl ?_
      refine y_bipush (v := -9) dX12_even_24 (by decide) ?_
      refine y_icmp_ne (tgt := 35) dX12_even_26 (by decide) (fun h26 => absurd rfl h26) (fun h26 => ?_)
      refine y_aload_n dX12_even_29 rfl rfl ?_
      refine y_iconst (v := 3) dX12_even_30 (by decide) ?_
      refine y_ivI1 dX12_even_31 mv_X12_100 my_X12_meets (Or.inl rfl) sh_239 ?_
      refine c_X12_meets (f := 3) rfl (by omega) ⟨_, rfl, ?_⟩
      refine y_ireturn dX12_even_34 rfl rfl ?_
      rw [em]
      exact ⟨rfl, Rel_meet h frC.rf h.bk (frM.wk.tr frM.st)⟩
