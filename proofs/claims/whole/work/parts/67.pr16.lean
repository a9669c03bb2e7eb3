/-! ===== begin, oven ===== -/
theorem rsum_upd {R : Nat → Int32} {a : Nat} {v : Int32} : ∀ k, rsum (upd R (6 + 3 * a + 2) v) k = if a < k then rsum R k - R (6 + 3 * a + 2) + v else rsum R k := by
  intro k
  induction k with
  | zero => rw [if_neg (by omega)]; rfl
  | succ k ih =>
    rw [rsum, ih, rsum]
    by_cases z : a = k
    · subst z
      rw [if_neg (by omega), if_pos (by omega), updS]
      rw [Int32.add_sub_cancel]
    · rw [updN (by omega)]
      by_cases y : a < k
      · rw [if_pos y, if_pos (by omega)]
        rw [Int32.sub_eq_add_neg, Int32.sub_eq_add_neg, Int32.add_assoc, Int32.add_assoc, Int32.add_assoc, Int32.add_assoc]
        congr 1
        rw [← Int32.add_assoc, Int32.add_comm _ (R (6 + 3 * k + 2))]
      · rw [if_neg y, if_neg (by omega)]
theorem rsum_w {f : Nat → (Nat → Int32) → (Nat → Int32)} (hf : ∀ k R p, p % 3 ≠ 1 → f k R p = R p) {R : Nat → Int32} (c k : Nat) : rsum (foldR f c R) k = rsum R k := by
  have : ∀ p, p % 3 ≠ 1 → foldR f c R p = R p := fun p hp => fold_o (fun k R => hf k R p hp) R c
  induction k with
  | zero => rfl
  | succ k ih => rw [rsum, rsum, ih, this _ (by omega)]
theorem warmC_3 {v : Int32} {k p : Nat} {R : Nat → Int32} (h : p % 3 ≠ 1) : warmC v k R p = R p := warmC_o (by omega)
theorem shiftC_3 {v : Int32} {k p : Nat} {R : Nat → Int32} (h : p % 3 ≠ 1) : shiftC v k R p = R p := shiftC_o (by omega)
/-- rests of another warmth -/
def wmB (R : Nat → Int32) (u : Nat) : Nat → Int32 := foldR (warmC (nI u)) (cOf R) R
theorem wm_3 {R : Nat → Int32} {u p : Nat} (h : p % 3 ≠ 1) : wmB R u p = R p := fold_o (fun k R => warmC_3 h) R _
theorem wm_lo {R : Nat → Int32} {u p : Nat} (h : p < 6) : wmB R u p = R p := fold_o (fun k R => warmC_o (by omega)) R _
theorem shB_3 {R : Nat → Int32} {v : Int32} {p : Nat} (h : p % 3 ≠ 1) : shB R v p = R p := fold_o (fun k R => shiftC_3 h) R _
theorem wm_d {R : Nat → Int32} {u : Nat} (h : dOK R) (hu : u ≤ 9) : dOK (wmB R u) := by
  have : ∀ c, c ≤ cOf R → dOK (foldR (warmC (nI u)) c R) ∧ cOf (foldR (warmC (nI u)) c R) = cOf R := by
    intro c
    induction c with
    | zero => intro _; exact ⟨h, rfl⟩
    | succ c ih =>
      intro hc
      obtain ⟨a, b⟩ := ih (by omega)
      exact ⟨d_warmC a (by omega) hu, by unfold cOf; rw [warm_5]⟩
  exact (this _ (Nat.le_refl _)).1
theorem wm_c {R : Nat → Int32} {u : Nat} : cOf (wmB R u) = cOf R := by unfold cOf; rw [wm_lo (by omega)]
theorem sh_c {R : Nat → Int32} {v : Int32} : cOf (shB R v) = cOf R := by unfold cOf; rw [show shB R v 5 = R 5 from sh_lo (by omega) _]
theorem oTn_eq {R R' : Nat → Int32} {a n : Nat} (hc : cOf R' = cOf R) (e : ∀ p, p % 3 ≠ 1 → R' p = R p) : oTn R' a n ↔ oTn R a n := by
  have er : ∀ k, rsum R' k = rsum R k := by
    intro k
    induction k with
    | zero => rfl
    | succ k ih => rw [rsum, rsum, ih, e _ (by omega)]
  unfold oTn mayL
  rw [hc, er, e _ (by omega)]
theorem lasts_3 {R R' : Nat → Int32} {a : Nat} (h : dOK R') (hc : cOf R' = cOf R) (ha : a < cOf R) (e : ∀ p, p % 3 ≠ 1 → R' p = R p) (hl : lastsR R a) : lastsR R' a := lst_d h (by omega) (by rw [e (6 + 3 * a + 0) (by omega)]; exact hl.1)
/-- the first rest, the last oven -/
theorem c_firstRest {L : Nat} {xs : Nat → Int32} {d : Nat} {m : sM} {n : sN} {Q : sQ} {G0 c i : Nat} {R : Nat → Int32} (hG : isDg G0) (hg : DR m G0 R) (hc : R 5 = nI c) (hc2 : c ≤ 10) (hi : i < c) (h1 : R (6 + 3 * i + 0) = 1) (h2 : ∀ j, j < i → ¬ R (6 + 3 * j + 0) = 1) (hQ : Q (some (.int (nI i))) m n) : sRun (scT L xs) (d + 1) yX1_firstRest cX1_firstRest 2 (some .int) [.ref G0] m n Q := by
  refine c_X1_firstRest hG hg hc hc2 (fun j a b e => ?_) (fun z => absurd h1 (z i hi))
  have : j = i := by
    rcases Nat.lt_trichotomy j i with y | y | y
    · exact absurd b (h2 j y)
    · exact y
    · exact absurd h1 (e i y)
  rw [this]
  exact hQ
theorem c_lastOven {L : Nat} {xs : Nat → Int32} {d : Nat} {m : sM} {n : sN} {Q : sQ} {G0 c i : Nat} {R : Nat → Int32} (hG : isDg G0) (hg : DR m G0 R) (hc : R 5 = nI c) (hc2 : c ≤ 10) (hi : i < c) (h1 : R (6 + 3 * i + 0) = 2) (h2 : ∀ j, i < j → j < c → ¬ R (6 + 3 * j + 0) = 2) (hQ : Q (some (.int (nI i))) m n) : sRun (scT L xs) (d + 1) yX1_lastOven cX1_lastOven 2 (some .int) [.ref G0] m n Q := by
  refine c_X1_lastOven hG hg hc hc2 (fun j hj b e => ?_) (fun z => absurd h1 (z i hi))
  have : j = i := by
    rcases Nat.lt_trichotomy j i with y | y | y
    · exact absurd h1 (e i y hi)
    · exact y
    · exact absurd b (h2 j y hj)
  rw [this]
  exact hQ
theorem own_ok {R : Nat → Int32} {a : Nat} (h : dOK R) (ha : a < cOf R) (hl : lastsR R a) : ∃ t : Nat, 1 ≤ t ∧ t ≤ 30 ∧ oTn R a t := by
  obtain ⟨t, t1, t2, t3⟩ := hl.2.2
  refine ⟨t, t2, t3, (oTn_i t2 t3).mpr (may_T' h ha hl t3 ?_)⟩
  have := h.2.2.2.2
  rw [tOf_l t1 t3]
  omega
theorem sel_1 {ok : Nat → Prop} {bt : Int32 → Int32 → Prop} {cd g : Nat → Int32} (h : ¬ ok 0) : selF ok bt cd g 1 = (-9, 0) := sel_no h
theorem sel_some' {ok : Nat → Prop} {bt : Int32 → Int32 → Prop} {cd g : Nat → Int32} {j : Nat} (hj : ok j) : ∀ k, (∀ i, i < k → ¬ cd i = -9) → j < k → ¬ (selF ok bt cd g k).1 = -9 := by
  intro k
  induction k with
  | zero => intro _ h; omega
  | succ k ih =>
    intro hcd h
    by_cases z : ok k ∧ ((selF ok bt cd g k).1 = -9 ∨ bt (g k) (selF ok bt cd g k).2)
    · rw [sel_y z.1 z.2]; exact hcd k (by omega)
    · rw [sel_n z]
      by_cases y : j = k
      · intro e; exact z ⟨y ▸ hj, Or.inl e⟩
      · exact ih (fun i hi => hcd i (by omega)) (by omega)
def gBg (R : Nat → Int32) (u a n : Nat) : Int32 := WV (tR (wmB R u) a n)
def gOv (R : Nat → Int32) (v : Int32) (a n : Nat) : Int32 := dst (WV (tR (shB R v) a n)) (WV R)
theorem abs_dst {x y : Int32} {a b : Nat} (ha : a ≤ 1000) (hb : b ≤ 1000) (hx : x = nI a) (hy : y = nI b) : (if 0 ≤ x - y then x - y else 0 - (x - y)) = dst x y := by
  subst hx hy
  unfold dst
  by_cases z : b ≤ a
  · rw [pk_sub z, if_pos (nI_pos' (by omega)), if_neg (nI_nlt z (by omega))]
  · have e : nI a - nI b < 0 := by
      rw [Int32.lt_iff_toInt_lt, Int32.toInt_sub, nI_toInt (by omega), nI_toInt (by omega), show (0 : Int32).toInt = 0 from rfl, Int.bmod_eq_of_le (by omega) (by omega)]
      omega
    rw [if_neg (Int32.not_le.mpr e), if_pos (nI_lt (by omega) (by omega)), Int32.zero_sub, Int32.neg_sub]
set_option maxHeartbeats 1000000 in
theorem c_X11_begin_ok {L : Nat} {xs : Nat → Int32} {d : Nat} {m : sM} {n : sN} {Q : sQ} (h : Rel m n) (l : ¬ m 253 0 = 0) {a u : Nat} {x : Int32} (hx : x = nI u) (hu : u < 10) (ha : a < cOf (lfR m 0)) (hk1 : lfR m 0 (6 + 3 * a + 0) = 1) (hk2 : ∀ j, j < a → ¬ lfR m 0 (6 + 3 * j + 0) = 1) (hQ : ∀ m' b wv, frC m m' → BK m' → SC (oTn (lfR m 0) a) gtI nI (gBg (lfR m 0) u a) (-1) 31 b wv → Q (some (.int b)) (tellM m' (rsum (lfR m 0) (cOf (lfR m 0)) - lfR m 0 (6 + 3 * a + 2) + b)) n) : sRun (scT L xs) (d + 7) yX11_begin cX11_begin 7 (some .int) [.ref 0, .int x] m n Q := by
  subst hx
  obtain ⟨l1, l2, l3, l4, l5, l6, l7, lf⟩ := h.own l
  obtain ⟨R, hR⟩ : ∃ R, R = lfR m 0 := ⟨_, rfl⟩
  obtain ⟨c, hc⟩ : ∃ c, c = cOf R := ⟨_, rfl⟩
  rw [← hR] at l3 l4 l5 lf ha hk1 hk2 hQ
  have c5 : R 5 = nI c := by rw [hc]; exact l5.1
  have c10 : c ≤ 10 := by rw [hc]; exact l5.2.1
  obtain ⟨G, hG⟩ : ∃ G, G = gBg R u a := ⟨_, rfl⟩
  rw [← hG, ← hc] at hQ
  have ha2 : a < c := by omega
  have hl : lastsR R a := lst_d l5 ha (Or.inl hk1)
  have bd : dOK (wmB R u) := wm_d l5 (by omega)
  have bl : lastsR (wmB R u) a := lasts_3 bd wm_c ha (fun p hp => wm_3 hp) hl
  refine y_run (own := "LoafFall") rfl (by decide +kernel) (Nat.le_of_ble_eq_true rfl) rfl ?_
  refine y_iload_n dX11_begin_0 rfl rfl ?_
  refine y_isI1 dX11_begin_1 ms_X11_276 my_X11_isWarmth (Or.inl rfl) ?_
  refine c_X11_isWarmth (fun _ => ⟨_, rfl, ?_⟩) (fun z => absurd (⟨u, hu, rfl⟩ : inN (nI u) 10) z)
  refine y_if_ne (tgt := 9) dX11_begin_4 (by decide) (fun h4 => ?_) (fun h4 => absurd h4 (by decide))
  refine y_aload_n dX11_begin_9 rfl rfl ?_
  refine y_getr dX11_begin_10 gf_X11_40 sh_0 rfl ?_
  refine y_geti dX11_begin_13 gf_X11_211 sh_6 rfl ?_
  refine y_if_ne (tgt := 22) dX11_begin_16 (by decide) (fun h16 => ?_) (fun h16 => absurd h16 (by rw [l2]; decide))
  refine y_aload_n dX11_begin_22 rfl rfl ?_
  refine y_getr dX11_begin_23 gf_X11_40 sh_0 rfl ?_
  refine y_getr dX11_begin_26 gf_X11_204 sh_6 rfl ?_
  refine y_ivI0 dX11_begin_29 mv_X11_335 my_X1_firstRest (Or.inl rfl) sh_9 ?_
  refine c_firstRest (R := R) (c := c) (i := a) lf6.2.2.1 l3.dr c5 c10 ha2 hk1 hk2 ⟨_, rfl, ?_⟩
  refine y_ist7_2 dX11_begin_32 rfl ?_
  refine y_iload_n dX11_begin_33 rfl rfl ?_
  refine y_bipush (v := -9) dX11_begin_34 (by decide) ?_
  refine y_icmp_ne (tgt := 45) dX11_begin_36 (by decide) (fun h36 => ?_) (fun h36 => absurd h36 (nI_n9' (by omega)))
  refine y_bipush (v := -9) dX11_begin_45 (by decide) ?_
  refine y_ist7_3 dX11_begin_47 rfl ?_
  refine y_iconst (v := -1) dX11_begin_48 (by decide) ?_
  refine y_ist7_4 dX11_begin_49 rfl ?_
  refine y_aload_n dX11_begin_51 rfl rfl ?_
  refine y_getr dX11_begin_52 gf_X11_78 sh_0 rfl ?_
  refine y_aload_n dX11_begin_55 rfl rfl ?_
  refine y_getr dX11_begin_56 gf_X11_40 sh_0 rfl ?_
  refine y_getr dX11_begin_59 gf_X11_204 sh_6 rfl ?_
  refine y_ivV1 dX11_begin_62 mv_X11_179 my_X1_take (Or.inl rfl) sh_127 ?_
  refine c_X1_take (s := c) dg127 lf6.2.2.1 (by omega) (l3.2.2.1.trans c5) c10 (Or.inr l7) (fun m1 s1 => ⟨rfl, ?_⟩)
  refine y_aload_n dX11_begin_65 rfl rfl ?_
  refine y_getr dX11_begin_66 gf_X11_78 sh_0 rfl ?_
  refine y_iload_n dX11_begin_69 rfl rfl ?_
  refine y_ivV1 dX11_begin_70 mv_X11_338 my_X1_warmRests (Or.inl rfl) sh_127 ?_
  refine c_X1_warmRests (R := R) (c := c) dg127 (DR_t2 l3.dr hc s1) c5 c10 (fun m2 s3 s2 => ⟨rfl, ?_⟩)
  refine y_iconst (v := 1) dX11_begin_73 (by decide) ?_
  refine y_ist7_5 dX11_begin_74 rfl ?_
  rw [show foldR (warmC (nI u)) c R = wmB R u from by rw [hc]; rfl] at s3
  refine cnt2 (P := fun k => ∀ m' b wv v, ∀ a6 : Option Value, frC m m' → BK m' → DR m' 127 (upd (wmB R u) (6 + 3 * a + 2) v) → m' 127 4 = 1 → SC (oTn R a) gtI nI G (-1) k b wv → sV (scT L xs) (d + 6) "LoafFall" cX11_begin 7 (some .int) Q 76 [some (.ref 0), some (.int (nI u)), some (.int (nI a)), some (.int b), some (.int wv), some (.int (nI k)), a6] [] m' n) 1 31 ?_ ?_ 1 (Nat.le_refl _) (by omega) m2 (-9) (-1) (wmB R u (6 + 3 * a + 2)) none (fun q hq => by rw [s2.1 q (by omega)]; exact s1.1 q (by omega)) (BK_m h.bk (fun c h1 h2 => by rw [s2.1 c (by omega)]; exact s1.1 c (by omega))) (by rw [updId]; exact s3) (s2.2.trans (s1.2.2.2.trans l7)) (SC.zero.no oTn_0)
  · intro m' b wv v a6 v1 v2 v3 v4 sc
    have e93 : m' 9 3 = nI c := by rw [v1 _ (by omega)]; exact l3.2.2.1.trans c5
    have tD : DR m' 9 R := DR_m l3.dr (fun c h1 h2 => v1 c (by omega))
    refine y_iload dX11_begin_76 rfl ?_
    refine y_bipush (v := 30) dX11_begin_78 (by decide) ?_
    refine y_icmp_gt (tgt := 156) dX11_begin_80 (by decide) (fun h80 => ?_) (fun h80 => absurd (by decide) h80)
    refine y_aload_n dX11_begin_156 rfl rfl ?_
    refine y_aload_n dX11_begin_157 rfl rfl ?_
    refine y_getr dX11_begin_158 gf_X11_40 sh_0 rfl ?_
    refine y_getr dX11_begin_161 gf_X11_204 sh_6 rfl ?_
    refine y_ivI0 dX11_begin_164 mv_X11_207 my_X1_turnsInAll (Or.inl rfl) sh_9 ?_
    refine c_X1_turnsInAll (R := R) lf6.2.2.1 tD c5 c10 ⟨_, rfl, ?_⟩
    refine y_aload_n dX11_begin_167 rfl rfl ?_
    refine y_getr dX11_begin_168 gf_X11_40 sh_0 rfl ?_
    refine y_getr dX11_begin_171 gf_X11_204 sh_6 rfl ?_
    refine y_getr dX11_begin_174 gf_X11_329 sh_9 rfl ?_
    refine y_iload_n dX11_begin_177 rfl rfl ?_
    refine y_ialdN dX11_begin_178 sh_12 rfl (by first | omega | decide) (by decide) ?_
    rw [show m' 12 a = R (6 + 3 * a + 2) from (tD.1 a ha).2.2]
    refine y_isub dX11_begin_179 ?_
    refine y_iload_n dX11_begin_180 rfl rfl ?_
    refine y_iadd dX11_begin_181 ?_
    refine y_puti dX11_begin_182 pf_X11_194 sh_0 rfl rfl rfl ?_
    refine y_iload_n dX11_begin_185 rfl rfl ?_
    refine y_ireturn dX11_begin_186 rfl rfl ?_
    exact hQ m' b wv v1 v2 sc
  · intro k hk0 hk hP
    intro m' b wv v a6 v1 v2 v3 v4 sc
    have e93 : m' 9 3 = nI c := by rw [v1 _ (by omega)]; exact l3.2.2.1.trans c5
    have tD : DR m' 9 R := DR_m l3.dr (fun c h1 h2 => v1 c (by omega))
    refine y_iload dX11_begin_76 rfl ?_
    refine y_bipush (v := 30) dX11_begin_78 (by decide) ?_
    refine y_icmp_gt (tgt := 156) dX11_begin_80 (by decide) (fun h80 => absurd h80 (Int32.not_lt.mpr (nI_le (b := 30) (by omega) (by decide)))) (fun h80 => ?_)
    refine y_aload_n dX11_begin_83 rfl rfl ?_
    refine y_getr dX11_begin_84 gf_X11_40 sh_0 rfl ?_
    refine y_getr dX11_begin_87 gf_X11_204 sh_6 rfl ?_
    refine y_iload_n dX11_begin_90 rfl rfl ?_
    refine y_iload dX11_begin_91 rfl ?_
    refine y_ivI2 dX11_begin_93 mv_X11_326 my_X1_mayLast (Or.inl rfl) sh_9 ?_
    refine c_X1_mayLast (R := R) (c := c) (i := a) lf6.2.2.1 tD c5 c10 rfl ha2 (fun ok => ⟨_, rfl, ?_⟩) (fun ok => ⟨_, rfl, ?_⟩)
    · refine y_if_ne (tgt := 102) dX11_begin_96 (by decide) (fun h96 => ?_) (fun h96 => absurd h96 (by decide))
      refine y_aload_n dX11_begin_102 rfl rfl ?_
      refine y_getr dX11_begin_103 gf_X11_78 sh_0 rfl ?_
      refine y_getr dX11_begin_106 gf_X11_329 sh_127 rfl ?_
      refine y_iload_n dX11_begin_109 rfl rfl ?_
      refine y_iload dX11_begin_110 rfl ?_
      refine y_iastN dX11_begin_112 sh_130 rfl (by first | omega | decide) (by decide) ?_
      have okt : oTn R a k := by unfold oTn mayL; rw [← hc]; exact ok
      have okt2 : oTn (wmB R u) a k := (oTn_eq wm_c (fun p hp => wm_3 hp)).mpr okt
      have hD : dOK (tR (wmB R u) a k) := tR_d bd (by rw [wm_c]; exact ha) bl (by omega) (by omega) okt2
      have lfn : flR (tR (wmB R u) a k) := fl_low lf (fun p hp => (tR_lo (by omega)).trans (wm_lo (by omega)))
      have loR : ∀ i, i < 5 → tR (wmB R u) a k i = R i := fun i hi => (tR_lo (by omega)).trans (wm_lo (by omega))
      have v3' : DR (s_up m' 130 (upd (m' 130) a (nI k))) 127 (tR (wmB R u) a k) := by
        have := DR_t (k := a) (v := nI k) v3 (by rw [cOf_upd (by omega), wm_c]; exact l5.2.1) (by omega)
        rw [tR_tR] at this
        exact this
      have eg : G k = WV (tR (wmB R u) a k) := by rw [hG]; rfl
      have gw : gtI (G k) (-1) := by rw [eg]; exact wv_gt lfn hD
      refine y_aload_n dX11_begin_113 rfl rfl ?_
      refine y_getr dX11_begin_114 gf_X11_61 sh_0 rfl ?_
      refine y_aload_n dX11_begin_117 rfl rfl ?_
      refine y_getr dX11_begin_118 gf_X11_40 sh_0 rfl ?_
      refine y_getr dX11_begin_121 gf_X11_240 sh_6 rfl ?_
      refine y_aload_n dX11_begin_124 rfl rfl ?_
      refine y_getr dX11_begin_125 gf_X11_78 sh_0 rfl ?_
      refine y_ivR2 dX11_begin_128 mv_X11_303 my_X0_bake (Or.inl rfl) sh_35 ?_
      refine c_bakeV (R := tR (wmB R u) a k) lf6.2.1 dg127 (by omega) (by omega) (fun i hi => by rw [s_upN (by omega), v1 _ (by omega), show tR (wmB R u) a k i = R i from loR i hi]; exact l3.fr i hi) v3' lfn hD (Or.inr (by rw [s_upN (by omega), v1 _ (by omega)]; exact l6)) (Or.inr (by rw [s_upN (by omega)]; exact v4)) (BK_m v2 (fun c h1 h2 => s_upN (by omega))) (fun m4 A a1 a2 a3 a4' a5 => ⟨_, rfl, ?_⟩)
      refine y_ivI0 dX11_begin_131 mv_X11_255 my_X2_worthNow (Or.inl rfl) dh43.1 ?_
      refine c_X2_worthNow dh43 a1 a2 ⟨_, rfl, ?_⟩
      rw [a3.w, ← eg]
      refine y_ist7_6 dX11_begin_134 rfl ?_
      refine y_iload dX11_begin_136 rfl ?_
      refine y_iload dX11_begin_138 rfl ?_
      refine y_icmp_le (tgt := 150) dX11_begin_140 (by decide) (fun h140 => ?_) (fun h140 => ?_)
      · refine y_iinc7_5 dX11_begin_150 (nI_1 _) rfl ?_
        refine y_goto (tgt := 76) dX11_begin_153 (by decide) ?_
        first
          | exact hP m4 (nI k) (G k) _ _ (fun q hq => by rw [a5 q (by omega), s_upN (by omega)]; exact v1 q hq) a4' (DR_m v3' (fun c h1 h2 => a5 c (by omega))) (by rw [a5 _ (by omega), s_upN (by omega)]; exact v4) (sc.take okt (nI_n9' (by omega)) (Int32.not_le.mp h140))
          | exact hP m4 b wv _ _ (fun q hq => by rw [a5 q (by omega), s_upN (by omega)]; exact v1 q hq) a4' (DR_m v3' (fun c h1 h2 => a5 c (by omega))) (by rw [a5 _ (by omega), s_upN (by omega)]; exact v4) (sc.skip gw (Int32.not_lt.mpr h140))
          | exact hP m' b wv v _ v1 v2 v3 v4 (sc.no nok)
      · refine y_iload dX11_begin_143 rfl ?_
        refine y_ist7_4 dX11_begin_145 rfl ?_
        refine y_iload dX11_begin_147 rfl ?_
        refine y_ist7_3 dX11_begin_149 rfl ?_
        refine y_iinc7_5 dX11_begin_150 (nI_1 _) rfl ?_
        refine y_goto (tgt := 76) dX11_begin_153 (by decide) ?_
        first
          | exact hP m4 (nI k) (G k) _ _ (fun q hq => by rw [a5 q (by omega), s_upN (by omega)]; exact v1 q hq) a4' (DR_m v3' (fun c h1 h2 => a5 c (by omega))) (by rw [a5 _ (by omega), s_upN (by omega)]; exact v4) (sc.take okt (nI_n9' (by omega)) (Int32.not_le.mp h140))
          | exact hP m4 b wv _ _ (fun q hq => by rw [a5 q (by omega), s_upN (by omega)]; exact v1 q hq) a4' (DR_m v3' (fun c h1 h2 => a5 c (by omega))) (by rw [a5 _ (by omega), s_upN (by omega)]; exact v4) (sc.skip gw (Int32.not_lt.mpr h140))
          | exact hP m' b wv v _ v1 v2 v3 v4 (sc.no nok)
    · refine y_if_ne (tgt := 102) dX11_begin_96 (by decide) (fun h96 => absurd (by decide) h96) (fun h96 => ?_)
      have nok : ¬ oTn R a k := fun z => ok (by unfold oTn mayL at z; rw [← hc] at z; exact z)
      refine y_goto (tgt := 150) dX11_begin_99 (by decide) ?_
      refine y_iinc7_5 dX11_begin_150 (nI_1 _) rfl ?_
      refine y_goto (tgt := 76) dX11_begin_153 (by decide) ?_
      first
        | exact hP m4 (nI k) (G k) _ _ (fun q hq => by rw [a5 q (by omega), s_upN (by omega)]; exact v1 q hq) a4' (DR_m v3' (fun c h1 h2 => a5 c (by omega))) (by rw [a5 _ (by omega), s_upN (by omega)]; exact v4) (sc.take okt (nI_n9' (by omega)) (Int32.not_le.mp h140))
        | exact hP m4 b wv _ _ (fun q hq => by rw [a5 q (by omega), s_upN (by omega)]; exact v1 q hq) a4' (DR_m v3' (fun c h1 h2 => a5 c (by omega))) (by rw [a5 _ (by omega), s_upN (by omega)]; exact v4) (sc.skip gw (Int32.not_lt.mpr h140))
        | exact hP m' b wv v _ v1 v2 v3 v4 (sc.no nok)
set_option maxHeartbeats 1000000 in
theorem c_X12_begin_ok {L : Nat} {xs : Nat → Int32} {d : Nat} {m : sM} {n : sN} {Q : sQ} (l1 : m 253 0 = 1) (l5 : dOK (lfR m 0)) {a u : Nat} {x : Int32} (hx : x = nI u) (hu : u < 10) (ha : a < cOf (lfR m 0)) (hk1 : lfR m 0 (6 + 3 * a + 0) = 1) (hk2 : ∀ j, j < a → ¬ lfR m 0 (6 + 3 * j + 0) = 1) (hQ : ∀ M, WM m M → Q (some (.int (selF (oTn (lfR m 0) a) gtI nI (gBg (lfR m 0) u a) 31).1)) (tellsM M (if (selF (oTn (lfR m 0) a) gtI nI (gBg (lfR m 0) u a) 31).1 = -9 then 0 else rsum (lfR m 0) (cOf (lfR m 0)) - lfR m 0 (6 + 3 * a + 2) + (selF (oTn (lfR m 0) a) gtI nI (gBg (lfR m 0) u a) 31).1)) n) : sRun (scT L xs) (d + 10) yX12_begin cX12_begin 8 (some .int) [.ref 239, .int x] m n Q := by
  subst hx
  obtain ⟨R, hR⟩ : ∃ R, R = lfR m 0 := ⟨_, rfl⟩
  obtain ⟨c, hc⟩ : ∃ c, c = cOf R := ⟨_, rfl⟩
  rw [← hR] at l5 ha hk1 hk2 hQ
  have c5 : R 5 = nI c := by rw [hc]; exact l5.1
  have c10 : c ≤ 10 := by rw [hc]; exact l5.2.1
  obtain ⟨G, hG⟩ : ∃ G, G = gBg R u a := ⟨_, rfl⟩
  rw [← hG, ← hc] at hQ
  have ha2 : a < c := by omega
  have hl : lastsR R a := lst_d l5 ha (Or.inl hk1)
  have bd : dOK (wmB R u) := wm_d l5 (by omega)
  have bl : lastsR (wmB R u) a := lasts_3 bd wm_c ha (fun p hp => wm_3 hp) hl
  have hin : inN (nI u) 10 := ⟨u, hu, rfl⟩
  have hfd : findS 1 0 R c = nI a := by
    rcases find_first (kd := 1) (R := R) c c10 with ⟨i, i1, i2, i3, i4⟩ | ⟨z, -⟩
    · have : i = a := by
        rcases Nat.lt_trichotomy i a with y | y | y
        · exact absurd i2 (hk2 i y)
        · exact y
        · exact absurd hk1 (i3 a y)
      rw [← this]; exact i4
    · exact absurd hk1 (z a ha2)
  have c5w : wmB R u 5 = nI c := by rw [wm_lo (by omega)]; exact c5
  refine y_run (own := "LoafFallModel") rfl (by decide +kernel) (Nat.le_of_ble_eq_true rfl) rfl ?_
  refine y_iload_n dX12_begin_0 rfl rfl ?_
  refine y_iconst (v := 0) dX12_begin_1 (by decide) ?_
  refine y_bipush (v := 9) dX12_begin_2 (by decide) ?_
  refine y_isI3 dX12_begin_4 ms_X12_86 my_X12_in (Or.inl rfl) ?_
  refine c_X12_in (fun _ _ => ⟨_, rfl, ?_⟩) (fun a => absurd ((in_le (M := 9) (by decide)).mp hin) a)
  refine y_if_ne (tgt := 12) dX12_begin_7 (by decide) (fun h7 => ?_) (fun h7 => absurd h7 (by decide))
  refine y_aload_n dX12_begin_12 rfl rfl ?_
  refine y_getr dX12_begin_13 gf_X12_51 sh_239 rfl ?_
  refine y_iconst (v := 0) dX12_begin_16 (by decide) ?_
  refine y_zaldN dX12_begin_17 sh_253 rfl (by first | omega | decide) (by decide) ?_
  refine y_if_ne (tgt := 24) dX12_begin_18 (by decide) (fun h18 => ?_) (fun h18 => absurd h18 (by rw [l1]; decide))
  refine y_aload_n dX12_begin_24 rfl rfl ?_
  refine y_ivV0 dX12_begin_25 mv_X12_289 my_X12_layOwn (Or.inl rfl) sh_239 ?_
  refine c_layOwn (Or.inl rfl) (fun hh => ⟨rfl, ?_⟩)
  rw [← hR]
  refine y_aload_n dX12_begin_28 rfl rfl ?_
  refine y_iconst (v := 1) dX12_begin_29 (by decide) ?_
  refine y_iconst (v := 0) dX12_begin_30 (by decide) ?_
  refine y_ivI2 dX12_begin_31 mv_X12_304 my_X12_find (Or.inl rfl) sh_239 ?_
  refine c_X12_find (wk_b (by omega)) (c := c) c5 c10 ⟨_, rfl, ?_⟩
  rw [hfd]
  refine y_ist8_2 dX12_begin_34 rfl ?_
  refine y_iload_n dX12_begin_35 rfl rfl ?_
  refine y_bipush (v := -9) dX12_begin_36 (by decide) ?_
  refine y_icmp_ne (tgt := 47) dX12_begin_38 (by decide) (fun h38 => ?_) (fun h38 => absurd h38 (nI_n9' (by omega)))
  refine y_bipush (v := -9) dX12_begin_47 (by decide) ?_
  refine y_ist8_3 dX12_begin_49 rfl ?_
  refine y_iconst (v := 0) dX12_begin_50 (by decide) ?_
  refine y_ist8_4 dX12_begin_51 rfl ?_
  refine y_iconst (v := 0) dX12_begin_53 (by decide) ?_
  refine y_ist8_5 dX12_begin_54 rfl ?_
  refine y_iconst (v := 1) dX12_begin_56 (by decide) ?_
  refine y_ist8_6 dX12_begin_57 rfl ?_
  have w1 : selF (oTn R a) gtI nI G 1 = (-9, 0) := sel_1 oTn_0
  suffices hs : ∀ a7 : Option Value, sV (scT L xs) (d + 9) "LoafFallModel" cX12_begin 8 (some .int) Q 59 [some (.ref 239), some (.int (nI u)), some (.int (nI a)), some (.int (selF (oTn R a) gtI nI G 1).1), some (.int (selF (oTn R a) gtI nI G 1).2), some (.int (if (selF (oTn R a) gtI nI G 1).1 = -9 then 0 else rsum R c - R (6 + 3 * a + 2) + (selF (oTn R a) gtI nI G 1).1)), some (.int (nI 1)), a7] [] (stR (wkM m 1316) hh 1316 R) n by
    have hs := hs none
    rw [w1, if_pos rfl] at hs
    exact hs
  intro a7
  refine cnt2 (P := fun k => ∀ M, ∀ a7 : Option Value, WM m M → sV (scT L xs) (d + 9) "LoafFallModel" cX12_begin 8 (some .int) Q 59 [some (.ref 239), some (.int (nI u)), some (.int (nI a)), some (.int (selF (oTn R a) gtI nI G k).1), some (.int (selF (oTn R a) gtI nI G k).2), some (.int (if (selF (oTn R a) gtI nI G k).1 = -9 then 0 else rsum R c - R (6 + 3 * a + 2) + (selF (oTn R a) gtI nI G k).1)), some (.int (nI k)), a7] [] M n) 1 31 ?_ ?_ 1 (Nat.le_refl _) (by omega) _ a7 WM.st
  · intro M a7 hW
    refine y_iload dX12_begin_59 rfl ?_
    refine y_bipush (v := 30) dX12_begin_61 (by decide) ?_
    refine y_icmp_gt (tgt := 174) dX12_begin_63 (by decide) (fun h63 => ?_) (fun h63 => absurd (by decide) h63)
    refine y_aload_n dX12_begin_174 rfl rfl ?_
    refine y_iload dX12_begin_175 rfl ?_
    refine y_iload_n dX12_begin_177 rfl rfl ?_
    refine y_ivI2 dX12_begin_178 mv_X12_108 my_X12_tells (Or.inl rfl) sh_239 ?_
    refine c_X12_tells ⟨_, rfl, ?_⟩
    refine y_ireturn dX12_begin_181 rfl rfl ?_
    exact hQ M hW
  · intro k hk0 hk hP
    intro M a7 hW
    refine y_iload dX12_begin_59 rfl ?_
    refine y_bipush (v := 30) dX12_begin_61 (by decide) ?_
    refine y_icmp_gt (tgt := 174) dX12_begin_63 (by decide) (fun h63 => absurd h63 (Int32.not_lt.mpr (nI_le (b := 30) (by omega) (by decide)))) (fun h63 => ?_)
    refine y_aload_n dX12_begin_66 rfl rfl ?_
    refine y_ivV0 dX12_begin_67 mv_X12_289 my_X12_layOwn (Or.inl rfl) sh_239 ?_
    refine c_layOwn hW (fun hh => ⟨rfl, ?_⟩)
    rw [← hR]
    suffices hs : ∀ a7 : Option Value, sV (scT L xs) (d + 9) "LoafFallModel" cX12_begin 8 (some .int) Q 124 [some (.ref 239), some (.int (nI u)), some (.int (nI a)), some (.int (selF (oTn R a) gtI nI G k).1), some (.int (selF (oTn R a) gtI nI G k).2), some (.int (if (selF (oTn R a) gtI nI G k).1 = -9 then 0 else rsum R c - R (6 + 3 * a + 2) + (selF (oTn R a) gtI nI G k).1)), some (.int (nI k)), a7] [] (stR (wkM m 1316) hh 1316 (wmB R u)) n by
      refine y_iconst (v := 0) dX12_begin_70 (by decide) ?_
      refine y_ist8_7 dX12_begin_71 rfl ?_
      refine cnt (P := fun j => sV (scT L xs) (d + 9) "LoafFallModel" cX12_begin 8 (some .int) Q 73 [some (.ref 239), some (.int (nI u)), some (.int (nI a)), some (.int (selF (oTn R a) gtI nI G k).1), some (.int (selF (oTn R a) gtI nI G k).2), some (.int (if (selF (oTn R a) gtI nI G k).1 = -9 then 0 else rsum R c - R (6 + 3 * a + 2) + (selF (oTn R a) gtI nI G k).1)), some (.int (nI k)), some (.int (nI j))] [] (stR (wkM m 1316) hh 1316 (foldR (warmC (nI u)) j R)) n) c ?_ ?_ 0 (by omega)
      · refine y_iload dX12_begin_73 rfl ?_
        refine y_aload_n dX12_begin_75 rfl rfl ?_
        refine y_iconst (v := 5) dX12_begin_76 (by decide) ?_
        refine y_ivI1 dX12_begin_77 mv_X12_160 my_X12_v (Or.inl rfl) sh_239 ?_
        refine c_X12_v (wk_b (by omega)) (p := 5) rfl (by omega) ⟨_, rfl, ?_⟩
        rw [warm_5, c5]
        refine y_icmp_ge (tgt := 124) dX12_begin_80 (by decide) (fun h80 => ?_) (fun h80 => absurd (nI_le (a := c) (b := c) (Nat.le_refl _) (by omega)) h80)
        rw [show foldR (warmC (nI u)) c R = wmB R u from by rw [hc]; rfl]
        exact hs _
      · intro j hk hP
        refine y_iload dX12_begin_73 rfl ?_
        refine y_aload_n dX12_begin_75 rfl rfl ?_
        refine y_iconst (v := 5) dX12_begin_76 (by decide) ?_
        refine y_ivI1 dX12_begin_77 mv_X12_160 my_X12_v (Or.inl rfl) sh_239 ?_
        refine c_X12_v (wk_b (by omega)) (p := 5) rfl (by omega) ⟨_, rfl, ?_⟩
        rw [warm_5, c5]
        refine y_icmp_ge (tgt := 124) dX12_begin_80 (by decide) (fun h80 => absurd h80 (nI_ge (a := j) (b := c) hk (by omega))) (fun h80 => ?_)
        refine y_aload_n dX12_begin_83 rfl rfl ?_
        refine y_bipush (v := 6) dX12_begin_84 (by decide) ?_
        refine y_iconst (v := 3) dX12_begin_86 (by decide) ?_
        refine y_iload dX12_begin_87 rfl ?_
        refine y_imulN (a := 3) (b := j) dX12_begin_89 rfl rfl ?_
        refine y_iaddN (a := 6) (b := 3 * j) dX12_begin_90 rfl rfl ?_
        refine y_iconst (v := 1) dX12_begin_91 (by decide) ?_
        refine y_iaddN (a := 6 + (3 * j)) (b := 1) dX12_begin_92 rfl rfl ?_
        refine y_aload_n dX12_begin_93 rfl rfl ?_
        refine y_iload dX12_begin_94 rfl ?_
        refine y_iconst (v := 0) dX12_begin_96 (by decide) ?_
        refine y_ivI2 dX12_begin_97 mv_X12_171 my_X12_s (Or.inl rfl) sh_239 ?_
        refine c_X12_s (wk_b (by omega)) (k := j) (j := 0) rfl rfl (by omega) ⟨_, rfl, ?_⟩
        refine y_iconst (v := 1) dX12_begin_100 (by decide) ?_
        refine y_icmp_ne (tgt := 108) dX12_begin_101 (by decide) (fun h101 => ?_) (fun h101 => ?_)
        · refine y_aload_n dX12_begin_108 rfl rfl ?_
          refine y_iload dX12_begin_109 rfl ?_
          refine y_iconst (v := 1) dX12_begin_111 (by decide) ?_
          refine y_ivI2 dX12_begin_112 mv_X12_171 my_X12_s (Or.inl rfl) sh_239 ?_
          refine c_X12_s (wk_b (by omega)) (k := j) (j := 1) rfl rfl (by omega) ⟨_, rfl, ?_⟩
          refine y_ivV2 dX12_begin_115 mv_X12_163 my_X12_put_ (Or.inl rfl) sh_239 ?_
          refine c_X12_put_ (wk_b (by omega)) (p := 6 + 3 * j + 1) rfl (by omega) ⟨rfl, ?_⟩
          refine y_iinc8_7 dX12_begin_118 (nI_1 _) rfl ?_
          refine y_goto (tgt := 73) dX12_begin_121 (by decide) ?_
          first
            | (rw [show foldR (warmC (nI u)) (j + 1) R = upd (foldR (warmC (nI u)) j R) (6 + 3 * j + 1) (foldR (warmC (nI u)) j R (6 + 3 * j + 1)) from (if_neg h101).trans updId.symm] at hP; exact hP)
            | (rw [show foldR (warmC (nI u)) (j + 1) R = upd (foldR (warmC (nI u)) j R) (6 + 3 * j + 1) (nI u) from if_pos h101] at hP; exact hP)
        · refine y_iload_n dX12_begin_104 rfl rfl ?_
          refine y_goto (tgt := 115) dX12_begin_105 (by decide) ?_
          refine y_ivV2 dX12_begin_115 mv_X12_163 my_X12_put_ (Or.inl rfl) sh_239 ?_
          refine c_X12_put_ (wk_b (by omega)) (p := 6 + 3 * j + 1) rfl (by omega) ⟨rfl, ?_⟩
          refine y_iinc8_7 dX12_begin_118 (nI_1 _) rfl ?_
          refine y_goto (tgt := 73) dX12_begin_121 (by decide) ?_
          first
            | (rw [show foldR (warmC (nI u)) (j + 1) R = upd (foldR (warmC (nI u)) j R) (6 + 3 * j + 1) (foldR (warmC (nI u)) j R (6 + 3 * j + 1)) from (if_neg h101).trans updId.symm] at hP; exact hP)
            | (rw [show foldR (warmC (nI u)) (j + 1) R = upd (foldR (warmC (nI u)) j R) (6 + 3 * j + 1) (nI u) from if_pos h101] at hP; exact hP)
    intro a7
    refine y_aload_n dX12_begin_124 rfl rfl ?_
    refine y_iload_n dX12_begin_125 rfl rfl ?_
    refine y_iload dX12_begin_126 rfl ?_
    refine y_ivI2 dX12_begin_128 mv_X12_301 my_X12_turnsOf (Or.inl rfl) sh_239 ?_
    refine c_X12_turnsOf (wk_b (by omega)) (i := a) (c := c) rfl ha2 c5w c10 (fun ok => ⟨_, rfl, ?_⟩) (fun ok => ⟨_, rfl, ?_⟩)
    · refine y_if_eq (tgt := 168) dX12_begin_131 (by decide) (fun h131 => absurd h131 (by decide)) (fun h131 => ?_)
      have okt2 : oTn (wmB R u) a k := (oTn_i (by omega) (by omega)).mpr (by rw [wm_c, ← hc]; exact ok)
      have okt : oTn R a k := (oTn_eq wm_c (fun p hp => wm_3 hp)).mp okt2
      have hD : dOK (tR (wmB R u) a k) := tR_d bd (by rw [wm_c]; exact ha) bl (by omega) (by omega) okt2
      rw [show upd (wmB R u) (6 + 3 * a + 2) (nI k) = tR (wmB R u) a k from rfl]
      have eg : WV (tR (wmB R u) a k) = G k := by rw [hG]; rfl
      have es : rsum (BV (tR (wmB R u) a k)) c = rsum R c - R (6 + 3 * a + 2) + nI k := by
        rw [rsum_36 (R := tR (wmB R u) a k) (fun p hp => BV_low hD hp) c10]
        unfold tR
        rw [rsum_upd, if_pos ha2, wm_3 (by omega)]
        unfold wmB
        rw [rsum_w (fun k R p hp => warmC_3 hp)]
      have n9 : ¬ nI k = -9 := nI_n9' (by omega)
      refine y_aload_n dX12_begin_134 rfl rfl ?_
      refine y_ivV0 dX12_begin_135 mv_X12_263 my_X12_bakes (Or.inl rfl) sh_239 ?_
      refine c_bakesW (wk_b (by omega)) hD (fun h' => ⟨rfl, ?_⟩)
      refine y_iload_n dX12_begin_138 rfl rfl ?_
      refine y_bipush (v := -9) dX12_begin_139 (by decide) ?_
      refine y_icmp_eq (tgt := 153) dX12_begin_141 (by decide) (fun h141 => ?_) (fun h141 => ?_)
      · refine y_iload dX12_begin_153 rfl ?_
        refine y_ist8_3 dX12_begin_155 rfl ?_
        refine y_aload_n dX12_begin_156 rfl rfl ?_
        refine y_ivI0 dX12_begin_157 mv_X12_247 my_X12_worthNow (Or.inl rfl) sh_239 ?_
        refine c_X12_worthNow (wk_b (by omega)) ⟨_, rfl, ?_⟩
        rw [show worthF (BV (tR (wmB R u) a k)) = G k from eg]
        refine y_ist8_4 dX12_begin_160 rfl ?_
        refine y_aload_n dX12_begin_162 rfl rfl ?_
        refine y_ivI0 dX12_begin_163 mv_X12_187 my_X12_turnsAll (Or.inl rfl) sh_239 ?_
        refine c_X12_turnsAll (wk_b (by omega)) (c := c) ((BV_low hD (by omega)).trans ((tR_lo (by omega)).trans c5w)) c10 ⟨_, rfl, ?_⟩
        rw [es]
        refine y_ist8_5 dX12_begin_166 rfl ?_
        refine y_iinc8_6 dX12_begin_168 (nI_1 _) rfl ?_
        refine y_goto (tgt := 59) dX12_begin_171 (by decide) ?_
        first
          | (rw [sel_y (bt := gtI) okt (Or.inr (Int32.not_le.mp h150)), if_neg n9] at hP; exact hP _ _ WM.st)
          | (rw [sel_n (bt := gtI) (fun z => z.2.elim h141 (fun y => absurd h150 (Int32.not_le.mpr y)))] at hP; exact hP _ _ WM.st)
          | (rw [sel_y (bt := gtI) okt (Or.inl h141), if_neg n9] at hP; exact hP _ _ WM.st)
          | (rw [sel_no nok] at hP; exact hP _ _ WM.st)
      · refine y_aload_n dX12_begin_144 rfl rfl ?_
        refine y_ivI0 dX12_begin_145 mv_X12_247 my_X12_worthNow (Or.inl rfl) sh_239 ?_
        refine c_X12_worthNow (wk_b (by omega)) ⟨_, rfl, ?_⟩
        rw [show worthF (BV (tR (wmB R u) a k)) = G k from eg]
        refine y_iload dX12_begin_148 rfl ?_
        refine y_icmp_le (tgt := 168) dX12_begin_150 (by decide) (fun h150 => ?_) (fun h150 => ?_)
        · refine y_iinc8_6 dX12_begin_168 (nI_1 _) rfl ?_
          refine y_goto (tgt := 59) dX12_begin_171 (by decide) ?_
          first
            | (rw [sel_y (bt := gtI) okt (Or.inr (Int32.not_le.mp h150)), if_neg n9] at hP; exact hP _ _ WM.st)
            | (rw [sel_n (bt := gtI) (fun z => z.2.elim h141 (fun y => absurd h150 (Int32.not_le.mpr y)))] at hP; exact hP _ _ WM.st)
            | (rw [sel_y (bt := gtI) okt (Or.inl h141), if_neg n9] at hP; exact hP _ _ WM.st)
            | (rw [sel_no nok] at hP; exact hP _ _ WM.st)
        · refine y_iload dX12_begin_153 rfl ?_
          refine y_ist8_3 dX12_begin_155 rfl ?_
          refine y_aload_n dX12_begin_156 rfl rfl ?_
          refine y_ivI0 dX12_begin_157 mv_X12_247 my_X12_worthNow (Or.inl rfl) sh_239 ?_
          refine c_X12_worthNow (wk_b (by omega)) ⟨_, rfl, ?_⟩
          rw [show worthF (BV (tR (wmB R u) a k)) = G k from eg]
          refine y_ist8_4 dX12_begin_160 rfl ?_
          refine y_aload_n dX12_begin_162 rfl rfl ?_
          refine y_ivI0 dX12_begin_163 mv_X12_187 my_X12_turnsAll (Or.inl rfl) sh_239 ?_
          refine c_X12_turnsAll (wk_b (by omega)) (c := c) ((BV_low hD (by omega)).trans ((tR_lo (by omega)).trans c5w)) c10 ⟨_, rfl, ?_⟩
          rw [es]
          refine y_ist8_5 dX12_begin_166 rfl ?_
          refine y_iinc8_6 dX12_begin_168 (nI_1 _) rfl ?_
          refine y_goto (tgt := 59) dX12_begin_171 (by decide) ?_
          first
            | (rw [sel_y (bt := gtI) okt (Or.inr (Int32.not_le.mp h150)), if_neg n9] at hP; exact hP _ _ WM.st)
            | (rw [sel_n (bt := gtI) (fun z => z.2.elim h141 (fun y => absurd h150 (Int32.not_le.mpr y)))] at hP; exact hP _ _ WM.st)
            | (rw [sel_y (bt := gtI) okt (Or.inl h141), if_neg n9] at hP; exact hP _ _ WM.st)
            | (rw [sel_no nok] at hP; exact hP _ _ WM.st)
    · have nok : ¬ oTn R a k := fun z => ok (by have := (oTn_i (by omega) (by omega)).mp ((oTn_eq (R := R) (R' := wmB R u) wm_c (fun p hp => wm_3 hp)).mpr z); rw [wm_c, ← hc] at this; exact this)
      refine y_if_eq (tgt := 168) dX12_begin_131 (by decide) (fun h131 => ?_) (fun h131 => absurd (by decide) h131)
      refine y_iinc8_6 dX12_begin_168 (nI_1 _) rfl ?_
      refine y_goto (tgt := 59) dX12_begin_171 (by decide) ?_
      first
        | (rw [sel_y (bt := gtI) okt (Or.inr (Int32.not_le.mp h150)), if_neg n9] at hP; exact hP _ _ WM.st)
        | (rw [sel_n (bt := gtI) (fun z => z.2.elim h141 (fun y => absurd h150 (Int32.not_le.mpr y)))] at hP; exact hP _ _ WM.st)
        | (rw [sel_y (bt := gtI) okt (Or.inl h141), if_neg n9] at hP; exact hP _ _ WM.st)
        | (rw [sel_no nok] at hP; exact hP _ _ WM.st)
set_option maxHeartbeats 2000000 in
theorem p_begin {L : Nat} {xs : Nat → Int32} {d : Nat} {m : sM} {n : sN} {x : Int32} (h : Rel m n) : PI L xs (d + 11) yX11_begin cX11_begin 7 yX12_begin cX12_begin 8 [.int x] m n := by
  unfold PI
  by_cases hx : inN x 10
  · obtain ⟨u, hu, rfl⟩ := hx
    have hx : inN (nI u) 10 := ⟨u, hu, rfl⟩
    by_cases l : m 253 0 = 0
    · refine y_run (own := "LoafFall") rfl (by decide +kernel) (Nat.le_of_ble_eq_true rfl) rfl ?_
      refine y_iload_n dX11_begin_0 rfl rfl ?_
      refine y_isI1 dX11_begin_1 ms_X11_276 my_X11_isWarmth (Or.inl rfl) ?_
      refine c_X11_isWarmth (fun _ => ⟨_, rfl, ?_⟩) (fun z => absurd hx z)
      refine y_if_ne (tgt := 9) dX11_begin_4 (by decide) (fun h4 => ?_) (fun h4 => absurd h4 (by decide))
      refine y_aload_n dX11_begin_9 rfl rfl ?_
      refine y_getr dX11_begin_10 gf_X11_40 sh_0 rfl ?_
      refine y_geti dX11_begin_13 gf_X11_211 sh_6 rfl ?_
      refine y_if_ne (tgt := 22) dX11_begin_16 (by decide) (fun h16 => absurd (h.none l) h16) (fun h16 => ?_)
      refine y_bipush (v := -4) dX11_begin_19 (by decide) ?_
      refine y_ireturn dX11_begin_21 rfl rfl ?_
      refine ⟨_, rfl, ?_⟩
      refine y_run (own := "LoafFallModel") rfl (by decide +kernel) (Nat.le_of_ble_eq_true rfl) rfl ?_
      refine y_iload_n dX12_begin_0 rfl rfl ?_
      refine y_iconst (v := 0) dX12_begin_1 (by decide) ?_
      refine y_bipush (v := 9) dX12_begin_2 (by decide) ?_
      refine y_isI3 dX12_begin_4 ms_X12_86 my_X12_in (Or.inl rfl) ?_
      refine c_X12_in (fun _ _ => ⟨_, rfl, ?_⟩) (fun a => absurd ((in_le (M := 9) (by decide)).mp hx) a)
      refine y_if_ne (tgt := 12) dX12_begin_7 (by decide) (fun h7 => ?_) (fun h7 => absurd h7 (by decide))
      refine y_aload_n dX12_begin_12 rfl rfl ?_
      refine y_getr dX12_begin_13 gf_X12_51 sh_239 rfl ?_
      refine y_iconst (v := 0) dX12_begin_16 (by decide) ?_
      refine y_zaldN dX12_begin_17 sh_253 rfl (by first | omega | decide) (by decide) ?_
      refine y_if_ne (tgt := 24) dX12_begin_18 (by decide) (fun h18 => absurd l h18) (fun h18 => ?_)
      refine y_bipush (v := -4) dX12_begin_21 (by decide) ?_
      refine y_ireturn dX12_begin_23 rfl rfl ?_
      exact ⟨rfl, h⟩
    · obtain ⟨l1, l2, l3, l4, l5, l6, l7, lf⟩ := h.own l
      have c5 : lfR m 0 5 = nI (cOf (lfR m 0)) := l5.1
      have c10 := l5.2.1
      rcases find_first (kd := 1) (R := lfR m 0) (cOf (lfR m 0)) c10 with ⟨a, ha, hk1, hk2, -⟩ | ⟨hz, hz2⟩
      · refine c_X11_begin_ok h l rfl hu ha hk1 hk2 (fun m' b wv v1 v2 sc => ⟨_, rfl, ?_⟩)
        generalize em : tellM m' (rsum (lfR m 0) (cOf (lfR m 0)) - lfR m 0 (6 + 3 * a + 2) + b) = m1
        have gg : ∀ a, 137 ≤ a → m1 a = m a := fun a ha => by rw [← em, tell_o (by omega)]; exact v1 a (by omega)
        have e0 : lfR m1 0 = lfR m 0 := lfR_m (gg 254 (by omega))
        refine c_X12_begin_ok (a := a) (by rw [gg _ (by omega)]; exact l1) (by rw [e0]; exact l5) rfl hu (by rw [e0]; exact ha) (by rw [e0]; exact hk1) (by rw [e0]; exact hk2) (fun M hW => ?_)
        rw [e0]
        obtain ⟨t, t1, t2, t3⟩ := own_ok l5 ha (lst_d l5 ha (Or.inl hk1))
        have hb : ¬ b = -9 := by rw [sc.1]; exact sel_some' t3 31 (fun i hi => nI_n9' (by omega)) (by omega)
        rw [← sc.1, if_neg hb]
        rw [← em] at hW
        exact ⟨rfl, Rel_tell h v1 v2 hW.fr⟩
      · refine y_run (own := "LoafFall") rfl (by decide +kernel) (Nat.le_of_ble_eq_true rfl) rfl ?_
        refine y_iload_n dX11_begin_0 rfl rfl ?_
        refine y_isI1 dX11_begin_1 ms_X11_276 my_X11_isWarmth (Or.inl rfl) ?_
        refine c_X11_isWarmth (fun _ => ⟨_, rfl, ?_⟩) (fun z => absurd hx z)
        refine y_if_ne (tgt := 9) dX11_begin_4 (by decide) (fun h4 => ?_) (fun h4 => absurd h4 (by decide))
        refine y_aload_n dX11_begin_9 rfl rfl ?_
        refine y_getr dX11_begin_10 gf_X11_40 sh_0 rfl ?_
        refine y_geti dX11_begin_13 gf_X11_211 sh_6 rfl ?_
        refine y_if_ne (tgt := 22) dX11_begin_16 (by decide) (fun h16 => ?_) (fun h16 => absurd h16 (by rw [l2]; decide))
        refine y_aload_n dX11_begin_22 rfl rfl ?_
        refine y_getr dX11_begin_23 gf_X11_40 sh_0 rfl ?_
        refine y_getr dX11_begin_26 gf_X11_204 sh_6 rfl ?_
        refine y_ivI0 dX11_begin_29 mv_X11_335 my_X1_firstRest (Or.inl rfl) sh_9 ?_
        refine c_X1_firstRest (R := lfR m 0) lf6.2.2.1 l3.dr c5 c10 (fun i a b _ => absurd b (hz i a)) (fun _ => ⟨_, rfl, ?_⟩)
        refine y_ist7_2 dX11_begin_32 rfl ?_
        refine y_iload_n dX11_begin_33 rfl rfl ?_
        refine y_bipush (v := -9) dX11_begin_34 (by decide) ?_
        refine y_icmp_ne (tgt := 45) dX11_begin_36 (by decide) (fun h36 => absurd rfl h36) (fun h36 => ?_)
        refine y_aload_n dX11_begin_39 rfl rfl ?_
        refine y_iconst (v := 3) dX11_begin_40 (by decide) ?_
        refine y_ivI1 dX11_begin_41 mv_X11_105 my_X11_found (Or.inl rfl) sh_0 ?_
        refine c_X11_found (f := 3) rfl (by omega) (by omega) ⟨_, rfl, ?_⟩
        refine y_ireturn dX11_begin_44 rfl rfl ?_
        refine ⟨_, rfl, ?_⟩
        obtain ⟨m1, em⟩ : ∃ m1, m1 = foundM m 3 := ⟨_, rfl⟩
        rw [← em]
        have g : ∀ a, 138 ≤ a → m1 a = m a := fun a ha => by rw [em]; exact found_o (by omega) (by omega)
        have e0 : lfR m1 0 = lfR m 0 := lfR_m (g 254 (by omega))
        refine y_run (own := "LoafFallModel") rfl (by decide +kernel) (Nat.le_of_ble_eq_true rfl) rfl ?_
        refine y_iload_n dX12_begin_0 rfl rfl ?_
        refine y_iconst (v := 0) dX12_begin_1 (by decide) ?_
        refine y_bipush (v := 9) dX12_begin_2 (by decide) ?_
        refine y_isI3 dX12_begin_4 ms_X12_86 my_X12_in (Or.inl rfl) ?_
        refine c_X12_in (fun _ _ => ⟨_, rfl, ?_⟩) (fun a => absurd ((in_le (M := 9) (by decide)).mp hx) a)
        refine y_if_ne (tgt := 12) dX12_begin_7 (by decide) (fun h7 => ?_) (fun h7 => absurd h7 (by decide))
        refine y_aload_n dX12_begin_12 rfl rfl ?_
        refine y_getr dX12_begin_13 gf_X12_51 sh_239 rfl ?_
        refine y_iconst (v := 0) dX12_begin_16 (by decide) ?_
        refine y_zaldN dX12_begin_17 sh_253 rfl (by first | omega | decide) (by decide) ?_
        refine y_if_ne (tgt := 24) dX12_begin_18 (by decide) (fun h18 => ?_) (fun h18 => absurd h18 (by rw [g _ (by omega), l1]; decide))
        refine y_aload_n dX12_begin_24 rfl rfl ?_
        refine y_ivV0 dX12_begin_25 mv_X12_289 my_X12_layOwn (Or.inl rfl) sh_239 ?_
        refine c_layOwn (m0 := m1) (Or.inl rfl) (fun hh => ⟨rfl, ?_⟩)
        rw [e0]
        refine y_aload_n dX12_begin_28 rfl rfl ?_
        refine y_iconst (v := 1) dX12_begin_29 (by decide) ?_
        refine y_iconst (v := 0) dX12_begin_30 (by decide) ?_
        refine y_ivI2 dX12_begin_31 mv_X12_304 my_X12_find (Or.inl rfl) sh_239 ?_
        refine c_X12_find (wk_b (by omega)) c5 c10 ⟨_, rfl, ?_⟩
        rw [hz2]
        refine y_ist8_2 dX12_begin_34 rfl ?_
        refine y_iload_n dX12_begin_35 rfl rfl ?_
        refine y_bipush (v := -9) dX12_begin_36 (by decide) ?_
        refine y_icmp_ne (tgt := 47) dX12_begin_38 (by decide) (fun h38 => absurd rfl h38) (fun h38 => ?_)
        refine y_aload_n dX12_begin_41 rfl rfl ?_
        refine y_iconst (v := 3) dX12_begin_42 (by decide) ?_
        refine y_ivI1 dX12_begin_43 mv_X12_100 my_X12_meets (Or.inl rfl) sh_239 ?_
        refine c_X12_meets (f := 3) rfl (by omega) ⟨_, rfl, ?_⟩
        refine y_ireturn dX12_begin_46 rfl rfl ?_
        rw [em]
        exact ⟨rfl, Rel_meet h frC.rf h.bk (frM.wk.tr frM.st)⟩
  · refine y_run (own := "LoafFall") rfl (by decide +kernel) (Nat.le_of_ble_eq_true rfl) rfl ?_
    refine y_iload_n dX11_begin_0 rfl rfl ?_
    refine y_isI1 dX11_begin_1 ms_X11_276 my_X11_isWarmth (Or.inl rfl) ?_
    refine c_X11_isWarmth (fun z => absurd z hx) (fun _ => ⟨_, rfl, ?_⟩)
    refine y_if_ne (tgt := 9) dX11_begin_4 (by decide) (fun h4 => absurd (by decide) h4) (fun h4 => ?_)
    refine y_iconst (v := -1) dX11_begin_7 (by decide) ?_
    refine y_ireturn dX11_begin_8 rfl rfl ?_
    refine ⟨_, rfl, ?_⟩
    refine y_run (own := "LoafFallModel") rfl (by decide +kernel) (Nat.le_of_ble_eq_true rfl) rfl ?_
    refine y_iload_n dX12_begin_0 rfl rfl ?_
    refine y_iconst (v := 0) dX12_begin_1 (by decide) ?_
    refine y_bipush (v := 9) dX12_begin_2 (by decide) ?_
    refine y_isI3 dX12_begin_4 ms_X12_86 my_X12_in (Or.inl rfl) ?_
    refine c_X12_in (fun a b => absurd ((in_le (M := 9) (by decide)).mpr ⟨a, b⟩) hx) (fun _ => ⟨_, rfl, ?_⟩)
    refine y_if_ne (tgt := 12) dX12_begin_7 (by decide) (fun h7 => absurd (by decide) h7) (fun h7 => ?_)
    refine y_iconst (v := -1) dX12_begin_10 (by decide) ?_
    refine y_ireturn dX12_begin_11 rfl rfl ?_
    exact ⟨rfl, h⟩
