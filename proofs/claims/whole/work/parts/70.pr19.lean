/-! ===== pairs: why, odds ===== -/
def okP (m : sM) (p : Nat) : Prop := ¬ m 246 (p / 4) = 0 ∧ ¬ m 248 (p % 4) = 0
def gP (m : sM) (V : Nat → Int32) (p : Nat) : Int32 := unlS (CV (bo m (p / 4) (p % 4))) V 24
noncomputable def PLp (m : sM) (k : Nat) : Nat := if CNT m 0 = 0 ∨ CNT m 1 = 0 then 1 else ckL m k
theorem PLp_le (m : sM) (k : Nat) : PLp m k ≤ 5 := by
  unfold PLp
  split
  · omega
  · exact ckL_le m k
theorem PLp_m {m m' : sM} (e1 : m' 241 = m 241) (e2 : m' 242 = m 242) (e3 : m' 246 = m 246) (e4 : m' 248 = m 248) {k : Nat} : PLp m' k = PLp m k := by
  unfold PLp
  rw [ckL_m e1 e2, show CNT m' 0 = CNT m 0 from by show cntZ (m' 246) 4 = cntZ (m 246) 4; rw [e3], show CNT m' 1 = CNT m 1 from by show cntZ (m' 248) 4 = cntZ (m 248) 4; rw [e4]]
theorem PL_0 {m : sM} {k : Nat} (h : PLp m k = 0) : ¬ CNT m 0 = 0 ∧ ¬ CNT m 1 = 0 ∧ ckL m k = 0 := by
  unfold PLp at h
  by_cases z : CNT m 0 = 0 ∨ CNT m 1 = 0
  · rw [if_pos z] at h; omega
  · rw [if_neg z] at h; exact ⟨fun e => z (Or.inl e), fun e => z (Or.inr e), h⟩
theorem WM.up {m0 M : sM} {a : Nat} {K : Nat → Int32} (h : WM m0 M) (h1 : a ≠ 239) (h2 : a ≠ 254) (h3 : a ≠ 255) : WM (s_up m0 a K) (s_up M a K) := by
  rcases h with rfl | ⟨h, R, rfl⟩
  · exact Or.inl rfl
  · refine Or.inr ⟨h, R, ?_⟩
    rw [stR_up h2 h3]
    congr 1
    funext b
    unfold wkM
    by_cases z : b = a
    · rw [z, s_upS, s_upN h1, s_upS]
    · rw [s_upN z]
      by_cases y : b = 239
      · rw [y, s_upS, s_upS, s_upN (Ne.symm h1)]
      · rw [s_upN y, s_upN y, s_upN z]
theorem sel_ex {ok : Nat → Prop} {bt : Int32 → Int32 → Prop} {cd g : Nat → Int32} : ∀ k, selF ok bt cd g k = (-9, 0) ∨ ∃ j, j < k ∧ ok j ∧ selF ok bt cd g k = (cd j, g j) := by
  intro k
  induction k with
  | zero => exact Or.inl rfl
  | succ k ih =>
    by_cases z : ok k ∧ ((selF ok bt cd g k).1 = -9 ∨ bt (g k) (selF ok bt cd g k).2)
    · exact Or.inr ⟨k, by omega, z.1, sel_y z.1 z.2⟩
    · rw [sel_n z]
      rcases ih with e | ⟨j, j1, j2, j3⟩
      · exact Or.inl e
      · exact Or.inr ⟨j, by omega, j2, j3⟩
/-- of another name the same one is best -/
theorem sel_cd {ok : Nat → Prop} {bt : Int32 → Int32 → Prop} {cd cd' g : Nat → Int32} : ∀ k, (∀ j, j < k → ¬ cd j = -9 ∧ ¬ cd' j = -9) → (selF ok bt cd g k = (-9, 0) ∧ selF ok bt cd' g k = (-9, 0)) ∨ ∃ j, j < k ∧ ok j ∧ selF ok bt cd g k = (cd j, g j) ∧ selF ok bt cd' g k = (cd' j, g j) := by
  intro k
  induction k with
  | zero => intro _; exact Or.inl ⟨rfl, rfl⟩
  | succ k ih =>
    intro hcd
    rcases ih (fun j hj => hcd j (by omega)) with ⟨e1, e2⟩ | ⟨j, j1, j2, j3, j4⟩
    · by_cases z : ok k
      · exact Or.inr ⟨k, by omega, z, sel_y z (Or.inl (by rw [e1])), sel_y z (Or.inl (by rw [e2]))⟩
      · rw [sel_no z, sel_no z]; exact Or.inl ⟨e1, e2⟩
    · by_cases z : ok k ∧ bt (g k) (g j)
      · exact Or.inr ⟨k, by omega, z.1, sel_y z.1 (Or.inr (by rw [j3]; exact z.2)), sel_y z.1 (Or.inr (by rw [j4]; exact z.2))⟩
      · have n1 : ¬ (ok k ∧ ((selF ok bt cd g k).1 = -9 ∨ bt (g k) (selF ok bt cd g k).2)) := fun y => y.2.elim (fun e => (hcd j (by omega)).1 (by rw [j3] at e; exact e)) (fun e => z ⟨y.1, by rw [j3] at e; exact e⟩)
        have n2 : ¬ (ok k ∧ ((selF ok bt cd' g k).1 = -9 ∨ bt (g k) (selF ok bt cd' g k).2)) := fun y => y.2.elim (fun e => (hcd j (by omega)).2 (by rw [j4] at e; exact e)) (fun e => z ⟨y.1, by rw [j4] at e; exact e⟩)
        rw [sel_n n1, sel_n n2]
        exact Or.inr ⟨j, by omega, j2, j3, j4⟩
theorem pairs_some {m : sM} {n : sN} {k : Nat} (h : Rel m n) (h0 : PLp m k = 0) : ∃ p, p < 16 ∧ okP m p := by
  obtain ⟨z1, z2, -⟩ := PL_0 h0
  have f : ∃ i, i < 4 ∧ ¬ m 246 i = 0 := Classical.byContradiction (fun y => z1 (cnt_0 4 (fun j hj => Classical.byContradiction (fun e => y ⟨j, hj, e⟩))))
  have g : ∃ i, i < 4 ∧ ¬ m 248 i = 0 := Classical.byContradiction (fun y => z2 (cnt_0 4 (fun j hj => Classical.byContradiction (fun e => y ⟨j, hj, e⟩))))
  obtain ⟨i, i1, i2⟩ := f
  obtain ⟨j, j1, j2⟩ := g
  exact ⟨4 * i + j, by omega, by unfold okP; rw [show (4 * i + j) / 4 = i by omega, show (4 * i + j) % 4 = j by omega]; exact ⟨i2, j2⟩⟩
set_option maxHeartbeats 1000000 in
theorem c_X11_lackOfPairs {L : Nat} {xs : Nat → Int32} {d : Nat} {m : sM} {n : sN} {Q : sQ} {k : Nat} {r : Int32} (h : Rel m n) (hr : r = nI k) (hk : k < 6) (hQ : Q (some (.int (nI (PLp m k)))) m n) : sRun (scT L xs) (d + 3) yX11_lackOfPairs cX11_lackOfPairs 2 (some .int) [.ref 0, .int r] m n Q := by
  subst hr
  refine y_run (own := "LoafFall") rfl (by decide +kernel) (Nat.le_of_ble_eq_true rfl) rfl ?_
  refine y_aload_n dX11_lackOfPairs_0 rfl rfl ?_
  refine y_ivI0 dX11_lackOfPairs_1 mv_X11_332 my_X11_countFlours (Or.inl rfl) sh_0 ?_
  refine c_X11_countFlours ⟨_, rfl, ?_⟩
  rw [(CNT_c h).1]
  refine y_if_eq (tgt := 14) dX11_lackOfPairs_4 (by decide) (fun h4 => ?_) (fun h4 => ?_)
  · have e1 : PLp m k = 1 := if_pos (by
      first
        | exact Or.inl h4
        | exact Or.inr h11)
    rw [e1] at hQ
    refine y_iconst (v := 1) dX11_lackOfPairs_14 (by decide) ?_
    refine y_goto (tgt := 23) dX11_lackOfPairs_15 (by decide) ?_
    refine y_ireturn dX11_lackOfPairs_23 rfl rfl ?_
    exact hQ
  · refine y_aload_n dX11_lackOfPairs_7 rfl rfl ?_
    refine y_ivI0 dX11_lackOfPairs_8 mv_X11_382 my_X11_countDoings (Or.inl rfl) sh_0 ?_
    refine c_X11_countDoings ⟨_, rfl, ?_⟩
    rw [(CNT_c h).2.1]
    refine y_if_ne (tgt := 18) dX11_lackOfPairs_11 (by decide) (fun h11 => ?_) (fun h11 => ?_)
    · refine y_aload_n dX11_lackOfPairs_18 rfl rfl ?_
      refine y_iload_n dX11_lackOfPairs_19 rfl rfl ?_
      refine y_ivI1 dX11_lackOfPairs_20 mv_X11_424 my_X11_lackOfCut (Or.inl rfl) sh_0 ?_
      refine c_X11_lackOfCut h rfl hk ⟨_, rfl, ?_⟩
      rw [show PLp m k = ckL m k from if_neg (fun z => z.elim h4 h11)] at hQ
      refine y_ireturn dX11_lackOfPairs_23 rfl rfl ?_
      exact hQ
    · have e1 : PLp m k = 1 := if_pos (by
        first
          | exact Or.inl h4
          | exact Or.inr h11)
      rw [e1] at hQ
      refine y_iconst (v := 1) dX11_lackOfPairs_14 (by decide) ?_
      refine y_goto (tgt := 23) dX11_lackOfPairs_15 (by decide) ?_
      refine y_ireturn dX11_lackOfPairs_23 rfl rfl ?_
      exact hQ
set_option maxHeartbeats 1000000 in
theorem c_X11_unlikeOfPair {L : Nat} {xs : Nat → Int32} {d : Nat} {m : sM} {n : sN} {Q : sQ} {m0 : sM} {p k : Nat} {x r : Int32} (h : Rel m0 n) (v1 : frC m0 m) (v2 : BK m) (hx : x = nI p) (hp : p < 16) (hr : r = nI k) (hk : k < 6) (hv : ∀ i, i < 24 → m0 (138 + 2 * k + 1) i = m0 242 (40 * k + i)) (hQ0 : ¬ okP m0 p → Q (some (.int 25)) m n) (hQ1 : okP m0 p → ∀ m', frC m0 m' → BK m' → Q (some (.int (gP m0 (fun i => m0 242 (40 * k + i)) p))) m' n) : sRun (scT L xs) (d + 7) yX11_unlikeOfPair cX11_unlikeOfPair 5 (some .int) [.ref 0, .int x, .int r] m n Q := by
  subst hx hr
  refine y_run (own := "LoafFall") rfl (by decide +kernel) (Nat.le_of_ble_eq_true rfl) rfl ?_
  refine y_aload_n dX11_unlikeOfPair_0 rfl rfl ?_
  refine y_getr dX11_unlikeOfPair_1 gf_X11_23 sh_0 rfl ?_
  refine y_iload_n dX11_unlikeOfPair_4 rfl rfl ?_
  refine y_iconst (v := 4) dX11_unlikeOfPair_5 (by decide) ?_
  refine y_idivN (a := p) (b := 4) dX11_unlikeOfPair_6 rfl rfl (by omega) (by decide) (by decide) ?_
  refine y_aaldN dX11_unlikeOfPair_7 (by decide) sh_3 rfl (flA (k := p / 4) (by omega)) (by decide) ?_
  refine y_ast5_3 dX11_unlikeOfPair_8 rfl ?_
  refine y_aload_n dX11_unlikeOfPair_9 rfl rfl ?_
  refine y_getr dX11_unlikeOfPair_10 gf_X11_29 sh_0 rfl ?_
  refine y_iload_n dX11_unlikeOfPair_13 rfl rfl ?_
  refine y_iconst (v := 4) dX11_unlikeOfPair_14 (by decide) ?_
  refine y_iremN (a := p) (b := 4) dX11_unlikeOfPair_15 rfl rfl (by omega) (by decide) (by decide) ?_
  refine y_aaldN dX11_unlikeOfPair_16 (by decide) sh_4 rfl (dgA (k := p % 4) (by omega)) (by decide) ?_
  refine y_ast5_4 dX11_unlikeOfPair_17 rfl ?_
  refine y_aload_n dX11_unlikeOfPair_19 rfl rfl ?_
  refine y_geti dX11_unlikeOfPair_20 gf_X11_183 (flI (k := p / 4) (by omega)).1 rfl ?_
  rw [v1 (158 + 2 * (p / 4)) (by omega)]
  refine y_if_eq (tgt := 34) dX11_unlikeOfPair_23 (by decide) (fun h23 => ?_) (fun h23 => ?_)
  · refine y_bipush (v := 25) dX11_unlikeOfPair_34 (by decide) ?_
    refine y_ireturn dX11_unlikeOfPair_36 rfl rfl ?_
    refine hQ0 (fun z => ?_)
    first
      | exact z.1 ((h.fx (by omega)).1 h23)
      | exact z.2 ((h.dx (by omega)).1 h31)
  · refine y_aload dX11_unlikeOfPair_26 rfl ?_
    refine y_geti dX11_unlikeOfPair_28 gf_X11_190 (dgI (k := p % 4) (by omega)).1 rfl ?_
    rw [v1 (166 + 4 * (p % 4)) (by omega)]
    refine y_if_ne (tgt := 37) dX11_unlikeOfPair_31 (by decide) (fun h31 => ?_) (fun h31 => ?_)
    · have ok : okP m0 p := ⟨by rw [((h.fx (by omega)).2 h23).1]; decide, by rw [((h.dx (by omega)).2 h31).1]; decide⟩
      obtain ⟨t1, t2, t3⟩ := both_there h (f := p / 4) (g := p % 4) (by omega) (by omega) ok.1 ok.2
      obtain ⟨t4, t5, t6, t7⟩ := t3 (fun _ => 0)
      refine y_aload_n dX11_unlikeOfPair_37 rfl rfl ?_
      refine y_getr dX11_unlikeOfPair_38 gf_X11_61 sh_0 rfl ?_
      refine y_aload_n dX11_unlikeOfPair_41 rfl rfl ?_
      refine y_aload dX11_unlikeOfPair_42 rfl ?_
      refine y_ivR2 dX11_unlikeOfPair_44 mv_X11_303 my_X0_bake (Or.inl rfl) sh_35 ?_
      refine c_bakeV (R := bo m0 (p / 4) (p % 4)) (flI (by omega)) (dgI (by omega)) (by omega) (by omega) (fun i hi => by rw [v1 _ (by omega)]; exact t6 i hi) (DR_m t7 (fun c h1 h2 => v1 c (by omega))) t4 t5 (Or.inr (by rw [v1 _ (by omega)]; exact t1)) (Or.inr (by rw [v1 _ (by omega)]; exact t2)) v2 (fun m4 A a1 a2 a3 a4' a5 => ⟨_, rfl, ?_⟩)
      refine y_aload_n dX11_unlikeOfPair_47 rfl rfl ?_
      refine y_getr dX11_unlikeOfPair_48 gf_X11_11 sh_0 rfl ?_
      refine y_iload_n dX11_unlikeOfPair_51 rfl rfl ?_
      refine y_aaldN dX11_unlikeOfPair_52 (by decide) sh_1 rfl (rwA (k := k) (by omega)) (by decide) ?_
      refine y_ivI1 dX11_unlikeOfPair_53 mv_X11_307 my_X2_unlikeTo (Or.inl rfl) dh43.1 ?_
      refine c_X2_unlikeTo dh43 (rwI (k := k) (by omega)) a1 a2.2.2.1 ⟨_, rfl, ?_⟩
      rw [show unlS (cutF A) (m4 (138 + 2 * k + 1)) 24 = gP m0 (fun i => m0 242 (40 * k + i)) p from unl_eq 24 (fun i hi => ⟨a3.c t4 t5 hi, by rw [a5 _ (by omega), v1 _ (by omega)]; exact hv i hi⟩)]
      refine y_ireturn dX11_unlikeOfPair_56 rfl rfl ?_
      exact hQ1 ok m4 (fun a ha => by rw [a5 a (by omega)]; exact v1 a ha) a4'
    · refine y_bipush (v := 25) dX11_unlikeOfPair_34 (by decide) ?_
      refine y_ireturn dX11_unlikeOfPair_36 rfl rfl ?_
      refine hQ0 (fun z => ?_)
      first
        | exact z.1 ((h.fx (by omega)).1 h23)
        | exact z.2 ((h.dx (by omega)).1 h31)
def cdP (p : Nat) : Int32 := nI (10 * (p / 4) + p % 4)
set_option maxHeartbeats 1000000 in
theorem c_X11_why_ok {L : Nat} {xs : Nat → Int32} {d : Nat} {m : sM} {n : sN} {Q : sQ} {k : Nat} {r : Int32} (h : Rel m n) (hr : r = nI k) (hk : k < 6) (h0 : PLp m k = 0) (hQ : ∀ m' b wv, frC m m' → BK m' → SC (okP m) ltI cdP (gP m (fun i => m 242 (40 * k + i))) 25 16 b wv → Q (some (.int b)) (tellM m' wv) n) : sRun (scT L xs) (d + 8) yX11_why cX11_why 7 (some .int) [.ref 0, .int r] m n Q := by
  subst hr
  have hv := ck_0 h hk (PL_0 h0).2.2
  obtain ⟨G, hG⟩ : ∃ G, G = gP m (fun i => m 242 (40 * k + i)) := ⟨_, rfl⟩
  rw [← hG] at hQ
  have gl : ∀ p, ltI (G p) 25 := fun p => by rw [hG]; exact unl_lt
  refine y_run (own := "LoafFall") rfl (by decide +kernel) (Nat.le_of_ble_eq_true rfl) rfl ?_
  refine y_iload_n dX11_why_0 rfl rfl ?_
  refine y_isI1 dX11_why_1 ms_X11_101 my_X11_isRow (Or.inl rfl) ?_
  refine c_X11_isRow (fun _ => ⟨_, rfl, ?_⟩) (fun z => absurd (⟨k, hk, rfl⟩ : inN (nI k) 6) z)
  refine y_if_ne (tgt := 9) dX11_why_4 (by decide) (fun h4 => ?_) (fun h4 => absurd h4 (by decide))
  refine y_aload_n dX11_why_9 rfl rfl ?_
  refine y_iload_n dX11_why_10 rfl rfl ?_
  refine y_ivI1 dX11_why_11 mv_X11_283 my_X11_lackOfPairs (Or.inl rfl) sh_0 ?_
  refine c_X11_lackOfPairs h rfl hk ⟨_, rfl, ?_⟩
  rw [h0]
  refine y_ist7_2 dX11_why_14 rfl ?_
  refine y_iload_n dX11_why_15 rfl rfl ?_
  refine y_if_eq (tgt := 25) dX11_why_16 (by decide) (fun h16 => ?_) (fun h16 => absurd (by decide) h16)
  refine y_bipush (v := -9) dX11_why_25 (by decide) ?_
  refine y_ist7_3 dX11_why_27 rfl ?_
  refine y_bipush (v := 25) dX11_why_28 (by decide) ?_
  refine y_ist7_4 dX11_why_30 rfl ?_
  refine y_iconst (v := 0) dX11_why_32 (by decide) ?_
  refine y_ist7_5 dX11_why_33 rfl ?_
  refine cnt (P := fun p => ∀ m' b wv, ∀ a6 : Option Value, frC m m' → BK m' → wv ≤ 25 → SC (okP m) ltI cdP G 25 p b wv → sV (scT L xs) (d + 7) "LoafFall" cX11_why 7 (some .int) Q 35 [some (.ref 0), some (.int (nI k)), some (.int (nI 0)), some (.int b), some (.int wv), some (.int (nI p)), a6] [] m' n) 16 ?_ ?_ 0 (by omega) m (-9) 25 none frC.rf h.bk (by decide) SC.zero
  · intro m' b wv a6 v1 v2 v3 sc
    refine y_iload dX11_why_35 rfl ?_
    refine y_bipush (v := 16) dX11_why_37 (by decide) ?_
    refine y_icmp_ge (tgt := 81) dX11_why_39 (by decide) (fun h39 => ?_) (fun h39 => absurd (nI_le (a := 16) (b := 16) (Nat.le_refl _) (by decide)) h39)
    refine y_aload_n dX11_why_81 rfl rfl ?_
    refine y_iload dX11_why_82 rfl ?_
    refine y_puti dX11_why_84 pf_X11_194 sh_0 rfl rfl rfl ?_
    refine y_iload_n dX11_why_87 rfl rfl ?_
    refine y_ireturn dX11_why_88 rfl rfl ?_
    exact hQ m' b wv v1 v2 sc
  · intro p hk hP
    intro m' b wv a6 v1 v2 v3 sc
    refine y_iload dX11_why_35 rfl ?_
    refine y_bipush (v := 16) dX11_why_37 (by decide) ?_
    refine y_icmp_ge (tgt := 81) dX11_why_39 (by decide) (fun h39 => absurd h39 (nI_ge (a := p) (b := 16) hk (by decide))) (fun h39 => ?_)
    refine y_aload_n dX11_why_42 rfl rfl ?_
    refine y_iload dX11_why_43 rfl ?_
    refine y_iload_n dX11_why_45 rfl rfl ?_
    refine y_ivI2 dX11_why_46 mv_X11_286 my_X11_unlikeOfPair (Or.inl rfl) sh_0 ?_
    refine c_X11_unlikeOfPair (p := p) (k := k) h v1 v2 rfl (by omega) rfl (by omega) hv (fun ok => ⟨_, rfl, ?_⟩) (fun ok m4 w1 w2 => ⟨_, rfl, ?_⟩)
    · refine y_ist7_6 dX11_why_49 rfl ?_
      refine y_iload dX11_why_51 rfl ?_
      refine y_iload dX11_why_53 rfl ?_
      refine y_icmp_ge (tgt := 75) dX11_why_55 (by decide) (fun h55 => ?_) (fun h55 => ?_)
      · refine y_iinc7_5 dX11_why_75 (nI_1 _) rfl ?_
        refine y_goto (tgt := 35) dX11_why_78 (by decide) ?_
        first
          | exact hP m4 (cdP p) (G p) _ w1 w2 (Int32.le_of_lt (gl p)) (sc.take ok (nI_n9' (by omega)) (Int32.not_le.mp h55))
          | exact hP m4 b wv _ w1 w2 v3 (sc.skip (gl p) (Int32.not_lt.mpr h55))
          | exact hP m' b wv _ v1 v2 v3 (sc.no ok)
          | exact absurd v3 h55
      · refine y_iload dX11_why_58 rfl ?_
        refine y_ist7_4 dX11_why_60 rfl ?_
        refine y_bipush (v := 10) dX11_why_62 (by decide) ?_
        refine y_iload dX11_why_64 rfl ?_
        refine y_iconst (v := 4) dX11_why_66 (by decide) ?_
        refine y_idivN (a := p) (b := 4) dX11_why_67 rfl rfl (by omega) (by decide) (by decide) ?_
        refine y_imulN (a := 10) (b := p / 4) dX11_why_68 rfl rfl ?_
        refine y_iload dX11_why_69 rfl ?_
        refine y_iconst (v := 4) dX11_why_71 (by decide) ?_
        refine y_iremN (a := p) (b := 4) dX11_why_72 rfl rfl (by omega) (by decide) (by decide) ?_
        refine y_iaddN (a := 10 * (p / 4)) (b := p % 4) dX11_why_73 rfl rfl ?_
        refine y_ist7_3 dX11_why_74 rfl ?_
        refine y_iinc7_5 dX11_why_75 (nI_1 _) rfl ?_
        refine y_goto (tgt := 35) dX11_why_78 (by decide) ?_
        first
          | exact hP m4 (cdP p) (G p) _ w1 w2 (Int32.le_of_lt (gl p)) (sc.take ok (nI_n9' (by omega)) (Int32.not_le.mp h55))
          | exact hP m4 b wv _ w1 w2 v3 (sc.skip (gl p) (Int32.not_lt.mpr h55))
          | exact hP m' b wv _ v1 v2 v3 (sc.no ok)
          | exact absurd v3 h55
    · rw [← hG]
      refine y_ist7_6 dX11_why_49 rfl ?_
      refine y_iload dX11_why_51 rfl ?_
      refine y_iload dX11_why_53 rfl ?_
      refine y_icmp_ge (tgt := 75) dX11_why_55 (by decide) (fun h55 => ?_) (fun h55 => ?_)
      · refine y_iinc7_5 dX11_why_75 (nI_1 _) rfl ?_
        refine y_goto (tgt := 35) dX11_why_78 (by decide) ?_
        first
          | exact hP m4 (cdP p) (G p) _ w1 w2 (Int32.le_of_lt (gl p)) (sc.take ok (nI_n9' (by omega)) (Int32.not_le.mp h55))
          | exact hP m4 b wv _ w1 w2 v3 (sc.skip (gl p) (Int32.not_lt.mpr h55))
          | exact hP m' b wv _ v1 v2 v3 (sc.no ok)
          | exact absurd v3 h55
      · refine y_iload dX11_why_58 rfl ?_
        refine y_ist7_4 dX11_why_60 rfl ?_
        refine y_bipush (v := 10) dX11_why_62 (by decide) ?_
        refine y_iload dX11_why_64 rfl ?_
        refine y_iconst (v := 4) dX11_why_66 (by decide) ?_
        refine y_idivN (a := p) (b := 4) dX11_why_67 rfl rfl (by omega) (by decide) (by decide) ?_
        refine y_imulN (a := 10) (b := p / 4) dX11_why_68 rfl rfl ?_
        refine y_iload dX11_why_69 rfl ?_
        refine y_iconst (v := 4) dX11_why_71 (by decide) ?_
        refine y_iremN (a := p) (b := 4) dX11_why_72 rfl rfl (by omega) (by decide) (by decide) ?_
        refine y_iaddN (a := 10 * (p / 4)) (b := p % 4) dX11_why_73 rfl rfl ?_
        refine y_ist7_3 dX11_why_74 rfl ?_
        refine y_iinc7_5 dX11_why_75 (nI_1 _) rfl ?_
        refine y_goto (tgt := 35) dX11_why_78 (by decide) ?_
        first
          | exact hP m4 (cdP p) (G p) _ w1 w2 (Int32.le_of_lt (gl p)) (sc.take ok (nI_n9' (by omega)) (Int32.not_le.mp h55))
          | exact hP m4 b wv _ w1 w2 v3 (sc.skip (gl p) (Int32.not_lt.mpr h55))
          | exact hP m' b wv _ v1 v2 v3 (sc.no ok)
          | exact absurd v3 h55
set_option maxHeartbeats 1000000 in
theorem c_X12_leastPair {L : Nat} {xs : Nat → Int32} {d : Nat} {m : sM} {n : sN} {Q : sQ} {ok : Nat → Prop} {U : Nat → Int32} (h1 : ∀ p, p < 16 → ok p → m 257 p = U p) (h2 : ∀ p, p < 16 → ¬ ok p → m 257 p = -1) (h3 : ∀ p, ¬ U p < 0) (hQ : Q (some (.int (selF ok ltI nI U 16).1)) m n) : sRun (scT L xs) (d + 1) yX12_leastPair cX12_leastPair 3 (some .int) [.ref 239] m n Q := by
  refine y_run (own := "LoafFallModel") rfl (by decide +kernel) (Nat.le_of_ble_eq_true rfl) rfl ?_
  refine y_bipush (v := -9) dX12_leastPair_0 (by decide) ?_
  refine y_ist3_1 dX12_leastPair_2 rfl ?_
  refine y_iconst (v := 0) dX12_leastPair_3 (by decide) ?_
  refine y_ist3_2 dX12_leastPair_4 rfl ?_
  refine cnt (P := fun k => sV (scT L xs) d "LoafFallModel" cX12_leastPair 3 (some .int) Q 5 [some (.ref 239), some (.int (selF ok ltI nI U k).1), some (.int (nI k))] [] m n) 16 ?_ ?_ 0 (by omega)
  · refine y_iload_n dX12_leastPair_5 rfl rfl ?_
    refine y_bipush (v := 16) dX12_leastPair_6 (by decide) ?_
    refine y_icmp_ge (tgt := 53) dX12_leastPair_8 (by decide) (fun h8 => ?_) (fun h8 => absurd (nI_le (a := 16) (b := 16) (Nat.le_refl _) (by decide)) h8)
    refine y_iload_n dX12_leastPair_53 rfl rfl ?_
    refine y_ireturn dX12_leastPair_54 rfl rfl ?_
    exact hQ
  · intro k hk hP
    refine y_iload_n dX12_leastPair_5 rfl rfl ?_
    refine y_bipush (v := 16) dX12_leastPair_6 (by decide) ?_
    refine y_icmp_ge (tgt := 53) dX12_leastPair_8 (by decide) (fun h8 => absurd h8 (nI_ge (a := k) (b := 16) hk (by decide))) (fun h8 => ?_)
    refine y_aload_n dX12_leastPair_11 rfl rfl ?_
    refine y_getr dX12_leastPair_12 gf_X12_63 sh_239 rfl ?_
    refine y_iload_n dX12_leastPair_15 rfl rfl ?_
    refine y_ialdN dX12_leastPair_16 sh_257 rfl (by first | omega | decide) (by decide) ?_
    refine y_if_lt (tgt := 45) dX12_leastPair_17 (by decide) (fun h17 => ?_) (fun h17 => ?_)
    · refine y_iload_n dX12_leastPair_45 rfl rfl ?_
      refine y_ist3_1 dX12_leastPair_46 rfl ?_
      refine y_iinc3_2 dX12_leastPair_47 (nI_1 _) rfl ?_
      refine y_goto (tgt := 5) dX12_leastPair_50 (by decide) ?_
      first
        | (rw [sel_y (bt := ltI) okk (Or.inl h23)] at hP; exact hP)
        | (rw [sel_y (bt := ltI) okk (Or.inr (key1 h38))] at hP; exact hP)
        | (rw [sel_n (bt := ltI) (fun z => z.2.elim h23 (key2 h38))] at hP; exact hP)
        | (rw [sel_no (fun z => h3 k (h1 k hk z ▸ h17))] at hP; exact hP)
    · have okk : ok k := Classical.byContradiction (fun z => h17 (by rw [h2 k hk z]; decide))
      refine y_iload_n dX12_leastPair_20 rfl rfl ?_
      refine y_bipush (v := -9) dX12_leastPair_21 (by decide) ?_
      refine y_icmp_eq (tgt := 41) dX12_leastPair_23 (by decide) (fun h23 => ?_) (fun h23 => ?_)
      · refine y_iload_n dX12_leastPair_41 rfl rfl ?_
        refine y_goto (tgt := 46) dX12_leastPair_42 (by decide) ?_
        refine y_ist3_1 dX12_leastPair_46 rfl ?_
        refine y_iinc3_2 dX12_leastPair_47 (nI_1 _) rfl ?_
        refine y_goto (tgt := 5) dX12_leastPair_50 (by decide) ?_
        first
          | (rw [sel_y (bt := ltI) okk (Or.inl h23)] at hP; exact hP)
          | (rw [sel_y (bt := ltI) okk (Or.inr (key1 h38))] at hP; exact hP)
          | (rw [sel_n (bt := ltI) (fun z => z.2.elim h23 (key2 h38))] at hP; exact hP)
          | (rw [sel_no (fun z => h3 k (h1 k hk z ▸ h17))] at hP; exact hP)
      · obtain ⟨j, j1, j2, j3⟩ := (sel_ex (ok := ok) (bt := ltI) (cd := nI) (g := U) k).resolve_left (fun e => h23 (by rw [e]))
        have ej : (selF ok ltI nI U k).1 = nI j := by rw [j3]
        have vj : m 257 j = (selF ok ltI nI U k).2 := by rw [j3]; exact h1 j (by omega) j2
        have vk : m 257 k = U k := h1 k hk okk
        have key1 : ¬ m 257 j ≤ m 257 k → ltI (U k) (selF ok ltI nI U k).2 := fun z => by rw [← vj, ← vk]; exact Int32.not_le.mp z
        have key2 : m 257 j ≤ m 257 k → ltI (U k) (selF ok ltI nI U k).2 → False := fun z y => by rw [← vj, ← vk] at y; exact absurd z (Int32.not_le.mpr y)
        refine y_aload_n dX12_leastPair_26 rfl rfl ?_
        refine y_getr dX12_leastPair_27 gf_X12_63 sh_239 rfl ?_
        refine y_iload_n dX12_leastPair_30 rfl rfl ?_
        refine y_ialdN dX12_leastPair_31 sh_257 rfl (by first | omega | decide) (by decide) ?_
        refine y_aload_n dX12_leastPair_32 rfl rfl ?_
        refine y_getr dX12_leastPair_33 gf_X12_63 sh_239 rfl ?_
        refine y_iload_n dX12_leastPair_36 rfl rfl ?_
        refine y_ialdN dX12_leastPair_37 sh_257 ej (by omega) (by decide) ?_
        refine y_icmp_ge (tgt := 45) dX12_leastPair_38 (by decide) (fun h38 => ?_) (fun h38 => ?_)
        · refine y_iload_n dX12_leastPair_45 rfl rfl ?_
          refine y_ist3_1 dX12_leastPair_46 rfl ?_
          refine y_iinc3_2 dX12_leastPair_47 (nI_1 _) rfl ?_
          refine y_goto (tgt := 5) dX12_leastPair_50 (by decide) ?_
          first
            | (rw [sel_y (bt := ltI) okk (Or.inl h23)] at hP; exact hP)
            | (rw [sel_y (bt := ltI) okk (Or.inr (key1 h38))] at hP; exact hP)
            | (rw [sel_n (bt := ltI) (fun z => z.2.elim h23 (key2 h38))] at hP; exact hP)
            | (rw [sel_no (fun z => h3 k (h1 k hk z ▸ h17))] at hP; exact hP)
        · refine y_iload_n dX12_leastPair_41 rfl rfl ?_
          refine y_goto (tgt := 46) dX12_leastPair_42 (by decide) ?_
          refine y_ist3_1 dX12_leastPair_46 rfl ?_
          refine y_iinc3_2 dX12_leastPair_47 (nI_1 _) rfl ?_
          refine y_goto (tgt := 5) dX12_leastPair_50 (by decide) ?_
          first
            | (rw [sel_y (bt := ltI) okk (Or.inl h23)] at hP; exact hP)
            | (rw [sel_y (bt := ltI) okk (Or.inr (key1 h38))] at hP; exact hP)
            | (rw [sel_n (bt := ltI) (fun z => z.2.elim h23 (key2 h38))] at hP; exact hP)
            | (rw [sel_no (fun z => h3 k (h1 k hk z ▸ h17))] at hP; exact hP)
theorem gP_m {m m' : sM} {V : Nat → Int32} (e1 : m' 247 = m 247) (e2 : m' 249 = m 249) (e3 : m' 250 = m 250) (p : Nat) : gP m' V p = gP m V p := by
  unfold gP
  rw [bo_m e1 e2 e3]
theorem okP_m {m m' : sM} (e1 : m' 246 = m 246) (e2 : m' 248 = m 248) (p : Nat) : okP m' p ↔ okP m p := by
  unfold okP
  rw [e1, e2]
theorem anyS {x : Int32} {f : Nat → Int32} {j : Nat} (h : x = 0 ↔ ∀ i, i < j → f i = 0) (h1 : x = 0) (h2 : f j = 0) : ∀ i, i < j + 1 → f i = 0 := fun i hi => by
  by_cases e : i = j
  · rw [e]; exact h2
  · exact h.mp h1 i (by omega)
theorem WM.o {m0 M : sM} (h : WM m0 M) {a : Nat} (h1 : a ≠ 239) (h2 : a ≠ 254) (h3 : a ≠ 255) : M a = m0 a := by
  rcases h with rfl | ⟨h, R, rfl⟩
  · rfl
  · rw [stR_o h2 h3, wk_o h1]
set_option maxHeartbeats 1000000 in
theorem c_X12_needPairs {L : Nat} {xs : Nat → Int32} {d : Nat} {m : sM} {n : sN} {Q : sQ} {k : Nat} {r : Int32} (hr : r = nI k) (hk : k < 6) (hs : m 241 k = -1 ∨ ∃ s : Nat, s ≤ 40 ∧ m 241 k = nI s) (hD : ∀ p, p < 16 → okP m p → flR (bo m (p / 4) (p % 4)) ∧ dOK (bo m (p / 4) (p % 4))) (hQ1 : ¬ PLp m k = 0 → Q (some (.int (-3))) (metM m (PLp m k)) n) (hQ0 : PLp m k = 0 → ∀ B M, WM B M → (∀ a, a ≠ 257 → B a = m a) → (∀ p, p < 16 → okP m p → B 257 p = gP m (fun i => m 242 (40 * k + i)) p) → (∀ p, p < 16 → ¬ okP m p → B 257 p = -1) → Q (some (.int 0)) M n) : sRun (scT L xs) (d + 10) yX12_needPairs cX12_needPairs 6 (some .int) [.ref 239, .int r] m n Q := by
  subst hr
  refine y_run (own := "LoafFallModel") rfl (by decide +kernel) (Nat.le_of_ble_eq_true rfl) rfl ?_
  refine y_iconst (v := 0) dX12_needPairs_0 (by decide) ?_
  refine y_ist6_2 dX12_needPairs_1 rfl ?_
  refine y_iconst (v := 0) dX12_needPairs_2 (by decide) ?_
  refine y_ist6_3 dX12_needPairs_3 rfl ?_
  refine y_iconst (v := 0) dX12_needPairs_4 (by decide) ?_
  refine y_ist6_4 dX12_needPairs_5 rfl ?_
  refine cnt (P := fun j => ∀ any oth : Int32, (any = 0 ↔ ∀ i, i < j → m 246 i = 0) → (oth = 0 ↔ ∀ i, i < j → m 248 i = 0) → sV (scT L xs) (d + 9) "LoafFallModel" cX12_needPairs 6 (some .int) Q 7 [some (.ref 239), some (.int (nI k)), some (.int any), some (.int oth), some (.int (nI j)), none] [] m n) 4 ?_ ?_ 0 (by omega) 0 0 ⟨fun _ i hi => absurd hi (by omega), fun _ => rfl⟩ ⟨fun _ i hi => absurd hi (by omega), fun _ => rfl⟩
  · intro any oth ha ho
    refine y_iload dX12_needPairs_7 rfl ?_
    refine y_iconst (v := 4) dX12_needPairs_9 (by decide) ?_
    refine y_icmp_ge (tgt := 59) dX12_needPairs_10 (by decide) (fun h10 => ?_) (fun h10 => absurd (nI_le (a := 4) (b := 4) (Nat.le_refl _) (by decide)) h10)
    have ea : any = 0 ↔ CNT m 0 = 0 := ⟨fun z => cnt_0 4 (ha.mp z), fun z => ha.mpr ((cnt_e 4 (by omega)).2 z)⟩
    have eo : oth = 0 ↔ CNT m 1 = 0 := ⟨fun z => cnt_0 4 (ho.mp z), fun z => ho.mpr ((cnt_e 4 (by omega)).2 z)⟩
    have eL : PLp m k = ncL m k (if any = 0 ∨ oth = 0 then 0 else 1) := by
      unfold PLp ncL
      by_cases z : any = 0 ∨ oth = 0
      · rw [if_pos (z.elim (fun e => Or.inl (ea.mp e)) (fun e => Or.inr (eo.mp e))), if_pos (by rw [if_pos z])]
      · rw [if_neg (fun y => z (y.elim (fun e => Or.inl (ea.mpr e)) (fun e => Or.inr (eo.mpr e)))), if_neg (by rw [if_neg z]; decide)]
    suffices hs2 : ∀ t : Int32, t = (if any = 0 ∨ oth = 0 then 0 else 1) → sV (scT L xs) (d + 9) "LoafFallModel" cX12_needPairs 6 (some .int) Q 74 [some (.ref 239), some (.int (nI k)), some (.int any), some (.int oth), some (.int (nI 4)), none] [.int t, .int (nI k), .ref 239] m n by
      refine y_aload_n dX12_needPairs_59 rfl rfl ?_
      refine y_iload_n dX12_needPairs_60 rfl rfl ?_
      refine y_iload_n dX12_needPairs_61 rfl rfl ?_
      refine y_if_eq (tgt := 73) dX12_needPairs_62 (by decide) (fun h62 => ?_) (fun h62 => ?_)
      · refine y_iconst (v := 0) dX12_needPairs_73 (by decide) ?_
        exact hs2 _ (by first | exact (if_pos (Or.inl h62)).symm | exact (if_pos (Or.inr h66)).symm | exact (if_neg (fun z => z.elim h62 h66)).symm)
      · refine y_iload_n dX12_needPairs_65 rfl rfl ?_
        refine y_if_eq (tgt := 73) dX12_needPairs_66 (by decide) (fun h66 => ?_) (fun h66 => ?_)
        · refine y_iconst (v := 0) dX12_needPairs_73 (by decide) ?_
          exact hs2 _ (by first | exact (if_pos (Or.inl h62)).symm | exact (if_pos (Or.inr h66)).symm | exact (if_neg (fun z => z.elim h62 h66)).symm)
        · refine y_iconst (v := 1) dX12_needPairs_69 (by decide) ?_
          refine y_goto (tgt := 74) dX12_needPairs_70 (by decide) ?_
          exact hs2 _ (by first | exact (if_pos (Or.inl h62)).symm | exact (if_pos (Or.inr h66)).symm | exact (if_neg (fun z => z.elim h62 h66)).symm)
    intro t ht
    rw [← ht] at eL
    refine y_ivI2 dX12_needPairs_74 mv_X12_256 my_X12_needCut (Or.inl rfl) sh_239 ?_
    refine c_X12_needCut rfl hk hs (fun z => ⟨_, rfl, ?_⟩) (fun z => ⟨_, rfl, ?_⟩)
    · have h00 : PLp m k = 0 := by rw [eL]; exact z
      refine y_ist6_4 dX12_needPairs_77 rfl ?_
      refine y_iload dX12_needPairs_79 rfl ?_
      refine y_if_ge (tgt := 87) dX12_needPairs_81 (by decide) (fun h81 => ?_) (fun h81 => absurd (by decide) h81)
      refine y_iconst (v := 0) dX12_needPairs_87 (by decide) ?_
      refine y_ist6_5 dX12_needPairs_88 rfl ?_
      refine cnt (P := fun p => ∀ B M, WM B M → (∀ a, a ≠ 257 → B a = m a) → (∀ q, q < p → okP m q → B 257 q = gP m (fun i => m 242 (40 * k + i)) q) → (∀ q, q < p → ¬ okP m q → B 257 q = -1) → sV (scT L xs) (d + 9) "LoafFallModel" cX12_needPairs 6 (some .int) Q 90 [some (.ref 239), some (.int (nI k)), some (.int any), some (.int oth), some (.int 0), some (.int (nI p))] [] M n) 16 ?_ ?_ 0 (by omega) m m (Or.inl rfl) (fun _ _ => rfl) (fun q hq => absurd hq (by omega)) (fun q hq => absurd hq (by omega))
      · intro B M hW b1 b2 b3
        refine y_iload dX12_needPairs_90 rfl ?_
        refine y_bipush (v := 16) dX12_needPairs_92 (by decide) ?_
        refine y_icmp_ge (tgt := 163) dX12_needPairs_94 (by decide) (fun h94 => ?_) (fun h94 => absurd (nI_le (a := 16) (b := 16) (Nat.le_refl _) (by decide)) h94)
        refine y_iconst (v := 0) dX12_needPairs_163 (by decide) ?_
        refine y_ireturn dX12_needPairs_164 rfl rfl ?_
        exact hQ0 h00 B M hW b1 b2 b3
      · intro p hk hP
        intro B M hW b1 b2 b3
        have mb : ∀ a, (a < 239 ∨ (240 ≤ a ∧ a < 254 ∧ a ≠ 243 ∧ a ≠ 251 ∧ a ≠ 252) ∨ a = 259) → M a = m a := fun a ha => (hW.fr.1 a ha).trans (b1 a (by omega))
        have m257 : M 257 = B 257 := hW.o (by omega) (by omega) (by omega)
        refine y_iload dX12_needPairs_90 rfl ?_
        refine y_bipush (v := 16) dX12_needPairs_92 (by decide) ?_
        refine y_icmp_ge (tgt := 163) dX12_needPairs_94 (by decide) (fun h94 => absurd h94 (nI_ge (a := p) (b := 16) hk (by decide))) (fun h94 => ?_)
        refine y_aload_n dX12_needPairs_97 rfl rfl ?_
        refine y_getr dX12_needPairs_98 gf_X12_63 sh_239 rfl ?_
        refine y_iload dX12_needPairs_101 rfl ?_
        refine y_iconst (v := -1) dX12_needPairs_103 (by decide) ?_
        refine y_iastN dX12_needPairs_104 sh_257 rfl (by first | omega | decide) (by decide) ?_
        generalize hM1 : s_up M 257 (upd (M 257) p (-1)) = M1
        rw [m257] at hM1
        have hW1 : WM (s_up B 257 (upd (B 257) p (-1))) M1 := by rw [← hM1]; exact hW.up (by omega) (by omega) (by omega)
        have mb1 : ∀ a, a ≠ 257 → M1 a = M a := fun a ha => by rw [← hM1, s_upN ha]
        refine y_aload_n dX12_needPairs_105 rfl rfl ?_
        refine y_getr dX12_needPairs_106 gf_X12_29 sh_239 rfl ?_
        refine y_iload dX12_needPairs_109 rfl ?_
        refine y_iconst (v := 4) dX12_needPairs_111 (by decide) ?_
        refine y_idivN (a := p) (b := 4) dX12_needPairs_112 rfl rfl (by omega) (by decide) (by decide) ?_
        refine y_zaldN dX12_needPairs_113 sh_246 rfl (by first | omega | decide) (by decide) ?_
        rw [mb1 246 (by omega), mb 246 (by omega)]
        refine y_if_eq (tgt := 157) dX12_needPairs_114 (by decide) (fun h114 => ?_) (fun h114 => ?_)
        · refine y_iinc6_5 dX12_needPairs_157 (nI_1 _) rfl ?_
          refine y_goto (tgt := 90) dX12_needPairs_160 (by decide) ?_
          first
            | (have w2 := (WM.st (m0 := s_up B 257 (upd (B 257) p (-1))) (h := h') (R := BV (bothR (s_up B 257 (upd (B 257) p (-1))) (p / 4) (p % 4) X2))).up (a := 257) (K := upd (upd (B 257) p (-1)) p (gP m (fun i => m 242 (40 * k + i)) p)) (by omega) (by omega) (by omega)
               rw [stR_o (a := 257) (by omega) (by omega), wk_o (a := 257) (by omega), s_upS]
               refine hP _ _ w2 (fun a ha => by rw [s_upN ha, s_upN ha]; exact b1 a ha) (fun q hq okq => ?_) (fun q hq okq => ?_)
               · rw [s_upS, upd_ap]
                 by_cases e : q = p
                 · rw [if_pos e, e]
                 · rw [if_neg e, updN e]; exact b2 q (by omega) okq
               · have hne : q ≠ p := fun e => okq (e ▸ ok)
                 rw [s_upS, updN hne, updN hne]
                 exact b3 q (by omega) okq)
            | (have nok : ¬ okP m p := fun z => (by
                 first
                   | exact z.1 h114
                   | exact z.2 h126)
               refine hP _ M1 hW1 (fun a ha => by rw [s_upN ha]; exact b1 a ha) (fun q hq okq => ?_) (fun q hq okq => ?_)
               · have hne : q ≠ p := fun e => nok (e ▸ okq)
                 rw [s_upS, updN hne]
                 exact b2 q (by omega) okq
               · rw [s_upS, upd_ap]
                 by_cases e : q = p
                 · rw [if_pos e]
                 · rw [if_neg e]; exact b3 q (by omega) okq)
        · refine y_aload_n dX12_needPairs_117 rfl rfl ?_
          refine y_getr dX12_needPairs_118 gf_X12_36 sh_239 rfl ?_
          refine y_iload dX12_needPairs_121 rfl ?_
          refine y_iconst (v := 4) dX12_needPairs_123 (by decide) ?_
          refine y_iremN (a := p) (b := 4) dX12_needPairs_124 rfl rfl (by omega) (by decide) (by decide) ?_
          refine y_zaldN dX12_needPairs_125 sh_248 rfl (by first | omega | decide) (by decide) ?_
          rw [mb1 248 (by omega), mb 248 (by omega)]
          refine y_if_eq (tgt := 157) dX12_needPairs_126 (by decide) (fun h126 => ?_) (fun h126 => ?_)
          · refine y_iinc6_5 dX12_needPairs_157 (nI_1 _) rfl ?_
            refine y_goto (tgt := 90) dX12_needPairs_160 (by decide) ?_
            first
              | (have w2 := (WM.st (m0 := s_up B 257 (upd (B 257) p (-1))) (h := h') (R := BV (bothR (s_up B 257 (upd (B 257) p (-1))) (p / 4) (p % 4) X2))).up (a := 257) (K := upd (upd (B 257) p (-1)) p (gP m (fun i => m 242 (40 * k + i)) p)) (by omega) (by omega) (by omega)
                 rw [stR_o (a := 257) (by omega) (by omega), wk_o (a := 257) (by omega), s_upS]
                 refine hP _ _ w2 (fun a ha => by rw [s_upN ha, s_upN ha]; exact b1 a ha) (fun q hq okq => ?_) (fun q hq okq => ?_)
                 · rw [s_upS, upd_ap]
                   by_cases e : q = p
                   · rw [if_pos e, e]
                   · rw [if_neg e, updN e]; exact b2 q (by omega) okq
                 · have hne : q ≠ p := fun e => okq (e ▸ ok)
                   rw [s_upS, updN hne, updN hne]
                   exact b3 q (by omega) okq)
              | (have nok : ¬ okP m p := fun z => (by
                   first
                     | exact z.1 h114
                     | exact z.2 h126)
                 refine hP _ M1 hW1 (fun a ha => by rw [s_upN ha]; exact b1 a ha) (fun q hq okq => ?_) (fun q hq okq => ?_)
                 · have hne : q ≠ p := fun e => nok (e ▸ okq)
                   rw [s_upS, updN hne]
                   exact b2 q (by omega) okq
                 · rw [s_upS, upd_ap]
                   by_cases e : q = p
                   · rw [if_pos e]
                   · rw [if_neg e]; exact b3 q (by omega) okq)
          · have ok : okP m p := ⟨h114, h126⟩
            obtain ⟨hf, hd⟩ := hD p hk ok
            have eB : bo (s_up B 257 (upd (B 257) p (-1))) (p / 4) (p % 4) = bo m (p / 4) (p % 4) := bo_m (by rw [s_upN (by omega), b1 _ (by omega)]) (by rw [s_upN (by omega), b1 _ (by omega)]) (by rw [s_upN (by omega), b1 _ (by omega)])
            refine y_aload_n dX12_needPairs_129 rfl rfl ?_
            refine y_iload dX12_needPairs_130 rfl ?_
            refine y_iconst (v := 4) dX12_needPairs_132 (by decide) ?_
            refine y_idivN (a := p) (b := 4) dX12_needPairs_133 rfl rfl (by omega) (by decide) (by decide) ?_
            refine y_iload dX12_needPairs_134 rfl ?_
            refine y_iconst (v := 4) dX12_needPairs_136 (by decide) ?_
            refine y_iremN (a := p) (b := 4) dX12_needPairs_137 rfl rfl (by omega) (by decide) (by decide) ?_
            refine y_ivV2 dX12_needPairs_138 mv_X12_260 my_X12_layBoth (Or.inl rfl) sh_239 ?_
            refine c_layBoth (f := p / 4) (g := p % 4) hW1 rfl (by omega) rfl (by omega) (fun hh X2 => ⟨rfl, ?_⟩)
            have hDX : dOK (bothR (s_up B 257 (upd (B 257) p (-1))) (p / 4) (p % 4) X2) := d_eq (R := bo m (p / 4) (p % 4)) hd (fun q h1 h2 => by rw [bo_X h2, eB])
            have eq36 : ∀ q, q < 36 → bothR (s_up B 257 (upd (B 257) p (-1))) (p / 4) (p % 4) X2 q = bo m (p / 4) (p % 4) q := fun q hq => by rw [bo_X hq, eB]
            refine y_aload_n dX12_needPairs_141 rfl rfl ?_
            refine y_ivV0 dX12_needPairs_142 mv_X12_263 my_X12_bakes (Or.inl rfl) sh_239 ?_
            refine c_bakesW (wk_b (by omega)) hDX (fun h' => ⟨rfl, ?_⟩)
            refine y_aload_n dX12_needPairs_145 rfl rfl ?_
            refine y_getr dX12_needPairs_146 gf_X12_63 sh_239 rfl ?_
            refine y_iload dX12_needPairs_149 rfl ?_
            refine y_aload_n dX12_needPairs_151 rfl rfl ?_
            refine y_iload_n dX12_needPairs_152 rfl rfl ?_
            refine y_ivI1 dX12_needPairs_153 mv_X12_266 my_X12_unlike (Or.inl rfl) sh_239 ?_
            refine c_X12_unlike (wk_b (by omega)) (r := k) rfl (by omega) ⟨_, rfl, ?_⟩
            rw [show unlS (cutF (BV (bothR (s_up B 257 (upd (B 257) p (-1))) (p / 4) (p % 4) X2))) (fun i => wkM (s_up B 257 (upd (B 257) p (-1))) 1316 242 (40 * k + i)) 24 = gP m (fun i => m 242 (40 * k + i)) p from unl_eq 24 (fun i hi => ⟨CV_congr hf hd hDX (eqD_36 hd.2.1 eq36) hi, by rw [wk_o (by omega), s_upN (by omega), b1 242 (by omega)]⟩)]
            refine y_iastN dX12_needPairs_156 sh_257 rfl (by first | omega | decide) (by decide) ?_
            refine y_iinc6_5 dX12_needPairs_157 (nI_1 _) rfl ?_
            refine y_goto (tgt := 90) dX12_needPairs_160 (by decide) ?_
            first
              | (have w2 := (WM.st (m0 := s_up B 257 (upd (B 257) p (-1))) (h := h') (R := BV (bothR (s_up B 257 (upd (B 257) p (-1))) (p / 4) (p % 4) X2))).up (a := 257) (K := upd (upd (B 257) p (-1)) p (gP m (fun i => m 242 (40 * k + i)) p)) (by omega) (by omega) (by omega)
                 rw [stR_o (a := 257) (by omega) (by omega), wk_o (a := 257) (by omega), s_upS]
                 refine hP _ _ w2 (fun a ha => by rw [s_upN ha, s_upN ha]; exact b1 a ha) (fun q hq okq => ?_) (fun q hq okq => ?_)
                 · rw [s_upS, upd_ap]
                   by_cases e : q = p
                   · rw [if_pos e, e]
                   · rw [if_neg e, updN e]; exact b2 q (by omega) okq
                 · have hne : q ≠ p := fun e => okq (e ▸ ok)
                   rw [s_upS, updN hne, updN hne]
                   exact b3 q (by omega) okq)
              | (have nok : ¬ okP m p := fun z => (by
                   first
                     | exact z.1 h114
                     | exact z.2 h126)
                 refine hP _ M1 hW1 (fun a ha => by rw [s_upN ha]; exact b1 a ha) (fun q hq okq => ?_) (fun q hq okq => ?_)
                 · have hne : q ≠ p := fun e => nok (e ▸ okq)
                   rw [s_upS, updN hne]
                   exact b2 q (by omega) okq
                 · rw [s_upS, upd_ap]
                   by_cases e : q = p
                   · rw [if_pos e]
                   · rw [if_neg e]; exact b3 q (by omega) okq)
    · rw [← eL]
      refine y_ist6_4 dX12_needPairs_77 rfl ?_
      refine y_iload dX12_needPairs_79 rfl ?_
      refine y_if_ge (tgt := 87) dX12_needPairs_81 (by decide) (fun h81 => absurd h81 (by decide)) (fun h81 => ?_)
      refine y_iload dX12_needPairs_84 rfl ?_
      refine y_ireturn dX12_needPairs_86 rfl rfl ?_
      exact hQ1 (by rw [eL]; exact z)
  · intro j hk hP
    intro any oth ha ho
    refine y_iload dX12_needPairs_7 rfl ?_
    refine y_iconst (v := 4) dX12_needPairs_9 (by decide) ?_
    refine y_icmp_ge (tgt := 59) dX12_needPairs_10 (by decide) (fun h10 => absurd h10 (nI_ge (a := j) (b := 4) hk (by decide))) (fun h10 => ?_)
    refine y_iload_n dX12_needPairs_13 rfl rfl ?_
    refine y_if_ne (tgt := 27) dX12_needPairs_14 (by decide) (fun h14 => ?_) (fun h14 => ?_)
    · refine y_iconst (v := 1) dX12_needPairs_27 (by decide) ?_
      refine y_goto (tgt := 32) dX12_needPairs_28 (by decide) ?_
      refine y_ist6_2 dX12_needPairs_32 rfl ?_
      refine y_iload_n dX12_needPairs_33 rfl rfl ?_
      refine y_if_ne (tgt := 47) dX12_needPairs_34 (by decide) (fun h34 => ?_) (fun h34 => ?_)
      · refine y_iconst (v := 1) dX12_needPairs_47 (by decide) ?_
        refine y_goto (tgt := 52) dX12_needPairs_48 (by decide) ?_
        refine y_ist6_3 dX12_needPairs_52 rfl ?_
        refine y_iinc6_4 dX12_needPairs_53 (nI_1 _) rfl ?_
        refine y_goto (tgt := 7) dX12_needPairs_56 (by decide) ?_
        refine hP _ _ ?_ ?_
        · first
            | exact ⟨fun z => absurd z (by decide), fun z => absurd (ha.mpr (fun i hi => z i (by omega))) h14⟩
            | exact ⟨fun z => absurd z (by decide), fun z => absurd (z j (by omega)) h24⟩
            | exact ⟨fun _ i hi => anyS ha h14 h24 i hi, fun _ => rfl⟩
        · first
            | exact ⟨fun z => absurd z (by decide), fun z => absurd (ho.mpr (fun i hi => z i (by omega))) h34⟩
            | exact ⟨fun z => absurd z (by decide), fun z => absurd (z j (by omega)) h44⟩
            | exact ⟨fun _ i hi => anyS ho h34 h44 i hi, fun _ => rfl⟩
      · refine y_aload_n dX12_needPairs_37 rfl rfl ?_
        refine y_getr dX12_needPairs_38 gf_X12_36 sh_239 rfl ?_
        refine y_iload dX12_needPairs_41 rfl ?_
        refine y_zaldN dX12_needPairs_43 sh_248 rfl (by first | omega | decide) (by decide) ?_
        refine y_if_eq (tgt := 51) dX12_needPairs_44 (by decide) (fun h44 => ?_) (fun h44 => ?_)
        · refine y_iconst (v := 0) dX12_needPairs_51 (by decide) ?_
          refine y_ist6_3 dX12_needPairs_52 rfl ?_
          refine y_iinc6_4 dX12_needPairs_53 (nI_1 _) rfl ?_
          refine y_goto (tgt := 7) dX12_needPairs_56 (by decide) ?_
          refine hP _ _ ?_ ?_
          · first
              | exact ⟨fun z => absurd z (by decide), fun z => absurd (ha.mpr (fun i hi => z i (by omega))) h14⟩
              | exact ⟨fun z => absurd z (by decide), fun z => absurd (z j (by omega)) h24⟩
              | exact ⟨fun _ i hi => anyS ha h14 h24 i hi, fun _ => rfl⟩
          · first
              | exact ⟨fun z => absurd z (by decide), fun z => absurd (ho.mpr (fun i hi => z i (by omega))) h34⟩
              | exact ⟨fun z => absurd z (by decide), fun z => absurd (z j (by omega)) h44⟩
              | exact ⟨fun _ i hi => anyS ho h34 h44 i hi, fun _ => rfl⟩
        · refine y_iconst (v := 1) dX12_needPairs_47 (by decide) ?_
          refine y_goto (tgt := 52) dX12_needPairs_48 (by decide) ?_
          refine y_ist6_3 dX12_needPairs_52 rfl ?_
          refine y_iinc6_4 dX12_needPairs_53 (nI_1 _) rfl ?_
          refine y_goto (tgt := 7) dX12_needPairs_56 (by decide) ?_
          refine hP _ _ ?_ ?_
          · first
              | exact ⟨fun z => absurd z (by decide), fun z => absurd (ha.mpr (fun i hi => z i (by omega))) h14⟩
              | exact ⟨fun z => absurd z (by decide), fun z => absurd (z j (by omega)) h24⟩
              | exact ⟨fun _ i hi => anyS ha h14 h24 i hi, fun _ => rfl⟩
          · first
              | exact ⟨fun z => absurd z (by decide), fun z => absurd (ho.mpr (fun i hi => z i (by omega))) h34⟩
              | exact ⟨fun z => absurd z (by decide), fun z => absurd (z j (by omega)) h44⟩
              | exact ⟨fun _ i hi => anyS ho h34 h44 i hi, fun _ => rfl⟩
    · refine y_aload_n dX12_needPairs_17 rfl rfl ?_
      refine y_getr dX12_needPairs_18 gf_X12_29 sh_239 rfl ?_
      refine y_iload dX12_needPairs_21 rfl ?_
      refine y_zaldN dX12_needPairs_23 sh_246 rfl (by first | omega | decide) (by decide) ?_
      refine y_if_eq (tgt := 31) dX12_needPairs_24 (by decide) (fun h24 => ?_) (fun h24 => ?_)
      · refine y_iconst (v := 0) dX12_needPairs_31 (by decide) ?_
        refine y_ist6_2 dX12_needPairs_32 rfl ?_
        refine y_iload_n dX12_needPairs_33 rfl rfl ?_
        refine y_if_ne (tgt := 47) dX12_needPairs_34 (by decide) (fun h34 => ?_) (fun h34 => ?_)
        · refine y_iconst (v := 1) dX12_needPairs_47 (by decide) ?_
          refine y_goto (tgt := 52) dX12_needPairs_48 (by decide) ?_
          refine y_ist6_3 dX12_needPairs_52 rfl ?_
          refine y_iinc6_4 dX12_needPairs_53 (nI_1 _) rfl ?_
          refine y_goto (tgt := 7) dX12_needPairs_56 (by decide) ?_
          refine hP _ _ ?_ ?_
          · first
              | exact ⟨fun z => absurd z (by decide), fun z => absurd (ha.mpr (fun i hi => z i (by omega))) h14⟩
              | exact ⟨fun z => absurd z (by decide), fun z => absurd (z j (by omega)) h24⟩
              | exact ⟨fun _ i hi => anyS ha h14 h24 i hi, fun _ => rfl⟩
          · first
              | exact ⟨fun z => absurd z (by decide), fun z => absurd (ho.mpr (fun i hi => z i (by omega))) h34⟩
              | exact ⟨fun z => absurd z (by decide), fun z => absurd (z j (by omega)) h44⟩
              | exact ⟨fun _ i hi => anyS ho h34 h44 i hi, fun _ => rfl⟩
        · refine y_aload_n dX12_needPairs_37 rfl rfl ?_
          refine y_getr dX12_needPairs_38 gf_X12_36 sh_239 rfl ?_
          refine y_iload dX12_needPairs_41 rfl ?_
          refine y_zaldN dX12_needPairs_43 sh_248 rfl (by first | omega | decide) (by decide) ?_
          refine y_if_eq (tgt := 51) dX12_needPairs_44 (by decide) (fun h44 => ?_) (fun h44 => ?_)
          · refine y_iconst (v := 0) dX12_needPairs_51 (by decide) ?_
            refine y_ist6_3 dX12_needPairs_52 rfl ?_
            refine y_iinc6_4 dX12_needPairs_53 (nI_1 _) rfl ?_
            refine y_goto (tgt := 7) dX12_needPairs_56 (by decide) ?_
            refine hP _ _ ?_ ?_
            · first
                | exact ⟨fun z => absurd z (by decide), fun z => absurd (ha.mpr (fun i hi => z i (by omega))) h14⟩
                | exact ⟨fun z => absurd z (by decide), fun z => absurd (z j (by omega)) h24⟩
                | exact ⟨fun _ i hi => anyS ha h14 h24 i hi, fun _ => rfl⟩
            · first
                | exact ⟨fun z => absurd z (by decide), fun z => absurd (ho.mpr (fun i hi => z i (by omega))) h34⟩
                | exact ⟨fun z => absurd z (by decide), fun z => absurd (z j (by omega)) h44⟩
                | exact ⟨fun _ i hi => anyS ho h34 h44 i hi, fun _ => rfl⟩
          · refine y_iconst (v := 1) dX12_needPairs_47 (by decide) ?_
            refine y_goto (tgt := 52) dX12_needPairs_48 (by decide) ?_
            refine y_ist6_3 dX12_needPairs_52 rfl ?_
            refine y_iinc6_4 dX12_needPairs_53 (nI_1 _) rfl ?_
            refine y_goto (tgt := 7) dX12_needPairs_56 (by decide) ?_
            refine hP _ _ ?_ ?_
            · first
                | exact ⟨fun z => absurd z (by decide), fun z => absurd (ha.mpr (fun i hi => z i (by omega))) h14⟩
                | exact ⟨fun z => absurd z (by decide), fun z => absurd (z j (by omega)) h24⟩
                | exact ⟨fun _ i hi => anyS ha h14 h24 i hi, fun _ => rfl⟩
            · first
                | exact ⟨fun z => absurd z (by decide), fun z => absurd (ho.mpr (fun i hi => z i (by omega))) h34⟩
                | exact ⟨fun z => absurd z (by decide), fun z => absurd (z j (by omega)) h44⟩
                | exact ⟨fun _ i hi => anyS ho h34 h44 i hi, fun _ => rfl⟩
      · refine y_iconst (v := 1) dX12_needPairs_27 (by decide) ?_
        refine y_goto (tgt := 32) dX12_needPairs_28 (by decide) ?_
        refine y_ist6_2 dX12_needPairs_32 rfl ?_
        refine y_iload_n dX12_needPairs_33 rfl rfl ?_
        refine y_if_ne (tgt := 47) dX12_needPairs_34 (by decide) (fun h34 => ?_) (fun h34 => ?_)
        · refine y_iconst (v := 1) dX12_needPairs_47 (by decide) ?_
          refine y_goto (tgt := 52) dX12_needPairs_48 (by decide) ?_
          refine y_ist6_3 dX12_needPairs_52 rfl ?_
          refine y_iinc6_4 dX12_needPairs_53 (nI_1 _) rfl ?_
          refine y_goto (tgt := 7) dX12_needPairs_56 (by decide) ?_
          refine hP _ _ ?_ ?_
          · first
              | exact ⟨fun z => absurd z (by decide), fun z => absurd (ha.mpr (fun i hi => z i (by omega))) h14⟩
              | exact ⟨fun z => absurd z (by decide), fun z => absurd (z j (by omega)) h24⟩
              | exact ⟨fun _ i hi => anyS ha h14 h24 i hi, fun _ => rfl⟩
          · first
              | exact ⟨fun z => absurd z (by decide), fun z => absurd (ho.mpr (fun i hi => z i (by omega))) h34⟩
              | exact ⟨fun z => absurd z (by decide), fun z => absurd (z j (by omega)) h44⟩
              | exact ⟨fun _ i hi => anyS ho h34 h44 i hi, fun _ => rfl⟩
        · refine y_aload_n dX12_needPairs_37 rfl rfl ?_
          refine y_getr dX12_needPairs_38 gf_X12_36 sh_239 rfl ?_
          refine y_iload dX12_needPairs_41 rfl ?_
          refine y_zaldN dX12_needPairs_43 sh_248 rfl (by first | omega | decide) (by decide) ?_
          refine y_if_eq (tgt := 51) dX12_needPairs_44 (by decide) (fun h44 => ?_) (fun h44 => ?_)
          · refine y_iconst (v := 0) dX12_needPairs_51 (by decide) ?_
            refine y_ist6_3 dX12_needPairs_52 rfl ?_
            refine y_iinc6_4 dX12_needPairs_53 (nI_1 _) rfl ?_
            refine y_goto (tgt := 7) dX12_needPairs_56 (by decide) ?_
            refine hP _ _ ?_ ?_
            · first
                | exact ⟨fun z => absurd z (by decide), fun z => absurd (ha.mpr (fun i hi => z i (by omega))) h14⟩
                | exact ⟨fun z => absurd z (by decide), fun z => absurd (z j (by omega)) h24⟩
                | exact ⟨fun _ i hi => anyS ha h14 h24 i hi, fun _ => rfl⟩
            · first
                | exact ⟨fun z => absurd z (by decide), fun z => absurd (ho.mpr (fun i hi => z i (by omega))) h34⟩
                | exact ⟨fun z => absurd z (by decide), fun z => absurd (z j (by omega)) h44⟩
                | exact ⟨fun _ i hi => anyS ho h34 h44 i hi, fun _ => rfl⟩
          · refine y_iconst (v := 1) dX12_needPairs_47 (by decide) ?_
            refine y_goto (tgt := 52) dX12_needPairs_48 (by decide) ?_
            refine y_ist6_3 dX12_needPairs_52 rfl ?_
            refine y_iinc6_4 dX12_needPairs_53 (nI_1 _) rfl ?_
            refine y_goto (tgt := 7) dX12_needPairs_56 (by decide) ?_
            refine hP _ _ ?_ ?_
            · first
                | exact ⟨fun z => absurd z (by decide), fun z => absurd (ha.mpr (fun i hi => z i (by omega))) h14⟩
                | exact ⟨fun z => absurd z (by decide), fun z => absurd (z j (by omega)) h24⟩
                | exact ⟨fun _ i hi => anyS ha h14 h24 i hi, fun _ => rfl⟩
            · first
                | exact ⟨fun z => absurd z (by decide), fun z => absurd (ho.mpr (fun i hi => z i (by omega))) h34⟩
                | exact ⟨fun z => absurd z (by decide), fun z => absurd (z j (by omega)) h44⟩
                | exact ⟨fun _ i hi => anyS ho h34 h44 i hi, fun _ => rfl⟩
