/-! ===== cut, rests; the reference's reads of plain memory ===== -/
theorem e_v {L : Nat} {xs : Nat → Int32} {d : Nat} {m : sM} {n : sN} {Q : sQ} {b : Nat} (hb : bAt m b) {x : Int32} {p : Nat} (hx : x = nI p) (hp : p < 329) (hQ : Q (some (.int (m 254 (b + p)))) m n) : sRun (scT L xs) (d + 1) yX12_v cX12_v 2 (some .int) [.ref 239, .int x] m n Q := by
  have e := c_X12_v (L := L) (xs := xs) (d := d) (n := n) (Q := Q) (h := m 255) (R := fun p => m 254 (b + p)) hb hx hp (by rw [stR_eta]; exact hQ)
  rw [stR_eta] at e
  exact e
theorem e_c {L : Nat} {xs : Nat → Int32} {d : Nat} {m : sM} {n : sN} {Q : sQ} {b : Nat} (hb : bAt m b) {x y : Int32} {k j : Nat} (hx : x = nI k) (hy : y = nI j) (hp : 41 + 5 * k + j < 329) (hQ : Q (some (.int (m 254 (b + (41 + 5 * k + j))))) m n) : sRun (scT L xs) (d + 2) yX12_c cX12_c 3 (some .int) [.ref 239, .int x, .int y] m n Q := by
  have e := c_X12_c (L := L) (xs := xs) (d := d) (n := n) (Q := Q) (h := m 255) (R := fun p => m 254 (b + p)) hb hx hy hp (by rw [stR_eta]; exact hQ)
  rw [stR_eta] at e
  exact e
theorem e_s {L : Nat} {xs : Nat → Int32} {d : Nat} {m : sM} {n : sN} {Q : sQ} {b : Nat} (hb : bAt m b) {x y : Int32} {k j : Nat} (hx : x = nI k) (hy : y = nI j) (hp : 6 + 3 * k + j < 329) (hQ : Q (some (.int (m 254 (b + (6 + 3 * k + j))))) m n) : sRun (scT L xs) (d + 2) yX12_s cX12_s 3 (some .int) [.ref 239, .int x, .int y] m n Q := by
  have e := c_X12_s (L := L) (xs := xs) (d := d) (n := n) (Q := Q) (h := m 255) (R := fun p => m 254 (b + p)) hb hx hy hp (by rw [stR_eta]; exact hQ)
  rw [stR_eta] at e
  exact e
theorem e_f {L : Nat} {xs : Nat → Int32} {d : Nat} {m : sM} {n : sN} {Q : sQ} {b : Nat} (hb : bAt m b) {x y : Int32} {k j : Nat} (hx : x = nI k) (hy : y = nI j) (hp : 161 + 7 * k + j < 329) (hQ : Q (some (.int (m 254 (b + (161 + 7 * k + j))))) m n) : sRun (scT L xs) (d + 2) yX12_f cX12_f 3 (some .int) [.ref 239, .int x, .int y] m n Q := by
  have e := c_X12_f (L := L) (xs := xs) (d := d) (n := n) (Q := Q) (h := m 255) (R := fun p => m 254 (b + p)) hb hx hy hp (by rw [stR_eta]; exact hQ)
  rw [stR_eta] at e
  exact e
theorem e_cutOf {L : Nat} {xs : Nat → Int32} {d : Nat} {m : sM} {n : sN} {Q : sQ} {b : Nat} (hb : bAt m b) {x : Int32} {k : Nat} (hx : x = nI k) (hp : k < 24) (hQ : Q (some (.int (cutF (fun p => m 254 (b + p)) k))) m n) : sRun (scT L xs) (d + 3) yX12_cutOf cX12_cutOf 2 (some .int) [.ref 239, .int x] m n Q := by
  have e := c_X12_cutOf (L := L) (xs := xs) (d := d) (n := n) (Q := Q) (h := m 255) (R := fun p => m 254 (b + p)) hb hx hp (by rw [stR_eta]; exact hQ)
  rw [stR_eta] at e
  exact e
theorem e_tornMany {L : Nat} {xs : Nat → Int32} {d : Nat} {m : sM} {n : sN} {Q : sQ} {b : Nat} (hb : bAt m b)  (hQ : Q (some (.int (tornS (fun p => m 254 (b + p)) 24))) m n) : sRun (scT L xs) (d + 3) yX12_tornMany cX12_tornMany 3 (some .int) [.ref 239] m n Q := by
  have e := c_X12_tornMany (L := L) (xs := xs) (d := d) (n := n) (Q := Q) (h := m 255) (R := fun p => m 254 (b + p)) hb (by rw [stR_eta]; exact hQ)
  rw [stR_eta] at e
  exact e
set_option maxHeartbeats 1000000 in
theorem c_X11_cut_ok {L : Nat} {xs : Nat → Int32} {d : Nat} {m : sM} {n : sN} {Q : sQ} {k : Nat} {r : Int32} {R : Nat → Int32} (hr : r = nI k) (hk : k < 6) (l2 : m 6 4 = 1) (hD : DD m 13 R) (ht : tnR R) (hQ : ∀ m', (∀ a, a ≠ 138 + 2 * k → a ≠ 138 + 2 * k + 1 → m' a = m a) → m' (138 + 2 * k) 1 = nI 24 → (∀ i, i < 24 → m' (138 + 2 * k + 1) i = cutF R i) → Q (some (.int (m 13 5))) m' n) : sRun (scT L xs) (d + 2) yX11_cut cX11_cut 3 (some .int) [.ref 0, .int r] m n Q := by
  subst hr
  refine y_run (own := "LoafFall") rfl (by decide +kernel) (Nat.le_of_ble_eq_true rfl) rfl ?_
  refine y_iload_n dX11_cut_0 rfl rfl ?_
  refine y_isI1 dX11_cut_1 ms_X11_101 my_X11_isRow (Or.inl rfl) ?_
  refine c_X11_isRow (fun _ => ⟨_, rfl, ?_⟩) (fun z => absurd (⟨k, hk, rfl⟩ : inN (nI k) 6) z)
  refine y_if_ne (tgt := 9) dX11_cut_4 (by decide) (fun h4 => ?_) (fun h4 => absurd h4 (by decide))
  refine y_aload_n dX11_cut_9 rfl rfl ?_
  refine y_getr dX11_cut_10 gf_X11_40 sh_0 rfl ?_
  refine y_geti dX11_cut_13 gf_X11_211 sh_6 rfl ?_
  refine y_if_ne (tgt := 22) dX11_cut_16 (by decide) (fun h16 => ?_) (fun h16 => absurd h16 (by rw [l2]; decide))
  refine y_aload_n dX11_cut_22 rfl rfl ?_
  refine y_getr dX11_cut_23 gf_X11_11 sh_0 rfl ?_
  refine y_iload_n dX11_cut_26 rfl rfl ?_
  refine y_aaldN dX11_cut_27 (by decide) sh_1 rfl (rwA (k := k) (by omega)) (by decide) ?_
  refine y_bipush (v := 24) dX11_cut_28 (by decide) ?_
  refine y_ivV1 dX11_cut_30 mv_X11_109 my_X8_renew (Or.inl rfl) (rwI (k := k) (by omega)).1 ?_
  refine c_X8_renew (q := 24) (rwI hk) rfl (by omega) (fun m0 f1 f2 f3 f4 => ⟨rfl, ?_⟩)
  refine y_iconst (v := 0) dX11_cut_33 (by decide) ?_
  refine y_ist3_2 dX11_cut_34 rfl ?_
  refine cnt (P := fun i => ∀ m', (∀ a, a ≠ 138 + 2 * k + 1 → m' a = m0 a) → (∀ j, j < i → m' (138 + 2 * k + 1) j = cutF R j) → sV (scT L xs) (d + 1) "LoafFall" cX11_cut 3 (some .int) Q 35 [some (.ref 0), some (.int (nI k)), some (.int (nI i))] [] m' n) 24 ?_ ?_ 0 (by omega) m0 (fun _ _ => rfl) (fun j hj => absurd hj (by omega))
  · intro m' a1 a2
    refine y_iload_n dX11_cut_35 rfl rfl ?_
    refine y_bipush (v := 24) dX11_cut_36 (by decide) ?_
    refine y_icmp_ge (tgt := 69) dX11_cut_38 (by decide) (fun h38 => ?_) (fun h38 => absurd (nI_le (a := 24) (b := 24) (Nat.le_refl _) (by decide)) h38)
    refine y_aload_n dX11_cut_69 rfl rfl ?_
    refine y_getr dX11_cut_70 gf_X11_40 sh_0 rfl ?_
    refine y_getr dX11_cut_73 gf_X11_212 sh_6 rfl ?_
    refine y_geti dX11_cut_76 gf_X11_273 sh_13 rfl ?_
    refine y_ireturn dX11_cut_79 rfl rfl ?_
    rw [a1 13 (by omega), f1 13 (by omega) (by omega)]
    exact hQ m' (fun a h1 h2 => by rw [a1 a h2, f1 a h1 h2]) (by rw [a1 _ (by omega)]; exact f2) a2
  · intro i hk hP
    have hk6 : k < 6 := by omega
    intro m' a1 a2
    refine y_iload_n dX11_cut_35 rfl rfl ?_
    refine y_bipush (v := 24) dX11_cut_36 (by decide) ?_
    refine y_icmp_ge (tgt := 69) dX11_cut_38 (by decide) (fun h38 => absurd h38 (nI_ge (a := i) (b := 24) hk (by decide))) (fun h38 => ?_)
    refine y_aload_n dX11_cut_41 rfl rfl ?_
    refine y_getr dX11_cut_42 gf_X11_11 sh_0 rfl ?_
    refine y_iload_n dX11_cut_45 rfl rfl ?_
    refine y_aaldN dX11_cut_46 (by decide) sh_1 rfl (rwA (k := k) (by omega)) (by decide) ?_
    refine y_getr dX11_cut_47 gf_X11_117 (rwI (k := k) (by omega)).1 rfl ?_
    refine y_iload_n dX11_cut_50 rfl rfl ?_
    refine y_aload_n dX11_cut_51 rfl rfl ?_
    refine y_getr dX11_cut_52 gf_X11_40 sh_0 rfl ?_
    refine y_getr dX11_cut_55 gf_X11_212 sh_6 rfl ?_
    refine y_iload_n dX11_cut_58 rfl rfl ?_
    refine y_ivI1 dX11_cut_59 mv_X11_270 my_X2_lookOf (Or.inl rfl) sh_13 ?_
    refine c_X2_lookOf (k := i) (R := R) lf6.2.2.2.1 (DD_m hD (fun c h1 h2 => by rw [a1 c (by omega), f1 c (by omega) (by omega)])) ht rfl hk ⟨_, rfl, ?_⟩
    refine y_iastN dX11_cut_62 (rwI (k := k) (by omega)).2 rfl (by first | omega | decide) (by decide) ?_
    refine y_iinc3_2 dX11_cut_63 (nI_1 _) rfl ?_
    refine y_goto (tgt := 35) dX11_cut_66 (by decide) ?_
    refine hP _ (fun a h1 => by rw [s_upN h1]; exact a1 a h1) (fun j hj => ?_)
    rw [s_upS]
    by_cases z : j = i
    · rw [z, updS]
    · rw [updN z]; exact a2 j (by omega)
def ctG (R : Nat → Int32) : Nat → Int32 := fun i => if i < 24 then cutF R i else 0
set_option maxHeartbeats 1000000 in
theorem c_X12_cut_ok {L : Nat} {xs : Nat → Int32} {d : Nat} {m : sM} {n : sN} {Q : sQ} {k : Nat} {r : Int32} (hr : r = nI k) (hk : k < 6) (l1 : m 253 0 = 1) (hQ : Q (some (.int (tornS (lfR m 0) 24))) (s_up (s_up (wkM m (329 * 0)) 241 (upd (m 241) k (nI 24))) 242 (layN (ctG (lfR m 0)) (40 * k) (40 * k + 40) (m 242))) n) : sRun (scT L xs) (d + 4) yX12_cut cX12_cut 3 (some .int) [.ref 239, .int r] m n Q := by
  subst hr
  refine y_run (own := "LoafFallModel") rfl (by decide +kernel) (Nat.le_of_ble_eq_true rfl) rfl ?_
  refine y_iload_n dX12_cut_0 rfl rfl ?_
  refine y_isI1 dX12_cut_1 ms_X12_96 my_X12_isRow (Or.inl rfl) ?_
  refine c_X12_isRow (fun _ => ⟨_, rfl, ?_⟩) (fun z => absurd (⟨k, hk, rfl⟩ : inN (nI k) 6) z)
  refine y_if_ne (tgt := 9) dX12_cut_4 (by decide) (fun h4 => ?_) (fun h4 => absurd h4 (by decide))
  refine y_aload_n dX12_cut_9 rfl rfl ?_
  refine y_getr dX12_cut_10 gf_X12_51 sh_239 rfl ?_
  refine y_iconst (v := 0) dX12_cut_13 (by decide) ?_
  refine y_zaldN dX12_cut_14 sh_253 rfl (by first | omega | decide) (by decide) ?_
  refine y_if_ne (tgt := 21) dX12_cut_15 (by decide) (fun h15 => ?_) (fun h15 => absurd h15 (by rw [l1]; decide))
  refine y_aload_n dX12_cut_21 rfl rfl ?_
  refine y_iconst (v := 0) dX12_cut_22 (by decide) ?_
  refine y_ivV1 dX12_cut_23 mv_X12_174 my_X12_look (Or.inl rfl) sh_239 ?_
  refine c_X12_look (j := 0) rfl ⟨rfl, ?_⟩
  refine y_aload_n dX12_cut_26 rfl rfl ?_
  refine y_getr dX12_cut_27 gf_X12_13 sh_239 rfl ?_
  refine y_iload_n dX12_cut_30 rfl rfl ?_
  refine y_bipush (v := 24) dX12_cut_31 (by decide) ?_
  refine y_iastN dX12_cut_33 sh_241 rfl (by first | omega | decide) (by decide) ?_
  refine y_iconst (v := 0) dX12_cut_34 (by decide) ?_
  refine y_ist3_2 dX12_cut_35 rfl ?_
  rw [wk_o (show 241 ≠ 239 by omega)]
  obtain ⟨m0, em⟩ : ∃ m0, m0 = s_up (wkM m (329 * 0)) 241 (upd (m 241) k (nI 24)) := ⟨_, rfl⟩
  change sV _ _ _ _ _ _ _ _ _ _ (s_up (wkM m (329 * 0)) 241 (upd (m 241) k (nI 24))) n
  rw [← em] at hQ ⊢
  have e42 : m0 242 = m 242 := by rw [em, s_upN (by omega), wk_o (by omega)]
  have e54 : m0 254 = m 254 := by rw [em, s_upN (by omega), wk_o (by omega)]
  have hb0 : bAt m0 (329 * 0) := by rw [em]; exact b_up (wk_b (by omega)) (by decide)
  have e0 : s_up m0 242 (layN (ctG (lfR m 0)) (40 * k) (40 * k + 0) (m0 242)) = m0 := by rw [layN_0]; exact s_id
  refine cnt (P := fun j => ∀ m' : sM, m' = s_up m0 242 (layN (ctG (lfR m 0)) (40 * k) (40 * k + j) (m0 242)) → sV (scT L xs) (d + 3) "LoafFallModel" cX12_cut 3 (some .int) Q 36 [some (.ref 239), some (.int (nI k)), some (.int (nI j))] [] m' n) 40 ?_ ?_ 0 (by omega) m0 e0.symm
  · intro m' hm
    refine y_iload_n dX12_cut_36 rfl rfl ?_
    refine y_bipush (v := 40) dX12_cut_37 (by decide) ?_
    refine y_icmp_ge (tgt := 74) dX12_cut_39 (by decide) (fun h39 => ?_) (fun h39 => absurd (nI_le (a := 40) (b := 40) (Nat.le_refl _) (by decide)) h39)
    refine y_aload_n dX12_cut_74 rfl rfl ?_
    refine y_ivI0 dX12_cut_75 mv_X12_244 my_X12_tornMany (Or.inl rfl) sh_239 ?_
    refine e_tornMany (b := 329 * 0) (by rw [hm]; exact b_up hb0 (by decide)) ⟨_, rfl, ?_⟩
    rw [show (fun p => m' 254 (329 * 0 + p)) = lfR m 0 from by funext p; rw [hm, s_upN (show 254 ≠ 242 by omega), e54]; rfl]
    refine y_ireturn dX12_cut_78 rfl rfl ?_
    rw [hm, e42]
    exact hQ
  · intro j hk hP
    intro m' hm
    refine y_iload_n dX12_cut_36 rfl rfl ?_
    refine y_bipush (v := 40) dX12_cut_37 (by decide) ?_
    refine y_icmp_ge (tgt := 74) dX12_cut_39 (by decide) (fun h39 => absurd h39 (nI_ge (a := j) (b := 40) hk (by decide))) (fun h39 => ?_)
    refine y_aload_n dX12_cut_42 rfl rfl ?_
    refine y_getr dX12_cut_43 gf_X12_16 sh_239 rfl ?_
    refine y_bipush (v := 40) dX12_cut_46 (by decide) ?_
    refine y_iload_n dX12_cut_48 rfl rfl ?_
    refine y_imulN (a := 40) (b := k) dX12_cut_49 rfl rfl ?_
    refine y_iload_n dX12_cut_50 rfl rfl ?_
    refine y_iaddN (a := 40 * k) (b := j) dX12_cut_51 rfl rfl ?_
    refine y_iload_n dX12_cut_52 rfl rfl ?_
    refine y_bipush (v := 24) dX12_cut_53 (by decide) ?_
    refine y_icmp_ge (tgt := 66) dX12_cut_55 (by decide) (fun h55 => ?_) (fun h55 => ?_)
    · refine y_iconst (v := 0) dX12_cut_66 (by decide) ?_
      refine y_iastN dX12_cut_67 sh_242 rfl (by first | omega | decide) (by decide) ?_
      refine y_iinc3_2 dX12_cut_68 (nI_1 _) rfl ?_
      refine y_goto (tgt := 36) dX12_cut_71 (by decide) ?_
      refine hP _ ?_
      rw [hm, s_upS, s_up2, ← layN_S (g := ctG (lfR m 0))]
      unfold ctG
      first
        | rw [if_pos ((nI_ltI (by omega) (by decide)).mp (Int32.not_le.mp h55))]
        | rw [if_neg (fun z => absurd h55 (Int32.not_le.mpr (nI_lt (b := 24) z (by decide))))]
    · refine y_aload_n dX12_cut_58 rfl rfl ?_
      refine y_iload_n dX12_cut_59 rfl rfl ?_
      refine y_ivI1 dX12_cut_60 mv_X12_253 my_X12_cutOf (Or.inl rfl) sh_239 ?_
      refine e_cutOf (b := 329 * 0) (k := j) (by rw [hm]; exact b_up hb0 (by decide)) rfl ((nI_ltI (by omega) (by decide)).mp (Int32.not_le.mp h55)) ⟨_, rfl, ?_⟩
      rw [show (fun p => m' 254 (329 * 0 + p)) = lfR m 0 from by funext p; rw [hm, s_upN (show 254 ≠ 242 by omega), e54]; rfl]
      refine y_goto (tgt := 67) dX12_cut_63 (by decide) ?_
      refine y_iastN dX12_cut_67 sh_242 rfl (by first | omega | decide) (by decide) ?_
      refine y_iinc3_2 dX12_cut_68 (nI_1 _) rfl ?_
      refine y_goto (tgt := 36) dX12_cut_71 (by decide) ?_
      refine hP _ ?_
      rw [hm, s_upS, s_up2, ← layN_S (g := ctG (lfR m 0))]
      unfold ctG
      first
        | rw [if_pos ((nI_ltI (by omega) (by decide)).mp (Int32.not_le.mp h55))]
        | rw [if_neg (fun z => absurd h55 (Int32.not_le.mpr (nI_lt (b := 24) z (by decide))))]
set_option maxHeartbeats 2000000 in
theorem p_cut {L : Nat} {xs : Nat → Int32} {d : Nat} {m : sM} {n : sN} {r : Int32} (h : Rel m n) : PI L xs (d + 11) yX11_cut cX11_cut 3 yX12_cut cX12_cut 3 [.int r] m n := by
  unfold PI
  by_cases hr : inN r 6
  · obtain ⟨k, hk, rfl⟩ := hr
    have hr : inN (nI k) 6 := ⟨k, hk, rfl⟩
    rcases h.l.1 with ⟨l1, l2⟩ | ⟨l1, l2, l3, l4, l5, l6, l7⟩
    · refine y_run (own := "LoafFall") rfl (by decide +kernel) (Nat.le_of_ble_eq_true rfl) rfl ?_
      refine y_iload_n dX11_cut_0 rfl rfl ?_
      refine y_isI1 dX11_cut_1 ms_X11_101 my_X11_isRow (Or.inl rfl) ?_
      refine c_X11_isRow (fun _ => ⟨_, rfl, ?_⟩) (fun z => absurd hr z)
      refine y_if_ne (tgt := 9) dX11_cut_4 (by decide) (fun h4 => ?_) (fun h4 => absurd h4 (by decide))
      refine y_aload_n dX11_cut_9 rfl rfl ?_
      refine y_getr dX11_cut_10 gf_X11_40 sh_0 rfl ?_
      refine y_geti dX11_cut_13 gf_X11_211 sh_6 rfl ?_
      refine y_if_ne (tgt := 22) dX11_cut_16 (by decide) (fun h16 => absurd l2 h16) (fun h16 => ?_)
      refine y_bipush (v := -4) dX11_cut_19 (by decide) ?_
      refine y_ireturn dX11_cut_21 rfl rfl ?_
      refine ⟨_, rfl, ?_⟩
      refine y_run (own := "LoafFallModel") rfl (by decide +kernel) (Nat.le_of_ble_eq_true rfl) rfl ?_
      refine y_iload_n dX12_cut_0 rfl rfl ?_
      refine y_isI1 dX12_cut_1 ms_X12_96 my_X12_isRow (Or.inl rfl) ?_
      refine c_X12_isRow (fun _ => ⟨_, rfl, ?_⟩) (fun z => absurd hr z)
      refine y_if_ne (tgt := 9) dX12_cut_4 (by decide) (fun h4 => ?_) (fun h4 => absurd h4 (by decide))
      refine y_aload_n dX12_cut_9 rfl rfl ?_
      refine y_getr dX12_cut_10 gf_X12_51 sh_239 rfl ?_
      refine y_iconst (v := 0) dX12_cut_13 (by decide) ?_
      refine y_zaldN dX12_cut_14 sh_253 rfl (by first | omega | decide) (by decide) ?_
      refine y_if_ne (tgt := 21) dX12_cut_15 (by decide) (fun h15 => absurd l1 h15) (fun h15 => ?_)
      refine y_bipush (v := -4) dX12_cut_18 (by decide) ?_
      refine y_ireturn dX12_cut_20 rfl rfl ?_
      exact ⟨rfl, h⟩
    · refine c_X11_cut_ok rfl hk l2 l3.1.d.2 l4.1.2.2.1 (fun m1 t1 t2 t3 => ⟨_, rfl, ?_⟩)
      refine c_X12_cut_ok rfl hk (by rw [t1 _ (by omega) (by omega)]; exact l1) ⟨?_, ?_⟩
      · rw [lfR_m (t1 254 (by omega) (by omega)), tornS_N l4.1.2.2.1 24 (Nat.le_refl _), show m 13 5 = lfR m 0 40 from l3.1.2.2.1, l4.1.wf]
      · rw [lfR_m (t1 254 (by omega) (by omega))]
        generalize em : s_up (s_up (wkM m1 (329 * 0)) 241 (upd (m1 241) k (nI 24))) 242 (layN (ctG (lfR m 0)) (40 * k) (40 * k + 40) (m1 242)) = m2
        have f1 : ∀ a, a ≠ 239 → a ≠ 241 → a ≠ 242 → m2 a = m1 a := fun a h1 h2 h3 => by rw [← em, s_upN h3, s_upN h2, wk_o h1]
        have f9 : ∀ j, j ≠ 23 → m2 239 j = m 239 j := fun j hj => by rw [← em, s_upN (by omega), s_upN (by omega), wk_j hj, t1 _ (by omega) (by omega)]
        have eo : ∀ a, a ≠ 138 + 2 * k → a ≠ 138 + 2 * k + 1 → a ≠ 239 → a ≠ 241 → a ≠ 242 → m2 a = m a := fun a h1 h2 h3 h4 h5 => by rw [f1 a h3 h4 h5, t1 a h1 h2]
        have e41 : m2 241 = upd (m 241) k (nI 24) := by rw [← em, s_upN (by omega), s_upS, t1 _ (by omega) (by omega)]
        have e42 : m2 242 = layN (ctG (lfR m 0)) (40 * k) (40 * k + 40) (m 242) := by rw [← em, s_upS, t1 _ (by omega) (by omega)]
        obtain ⟨h1, h2, h3, h4⟩ := h.1
        refine Rel_W (k := k) h ⟨?_, ?_, ?_, h4⟩ (fun a ha => ?_) (f9 28 (by omega)) (fun r hr hne => ⟨?_, ?_, ?_, fun i hi => ?_⟩) (Or.inr ⟨24, by omega, ?_, ?_, fun i hi => ?_⟩)
        · rw [eo 0 (by omega) (by omega) (by omega) (by omega) (by omega), f9 0 (by omega)]; exact h1
        · rw [eo 0 (by omega) (by omega) (by omega) (by omega) (by omega), f9 2 (by omega)]; exact h2
        · rw [eo 137 (by omega) (by omega) (by omega) (by omega) (by omega), eo 240 (by omega) (by omega) (by omega) (by omega) (by omega)]; exact h3
        · exact eo a (by omega) (by omega) (by omega) (by omega) (by omega)
        · exact eo _ (by omega) (by omega) (by omega) (by omega) (by omega)
        · exact eo _ (by omega) (by omega) (by omega) (by omega) (by omega)
        · rw [e41, updN hne]
        · rw [e42, layN_o (by omega)]
        · rw [e41, updS]
        · rw [f1 _ (by omega) (by omega) (by omega)]; exact t2
        · rw [f1 _ (by omega) (by omega) (by omega), t3 i hi, e42]
          unfold layN ctG
          rw [if_pos (by omega), show 40 * k + i - 40 * k = i by omega, if_pos hi]
  · refine y_run (own := "LoafFall") rfl (by decide +kernel) (Nat.le_of_ble_eq_true rfl) rfl ?_
    refine y_iload_n dX11_cut_0 rfl rfl ?_
    refine y_isI1 dX11_cut_1 ms_X11_101 my_X11_isRow (Or.inl rfl) ?_
    refine c_X11_isRow (fun z => absurd z hr) (fun _ => ⟨_, rfl, ?_⟩)
    refine y_if_ne (tgt := 9) dX11_cut_4 (by decide) (fun h4 => absurd (by decide) h4) (fun h4 => ?_)
    refine y_iconst (v := -1) dX11_cut_7 (by decide) ?_
    refine y_ireturn dX11_cut_8 rfl rfl ?_
    refine ⟨_, rfl, ?_⟩
    refine y_run (own := "LoafFallModel") rfl (by decide +kernel) (Nat.le_of_ble_eq_true rfl) rfl ?_
    refine y_iload_n dX12_cut_0 rfl rfl ?_
    refine y_isI1 dX12_cut_1 ms_X12_96 my_X12_isRow (Or.inl rfl) ?_
    refine c_X12_isRow (fun z => absurd z hr) (fun _ => ⟨_, rfl, ?_⟩)
    refine y_if_ne (tgt := 9) dX12_cut_4 (by decide) (fun h4 => absurd (by decide) h4) (fun h4 => ?_)
    refine y_iconst (v := -1) dX12_cut_7 (by decide) ?_
    refine y_ireturn dX12_cut_8 rfl rfl ?_
    exact ⟨rfl, h⟩
set_option maxHeartbeats 1000000 in
theorem c_X12_rests_ok {L : Nat} {xs : Nat → Int32} {d : Nat} {m : sM} {n : sN} {Q : sQ} {k : Nat} {r : Int32} (hr : r = nI k) (hk : k < 10) (l1 : m 253 0 = 1) (hi : iR (lfR m 0)) (hQ : ∀ m', frM m m' → Q (some (.int (restsF (nI k) (lfR m 0 40) 60 0 (lfR m 0)))) m' n) : sRun (scT L xs) (d + 6) yX12_rests cX12_rests 4 (some .int) [.ref 239, .int r] m n Q := by
  subst hr
  refine y_run (own := "LoafFallModel") rfl (by decide +kernel) (Nat.le_of_ble_eq_true rfl) rfl ?_
  refine y_iload_n dX12_rests_0 rfl rfl ?_
  refine y_iconst (v := 0) dX12_rests_1 (by decide) ?_
  refine y_bipush (v := 9) dX12_rests_2 (by decide) ?_
  refine y_isI3 dX12_rests_4 ms_X12_86 my_X12_in (Or.inl rfl) ?_
  refine c_X12_in (fun _ _ => ⟨_, rfl, ?_⟩) (fun a => absurd ((in_le (M := 9) (by decide)).mp (⟨k, hk, rfl⟩ : inN (nI k) 10)) a)
  refine y_if_ne (tgt := 12) dX12_rests_7 (by decide) (fun h7 => ?_) (fun h7 => absurd h7 (by decide))
  refine y_aload_n dX12_rests_12 rfl rfl ?_
  refine y_getr dX12_rests_13 gf_X12_51 sh_239 rfl ?_
  refine y_iconst (v := 0) dX12_rests_16 (by decide) ?_
  refine y_zaldN dX12_rests_17 sh_253 rfl (by first | omega | decide) (by decide) ?_
  refine y_if_ne (tgt := 24) dX12_rests_18 (by decide) (fun h18 => ?_) (fun h18 => absurd h18 (by rw [l1]; decide))
  refine y_aload_n dX12_rests_24 rfl rfl ?_
  refine y_iconst (v := 0) dX12_rests_25 (by decide) ?_
  refine y_iconst (v := 4) dX12_rests_26 (by decide) ?_
  refine y_ivV2 dX12_rests_27 mv_X12_238 my_X12_copyLoaf (Or.inl rfl) sh_239 ?_
  refine c_X12_copyLoaf (a := 0) (b := 4) rfl (by omega) rfl (by omega) (by omega) ⟨rfl, ?_⟩
  refine y_aload_n dX12_rests_30 rfl rfl ?_
  refine y_iconst (v := 4) dX12_rests_31 (by decide) ?_
  refine y_ivV1 dX12_rests_32 mv_X12_174 my_X12_look (Or.inl rfl) sh_239 ?_
  refine c_X12_look (j := 4) rfl ⟨rfl, ?_⟩
  rw [wk_stR]
  have hb : bAt (wkM m (329 * 4)) (329 * 4) := wk_b (by omega)
  refine y_aload_n dX12_rests_35 rfl rfl ?_
  refine y_bipush (v := 40) dX12_rests_36 (by decide) ?_
  refine y_ivI1 dX12_rests_38 mv_X12_160 my_X12_v (Or.inl rfl) sh_239 ?_
  refine c_X12_v hb (p := 40) rfl (by omega) ⟨_, rfl, ?_⟩
  refine y_ist4_2 dX12_rests_41 rfl ?_
  refine y_iconst (v := 0) dX12_rests_42 (by decide) ?_
  refine y_ist4_3 dX12_rests_43 rfl ?_
  have hQ2 : ∀ h2 R2, Q (some (.int (restsF (nI k) (lfR m 0 40) 60 0 (lfR m 0)))) (stR (wkM m (329 * 4)) h2 (329 * 4) R2) n := fun h2 R2 => hQ _ (frM.wk.tr frM.st)
  refine cnt (P := fun j => ∀ hh R, iR R → (∀ h2 R2, Q (some (.int (restsF (nI k) (lfR m 0 40) (60 - j) j R))) (stR (wkM m (329 * 4)) h2 (329 * 4) R2) n) → sV (scT L xs) (d + 5) "LoafFallModel" cX12_rests 4 (some .int) Q 44 [some (.ref 239), some (.int (nI k)), some (.int (lfR m 0 40)), some (.int (nI j))] [] (stR (wkM m (329 * 4)) hh (329 * 4) R) n) 60 ?_ ?_ 0 (by omega) _ _ hi hQ2
  · intro hh R hR hq
    refine y_iload_n dX12_rests_44 rfl rfl ?_
    refine y_bipush (v := 60) dX12_rests_45 (by decide) ?_
    refine y_icmp_ge (tgt := 74) dX12_rests_47 (by decide) (fun h47 => ?_) (fun h47 => absurd (nI_le (a := 60) (b := 60) (Nat.le_refl _) (by decide)) h47)
    refine y_bipush (v := 60) dX12_rests_74 (by decide) ?_
    refine y_ireturn dX12_rests_76 rfl rfl ?_
    exact hq _ _
  · intro j hk hP
    intro hh R hR hq
    have hq2 : ∀ h2 R2, Q (some (.int (if turnF 0 (nI k) R 40 ≤ lfR m 0 40 then restsF (nI k) (lfR m 0 40) (60 - (j + 1)) (j + 1) (turnF 0 (nI k) R) else nI j))) (stR (wkM m (329 * 4)) h2 (329 * 4) R2) n := fun h2 R2 => by
      have := hq h2 R2
      rw [show 60 - j = 60 - (j + 1) + 1 by omega] at this
      exact this
    refine y_iload_n dX12_rests_44 rfl rfl ?_
    refine y_bipush (v := 60) dX12_rests_45 (by decide) ?_
    refine y_icmp_ge (tgt := 74) dX12_rests_47 (by decide) (fun h47 => absurd h47 (nI_ge (a := j) (b := 60) hk (by decide))) (fun h47 => ?_)
    refine y_aload_n dX12_rests_50 rfl rfl ?_
    refine y_iconst (v := 0) dX12_rests_51 (by decide) ?_
    refine y_iload_n dX12_rests_52 rfl rfl ?_
    refine y_ivV2 dX12_rests_53 mv_X12_222 my_X12_turn (Or.inl rfl) sh_239 ?_
    refine c_X12_turn hb (iR.wf hR) (fun h' => ⟨rfl, ?_⟩)
    refine y_aload_n dX12_rests_56 rfl rfl ?_
    refine y_bipush (v := 40) dX12_rests_57 (by decide) ?_
    refine y_ivI1 dX12_rests_59 mv_X12_160 my_X12_v (Or.inl rfl) sh_239 ?_
    refine c_X12_v hb (p := 40) rfl (by omega) ⟨_, rfl, ?_⟩
    refine y_iload_n dX12_rests_62 rfl rfl ?_
    refine y_icmp_le (tgt := 68) dX12_rests_63 (by decide) (fun h63 => ?_) (fun h63 => ?_)
    · refine y_iinc4_3 dX12_rests_68 (nI_1 _) rfl ?_
      refine y_goto (tgt := 44) dX12_rests_71 (by decide) ?_
      refine hP _ _ (i_turn hR (by omega)) (fun h2 R2 => ?_)
      have := hq2 h2 R2
      rw [if_pos h63] at this
      exact this
    · refine y_iload_n dX12_rests_66 rfl rfl ?_
      refine y_ireturn dX12_rests_67 rfl rfl ?_
      have := hq2 h' (turnF 0 (nI k) R)
      rw [if_neg h63] at this
      exact this
set_option maxHeartbeats 2000000 in
theorem p_rests {L : Nat} {xs : Nat → Int32} {d : Nat} {m : sM} {n : sN} {r : Int32} (h : Rel m n) : PI L xs (d + 11) yX11_rests cX11_rests 2 yX12_rests cX12_rests 4 [.int r] m n := by
  unfold PI
  by_cases hr : inN r 10
  · obtain ⟨k, hk, rfl⟩ := hr
    have hr : inN (nI k) 10 := ⟨k, hk, rfl⟩
    rcases h.l.1 with ⟨l1, l2⟩ | ⟨l1, l2, l3, l4, l5, l6, l7⟩
    · refine y_run (own := "LoafFall") rfl (by decide +kernel) (Nat.le_of_ble_eq_true rfl) rfl ?_
      refine y_iload_n dX11_rests_0 rfl rfl ?_
      refine y_isI1 dX11_rests_1 ms_X11_276 my_X11_isWarmth (Or.inl rfl) ?_
      refine c_X11_isWarmth (fun _ => ⟨_, rfl, ?_⟩) (fun z => absurd hr z)
      refine y_if_ne (tgt := 9) dX11_rests_4 (by decide) (fun h4 => ?_) (fun h4 => absurd h4 (by decide))
      refine y_aload_n dX11_rests_9 rfl rfl ?_
      refine y_getr dX11_rests_10 gf_X11_40 sh_0 rfl ?_
      refine y_geti dX11_rests_13 gf_X11_211 sh_6 rfl ?_
      refine y_if_eq (tgt := 34) dX11_rests_16 (by decide) (fun h16 => ?_) (fun h16 => absurd l2 h16)
      refine y_bipush (v := -4) dX11_rests_34 (by decide) ?_
      refine y_ireturn dX11_rests_36 rfl rfl ?_
      refine ⟨_, rfl, ?_⟩
      refine y_run (own := "LoafFallModel") rfl (by decide +kernel) (Nat.le_of_ble_eq_true rfl) rfl ?_
      refine y_iload_n dX12_rests_0 rfl rfl ?_
      refine y_iconst (v := 0) dX12_rests_1 (by decide) ?_
      refine y_bipush (v := 9) dX12_rests_2 (by decide) ?_
      refine y_isI3 dX12_rests_4 ms_X12_86 my_X12_in (Or.inl rfl) ?_
      refine c_X12_in (fun _ _ => ⟨_, rfl, ?_⟩) (fun a => absurd ((in_le (M := 9) (by decide)).mp hr) a)
      refine y_if_ne (tgt := 12) dX12_rests_7 (by decide) (fun h7 => ?_) (fun h7 => absurd h7 (by decide))
      refine y_aload_n dX12_rests_12 rfl rfl ?_
      refine y_getr dX12_rests_13 gf_X12_51 sh_239 rfl ?_
      refine y_iconst (v := 0) dX12_rests_16 (by decide) ?_
      refine y_zaldN dX12_rests_17 sh_253 rfl (by first | omega | decide) (by decide) ?_
      refine y_if_ne (tgt := 24) dX12_rests_18 (by decide) (fun h18 => absurd l1 h18) (fun h18 => ?_)
      refine y_bipush (v := -4) dX12_rests_21 (by decide) ?_
      refine y_ireturn dX12_rests_23 rfl rfl ?_
      exact ⟨rfl, h⟩
    · refine y_run (own := "LoafFall") rfl (by decide +kernel) (Nat.le_of_ble_eq_true rfl) rfl ?_
      refine y_iload_n dX11_rests_0 rfl rfl ?_
      refine y_isI1 dX11_rests_1 ms_X11_276 my_X11_isWarmth (Or.inl rfl) ?_
      refine c_X11_isWarmth (fun _ => ⟨_, rfl, ?_⟩) (fun z => absurd hr z)
      refine y_if_ne (tgt := 9) dX11_rests_4 (by decide) (fun h4 => ?_) (fun h4 => absurd h4 (by decide))
      refine y_aload_n dX11_rests_9 rfl rfl ?_
      refine y_getr dX11_rests_10 gf_X11_40 sh_0 rfl ?_
      refine y_geti dX11_rests_13 gf_X11_211 sh_6 rfl ?_
      refine y_if_eq (tgt := 34) dX11_rests_16 (by decide) (fun h16 => absurd h16 (by rw [l2]; decide)) (fun h16 => ?_)
      refine y_aload_n dX11_rests_19 rfl rfl ?_
      refine y_getr dX11_rests_20 gf_X11_61 sh_0 rfl ?_
      refine y_aload_n dX11_rests_23 rfl rfl ?_
      refine y_getr dX11_rests_24 gf_X11_40 sh_0 rfl ?_
      refine y_iload_n dX11_rests_27 rfl rfl ?_
      refine y_ivI2 dX11_rests_28 mv_X11_279 my_X0_restsOf (Or.inl rfl) sh_35 ?_
      refine c_X0_restsOf (wn := k) (R := lfR m 0) lf6 (by omega) l3 l4 (Or.inr l6) (Or.inr l7) (Or.inr l2) rfl (by omega) (fun m1 t1 t2 => ⟨_, rfl, ?_⟩)
      refine y_goto (tgt := 36) dX11_rests_31 (by decide) ?_
      refine y_ireturn dX11_rests_36 rfl rfl ?_
      refine ⟨_, rfl, ?_⟩
      have e0 : lfR m1 0 = lfR m 0 := lfR_m (t2 254 (by omega))
      refine c_X12_rests_ok rfl hk (by rw [t2 _ (by omega)]; exact l1) (by rw [e0]; exact l4.1) (fun m2 f => ⟨?_, Rel_scr h (fun a ha => t2 a (by omega)) t1 f⟩)
      rw [e0]
  · refine y_run (own := "LoafFall") rfl (by decide +kernel) (Nat.le_of_ble_eq_true rfl) rfl ?_
    refine y_iload_n dX11_rests_0 rfl rfl ?_
    refine y_isI1 dX11_rests_1 ms_X11_276 my_X11_isWarmth (Or.inl rfl) ?_
    refine c_X11_isWarmth (fun z => absurd z hr) (fun _ => ⟨_, rfl, ?_⟩)
    refine y_if_ne (tgt := 9) dX11_rests_4 (by decide) (fun h4 => absurd (by decide) h4) (fun h4 => ?_)
    refine y_iconst (v := -1) dX11_rests_7 (by decide) ?_
    refine y_ireturn dX11_rests_8 rfl rfl ?_
    refine ⟨_, rfl, ?_⟩
    refine y_run (own := "LoafFallModel") rfl (by decide +kernel) (Nat.le_of_ble_eq_true rfl) rfl ?_
    refine y_iload_n dX12_rests_0 rfl rfl ?_
    refine y_iconst (v := 0) dX12_rests_1 (by decide) ?_
    refine y_bipush (v := 9) dX12_rests_2 (by decide) ?_
    refine y_isI3 dX12_rests_4 ms_X12_86 my_X12_in (Or.inl rfl) ?_
    refine c_X12_in (fun a b => absurd ((in_le (M := 9) (by decide)).mpr ⟨a, b⟩) hr) (fun _ => ⟨_, rfl, ?_⟩)
    refine y_if_ne (tgt := 12) dX12_rests_7 (by decide) (fun h7 => absurd (by decide) h7) (fun h7 => ?_)
    refine y_iconst (v := -1) dX12_rests_10 (by decide) ?_
    refine y_ireturn dX12_rests_11 rfl rfl ?_
    exact ⟨rfl, h⟩
