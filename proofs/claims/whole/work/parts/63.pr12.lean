/-! ===== what lacks ===== -/
/-- what a cut in the row k lacks -/
noncomputable def ckL (m : sM) (k : Nat) : Nat := if m 241 k = -1 then 1 else if ¬ m 241 k = 24 then 5 else @ite _ (∀ i, i < 24 → (0 ≤ m 242 (40 * k + i) ∧ m 242 (40 * k + i) ≤ 2)) (Classical.propDecidable _) 0 3
noncomputable def LKp (m : sM) (f g k : Nat) : Nat := if m 246 f = 0 ∨ m 248 g = 0 then 1 else ckL m k
theorem ckL_m {m m' : sM} (e1 : m' 241 = m 241) (e2 : m' 242 = m 242) (k : Nat) : ckL m' k = ckL m k := by
  unfold ckL
  rw [e1, e2]
theorem LKp_m {m m' : sM} (e1 : m' 241 = m 241) (e2 : m' 242 = m 242) (e3 : m' 246 = m 246) (e4 : m' 248 = m 248) {f g k : Nat} : LKp m' f g k = LKp m f g k := by
  unfold LKp
  rw [ckL_m e1 e2, e3, e4]
theorem ckL_le (m : sM) (k : Nat) : ckL m k ≤ 5 := by
  unfold ckL
  split
  · omega
  · split
    · omega
    · split <;> omega
theorem LKp_le (m : sM) (f g k : Nat) : LKp m f g k ≤ 5 := by
  unfold LKp
  split
  · omega
  · exact ckL_le m k
theorem ck1 {m : sM} {k : Nat} (h : m 241 k = -1) : ckL m k = 1 := if_pos h
theorem ck5 {m : sM} {k s : Nat} (h : m 241 k = nI s) (hs : s ≤ 40) (h2 : ¬ s = 24) : ckL m k = 5 := by
  unfold ckL
  have hn : ¬ nI s = 24 := fun e => h2 ((nI_eq (by omega) (by decide)).mp e)
  rw [h, if_neg (nI_m1 (by omega)), if_pos hn]
theorem ck3 {m : sM} {k : Nat} (h : m 241 k = nI 24) (h2 : ¬ ∀ i, i < 24 → (0 ≤ m 242 (40 * k + i) ∧ m 242 (40 * k + i) ≤ 2)) : ckL m k = 3 := by
  unfold ckL
  rw [h, if_neg (by decide), if_neg (by decide), if_neg h2]
theorem ck0 {m : sM} {k : Nat} (h : m 241 k = nI 24) (h2 : ∀ i, i < 24 → (0 ≤ m 242 (40 * k + i) ∧ m 242 (40 * k + i) ≤ 2)) : ckL m k = 0 := by
  unfold ckL
  rw [h, if_neg (by decide), if_neg (by decide), if_pos h2]
theorem ck_0 {m : sM} {n : sN} {k : Nat} (h : Rel m n) (hk : k < 6) (h0 : ckL m k = 0) : ∀ i, i < 24 → m (138 + 2 * k + 1) i = m 242 (40 * k + i) := by
  rcases h.w k hk with ⟨s1, s2⟩ | ⟨s, hs, s1, s2, s3⟩
  · rw [ck1 s1] at h0; omega
  · by_cases z : s = 24
    · subst z; exact s3
    · rw [ck5 s1 hs z] at h0; omega
theorem lk_0 {m : sM} {f g k : Nat} (h : LKp m f g k = 0) : ¬ m 246 f = 0 ∧ ¬ m 248 g = 0 ∧ ckL m k = 0 := by
  unfold LKp at h
  by_cases z : m 246 f = 0 ∨ m 248 g = 0
  · rw [if_pos z] at h; omega
  · rw [if_neg z] at h; exact ⟨fun e => z (Or.inl e), fun e => z (Or.inr e), h⟩
set_option maxHeartbeats 1000000 in
theorem c_X11_lackOfCut {L : Nat} {xs : Nat → Int32} {d : Nat} {m : sM} {n : sN} {Q : sQ} {k : Nat} {r : Int32} (h : Rel m n) (hr : r = nI k) (hk : k < 6) (hQ : Q (some (.int (nI (ckL m k)))) m n) : sRun (scT L xs) (d + 2) yX11_lackOfCut cX11_lackOfCut 3 (some .int) [.ref 0, .int r] m n Q := by
  subst hr
  rcases h.w k hk with ⟨s1, s2⟩ | ⟨s, hs, s1, s2, s3⟩
  · rw [ck1 s1] at hQ
    refine y_run (own := "LoafFall") rfl (by decide +kernel) (Nat.le_of_ble_eq_true rfl) rfl ?_
    refine y_aload_n dX11_lackOfCut_0 rfl rfl ?_
    refine y_getr dX11_lackOfCut_1 gf_X11_11 sh_0 rfl ?_
    refine y_iload_n dX11_lackOfCut_4 rfl rfl ?_
    refine y_aaldN dX11_lackOfCut_5 (by decide) sh_1 rfl (rwA (k := k) (by omega)) (by decide) ?_
    refine y_ivI0 dX11_lackOfCut_6 mv_X11_123 my_X8_isThere (Or.inl rfl) (rwI (k := k) (by omega)).1 ?_
    refine c_X8_isThere (rwI hk) (fun z => absurd s2 z) (fun _ => ⟨_, rfl, ?_⟩)
    refine y_if_ne (tgt := 14) dX11_lackOfCut_9 (by decide) (fun h9 => absurd (by decide) h9) (fun h9 => ?_)
    refine y_iconst (v := 1) dX11_lackOfCut_12 (by decide) ?_
    refine y_ireturn dX11_lackOfCut_13 rfl rfl ?_
    exact hQ
  · by_cases z : s = 24
    · subst z
      refine y_run (own := "LoafFall") rfl (by decide +kernel) (Nat.le_of_ble_eq_true rfl) rfl ?_
      refine y_aload_n dX11_lackOfCut_0 rfl rfl ?_
      refine y_getr dX11_lackOfCut_1 gf_X11_11 sh_0 rfl ?_
      refine y_iload_n dX11_lackOfCut_4 rfl rfl ?_
      refine y_aaldN dX11_lackOfCut_5 (by decide) sh_1 rfl (rwA (k := k) (by omega)) (by decide) ?_
      refine y_ivI0 dX11_lackOfCut_6 mv_X11_123 my_X8_isThere (Or.inl rfl) (rwI (k := k) (by omega)).1 ?_
      refine c_X8_isThere (rwI hk) (fun _ => ⟨_, rfl, ?_⟩) (fun z => absurd z (by rw [s2]; exact nI_m1 (by omega)))
      refine y_if_ne (tgt := 14) dX11_lackOfCut_9 (by decide) (fun h9 => ?_) (fun h9 => absurd h9 (by decide))
      refine y_aload_n dX11_lackOfCut_14 rfl rfl ?_
      refine y_getr dX11_lackOfCut_15 gf_X11_11 sh_0 rfl ?_
      refine y_iload_n dX11_lackOfCut_18 rfl rfl ?_
      refine y_aaldN dX11_lackOfCut_19 (by decide) sh_1 rfl (rwA (k := k) (by omega)) (by decide) ?_
      refine y_geti dX11_lackOfCut_20 gf_X11_127 (rwI (k := k) (by omega)).1 rfl ?_
      refine y_bipush (v := 24) dX11_lackOfCut_23 (by decide) ?_
      refine y_icmp_eq (tgt := 30) dX11_lackOfCut_25 (by decide) (fun h25 => ?_) (fun h25 => absurd (by rw [s2]; rfl) h25)
      refine y_iconst (v := 0) dX11_lackOfCut_30 (by decide) ?_
      refine y_ist3_2 dX11_lackOfCut_31 rfl ?_
      refine cnt (P := fun i => (∀ j, j < i → (0 ≤ m 242 (40 * k + j) ∧ m 242 (40 * k + j) ≤ 2)) → sV (scT L xs) (d + 1) "LoafFall" cX11_lackOfCut 3 (some .int) Q 32 [some (.ref 0), some (.int (nI k)), some (.int (nI i))] [] m n) 24 ?_ ?_ 0 (by omega) (fun j hj => absurd hj (by omega))
      · intro ha
        refine y_iload_n dX11_lackOfCut_32 rfl rfl ?_
        refine y_bipush (v := 24) dX11_lackOfCut_33 (by decide) ?_
        refine y_icmp_ge (tgt := 75) dX11_lackOfCut_35 (by decide) (fun h35 => ?_) (fun h35 => absurd (nI_le (a := 24) (b := 24) (Nat.le_refl _) (by decide)) h35)
        refine y_iconst (v := 0) dX11_lackOfCut_75 (by decide) ?_
        refine y_ireturn dX11_lackOfCut_76 rfl rfl ?_
        rw [ck0 s1 ha] at hQ
        exact hQ
      · intro i hk hP
        intro ha
        refine y_iload_n dX11_lackOfCut_32 rfl rfl ?_
        refine y_bipush (v := 24) dX11_lackOfCut_33 (by decide) ?_
        refine y_icmp_ge (tgt := 75) dX11_lackOfCut_35 (by decide) (fun h35 => absurd h35 (nI_ge (a := i) (b := 24) hk (by decide))) (fun h35 => ?_)
        refine y_aload_n dX11_lackOfCut_38 rfl rfl ?_
        refine y_getr dX11_lackOfCut_39 gf_X11_11 sh_0 rfl ?_
        refine y_iload_n dX11_lackOfCut_42 rfl rfl ?_
        refine y_aaldN dX11_lackOfCut_43 (by decide) sh_1 rfl (rwA (k := k) (by omega)) (by decide) ?_
        refine y_getr dX11_lackOfCut_44 gf_X11_117 (rwI (k := k) (by omega)).1 rfl ?_
        refine y_iload_n dX11_lackOfCut_47 rfl rfl ?_
        refine y_ialdN dX11_lackOfCut_48 (rwI (k := k) (by omega)).2 rfl (by first | omega | decide) (by decide) ?_
        rw [s3 i (by omega)]
        refine y_if_lt (tgt := 67) dX11_lackOfCut_49 (by decide) (fun h49 => ?_) (fun h49 => ?_)
        · refine y_iconst (v := 3) dX11_lackOfCut_67 (by decide) ?_
          refine y_ireturn dX11_lackOfCut_68 rfl rfl ?_
          rw [ck3 s1 (fun z => by have := z i (by omega); first | exact absurd h49 (Int32.not_lt.mpr this.1) | exact absurd this.2 h64)] at hQ
          exact hQ
        · refine y_aload_n dX11_lackOfCut_52 rfl rfl ?_
          refine y_getr dX11_lackOfCut_53 gf_X11_11 sh_0 rfl ?_
          refine y_iload_n dX11_lackOfCut_56 rfl rfl ?_
          refine y_aaldN dX11_lackOfCut_57 (by decide) sh_1 rfl (rwA (k := k) (by omega)) (by decide) ?_
          refine y_getr dX11_lackOfCut_58 gf_X11_117 (rwI (k := k) (by omega)).1 rfl ?_
          refine y_iload_n dX11_lackOfCut_61 rfl rfl ?_
          refine y_ialdN dX11_lackOfCut_62 (rwI (k := k) (by omega)).2 rfl (by first | omega | decide) (by decide) ?_
          rw [s3 i (by omega)]
          refine y_iconst (v := 2) dX11_lackOfCut_63 (by decide) ?_
          refine y_icmp_le (tgt := 69) dX11_lackOfCut_64 (by decide) (fun h64 => ?_) (fun h64 => ?_)
          · refine y_iinc3_2 dX11_lackOfCut_69 (nI_1 _) rfl ?_
            refine y_goto (tgt := 32) dX11_lackOfCut_72 (by decide) ?_
            refine hP (fun j hj => ?_)
            by_cases e : j = i
            · rw [e]; exact ⟨Int32.not_lt.mp h49, h64⟩
            · exact ha j (by omega)
          · refine y_iconst (v := 3) dX11_lackOfCut_67 (by decide) ?_
            refine y_ireturn dX11_lackOfCut_68 rfl rfl ?_
            rw [ck3 s1 (fun z => by have := z i (by omega); first | exact absurd h49 (Int32.not_lt.mpr this.1) | exact absurd this.2 h64)] at hQ
            exact hQ
    · rw [ck5 s1 hs z] at hQ
      refine y_run (own := "LoafFall") rfl (by decide +kernel) (Nat.le_of_ble_eq_true rfl) rfl ?_
      refine y_aload_n dX11_lackOfCut_0 rfl rfl ?_
      refine y_getr dX11_lackOfCut_1 gf_X11_11 sh_0 rfl ?_
      refine y_iload_n dX11_lackOfCut_4 rfl rfl ?_
      refine y_aaldN dX11_lackOfCut_5 (by decide) sh_1 rfl (rwA (k := k) (by omega)) (by decide) ?_
      refine y_ivI0 dX11_lackOfCut_6 mv_X11_123 my_X8_isThere (Or.inl rfl) (rwI (k := k) (by omega)).1 ?_
      refine c_X8_isThere (rwI hk) (fun _ => ⟨_, rfl, ?_⟩) (fun z => absurd z (by rw [s2]; exact nI_m1 (by omega)))
      refine y_if_ne (tgt := 14) dX11_lackOfCut_9 (by decide) (fun h9 => ?_) (fun h9 => absurd h9 (by decide))
      refine y_aload_n dX11_lackOfCut_14 rfl rfl ?_
      refine y_getr dX11_lackOfCut_15 gf_X11_11 sh_0 rfl ?_
      refine y_iload_n dX11_lackOfCut_18 rfl rfl ?_
      refine y_aaldN dX11_lackOfCut_19 (by decide) sh_1 rfl (rwA (k := k) (by omega)) (by decide) ?_
      refine y_geti dX11_lackOfCut_20 gf_X11_127 (rwI (k := k) (by omega)).1 rfl ?_
      refine y_bipush (v := 24) dX11_lackOfCut_23 (by decide) ?_
      refine y_icmp_eq (tgt := 30) dX11_lackOfCut_25 (by decide) (fun h25 => absurd h25 (by rw [s2]; exact fun e => z ((nI_eq (by omega) (by decide)).mp e))) (fun h25 => ?_)
      refine y_iconst (v := 5) dX11_lackOfCut_28 (by decide) ?_
      refine y_ireturn dX11_lackOfCut_29 rfl rfl ?_
      exact hQ
set_option maxHeartbeats 1000000 in
theorem c_X11_lackOfPairAndCut {L : Nat} {xs : Nat → Int32} {d : Nat} {m : sM} {n : sN} {Q : sQ} {f g k : Nat} {x z r : Int32} (h : Rel m n) (hx : x = nI f) (hf : f < 4) (hz : z = nI g) (hg : g < 4) (hr : r = nI k) (hk : k < 6) (hQ : Q (some (.int (nI (LKp m f g k)))) m n) : sRun (scT L xs) (d + 3) yX11_lackOfPairAndCut cX11_lackOfPairAndCut 4 (some .int) [.ref 0, .int x, .int z, .int r] m n Q := by
  subst hx hz hr
  refine y_run (own := "LoafFall") rfl (by decide +kernel) (Nat.le_of_ble_eq_true rfl) rfl ?_
  refine y_aload_n dX11_lackOfPairAndCut_0 rfl rfl ?_
  refine y_getr dX11_lackOfPairAndCut_1 gf_X11_23 sh_0 rfl ?_
  refine y_iload_n dX11_lackOfPairAndCut_4 rfl rfl ?_
  refine y_aaldN dX11_lackOfPairAndCut_5 (by decide) sh_3 rfl (flA (k := f) (by omega)) (by decide) ?_
  refine y_geti dX11_lackOfPairAndCut_6 gf_X11_183 (flI (k := f) (by omega)).1 rfl ?_
  refine y_if_eq (tgt := 24) dX11_lackOfPairAndCut_9 (by decide) (fun h9 => ?_) (fun h9 => ?_)
  · have e1 : LKp m f g k = 1 := if_pos (by
      first
        | exact Or.inl ((h.fx hf).1 h9)
        | exact Or.inr ((h.dx hg).1 h21))
    rw [e1] at hQ
    refine y_iconst (v := 1) dX11_lackOfPairAndCut_24 (by decide) ?_
    refine y_goto (tgt := 33) dX11_lackOfPairAndCut_25 (by decide) ?_
    refine y_ireturn dX11_lackOfPairAndCut_33 rfl rfl ?_
    exact hQ
  · refine y_aload_n dX11_lackOfPairAndCut_12 rfl rfl ?_
    refine y_getr dX11_lackOfPairAndCut_13 gf_X11_29 sh_0 rfl ?_
    refine y_iload_n dX11_lackOfPairAndCut_16 rfl rfl ?_
    refine y_aaldN dX11_lackOfPairAndCut_17 (by decide) sh_4 rfl (dgA (k := g) (by omega)) (by decide) ?_
    refine y_geti dX11_lackOfPairAndCut_18 gf_X11_190 (dgI (k := g) (by omega)).1 rfl ?_
    refine y_if_ne (tgt := 28) dX11_lackOfPairAndCut_21 (by decide) (fun h21 => ?_) (fun h21 => ?_)
    · refine y_aload_n dX11_lackOfPairAndCut_28 rfl rfl ?_
      refine y_iload_n dX11_lackOfPairAndCut_29 rfl rfl ?_
      refine y_ivI1 dX11_lackOfPairAndCut_30 mv_X11_424 my_X11_lackOfCut (Or.inl rfl) sh_0 ?_
      refine c_X11_lackOfCut h rfl hk ⟨_, rfl, ?_⟩
      rw [show LKp m f g k = ckL m k from if_neg (fun z => z.elim (fun e => absurd e (by rw [((h.fx hf).2 h9).1]; decide)) (fun e => absurd e (by rw [((h.dx hg).2 h21).1]; decide)))] at hQ
      refine y_ireturn dX11_lackOfPairAndCut_33 rfl rfl ?_
      exact hQ
    · have e1 : LKp m f g k = 1 := if_pos (by
        first
          | exact Or.inl ((h.fx hf).1 h9)
          | exact Or.inr ((h.dx hg).1 h21))
      rw [e1] at hQ
      refine y_iconst (v := 1) dX11_lackOfPairAndCut_24 (by decide) ?_
      refine y_goto (tgt := 33) dX11_lackOfPairAndCut_25 (by decide) ?_
      refine y_ireturn dX11_lackOfPairAndCut_33 rfl rfl ?_
      exact hQ
noncomputable def ncL (m : sM) (k : Nat) (t : Int32) : Nat := if t = 0 then 1 else ckL m k
set_option maxHeartbeats 1000000 in
theorem c_X12_needCut {L : Nat} {xs : Nat → Int32} {d : Nat} {m : sM} {n : sN} {Q : sQ} {k : Nat} {r t : Int32} (hr : r = nI k) (hk : k < 6) (hz : m 241 k = -1 ∨ ∃ s : Nat, s ≤ 40 ∧ m 241 k = nI s) (hQ0 : ncL m k t = 0 → Q (some (.int 0)) m n) (hQ1 : ¬ ncL m k t = 0 → Q (some (.int (-3))) (metM m (ncL m k t)) n) : sRun (scT L xs) (d + 2) yX12_needCut cX12_needCut 5 (some .int) [.ref 239, .int r, .int t] m n Q := by
  subst hr
  by_cases ht : t = 0
  · have e1 : ncL m k t = 1 := if_pos ht
    rw [e1] at hQ1
    refine y_run (own := "LoafFallModel") rfl (by decide +kernel) (Nat.le_of_ble_eq_true rfl) rfl ?_
    refine y_aload_n dX12_needCut_0 rfl rfl ?_
    refine y_getr dX12_needCut_1 gf_X12_13 sh_239 rfl ?_
    refine y_iload_n dX12_needCut_4 rfl rfl ?_
    refine y_ialdN dX12_needCut_5 sh_241 rfl (by first | omega | decide) (by decide) ?_
    refine y_if_lt (tgt := 13) dX12_needCut_6 (by decide) (fun h6 => ?_) (fun h6 => ?_)
    · refine y_aload_n dX12_needCut_13 rfl rfl ?_
      refine y_iconst (v := 1) dX12_needCut_14 (by decide) ?_
      refine y_ivI1 dX12_needCut_15 mv_X12_100 my_X12_meets (Or.inl rfl) sh_239 ?_
      refine c_X12_meets (f := 1) rfl (by omega) ⟨_, rfl, ?_⟩
      refine y_ireturn dX12_needCut_18 rfl rfl ?_
      exact hQ1 (by omega)
    · refine y_iload_n dX12_needCut_9 rfl rfl ?_
      refine y_if_ne (tgt := 19) dX12_needCut_10 (by decide) (fun h10 => absurd ht h10) (fun h10 => ?_)
      refine y_aload_n dX12_needCut_13 rfl rfl ?_
      refine y_iconst (v := 1) dX12_needCut_14 (by decide) ?_
      refine y_ivI1 dX12_needCut_15 mv_X12_100 my_X12_meets (Or.inl rfl) sh_239 ?_
      refine c_X12_meets (f := 1) rfl (by omega) ⟨_, rfl, ?_⟩
      refine y_ireturn dX12_needCut_18 rfl rfl ?_
      exact hQ1 (by omega)
  · have e1 : ncL m k t = ckL m k := if_neg ht
    rw [e1] at hQ0 hQ1
    rcases hz with s1 | ⟨s, hs, s1⟩
    · rw [ck1 s1] at hQ1
      refine y_run (own := "LoafFallModel") rfl (by decide +kernel) (Nat.le_of_ble_eq_true rfl) rfl ?_
      refine y_aload_n dX12_needCut_0 rfl rfl ?_
      refine y_getr dX12_needCut_1 gf_X12_13 sh_239 rfl ?_
      refine y_iload_n dX12_needCut_4 rfl rfl ?_
      refine y_ialdN dX12_needCut_5 sh_241 rfl (by first | omega | decide) (by decide) ?_
      refine y_if_lt (tgt := 13) dX12_needCut_6 (by decide) (fun h6 => ?_) (fun h6 => absurd (by rw [s1]; decide) h6)
      refine y_aload_n dX12_needCut_13 rfl rfl ?_
      refine y_iconst (v := 1) dX12_needCut_14 (by decide) ?_
      refine y_ivI1 dX12_needCut_15 mv_X12_100 my_X12_meets (Or.inl rfl) sh_239 ?_
      refine c_X12_meets (f := 1) rfl (by omega) ⟨_, rfl, ?_⟩
      refine y_ireturn dX12_needCut_18 rfl rfl ?_
      exact hQ1 (by omega)
    · by_cases z : s = 24
      · subst z
        refine y_run (own := "LoafFallModel") rfl (by decide +kernel) (Nat.le_of_ble_eq_true rfl) rfl ?_
        refine y_aload_n dX12_needCut_0 rfl rfl ?_
        refine y_getr dX12_needCut_1 gf_X12_13 sh_239 rfl ?_
        refine y_iload_n dX12_needCut_4 rfl rfl ?_
        refine y_ialdN dX12_needCut_5 sh_241 rfl (by first | omega | decide) (by decide) ?_
        refine y_if_lt (tgt := 13) dX12_needCut_6 (by decide) (fun h6 => absurd h6 (by rw [s1]; decide)) (fun h6 => ?_)
        refine y_iload_n dX12_needCut_9 rfl rfl ?_
        refine y_if_ne (tgt := 19) dX12_needCut_10 (by decide) (fun h10 => ?_) (fun h10 => absurd h10 ht)
        refine y_aload_n dX12_needCut_19 rfl rfl ?_
        refine y_getr dX12_needCut_20 gf_X12_13 sh_239 rfl ?_
        refine y_iload_n dX12_needCut_23 rfl rfl ?_
        refine y_ialdN dX12_needCut_24 sh_241 rfl (by first | omega | decide) (by decide) ?_
        refine y_bipush (v := 24) dX12_needCut_25 (by decide) ?_
        refine y_icmp_eq (tgt := 36) dX12_needCut_27 (by decide) (fun h27 => ?_) (fun h27 => absurd (by rw [s1]; rfl) h27)
        refine y_iconst (v := 1) dX12_needCut_36 (by decide) ?_
        refine y_ist5_3 dX12_needCut_37 rfl ?_
        refine y_iconst (v := 0) dX12_needCut_38 (by decide) ?_
        refine y_ist5_4 dX12_needCut_39 rfl ?_
        refine cnt (P := fun i => ∀ gd : Int32, ((gd = 1 ∧ (∀ j, j < i → (0 ≤ m 242 (40 * k + j) ∧ m 242 (40 * k + j) ≤ 2))) ∨ (gd = 0 ∧ ¬ (∀ j, j < i → (0 ≤ m 242 (40 * k + j) ∧ m 242 (40 * k + j) ≤ 2)))) → sV (scT L xs) (d + 1) "LoafFallModel" cX12_needCut 5 (some .int) Q 41 [some (.ref 239), some (.int (nI k)), some (.int t), some (.int gd), some (.int (nI i))] [] m n) 24 ?_ ?_ 0 (by omega) 1 (Or.inl ⟨rfl, fun j hj => absurd hj (by omega)⟩)
        · intro gd hg
          refine y_iload dX12_needCut_41 rfl ?_
          refine y_bipush (v := 24) dX12_needCut_43 (by decide) ?_
          refine y_icmp_ge (tgt := 79) dX12_needCut_45 (by decide) (fun h45 => ?_) (fun h45 => absurd (nI_le (a := 24) (b := 24) (Nat.le_refl _) (by decide)) h45)
          refine y_iload_n dX12_needCut_79 rfl rfl ?_
          refine y_if_eq (tgt := 87) dX12_needCut_80 (by decide) (fun h80 => ?_) (fun h80 => ?_)
          · refine y_aload_n dX12_needCut_87 rfl rfl ?_
            refine y_iconst (v := 3) dX12_needCut_88 (by decide) ?_
            refine y_ivI1 dX12_needCut_89 mv_X12_100 my_X12_meets (Or.inl rfl) sh_239 ?_
            refine c_X12_meets (f := 3) rfl (by omega) ⟨_, rfl, ?_⟩
            refine y_ireturn dX12_needCut_92 rfl rfl ?_
            first
              | (rcases hg with ⟨g1, g2⟩ | ⟨g1, g2⟩
                 · exact absurd g1 (by rw [h80]; decide)
                 · rw [ck3 s1 g2] at hQ1; exact hQ1 (by omega))
              | (rcases hg with ⟨g1, g2⟩ | ⟨g1, g2⟩
                 · exact hQ0 (ck0 s1 g2)
                 · exact absurd g1 h80)
          · refine y_iconst (v := 0) dX12_needCut_83 (by decide) ?_
            refine y_goto (tgt := 92) dX12_needCut_84 (by decide) ?_
            refine y_ireturn dX12_needCut_92 rfl rfl ?_
            first
              | (rcases hg with ⟨g1, g2⟩ | ⟨g1, g2⟩
                 · exact absurd g1 (by rw [h80]; decide)
                 · rw [ck3 s1 g2] at hQ1; exact hQ1 (by omega))
              | (rcases hg with ⟨g1, g2⟩ | ⟨g1, g2⟩
                 · exact hQ0 (ck0 s1 g2)
                 · exact absurd g1 h80)
        · intro i hk hP
          intro gd hg
          refine y_iload dX12_needCut_41 rfl ?_
          refine y_bipush (v := 24) dX12_needCut_43 (by decide) ?_
          refine y_icmp_ge (tgt := 79) dX12_needCut_45 (by decide) (fun h45 => absurd h45 (nI_ge (a := i) (b := 24) hk (by decide))) (fun h45 => ?_)
          refine y_iload_n dX12_needCut_48 rfl rfl ?_
          refine y_if_eq (tgt := 71) dX12_needCut_49 (by decide) (fun h49 => ?_) (fun h49 => ?_)
          · refine y_iconst (v := 0) dX12_needCut_71 (by decide) ?_
            refine y_ist5_3 dX12_needCut_72 rfl ?_
            refine y_iinc5_4 dX12_needCut_73 (nI_1 _) rfl ?_
            refine y_goto (tgt := 41) dX12_needCut_76 (by decide) ?_
            first
              | (refine hP 0 (Or.inr ⟨rfl, fun z => ?_⟩)
                 rcases hg with ⟨g1, g2⟩ | ⟨g1, g2⟩
                 · exact absurd g1 (by rw [h49]; decide)
                 · exact g2 (fun j hj => z j (by omega)))
              | (refine hP 1 (Or.inl ⟨rfl, fun j hj => ?_⟩)
                 rcases hg with ⟨g1, g2⟩ | ⟨g1, g2⟩
                 · by_cases e : j = i
                   · rw [e]; exact ⟨a, b⟩
                   · exact g2 j (by omega)
                 · exact absurd g1 h49)
              | exact hP 0 (Or.inr ⟨rfl, fun z => a (z i (by omega))⟩)
          · refine y_aload_n dX12_needCut_52 rfl rfl ?_
            refine y_iload_n dX12_needCut_53 rfl rfl ?_
            refine y_iload dX12_needCut_54 rfl ?_
            refine y_ivI2 dX12_needCut_56 mv_X12_104 my_X12_rowAt (Or.inl rfl) sh_239 ?_
            refine c_X12_rowAt (r := k) (i := i) rfl (by omega) rfl (by omega) ⟨_, rfl, ?_⟩
            refine y_iconst (v := 0) dX12_needCut_59 (by decide) ?_
            refine y_iconst (v := 2) dX12_needCut_60 (by decide) ?_
            refine y_isI3 dX12_needCut_61 ms_X12_86 my_X12_in (Or.inl rfl) ?_
            refine c_X12_in (fun a b => ⟨_, rfl, ?_⟩) (fun a => ⟨_, rfl, ?_⟩)
            · refine y_if_eq (tgt := 71) dX12_needCut_64 (by decide) (fun h64 => absurd h64 (by decide)) (fun h64 => ?_)
              refine y_iconst (v := 1) dX12_needCut_67 (by decide) ?_
              refine y_goto (tgt := 72) dX12_needCut_68 (by decide) ?_
              refine y_ist5_3 dX12_needCut_72 rfl ?_
              refine y_iinc5_4 dX12_needCut_73 (nI_1 _) rfl ?_
              refine y_goto (tgt := 41) dX12_needCut_76 (by decide) ?_
              first
                | (refine hP 0 (Or.inr ⟨rfl, fun z => ?_⟩)
                   rcases hg with ⟨g1, g2⟩ | ⟨g1, g2⟩
                   · exact absurd g1 (by rw [h49]; decide)
                   · exact g2 (fun j hj => z j (by omega)))
                | (refine hP 1 (Or.inl ⟨rfl, fun j hj => ?_⟩)
                   rcases hg with ⟨g1, g2⟩ | ⟨g1, g2⟩
                   · by_cases e : j = i
                     · rw [e]; exact ⟨a, b⟩
                     · exact g2 j (by omega)
                   · exact absurd g1 h49)
                | exact hP 0 (Or.inr ⟨rfl, fun z => a (z i (by omega))⟩)
            · refine y_if_eq (tgt := 71) dX12_needCut_64 (by decide) (fun h64 => ?_) (fun h64 => absurd (by decide) h64)
              refine y_iconst (v := 0) dX12_needCut_71 (by decide) ?_
              refine y_ist5_3 dX12_needCut_72 rfl ?_
              refine y_iinc5_4 dX12_needCut_73 (nI_1 _) rfl ?_
              refine y_goto (tgt := 41) dX12_needCut_76 (by decide) ?_
              first
                | (refine hP 0 (Or.inr ⟨rfl, fun z => ?_⟩)
                   rcases hg with ⟨g1, g2⟩ | ⟨g1, g2⟩
                   · exact absurd g1 (by rw [h49]; decide)
                   · exact g2 (fun j hj => z j (by omega)))
                | (refine hP 1 (Or.inl ⟨rfl, fun j hj => ?_⟩)
                   rcases hg with ⟨g1, g2⟩ | ⟨g1, g2⟩
                   · by_cases e : j = i
                     · rw [e]; exact ⟨a, b⟩
                     · exact g2 j (by omega)
                   · exact absurd g1 h49)
                | exact hP 0 (Or.inr ⟨rfl, fun z => a (z i (by omega))⟩)
      · rw [ck5 s1 hs z] at hQ1
        refine y_run (own := "LoafFallModel") rfl (by decide +kernel) (Nat.le_of_ble_eq_true rfl) rfl ?_
        refine y_aload_n dX12_needCut_0 rfl rfl ?_
        refine y_getr dX12_needCut_1 gf_X12_13 sh_239 rfl ?_
        refine y_iload_n dX12_needCut_4 rfl rfl ?_
        refine y_ialdN dX12_needCut_5 sh_241 rfl (by first | omega | decide) (by decide) ?_
        refine y_if_lt (tgt := 13) dX12_needCut_6 (by decide) (fun h6 => absurd h6 (by rw [s1]; exact nI_pos (by omega))) (fun h6 => ?_)
        refine y_iload_n dX12_needCut_9 rfl rfl ?_
        refine y_if_ne (tgt := 19) dX12_needCut_10 (by decide) (fun h10 => ?_) (fun h10 => absurd h10 ht)
        refine y_aload_n dX12_needCut_19 rfl rfl ?_
        refine y_getr dX12_needCut_20 gf_X12_13 sh_239 rfl ?_
        refine y_iload_n dX12_needCut_23 rfl rfl ?_
        refine y_ialdN dX12_needCut_24 sh_241 rfl (by first | omega | decide) (by decide) ?_
        refine y_bipush (v := 24) dX12_needCut_25 (by decide) ?_
        refine y_icmp_eq (tgt := 36) dX12_needCut_27 (by decide) (fun h27 => absurd h27 (by rw [s1]; exact fun e => z ((nI_eq (by omega) (by decide)).mp e))) (fun h27 => ?_)
        refine y_aload_n dX12_needCut_30 rfl rfl ?_
        refine y_iconst (v := 5) dX12_needCut_31 (by decide) ?_
        refine y_ivI1 dX12_needCut_32 mv_X12_100 my_X12_meets (Or.inl rfl) sh_239 ?_
        refine c_X12_meets (f := 5) rfl (by omega) ⟨_, rfl, ?_⟩
        refine y_ireturn dX12_needCut_35 rfl rfl ?_
        exact hQ1 (by omega)
set_option maxHeartbeats 1000000 in
theorem c_X12_needBoth {L : Nat} {xs : Nat → Int32} {d : Nat} {m : sM} {n : sN} {Q : sQ} {f g k : Nat} {x z r : Int32} (hx : x = nI f) (hf : f < 4) (hz : z = nI g) (hg : g < 4) (hr : r = nI k) (hk : k < 6) (hs : m 241 k = -1 ∨ ∃ s : Nat, s ≤ 40 ∧ m 241 k = nI s) (hQ0 : LKp m f g k = 0 → Q (some (.int 0)) m n) (hQ1 : ¬ LKp m f g k = 0 → Q (some (.int (-3))) (metM m (LKp m f g k)) n) : sRun (scT L xs) (d + 3) yX12_needBoth cX12_needBoth 4 (some .int) [.ref 239, .int x, .int z, .int r] m n Q := by
  subst hx hz hr
  refine y_run (own := "LoafFallModel") rfl (by decide +kernel) (Nat.le_of_ble_eq_true rfl) rfl ?_
  refine y_iload_n dX12_needBoth_0 rfl rfl ?_
  refine y_isI1 dX12_needBoth_1 ms_X12_151 my_X12_isPlace (Or.inl rfl) ?_
  refine c_X12_isPlace (fun _ => ⟨_, rfl, ?_⟩) (fun z => absurd (⟨f, hf, rfl⟩ : inN (nI f) 4) z)
  refine y_if_eq (tgt := 21) dX12_needBoth_4 (by decide) (fun h4 => absurd h4 (by decide)) (fun h4 => ?_)
  refine y_iload_n dX12_needBoth_7 rfl rfl ?_
  refine y_isI1 dX12_needBoth_8 ms_X12_151 my_X12_isPlace (Or.inl rfl) ?_
  refine c_X12_isPlace (fun _ => ⟨_, rfl, ?_⟩) (fun z => absurd (⟨g, hg, rfl⟩ : inN (nI g) 4) z)
  refine y_if_eq (tgt := 21) dX12_needBoth_11 (by decide) (fun h11 => absurd h11 (by decide)) (fun h11 => ?_)
  refine y_iload_n dX12_needBoth_14 rfl rfl ?_
  refine y_isI1 dX12_needBoth_15 ms_X12_96 my_X12_isRow (Or.inl rfl) ?_
  refine c_X12_isRow (fun _ => ⟨_, rfl, ?_⟩) (fun z => absurd (⟨k, hk, rfl⟩ : inN (nI k) 6) z)
  refine y_if_ne (tgt := 23) dX12_needBoth_18 (by decide) (fun h18 => ?_) (fun h18 => absurd h18 (by decide))
  refine y_aload_n dX12_needBoth_23 rfl rfl ?_
  refine y_iload_n dX12_needBoth_24 rfl rfl ?_
  refine y_aload_n dX12_needBoth_25 rfl rfl ?_
  refine y_getr dX12_needBoth_26 gf_X12_29 sh_239 rfl ?_
  refine y_iload_n dX12_needBoth_29 rfl rfl ?_
  refine y_zaldN dX12_needBoth_30 sh_246 rfl (by first | omega | decide) (by decide) ?_
  refine y_if_eq (tgt := 47) dX12_needBoth_31 (by decide) (fun h31 => ?_) (fun h31 => ?_)
  · have e1 : LKp m f g k = 1 := if_pos (by
      first
        | exact Or.inl h31
        | exact Or.inr h40)
    rw [e1] at hQ1 hQ0
    refine y_iconst (v := 0) dX12_needBoth_47 (by decide) ?_
    refine y_ivI2 dX12_needBoth_48 mv_X12_256 my_X12_needCut (Or.inl rfl) sh_239 ?_
    refine c_X12_needCut rfl hk hs (fun q => ⟨_, rfl, ?_⟩) (fun q => ⟨_, rfl, ?_⟩)
    · refine y_ireturn dX12_needBoth_51 rfl rfl ?_
      first
        | exact hQ0 q
        | exact hQ1 q
        | exact absurd q (by unfold ncL; decide)
    · refine y_ireturn dX12_needBoth_51 rfl rfl ?_
      first
        | exact hQ0 q
        | exact hQ1 q
        | exact absurd q (by unfold ncL; decide)
  · refine y_aload_n dX12_needBoth_34 rfl rfl ?_
    refine y_getr dX12_needBoth_35 gf_X12_36 sh_239 rfl ?_
    refine y_iload_n dX12_needBoth_38 rfl rfl ?_
    refine y_zaldN dX12_needBoth_39 sh_248 rfl (by first | omega | decide) (by decide) ?_
    refine y_if_eq (tgt := 47) dX12_needBoth_40 (by decide) (fun h40 => ?_) (fun h40 => ?_)
    · have e1 : LKp m f g k = 1 := if_pos (by
        first
          | exact Or.inl h31
          | exact Or.inr h40)
      rw [e1] at hQ1 hQ0
      refine y_iconst (v := 0) dX12_needBoth_47 (by decide) ?_
      refine y_ivI2 dX12_needBoth_48 mv_X12_256 my_X12_needCut (Or.inl rfl) sh_239 ?_
      refine c_X12_needCut rfl hk hs (fun q => ⟨_, rfl, ?_⟩) (fun q => ⟨_, rfl, ?_⟩)
      · refine y_ireturn dX12_needBoth_51 rfl rfl ?_
        first
          | exact hQ0 q
          | exact hQ1 q
          | exact absurd q (by unfold ncL; decide)
      · refine y_ireturn dX12_needBoth_51 rfl rfl ?_
        first
          | exact hQ0 q
          | exact hQ1 q
          | exact absurd q (by unfold ncL; decide)
    · have e1 : LKp m f g k = ckL m k := if_neg (fun z => z.elim h31 h40)
      rw [e1] at hQ1 hQ0
      refine y_iconst (v := 1) dX12_needBoth_43 (by decide) ?_
      refine y_goto (tgt := 48) dX12_needBoth_44 (by decide) ?_
      refine y_ivI2 dX12_needBoth_48 mv_X12_256 my_X12_needCut (Or.inl rfl) sh_239 ?_
      refine c_X12_needCut rfl hk hs (fun q => ⟨_, rfl, ?_⟩) (fun q => ⟨_, rfl, ?_⟩)
      · refine y_ireturn dX12_needBoth_51 rfl rfl ?_
        first
          | exact hQ0 q
          | exact hQ1 q
          | exact absurd q (by unfold ncL; decide)
      · refine y_ireturn dX12_needBoth_51 rfl rfl ?_
        first
          | exact hQ0 q
          | exact hQ1 q
          | exact absurd q (by unfold ncL; decide)
