/-! ===== why, odds ===== -/
theorem fr_257 {m B : sM} (b : ∀ a, a ≠ 257 → B a = m a) : frM m B := ⟨fun a ha => b a (by omega), ⟨by rw [b 239 (by omega)], by rw [b 239 (by omega)], by rw [b 239 (by omega)]⟩, fun p hp => by rw [b 254 (by omega)]⟩
theorem gP_n {m : sM} {V : Nat → Int32} {p : Nat} : ¬ gP m V p < 0 := by
  obtain ⟨u, h1, h2⟩ := unl_le (f := CV (bo m (p / 4) (p % 4))) (g := V) 24
  unfold gP
  rw [h2]
  exact nI_pos (by omega)
theorem sel_min {ok : Nat → Prop} {cd g : Nat → Int32} : ∀ k, (∀ j, j < k → ¬ cd j = -9) → ∀ q, q < k → ok q → (selF ok ltI cd g k).2 ≤ g q := by
  intro k
  induction k with
  | zero => intro _ q hq; omega
  | succ k ih =>
    intro hcd q hq okq
    have ih := ih (fun j hj => hcd j (by omega))
    by_cases z : ok k ∧ ((selF ok ltI cd g k).1 = -9 ∨ ltI (g k) (selF ok ltI cd g k).2)
    · rw [sel_y z.1 z.2]
      by_cases e : q = k
      · rw [e]; exact Int32.le_refl _
      · rcases z.2 with y | y
        · exact absurd y (sel_some' okq k (fun i hi => hcd i (by omega)) (by omega))
        · exact Int32.le_of_lt (Int32.lt_of_lt_of_le y (ih q (by omega) okq))
    · rw [sel_n z]
      by_cases e : q = k
      · rw [e] at okq ⊢
        exact Int32.not_lt.mp (fun y => z ⟨okq, Or.inr y⟩)
      · exact ih q (by omega) okq
theorem pD {m : sM} {n : sN} (h : Rel m n) : ∀ p, p < 16 → okP m p → flR (bo m (p / 4) (p % 4)) ∧ dOK (bo m (p / 4) (p % 4)) := fun p hp ok => by
  obtain ⟨-, -, t3⟩ := both_there h (f := p / 4) (g := p % 4) (by omega) (by omega) ok.1 ok.2
  exact ⟨(t3 _).1, (t3 _).2.1⟩
theorem okP_f {m m' : sM} (e1 : m' 246 = m 246) (e2 : m' 248 = m 248) : okP m' = okP m := by
  funext p
  exact propext (okP_m e1 e2 p)
theorem gP_f {m m' : sM} {V : Nat → Int32} (e1 : m' 247 = m 247) (e2 : m' 249 = m 249) (e3 : m' 250 = m 250) : gP m' V = gP m V := by
  funext p
  exact gP_m e1 e2 e3 p
set_option maxHeartbeats 1000000 in
theorem c_X12_why_ok {L : Nat} {xs : Nat → Int32} {d : Nat} {m : sM} {n : sN} {Q : sQ} {k : Nat} {r : Int32} (hr : r = nI k) (hk : k < 6) (h0 : PLp m k = 0) (hs : m 241 k = -1 ∨ ∃ s : Nat, s ≤ 40 ∧ m 241 k = nI s) (hD : ∀ p, p < 16 → okP m p → flR (bo m (p / 4) (p % 4)) ∧ dOK (bo m (p / 4) (p % 4))) (hex : ∃ p, p < 16 ∧ okP m p) (hQ : ∀ M j, frM m M → j < 16 → selF (okP m) ltI nI (gP m (fun i => m 242 (40 * k + i))) 16 = (nI j, gP m (fun i => m 242 (40 * k + i)) j) → Q (some (.int (cdP j))) (tellsM M (gP m (fun i => m 242 (40 * k + i)) j)) n) : sRun (scT L xs) (d + 11) yX12_why cX12_why 4 (some .int) [.ref 239, .int r] m n Q := by
  subst hr
  obtain ⟨p0, q1, q2⟩ := hex
  obtain ⟨j, j1, j2, j3⟩ := (sel_ex (ok := okP m) (bt := ltI) (cd := nI) (g := gP m (fun i => m 242 (40 * k + i))) 16).resolve_left (fun e => sel_some' (bt := ltI) (cd := nI) (g := gP m (fun i => m 242 (40 * k + i))) q2 16 (fun i hi => nI_n9' (by omega)) q1 (by rw [e]))
  refine y_run (own := "LoafFallModel") rfl (by decide +kernel) (Nat.le_of_ble_eq_true rfl) rfl ?_
  refine y_iload_n dX12_why_0 rfl rfl ?_
  refine y_isI1 dX12_why_1 ms_X12_96 my_X12_isRow (Or.inl rfl) ?_
  refine c_X12_isRow (fun _ => ⟨_, rfl, ?_⟩) (fun z => absurd (⟨k, hk, rfl⟩ : inN (nI k) 6) z)
  refine y_if_ne (tgt := 9) dX12_why_4 (by decide) (fun h4 => ?_) (fun h4 => absurd h4 (by decide))
  refine y_aload_n dX12_why_9 rfl rfl ?_
  refine y_iload_n dX12_why_10 rfl rfl ?_
  refine y_ivI1 dX12_why_11 mv_X12_269 my_X12_needPairs (Or.inl rfl) sh_239 ?_
  refine c_X12_needPairs rfl hk hs hD (fun z => absurd h0 z) (fun _ B M hW b1 b2 b3 => ⟨_, rfl, ?_⟩)
  have m257 : M 257 = B 257 := hW.o (by omega) (by omega) (by omega)
  refine y_ist4_2 dX12_why_14 rfl ?_
  refine y_iload_n dX12_why_15 rfl rfl ?_
  refine y_if_ge (tgt := 21) dX12_why_16 (by decide) (fun h16 => ?_) (fun h16 => absurd (by decide) h16)
  refine y_aload_n dX12_why_21 rfl rfl ?_
  refine y_ivI0 dX12_why_22 mv_X12_272 my_X12_leastPair (Or.inl rfl) sh_239 ?_
  refine c_X12_leastPair (ok := okP m) (U := gP m (fun i => m 242 (40 * k + i))) (fun p hp ok => by rw [m257]; exact b2 p hp ok) (fun p hp ok => by rw [m257]; exact b3 p hp ok) (fun p => gP_n) ⟨_, rfl, ?_⟩
  rw [j3]
  refine y_ist4_3 dX12_why_25 rfl ?_
  refine y_aload_n dX12_why_26 rfl rfl ?_
  refine y_aload_n dX12_why_27 rfl rfl ?_
  refine y_getr dX12_why_28 gf_X12_63 sh_239 rfl ?_
  refine y_iload_n dX12_why_31 rfl rfl ?_
  refine y_ialdN dX12_why_32 sh_257 rfl (by first | omega | decide) (by decide) ?_
  rw [show M 257 j = gP m (fun i => m 242 (40 * k + i)) j from by rw [m257]; exact b2 j j1 j2]
  refine y_bipush (v := 10) dX12_why_33 (by decide) ?_
  refine y_iload_n dX12_why_35 rfl rfl ?_
  refine y_iconst (v := 4) dX12_why_36 (by decide) ?_
  refine y_idivN (a := j) (b := 4) dX12_why_37 rfl rfl (by omega) (by first | decide | omega) (by first | decide | omega) ?_
  refine y_imulN (a := 10) (b := j / 4) dX12_why_38 rfl rfl ?_
  refine y_iload_n dX12_why_39 rfl rfl ?_
  refine y_iconst (v := 4) dX12_why_40 (by decide) ?_
  refine y_iremN (a := j) (b := 4) dX12_why_41 rfl rfl (by omega) (by first | decide | omega) (by first | decide | omega) ?_
  refine y_iaddN (a := 10 * (j / 4)) (b := j % 4) dX12_why_42 rfl rfl ?_
  refine y_ivI2 dX12_why_43 mv_X12_108 my_X12_tells (Or.inl rfl) sh_239 ?_
  refine c_X12_tells ⟨_, rfl, ?_⟩
  refine y_ireturn dX12_why_46 rfl rfl ?_
  exact hQ M j ((fr_257 b1).tr hW.fr) j1 j3
set_option maxHeartbeats 2000000 in
theorem p_why {L : Nat} {xs : Nat → Int32} {d : Nat} {m : sM} {n : sN} {r : Int32} (h : Rel m n) : PI L xs (d + 11) yX11_why cX11_why 7 yX12_why cX12_why 4 [.int r] m n := by
  unfold PI
  by_cases hr : inN r 6
  · obtain ⟨k, hk, rfl⟩ := hr
    have hr : inN (nI k) 6 := ⟨k, hk, rfl⟩
    by_cases h0 : PLp m k = 0
    · refine c_X11_why_ok h rfl hk h0 (fun m' b wv v1 v2 sc => ⟨_, rfl, ?_⟩)
      generalize em : tellM m' wv = m1
      have gg : ∀ a, 137 ≤ a → m1 a = m a := fun a ha => by rw [← em, tell_o (by omega)]; exact v1 a (by omega)
      have eo := okP_f (gg 246 (by omega)) (gg 248 (by omega))
      have eb : ∀ f g, bo m1 f g = bo m f g := fun f g => bo_m (gg _ (by omega)) (gg _ (by omega)) (gg _ (by omega))
      refine c_X12_why_ok rfl hk (by rw [PLp_m (gg _ (by omega)) (gg _ (by omega)) (gg _ (by omega)) (gg _ (by omega))]; exact h0) (by rw [gg _ (by omega)]; exact h.szs.1 k hk) (fun p hp ok => by rw [eb]; rw [eo] at ok; exact pD h p hp ok) (by rw [eo]; exact pairs_some h h0) (fun M j f1 j1 j3 => ?_)
      rw [eo, gP_f (gg 247 (by omega)) (gg 249 (by omega)) (gg 250 (by omega)), gg 242 (by omega)] at j3
      rw [gP_f (gg 247 (by omega)) (gg 249 (by omega)) (gg 250 (by omega)), gg 242 (by omega)]
      rcases sel_cd (ok := okP m) (bt := ltI) (cd := cdP) (cd' := nI) (g := gP m (fun i => m 242 (40 * k + i))) 16 (fun j hj => ⟨nI_n9' (by omega), nI_n9' (by omega)⟩) with ⟨e1, e2⟩ | ⟨i, i1, i2, i3, i4⟩
      · exfalso
        rw [e2] at j3
        exact nI_n9' (i := j) (by omega) (congrArg Prod.fst j3).symm
      · rw [i4] at j3
        have ij : i = j := (nI_eq (by omega) (by omega)).mp (congrArg Prod.fst j3)
        subst ij
        have eb1 : b = cdP i := by rw [sc.1, i3]
        have ew : wv = gP m (fun i => m 242 (40 * k + i)) i := by rw [sc.2.1 (by rw [eb1]; exact nI_n9' (by omega)), i3]
        refine ⟨by rw [eb1], ?_⟩
        rw [← ew]
        rw [← em] at f1
        exact Rel_tell h v1 v2 f1
    · refine y_run (own := "LoafFall") rfl (by decide +kernel) (Nat.le_of_ble_eq_true rfl) rfl ?_
      refine y_iload_n dX11_why_0 rfl rfl ?_
      refine y_isI1 dX11_why_1 ms_X11_101 my_X11_isRow (Or.inl rfl) ?_
      refine c_X11_isRow (fun _ => ⟨_, rfl, ?_⟩) (fun z => absurd hr z)
      refine y_if_ne (tgt := 9) dX11_why_4 (by decide) (fun h4 => ?_) (fun h4 => absurd h4 (by decide))
      refine y_aload_n dX11_why_9 rfl rfl ?_
      refine y_iload_n dX11_why_10 rfl rfl ?_
      refine y_ivI1 dX11_why_11 mv_X11_283 my_X11_lackOfPairs (Or.inl rfl) sh_0 ?_
      refine c_X11_lackOfPairs h rfl hk ⟨_, rfl, ?_⟩
      refine y_ist7_2 dX11_why_14 rfl ?_
      refine y_iload_n dX11_why_15 rfl rfl ?_
      refine y_if_eq (tgt := 25) dX11_why_16 (by decide) (fun h16 => absurd h16 (fun e => h0 ((nI_eq (b := 0) (by have := PLp_le m k; omega) (by decide)).mp e))) (fun h16 => ?_)
      refine y_aload_n dX11_why_19 rfl rfl ?_
      refine y_iload_n dX11_why_20 rfl rfl ?_
      refine y_ivI1 dX11_why_21 mv_X11_105 my_X11_found (Or.inl rfl) sh_0 ?_
      refine c_X11_found (f := PLp m k) rfl (by omega) (PLp_le m k) ⟨_, rfl, ?_⟩
      refine y_ireturn dX11_why_24 rfl rfl ?_
      refine ⟨_, rfl, ?_⟩
      obtain ⟨m1, em⟩ : ∃ m1, m1 = foundM m (PLp m k) := ⟨_, rfl⟩
      rw [← em]
      have gg : ∀ a, 138 ≤ a → m1 a = m a := fun a ha => by rw [em]; exact found_o (by omega) (by omega)
      have eL : PLp m1 k = PLp m k := PLp_m (gg _ (by omega)) (gg _ (by omega)) (gg _ (by omega)) (gg _ (by omega))
      have eb : ∀ f g, bo m1 f g = bo m f g := fun f g => bo_m (gg _ (by omega)) (gg _ (by omega)) (gg _ (by omega))
      have eo := okP_f (gg 246 (by omega)) (gg 248 (by omega))
      refine y_run (own := "LoafFallModel") rfl (by decide +kernel) (Nat.le_of_ble_eq_true rfl) rfl ?_
      refine y_iload_n dX12_why_0 rfl rfl ?_
      refine y_isI1 dX12_why_1 ms_X12_96 my_X12_isRow (Or.inl rfl) ?_
      refine c_X12_isRow (fun _ => ⟨_, rfl, ?_⟩) (fun z => absurd hr z)
      refine y_if_ne (tgt := 9) dX12_why_4 (by decide) (fun h4 => ?_) (fun h4 => absurd h4 (by decide))
      refine y_aload_n dX12_why_9 rfl rfl ?_
      refine y_iload_n dX12_why_10 rfl rfl ?_
      refine y_ivI1 dX12_why_11 mv_X12_269 my_X12_needPairs (Or.inl rfl) sh_239 ?_
      refine c_X12_needPairs rfl hk (by rw [gg _ (by omega)]; exact h.szs.1 k hk) (fun p hp ok => by rw [eb]; rw [eo] at ok; exact pD h p hp ok) (fun _ => ⟨_, rfl, ?_⟩) (fun z => absurd (eL.symm.trans z) h0)
      refine y_ist4_2 dX12_why_14 rfl ?_
      refine y_iload_n dX12_why_15 rfl rfl ?_
      refine y_if_ge (tgt := 21) dX12_why_16 (by decide) (fun h16 => absurd h16 (by decide)) (fun h16 => ?_)
      refine y_iload_n dX12_why_19 rfl rfl ?_
      refine y_ireturn dX12_why_20 rfl rfl ?_
      rw [eL, em]
      exact ⟨rfl, Rel_met h⟩
  · refine y_run (own := "LoafFall") rfl (by decide +kernel) (Nat.le_of_ble_eq_true rfl) rfl ?_
    refine y_iload_n dX11_why_0 rfl rfl ?_
    refine y_isI1 dX11_why_1 ms_X11_101 my_X11_isRow (Or.inl rfl) ?_
    refine c_X11_isRow (fun z => absurd z hr) (fun _ => ⟨_, rfl, ?_⟩)
    refine y_if_ne (tgt := 9) dX11_why_4 (by decide) (fun h4 => absurd (by decide) h4) (fun h4 => ?_)
    refine y_iconst (v := -1) dX11_why_7 (by decide) ?_
    refine y_ireturn dX11_why_8 rfl rfl ?_
    refine ⟨_, rfl, ?_⟩
    refine y_run (own := "LoafFallModel") rfl (by decide +kernel) (Nat.le_of_ble_eq_true rfl) rfl ?_
    refine y_iload_n dX12_why_0 rfl rfl ?_
    refine y_isI1 dX12_why_1 ms_X12_96 my_X12_isRow (Or.inl rfl) ?_
    refine c_X12_isRow (fun z => absurd z hr) (fun _ => ⟨_, rfl, ?_⟩)
    refine y_if_ne (tgt := 9) dX12_why_4 (by decide) (fun h4 => absurd (by decide) h4) (fun h4 => ?_)
    refine y_iconst (v := -1) dX12_why_7 (by decide) ?_
    refine y_ireturn dX12_why_8 rfl rfl ?_
    exact ⟨rfl, h⟩
noncomputable def cN (P : Nat → Prop) : Nat → Nat
  | 0 => 0
  | k + 1 => cN P k + @ite _ (P k) (Classical.propDecidable _) 1 0
theorem cN_y {P : Nat → Prop} {k : Nat} (h : P k) : cN P (k + 1) = cN P k + 1 := by rw [cN, if_pos h]
theorem cN_n {P : Nat → Prop} {k : Nat} (h : ¬ P k) : cN P (k + 1) = cN P k := by rw [cN, if_neg h, Nat.add_zero]
theorem cN_le {P : Nat → Prop} : ∀ k, cN P k ≤ k := by
  intro k
  induction k with
  | zero => exact Nat.le_refl _
  | succ k ih =>
    by_cases z : P k
    · rw [cN_y z]; omega
    · rw [cN_n z]; omega
theorem cN_0 {P : Nat → Prop} : ∀ k, (∀ j, j < k → ¬ P j) → cN P k = 0 := by
  intro k
  induction k with
  | zero => intro _; rfl
  | succ k ih => intro h; rw [cN_n (h k (by omega)), ih (fun j hj => h j (by omega))]
theorem cN_mono {P P' : Nat → Prop} (hp : ∀ j, P' j → P j) : ∀ k, cN P' k ≤ cN P k := by
  intro k
  induction k with
  | zero => exact Nat.le_refl _
  | succ k ih =>
    by_cases z : P' k
    · rw [cN_y z, cN_y (hp k z)]; omega
    · rw [cN_n z]
      by_cases y : P k
      · rw [cN_y y]; omega
      · rw [cN_n y]; exact ih
theorem cN_pos {P : Nat → Prop} {j : Nat} (hj : P j) : ∀ k, j < k → 1 ≤ cN P k := by
  intro k
  induction k with
  | zero => intro h; omega
  | succ k ih =>
    intro h
    by_cases z : P k
    · rw [cN_y z]; omega
    · rw [cN_n z]
      exact ih (by
        rcases Nat.lt_or_ge j k with y | y
        · exact y
        · exact absurd hj (by rw [show j = k by omega]; exact z))
def pE (ok : Nat → Prop) (G : Nat → Int32) (v : Int32) (p : Nat) : Prop := ok p ∧ G p = v
def pF (ok : Nat → Prop) (G : Nat → Int32) (f : Nat) (v : Int32) (p : Nat) : Prop := ok p ∧ G p = v ∧ p / 4 = f
/-- the greatest that divides both -/
def shF (a b : Nat) : Nat → Nat
  | 0 => 1
  | e + 1 => if 2 ≤ e ∧ a % e = 0 ∧ b % e = 0 then e else shF a b e
theorem shF_g : ∀ a, a < 17 → ∀ b, b < 17 → 1 ≤ b → shF a b (b + 1) = Nat.gcd a b := by decide +kernel
theorem shF_2 (a b : Nat) : shF a b 2 = 1 := by
  show (if 2 ≤ 1 ∧ _ then _ else if 2 ≤ 0 ∧ _ then _ else 1) = 1
  rw [if_neg (fun z => absurd z.1 (by omega)), if_neg (fun z => absurd z.1 (by omega))]
theorem gcd_b {a b : Nat} (hb : 1 ≤ b) (h : b ≤ 16) : 1 ≤ Nat.gcd a b ∧ Nat.gcd a b ≤ 16 := ⟨Nat.gcd_pos_of_pos_right a hb, Nat.le_trans (Nat.gcd_le_right a hb) h⟩
theorem lcmp_eq {x y : Int64} : lg_cmp x y = 0 ↔ x = y := by
  unfold lg_cmp
  by_cases h : x > y
  · rw [if_pos h]
    exact ⟨fun z => absurd z (by decide), fun z => absurd h (by rw [z]; exact Int64.lt_irrefl)⟩
  · rw [if_neg h]
    by_cases h2 : x = y
    · rw [if_pos h2]; exact ⟨fun _ => h2, fun _ => rfl⟩
    · rw [if_neg h2]; exact ⟨fun z => absurd z (by decide), fun z => absurd z h2⟩
theorem mlt {x e : Nat} (h : x < 2 ^ 31) : x % e < 2 ^ 31 := Nat.lt_of_le_of_lt (Nat.mod_le x e) h
theorem mod0 {x : Nat} (h : x < 2 ^ 31) (e : nI x = 0) : x = 0 := (nI_eq (b := 0) h (by decide)).mp e
set_option maxHeartbeats 1000000 in
theorem c_X11_tellFraction {L : Nat} {xs : Nat → Int32} {d : Nat} {m : sM} {n : sN} {Q : sQ} {a b : Nat} {x z : Int32} (hx : x = nI a) (hz : z = nI b) (ha : a ≤ 16) (hb : 1 ≤ b) (hb2 : b ≤ 16) (hQ : Q none m (s_upL (s_upL n 0 18 (lN (a / Nat.gcd a b))) 0 19 (lN (b / Nat.gcd a b)))) : sRun (scT L xs) (d + 1) yX11_tellFraction cX11_tellFraction 5 none [.ref 0, .int x, .int z] m n Q := by
  subst hx hz
  have hg := gcd_b (a := a) hb hb2
  refine y_run (own := "LoafFall") rfl (by decide +kernel) (Nat.le_of_ble_eq_true rfl) rfl ?_
  refine y_iconst (v := 1) dX11_tellFraction_0 (by decide) ?_
  refine y_ist5_3 dX11_tellFraction_1 rfl ?_
  refine y_iconst (v := 2) dX11_tellFraction_2 (by decide) ?_
  refine y_ist5_4 dX11_tellFraction_3 rfl ?_
  suffices hs : sV (scT L xs) d "LoafFall" cX11_tellFraction 5 none Q 5 [some (.ref 0), some (.int (nI a)), some (.int (nI b)), some (.int (nI (shF a b 2))), some (.int (nI 2))] [] m n by
    rw [shF_2] at hs
    exact hs
  refine cnt2 (P := fun e => sV (scT L xs) d "LoafFall" cX11_tellFraction 5 none Q 5 [some (.ref 0), some (.int (nI a)), some (.int (nI b)), some (.int (nI (shF a b e))), some (.int (nI e))] [] m n) 2 (b + 1) ?_ ?_ 2 (Nat.le_refl _) (by omega)
  · rw [shF_g a (by omega) b (by omega) hb]
    have q1 : a / Nat.gcd a b ≤ a := Nat.div_le_self _ _
    have q2 : b / Nat.gcd a b ≤ b := Nat.div_le_self _ _
    refine y_iload dX11_tellFraction_5 rfl ?_
    refine y_iload_n dX11_tellFraction_7 rfl rfl ?_
    refine y_icmp_gt (tgt := 34) dX11_tellFraction_8 (by decide) (fun h8 => ?_) (fun h8 => absurd (nI_lt (a := b) (b := b + 1) (by omega) (by omega)) h8)
    refine y_aload_n dX11_tellFraction_34 rfl rfl ?_
    refine y_iload_n dX11_tellFraction_35 rfl rfl ?_
    refine y_iload_n dX11_tellFraction_36 rfl rfl ?_
    refine y_idivN (a := a) (b := (Nat.gcd a b)) dX11_tellFraction_37 rfl rfl (by omega) (by first | decide | omega) (by first | decide | omega) ?_
    refine y_i2l dX11_tellFraction_38 ?_
    refine y_putl dX11_tellFraction_39 pf_X11_379 sh_0 rfl ?_
    refine y_aload_n dX11_tellFraction_42 rfl rfl ?_
    refine y_iload_n dX11_tellFraction_43 rfl rfl ?_
    refine y_iload_n dX11_tellFraction_44 rfl rfl ?_
    refine y_idivN (a := b) (b := (Nat.gcd a b)) dX11_tellFraction_45 rfl rfl (by omega) (by first | decide | omega) (by first | decide | omega) ?_
    refine y_i2l dX11_tellFraction_46 ?_
    refine y_putl dX11_tellFraction_47 pf_X11_95 sh_0 rfl ?_
    refine y_return dX11_tellFraction_50 rfl ?_
    rw [nI_l (by omega), nI_l (by omega)]
    exact hQ
  · intro e hk0 hk hP
    refine y_iload dX11_tellFraction_5 rfl ?_
    refine y_iload_n dX11_tellFraction_7 rfl rfl ?_
    refine y_icmp_gt (tgt := 34) dX11_tellFraction_8 (by decide) (fun h8 => absurd h8 (nI_nlt (a := b) (b := e) (by omega) (by omega))) (fun h8 => ?_)
    refine y_iload_n dX11_tellFraction_11 rfl rfl ?_
    refine y_iload dX11_tellFraction_12 rfl ?_
    refine y_iremN (a := a) (b := e) dX11_tellFraction_14 rfl rfl (by omega) (by first | decide | omega) (by first | decide | omega) ?_
    refine y_if_ne (tgt := 28) dX11_tellFraction_15 (by decide) (fun h15 => ?_) (fun h15 => ?_)
    · refine y_iinc5_4 dX11_tellFraction_28 (nI_1 _) rfl ?_
      refine y_goto (tgt := 5) dX11_tellFraction_31 (by decide) ?_
      first
        | (rw [show shF a b (e + 1) = e from if_pos ⟨by omega, mod0 (mlt (by omega)) h15, mod0 (mlt (by omega)) h22⟩] at hP; exact hP)
        | (rw [show shF a b (e + 1) = shF a b e from if_neg (fun z => h15 (by rw [z.2.1]; rfl))] at hP; exact hP)
        | (rw [show shF a b (e + 1) = shF a b e from if_neg (fun z => h22 (by rw [z.2.2]; rfl))] at hP; exact hP)
    · refine y_iload_n dX11_tellFraction_18 rfl rfl ?_
      refine y_iload dX11_tellFraction_19 rfl ?_
      refine y_iremN (a := b) (b := e) dX11_tellFraction_21 rfl rfl (by omega) (by first | decide | omega) (by first | decide | omega) ?_
      refine y_if_ne (tgt := 28) dX11_tellFraction_22 (by decide) (fun h22 => ?_) (fun h22 => ?_)
      · refine y_iinc5_4 dX11_tellFraction_28 (nI_1 _) rfl ?_
        refine y_goto (tgt := 5) dX11_tellFraction_31 (by decide) ?_
        first
          | (rw [show shF a b (e + 1) = e from if_pos ⟨by omega, mod0 (mlt (by omega)) h15, mod0 (mlt (by omega)) h22⟩] at hP; exact hP)
          | (rw [show shF a b (e + 1) = shF a b e from if_neg (fun z => h15 (by rw [z.2.1]; rfl))] at hP; exact hP)
          | (rw [show shF a b (e + 1) = shF a b e from if_neg (fun z => h22 (by rw [z.2.2]; rfl))] at hP; exact hP)
      · refine y_iload dX11_tellFraction_25 rfl ?_
        refine y_ist5_3 dX11_tellFraction_27 rfl ?_
        refine y_iinc5_4 dX11_tellFraction_28 (nI_1 _) rfl ?_
        refine y_goto (tgt := 5) dX11_tellFraction_31 (by decide) ?_
        first
          | (rw [show shF a b (e + 1) = e from if_pos ⟨by omega, mod0 (mlt (by omega)) h15, mod0 (mlt (by omega)) h22⟩] at hP; exact hP)
          | (rw [show shF a b (e + 1) = shF a b e from if_neg (fun z => h15 (by rw [z.2.1]; rfl))] at hP; exact hP)
          | (rw [show shF a b (e + 1) = shF a b e from if_neg (fun z => h22 (by rw [z.2.2]; rfl))] at hP; exact hP)
theorem gne {q : Nat} (h : 1 ≤ q) (h2 : q ≤ 16) : ¬ lN q = 0 := fun e => absurd ((lN_eq (a := q) (b := 0) (by omega) (by omega)).mp e) (by omega)
set_option maxHeartbeats 1000000 in
theorem c_X12_fraction {L : Nat} {xs : Nat → Int32} {d : Nat} {m : sM} {n : sN} {Q : sQ} {a b : Nat} {u l : Int64} {x : Int32} (hu : u = lN a) (hl : l = lN b) (ha : a ≤ 16) (hb : 1 ≤ b) (hb2 : b ≤ 16) (hQ : Q (some (.int x)) m (s_upL (s_upL n 239 3 (lN (a / Nat.gcd a b))) 239 4 (lN (b / Nat.gcd a b)))) : sRun (scT L xs) (d + 1) yX12_fraction cX12_fraction 12 (some .int) [.ref 239, .long u, .long l, .int x] m n Q := by
  subst hu hl
  have hg := gcd_b (a := a) hb hb2
  refine y_run (own := "LoafFallModel") rfl (by decide +kernel) (Nat.le_of_ble_eq_true rfl) rfl ?_
  refine y_lload_n dX12_fraction_0 rfl rfl ?_
  refine y_lst12_6 dX12_fraction_1 rfl ?_
  refine y_lload_n dX12_fraction_3 rfl rfl ?_
  refine y_lst12_8 dX12_fraction_4 rfl ?_
  suffices hs : ∀ q p, ∀ x10 : Option Value, p ≤ 16 → q ≤ 16 → Nat.gcd p q = Nat.gcd a b → sV (scT L xs) d "LoafFallModel" cX12_fraction 12 (some .int) Q 6 [some (.ref 239), some (.long (lN a)), none, some (.long (lN b)), none, some (.int x), some (.long (lN p)), none, some (.long (lN q)), none, x10, none] [] m n from hs b a none ha hb2 rfl
  intro q
  induction q using Nat.strongRecOn with
  | _ q ih =>
    intro p x10 hp hq hgc
    rcases Nat.eq_zero_or_pos q with z | z
    · subst z
      rw [Nat.gcd_zero_right] at hgc
      subst hgc
      refine y_lload dX12_fraction_6 rfl ?_
      refine y_lconst (v := 0) dX12_fraction_8 (by decide) ?_
      refine y_lcmp dX12_fraction_9 ?_
      refine y_if_eq (tgt := 31) dX12_fraction_10 (by decide) (fun h10 => ?_) (fun h10 => absurd (lcmp_eq.mpr rfl) h10)
      refine y_aload_n dX12_fraction_31 rfl rfl ?_
      refine y_lload_n dX12_fraction_32 rfl rfl ?_
      refine y_lload dX12_fraction_33 rfl ?_
      refine y_ldiv dX12_fraction_35 (gne hg.1 hg.2) ?_
      rw [pk_lDiv (by omega) (by omega) (by omega)]
      refine y_putl dX12_fraction_36 pf_X12_93 sh_239 rfl ?_
      refine y_aload_n dX12_fraction_39 rfl rfl ?_
      refine y_lload_n dX12_fraction_40 rfl rfl ?_
      refine y_lload dX12_fraction_41 rfl ?_
      refine y_ldiv dX12_fraction_43 (gne hg.1 hg.2) ?_
      rw [pk_lDiv (by omega) (by omega) (by omega)]
      refine y_putl dX12_fraction_44 pf_X12_78 sh_239 rfl ?_
      refine y_iload dX12_fraction_47 rfl ?_
      refine y_ireturn dX12_fraction_49 rfl rfl ?_
      exact hQ
    · have hne : ¬ lN q = 0 := gne z (by omega)
      refine y_lload dX12_fraction_6 rfl ?_
      refine y_lconst (v := 0) dX12_fraction_8 (by decide) ?_
      refine y_lcmp dX12_fraction_9 ?_
      refine y_if_eq (tgt := 31) dX12_fraction_10 (by decide) (fun h10 => absurd h10 (fun e => hne (lcmp_eq.mp e))) (fun h10 => ?_)
      refine y_lload dX12_fraction_13 rfl ?_
      refine y_lload dX12_fraction_15 rfl ?_
      refine y_lrem dX12_fraction_17 hne ?_
      rw [pk_lRem (by omega) z (by omega)]
      refine y_lst12_10 dX12_fraction_18 rfl ?_
      refine y_lload dX12_fraction_20 rfl ?_
      refine y_lst12_6 dX12_fraction_22 rfl ?_
      refine y_lload dX12_fraction_24 rfl ?_
      refine y_lst12_8 dX12_fraction_26 rfl ?_
      refine y_goto (tgt := 6) dX12_fraction_28 (by decide) ?_
      have hm := Nat.mod_lt p z
      exact ih (p % q) hm q _ (by omega) (by omega) (by rw [← hgc, Nat.gcd_comm q, ← Nat.gcd_rec, Nat.gcd_comm])
theorem ltP {ok : Nat → Prop} {p q : Nat} (okq : ok q) (nok : ¬ ok p) (h : q < p + 1) : q < p := by
  rcases Nat.lt_or_ge q p with y | y
  · exact y
  · exact absurd okq (by rw [show q = p by omega]; exact nok)
theorem leP {ok : Nat → Prop} {G : Nat → Int32} {lv : Int32} {p : Nat} (v5 : ∀ q, q < p → ok q → lv ≤ G q) (h : lv ≤ G p) : ∀ q, q < p + 1 → ok q → lv ≤ G q := fun q hq okq => by
  by_cases e : q = p
  · rw [e]; exact h
  · exact v5 q (by omega) okq
theorem leN {ok : Nat → Prop} {G : Nat → Int32} {lv : Int32} {p : Nat} (v5 : ∀ q, q < p → ok q → lv ≤ G q) (h : G p < lv) : ∀ q, q < p + 1 → ok q → G p ≤ G q := fun q hq okq => by
  by_cases e : q = p
  · rw [e]; exact Int32.le_refl _
  · exact Int32.le_of_lt (Int32.lt_of_lt_of_le h (v5 q (by omega) okq))
theorem one1 {ok : Nat → Prop} {G : Nat → Int32} {lv : Int32} {p : Nat} (okp : ok p) (v5 : ∀ q, q < p → ok q → lv ≤ G q) (h : G p < lv) : cN (pE ok G (G p)) (p + 1) = 1 := by
  rw [cN_y ⟨okp, rfl⟩, cN_0 p (fun j hj z => absurd (v5 j hj z.1) (by rw [z.2]; exact Int32.not_le.mpr h))]
theorem one2 {ok : Nat → Prop} {G : Nat → Int32} {f : Nat} {lv : Int32} {p : Nat} (okp : ok p) (v5 : ∀ q, q < p → ok q → lv ≤ G q) (h : G p < lv) (hf : p / 4 = f) : cN (pF ok G f (G p)) (p + 1) = 1 := by
  rw [cN_y ⟨okp, rfl, hf⟩, cN_0 p (fun j hj z => absurd (v5 j hj z.1) (by rw [z.2.1]; exact Int32.not_le.mpr h))]
theorem one0 {ok : Nat → Prop} {G : Nat → Int32} {f : Nat} {lv : Int32} {p : Nat} (v5 : ∀ q, q < p → ok q → lv ≤ G q) (h : G p < lv) (hf : ¬ p / 4 = f) : cN (pF ok G f (G p)) (p + 1) = 0 := by
  rw [cN_n (fun z => hf z.2.2), cN_0 p (fun j hj z => absurd (v5 j hj z.1) (by rw [z.2.1]; exact Int32.not_le.mpr h))]
set_option maxHeartbeats 1000000 in
theorem c_X11_odds_ok {L : Nat} {xs : Nat → Int32} {d : Nat} {m : sM} {n : sN} {Q : sQ} {k f : Nat} {r x : Int32} (h : Rel m n) (hr : r = nI k) (hk : k < 6) (hx : x = nI f) (hf : f < 4) (h0 : PLp m k = 0) (hQ : ∀ m' lv, frC m m' → BK m' → (∃ q, q < 16 ∧ okP m q ∧ gP m (fun i => m 242 (40 * k + i)) q = lv) → (∀ q, q < 16 → okP m q → lv ≤ gP m (fun i => m 242 (40 * k + i)) q) → ∀ a b, a = cN (pF (okP m) (gP m (fun i => m 242 (40 * k + i))) f lv) 16 → b = cN (pE (okP m) (gP m (fun i => m 242 (40 * k + i))) lv) 16 → Q (some (.int (nI b))) m' (s_upL (s_upL n 0 18 (lN (a / Nat.gcd a b))) 0 19 (lN (b / Nat.gcd a b)))) : sRun (scT L xs) (d + 8) yX11_odds cX11_odds 9 (some .int) [.ref 0, .int r, .int x] m n Q := by
  subst hr hx
  have hv := ck_0 h hk (PL_0 h0).2.2
  obtain ⟨p0, p1, p2⟩ := pairs_some h h0
  obtain ⟨G, hG⟩ : ∃ G, G = gP m (fun i => m 242 (40 * k + i)) := ⟨_, rfl⟩
  rw [← hG] at hQ
  have gl : ∀ p, G p < 25 := fun p => by rw [hG]; exact unl_lt
  have g24 : ∀ p, G p ≤ 24 := fun p => by
    obtain ⟨u, u1, u2⟩ := unl_le (f := CV (bo m (p / 4) (p % 4))) (g := (fun i => m 242 (40 * k + i))) 24
    rw [hG]
    show unlS _ _ 24 ≤ 24
    rw [u2]
    exact nI_le (b := 24) u1 (by decide)
  refine y_run (own := "LoafFall") rfl (by decide +kernel) (Nat.le_of_ble_eq_true rfl) rfl ?_
  refine y_iload_n dX11_odds_0 rfl rfl ?_
  refine y_isI1 dX11_odds_1 ms_X11_101 my_X11_isRow (Or.inl rfl) ?_
  refine c_X11_isRow (fun _ => ⟨_, rfl, ?_⟩) (fun z => absurd (⟨k, hk, rfl⟩ : inN (nI k) 6) z)
  refine y_if_eq (tgt := 14) dX11_odds_4 (by decide) (fun h4 => absurd h4 (by decide)) (fun h4 => ?_)
  refine y_iload_n dX11_odds_7 rfl rfl ?_
  refine y_isI1 dX11_odds_8 ms_X11_160 my_X11_isFlour (Or.inl rfl) ?_
  refine c_X11_isFlour (fun _ => ⟨_, rfl, ?_⟩) (fun z => absurd (⟨f, hf, rfl⟩ : inN (nI f) 4) z)
  refine y_if_ne (tgt := 16) dX11_odds_11 (by decide) (fun h11 => ?_) (fun h11 => absurd h11 (by decide))
  refine y_aload_n dX11_odds_16 rfl rfl ?_
  refine y_iload_n dX11_odds_17 rfl rfl ?_
  refine y_ivI1 dX11_odds_18 mv_X11_283 my_X11_lackOfPairs (Or.inl rfl) sh_0 ?_
  refine c_X11_lackOfPairs h rfl hk ⟨_, rfl, ?_⟩
  rw [h0]
  refine y_ist9_3 dX11_odds_21 rfl ?_
  refine y_iload_n dX11_odds_22 rfl rfl ?_
  refine y_if_eq (tgt := 32) dX11_odds_23 (by decide) (fun h23 => ?_) (fun h23 => absurd (by decide) h23)
  refine y_bipush (v := 25) dX11_odds_32 (by decide) ?_
  refine y_ist9_4 dX11_odds_34 rfl ?_
  refine y_iconst (v := 0) dX11_odds_36 (by decide) ?_
  refine y_ist9_5 dX11_odds_37 rfl ?_
  refine y_iconst (v := 0) dX11_odds_39 (by decide) ?_
  refine y_ist9_6 dX11_odds_40 rfl ?_
  refine y_iconst (v := 0) dX11_odds_42 (by decide) ?_
  refine y_ist9_7 dX11_odds_43 rfl ?_
  refine cnt (P := fun p => ∀ m' lv, ∀ a8 : Option Value, frC m m' → BK m' → lv ≤ 25 → (lv = 25 ∨ ∃ q, q < p ∧ okP m q ∧ G q = lv) → (∀ q, q < p → okP m q → lv ≤ G q) → sV (scT L xs) (d + 7) "LoafFall" cX11_odds 9 (some .int) Q 45 [some (.ref 0), some (.int (nI k)), some (.int (nI f)), some (.int (nI 0)), some (.int lv), some (.int (nI (cN (pE (okP m) G lv) p))), some (.int (nI (cN (pF (okP m) G f lv) p))), some (.int (nI p)), a8] [] m' n) 16 ?_ ?_ 0 (by omega) m 25 none frC.rf h.bk (by decide) (Or.inl rfl) (fun q hq => absurd hq (by omega))
  · intro m' lv a8 v1 v2 v3 v4 v5
    obtain ⟨x0, x1, x2, x3⟩ := v4.resolve_left (fun e => absurd (v5 p0 p1 p2) (by rw [e]; exact Int32.not_le.mpr (gl p0)))
    refine y_iload dX11_odds_45 rfl ?_
    refine y_bipush (v := 16) dX11_odds_47 (by decide) ?_
    refine y_icmp_ge (tgt := 119) dX11_odds_49 (by decide) (fun h49 => ?_) (fun h49 => absurd (nI_le (a := 16) (b := 16) (Nat.le_refl _) (by decide)) h49)
    refine y_aload_n dX11_odds_119 rfl rfl ?_
    refine y_iload dX11_odds_120 rfl ?_
    refine y_iload dX11_odds_122 rfl ?_
    refine y_ivV2 dX11_odds_124 mv_X11_289 my_X11_tellFraction (Or.inl rfl) sh_0 ?_
    refine c_X11_tellFraction (a := cN (pF (okP m) G f lv) 16) (b := cN (pE (okP m) G lv) 16) rfl rfl (cN_le 16) (cN_pos ⟨x2, x3⟩ 16 x1) (cN_le 16) ⟨rfl, ?_⟩
    refine y_iload dX11_odds_127 rfl ?_
    refine y_ireturn dX11_odds_129 rfl rfl ?_
    exact hQ m' lv v1 v2 ⟨x0, x1, x2, x3⟩ v5 _ _ rfl rfl
  · intro p hk hP
    intro m' lv a8 v1 v2 v3 v4 v5
    have key : ∀ (m5 : sM) (lw : Int32) (a b : Nat) (a9 : Option Value), frC m m5 → BK m5 → lw ≤ 25 → (lw = 25 ∨ ∃ q, q < p + 1 ∧ okP m q ∧ G q = lw) → (∀ q, q < p + 1 → okP m q → lw ≤ G q) → a = cN (pE (okP m) G lw) (p + 1) → b = cN (pF (okP m) G f lw) (p + 1) → sV (scT L xs) (d + 7) "LoafFall" cX11_odds 9 (some .int) Q 45 [some (.ref 0), some (.int (nI k)), some (.int (nI f)), some (.int (nI 0)), some (.int lw), some (.int (nI a)), some (.int (nI b)), some (.int (nI (p + 1))), a9] [] m5 n := fun m5 lw a b a9 k1 k2 k3 k4 k5 k6 k7 => by
      have := hP m5 lw a9 k1 k2 k3 k4 k5
      rw [← k6, ← k7] at this
      exact this
    refine y_iload dX11_odds_45 rfl ?_
    refine y_bipush (v := 16) dX11_odds_47 (by decide) ?_
    refine y_icmp_ge (tgt := 119) dX11_odds_49 (by decide) (fun h49 => absurd h49 (nI_ge (a := p) (b := 16) hk (by decide))) (fun h49 => ?_)
    refine y_aload_n dX11_odds_52 rfl rfl ?_
    refine y_iload dX11_odds_53 rfl ?_
    refine y_iload_n dX11_odds_55 rfl rfl ?_
    refine y_ivI2 dX11_odds_56 mv_X11_286 my_X11_unlikeOfPair (Or.inl rfl) sh_0 ?_
    refine c_X11_unlikeOfPair (p := p) (k := k) h v1 v2 rfl (by omega) rfl (by omega) hv (fun ok => ⟨_, rfl, ?_⟩) (fun ok m4 w1 w2 => ⟨_, rfl, ?_⟩)
    · refine y_ist9_8 dX11_odds_59 rfl ?_
      refine y_iload dX11_odds_61 rfl ?_
      refine y_iload dX11_odds_63 rfl ?_
      refine y_icmp_ge (tgt := 78) dX11_odds_65 (by decide) (fun h65 => ?_) (fun h65 => absurd v3 h65)
      refine y_iload dX11_odds_78 rfl ?_
      refine y_iload dX11_odds_80 rfl ?_
      refine y_icmp_ne (tgt := 113) dX11_odds_82 (by decide) (fun h82 => ?_) (fun h82 => ?_)
      · refine y_iinc9_7 dX11_odds_113 (nI_1 _) rfl ?_
        refine y_goto (tgt := 45) dX11_odds_116 (by decide) ?_
        exact key m' lv _ _ _ v1 v2 v3 (v4.imp id (fun ⟨q, a, b⟩ => ⟨q, by omega, b⟩)) (fun q hq okq => v5 q (ltP okq ok hq) okq) (cN_n (fun z => ok z.1)).symm (cN_n (fun z => ok z.1)).symm
      · refine y_iload dX11_odds_85 rfl ?_
        refine y_bipush (v := 24) dX11_odds_87 (by decide) ?_
        refine y_icmp_gt (tgt := 113) dX11_odds_89 (by decide) (fun h89 => ?_) (fun h89 => absurd (by decide) h89)
        refine y_iinc9_7 dX11_odds_113 (nI_1 _) rfl ?_
        refine y_goto (tgt := 45) dX11_odds_116 (by decide) ?_
        exact key m' lv _ _ _ v1 v2 v3 (v4.imp id (fun ⟨q, a, b⟩ => ⟨q, by omega, b⟩)) (fun q hq okq => v5 q (ltP okq ok hq) okq) (cN_n (fun z => ok z.1)).symm (cN_n (fun z => ok z.1)).symm
    · rw [← hG]
      by_cases hlt : G p < lv
      · refine y_ist9_8 dX11_odds_59 rfl ?_
        refine y_iload dX11_odds_61 rfl ?_
        refine y_iload dX11_odds_63 rfl ?_
        refine y_icmp_ge (tgt := 78) dX11_odds_65 (by decide) (fun h65 => absurd h65 (Int32.not_le.mpr hlt)) (fun h65 => ?_)
        refine y_iload dX11_odds_68 rfl ?_
        refine y_ist9_4 dX11_odds_70 rfl ?_
        refine y_iconst (v := 0) dX11_odds_72 (by decide) ?_
        refine y_ist9_5 dX11_odds_73 rfl ?_
        refine y_iconst (v := 0) dX11_odds_75 (by decide) ?_
        refine y_ist9_6 dX11_odds_76 rfl ?_
        refine y_iload dX11_odds_78 rfl ?_
        refine y_iload dX11_odds_80 rfl ?_
        refine y_icmp_ne (tgt := 113) dX11_odds_82 (by decide) (fun h82 => absurd rfl h82) (fun h82 => ?_)
        refine y_iload dX11_odds_85 rfl ?_
        refine y_bipush (v := 24) dX11_odds_87 (by decide) ?_
        refine y_icmp_gt (tgt := 113) dX11_odds_89 (by decide) (fun h89 => absurd h89 (Int32.not_lt.mpr (g24 p))) (fun h89 => ?_)
        refine y_iinc9_5 dX11_odds_92 rfl rfl ?_
        refine y_iload dX11_odds_95 rfl ?_
        refine y_iload dX11_odds_97 rfl ?_
        refine y_iconst (v := 4) dX11_odds_99 (by decide) ?_
        refine y_idivN (a := p) (b := 4) dX11_odds_100 rfl rfl (by omega) (by first | decide | omega) (by first | decide | omega) ?_
        refine y_iload_n dX11_odds_101 rfl rfl ?_
        refine y_icmp_ne (tgt := 109) dX11_odds_102 (by decide) (fun h102 => ?_) (fun h102 => ?_)
        · refine y_iconst (v := 0) dX11_odds_109 (by decide) ?_
          refine y_iadd dX11_odds_110 ?_
          skip
          refine y_ist9_6 dX11_odds_111 rfl ?_
          refine y_iinc9_7 dX11_odds_113 (nI_1 _) rfl ?_
          refine y_goto (tgt := 45) dX11_odds_116 (by decide) ?_
          first
            | exact key m4 (G p) 1 1 _ w1 w2 (Int32.le_of_lt (gl p)) (Or.inr ⟨p, by omega, ok, rfl⟩) (leN v5 hlt) (one1 ok v5 hlt).symm (one2 ok v5 hlt ((nI_eq (by omega) (by omega)).mp h102)).symm
            | exact key m4 (G p) 1 0 _ w1 w2 (Int32.le_of_lt (gl p)) (Or.inr ⟨p, by omega, ok, rfl⟩) (leN v5 hlt) (one1 ok v5 hlt).symm (one0 v5 hlt (fun z => h102 (by rw [z]))).symm
        · refine y_iconst (v := 1) dX11_odds_105 (by decide) ?_
          refine y_goto (tgt := 110) dX11_odds_106 (by decide) ?_
          refine y_iadd dX11_odds_110 ?_
          skip
          refine y_ist9_6 dX11_odds_111 rfl ?_
          refine y_iinc9_7 dX11_odds_113 (nI_1 _) rfl ?_
          refine y_goto (tgt := 45) dX11_odds_116 (by decide) ?_
          first
            | exact key m4 (G p) 1 1 _ w1 w2 (Int32.le_of_lt (gl p)) (Or.inr ⟨p, by omega, ok, rfl⟩) (leN v5 hlt) (one1 ok v5 hlt).symm (one2 ok v5 hlt ((nI_eq (by omega) (by omega)).mp h102)).symm
            | exact key m4 (G p) 1 0 _ w1 w2 (Int32.le_of_lt (gl p)) (Or.inr ⟨p, by omega, ok, rfl⟩) (leN v5 hlt) (one1 ok v5 hlt).symm (one0 v5 hlt (fun z => h102 (by rw [z]))).symm
      · replace hlt : lv ≤ G p := Int32.not_lt.mp hlt
        refine y_ist9_8 dX11_odds_59 rfl ?_
        refine y_iload dX11_odds_61 rfl ?_
        refine y_iload dX11_odds_63 rfl ?_
        refine y_icmp_ge (tgt := 78) dX11_odds_65 (by decide) (fun h65 => ?_) (fun h65 => absurd hlt h65)
        refine y_iload dX11_odds_78 rfl ?_
        refine y_iload dX11_odds_80 rfl ?_
        refine y_icmp_ne (tgt := 113) dX11_odds_82 (by decide) (fun h82 => ?_) (fun h82 => ?_)
        · refine y_iinc9_7 dX11_odds_113 (nI_1 _) rfl ?_
          refine y_goto (tgt := 45) dX11_odds_116 (by decide) ?_
          first
            | exact key m4 lv _ _ _ w1 w2 v3 (v4.imp id (fun ⟨q, a, b⟩ => ⟨q, by omega, b⟩)) (leP v5 hlt) (cN_n (fun z => h82 z.2)).symm (cN_n (fun z => h82 z.2.1)).symm
            | exact key m4 lv _ _ _ w1 w2 v3 (v4.imp id (fun ⟨q, a, b⟩ => ⟨q, by omega, b⟩)) (leP v5 hlt) (cN_y ⟨ok, h82⟩).symm (cN_y ⟨ok, h82, (nI_eq (by omega) (by omega)).mp h102⟩).symm
            | exact key m4 lv _ _ _ w1 w2 v3 (v4.imp id (fun ⟨q, a, b⟩ => ⟨q, by omega, b⟩)) (leP v5 hlt) (cN_y ⟨ok, h82⟩).symm (cN_n (fun z => h102 (by rw [z.2.2]))).symm
        · refine y_iload dX11_odds_85 rfl ?_
          refine y_bipush (v := 24) dX11_odds_87 (by decide) ?_
          refine y_icmp_gt (tgt := 113) dX11_odds_89 (by decide) (fun h89 => absurd h89 (Int32.not_lt.mpr (g24 p))) (fun h89 => ?_)
          refine y_iinc9_5 dX11_odds_92 (nI_1 _) rfl ?_
          refine y_iload dX11_odds_95 rfl ?_
          refine y_iload dX11_odds_97 rfl ?_
          refine y_iconst (v := 4) dX11_odds_99 (by decide) ?_
          refine y_idivN (a := p) (b := 4) dX11_odds_100 rfl rfl (by omega) (by first | decide | omega) (by first | decide | omega) ?_
          refine y_iload_n dX11_odds_101 rfl rfl ?_
          refine y_icmp_ne (tgt := 109) dX11_odds_102 (by decide) (fun h102 => ?_) (fun h102 => ?_)
          · refine y_iconst (v := 0) dX11_odds_109 (by decide) ?_
            refine y_iaddN (a := (cN (pF (okP m) G f lv) p)) (b := 0) dX11_odds_110 rfl rfl ?_
            refine y_ist9_6 dX11_odds_111 rfl ?_
            refine y_iinc9_7 dX11_odds_113 (nI_1 _) rfl ?_
            refine y_goto (tgt := 45) dX11_odds_116 (by decide) ?_
            first
              | exact key m4 lv _ _ _ w1 w2 v3 (v4.imp id (fun ⟨q, a, b⟩ => ⟨q, by omega, b⟩)) (leP v5 hlt) (cN_n (fun z => h82 z.2)).symm (cN_n (fun z => h82 z.2.1)).symm
              | exact key m4 lv _ _ _ w1 w2 v3 (v4.imp id (fun ⟨q, a, b⟩ => ⟨q, by omega, b⟩)) (leP v5 hlt) (cN_y ⟨ok, h82⟩).symm (cN_y ⟨ok, h82, (nI_eq (by omega) (by omega)).mp h102⟩).symm
              | exact key m4 lv _ _ _ w1 w2 v3 (v4.imp id (fun ⟨q, a, b⟩ => ⟨q, by omega, b⟩)) (leP v5 hlt) (cN_y ⟨ok, h82⟩).symm (cN_n (fun z => h102 (by rw [z.2.2]))).symm
          · refine y_iconst (v := 1) dX11_odds_105 (by decide) ?_
            refine y_goto (tgt := 110) dX11_odds_106 (by decide) ?_
            refine y_iaddN (a := (cN (pF (okP m) G f lv) p)) (b := 1) dX11_odds_110 rfl rfl ?_
            refine y_ist9_6 dX11_odds_111 rfl ?_
            refine y_iinc9_7 dX11_odds_113 (nI_1 _) rfl ?_
            refine y_goto (tgt := 45) dX11_odds_116 (by decide) ?_
            first
              | exact key m4 lv _ _ _ w1 w2 v3 (v4.imp id (fun ⟨q, a, b⟩ => ⟨q, by omega, b⟩)) (leP v5 hlt) (cN_n (fun z => h82 z.2)).symm (cN_n (fun z => h82 z.2.1)).symm
              | exact key m4 lv _ _ _ w1 w2 v3 (v4.imp id (fun ⟨q, a, b⟩ => ⟨q, by omega, b⟩)) (leP v5 hlt) (cN_y ⟨ok, h82⟩).symm (cN_y ⟨ok, h82, (nI_eq (by omega) (by omega)).mp h102⟩).symm
              | exact key m4 lv _ _ _ w1 w2 v3 (v4.imp id (fun ⟨q, a, b⟩ => ⟨q, by omega, b⟩)) (leP v5 hlt) (cN_y ⟨ok, h82⟩).symm (cN_n (fun z => h102 (by rw [z.2.2]))).symm
