/-! ===== a whole turn of the component's loaf, steps and all ===== -/
/-- the loaf at L is the row R: dough, falls, flour, steps, where it is in them -/
def LA (m : sM) (L : Nat) (R : Nat → Int32) : Prop := LR m L R ∧ (∀ i, i < cOf R → m (L + 4) i = R (6 + 3 * i + 0) ∧ m (L + 5) i = R (6 + 3 * i + 1) ∧ m (L + 6) i = R (6 + 3 * i + 2)) ∧ m (L + 3) 3 = R 5 ∧ m (L + 7) 7 = R 36 ∧ m (L + 7) 8 = R 37
/-- nothing but dough and falls of the loaf at L has changed -/
def LG (m m' : sM) (L : Nat) : Prop := ∀ a, (a < L + 7 ∨ L + 19 ≤ a) → m' a = m a
theorem LG.rf {m : sM} {L : Nat} : LG m m L := fun _ _ => rfl
theorem LG.tr {m m1 m2 : sM} {L : Nat} (h1 : LG m m1 L) (h2 : LG m1 m2 L) : LG m m2 L := fun a ha => (h2 a ha).trans (h1 a ha)
theorem LA_step {m m' : sM} {L : Nat} {R R' : Nat → Int32} (h : LA m L R) (h1 : LR m' L R') (h2 : LF m m' L) (hl : ∀ p, p < 38 → R' p = R p) (hc : cOf R ≤ 10) : LA m' L R' := by
  have ec : cOf R' = cOf R := by unfold cOf; rw [hl 5 (by omega)]
  refine ⟨h1, fun i hi => ?_, ?_, ?_, ?_⟩
  · rw [ec] at hi
    rw [h2.1 _ (by omega), h2.1 _ (by omega), h2.1 _ (by omega), hl _ (by omega), hl _ (by omega), hl _ (by omega)]
    exact h.2.1 i hi
  · rw [h2.1 _ (by omega), hl _ (by omega)]; exact h.2.2.1
  · rw [h2.2.1, hl _ (by omega)]; exact h.2.2.2.1
  · rw [h2.2.2, hl _ (by omega)]; exact h.2.2.2.2
theorem LR_fld {m : sM} {L : Nat} {R : Nat → Int32} (h : LR m L R) {f p : Nat} {v : Int32} (hf : f = 7 ∨ f = 8) (hp : p = 36 ∨ p = 37) : LR (s_up m (L + 7) (upd (m (L + 7)) f v)) L (upd R p v) := by
  obtain ⟨r1, r2, r3, r4, r5, r6⟩ := h
  have eq : qOf (upd R p v) = qOf R := qOf_eq (updN (by omega))
  refine ⟨fun i hi => by rw [s_upN (by omega), r1 i hi, updN (by omega)], fun k hk => ?_, by rw [s_upS, updN (by omega), updN (by omega)]; exact r3, by rw [s_upS, updN (by omega), updN (by omega)]; exact r4, by rw [s_upS, updN (by omega), updN (by omega)]; exact r5, fun k hk => ?_⟩
  · rw [s_upN (by omega), s_upN (by omega), s_upN (by omega), s_upN (by omega), s_upN (by omega), updN (by omega), updN (by omega), updN (by omega), updN (by omega), updN (by omega)]
    exact r2 k hk
  · rw [eq] at hk
    unfold mkF
    rw [s_upN (by omega), s_upN (by omega), s_upN (by omega), s_upN (by omega), s_upN (by omega), updN (by omega), updN (by omega), updN (by omega), updN (by omega), updN (by omega), updN (by omega), updN (by omega)]
    exact r6 k hk
theorem cOf_upd {R : Nat → Int32} {p : Nat} {v : Int32} (h : p ≠ 5) : cOf (upd R p v) = cOf R := by unfold cOf; rw [updN (by omega)]
theorem LA_36 {m : sM} {L : Nat} {R : Nat → Int32} (h : LA m L R) (hc : cOf R ≤ 10) (v : Int32) : LA (s_up m (L + 7) (upd (m (L + 7)) 7 v)) L (upd R 36 v) ∧ LG m (s_up m (L + 7) (upd (m (L + 7)) 7 v)) L := by
  obtain ⟨h1, h2, h3, h4, h5⟩ := h
  refine ⟨⟨LR_fld h1 (Or.inl rfl) (Or.inl rfl), fun i hi => ?_, by rw [s_upN (by omega), updN (by omega)]; exact h3, by rw [s_upS, updS, updS], by rw [s_upS, updN (by omega), updN (by omega)]; exact h5⟩, fun a ha => s_upN (by omega)⟩
  rw [cOf_upd (by omega)] at hi
  rw [s_upN (by omega), s_upN (by omega), s_upN (by omega), updN (by omega), updN (by omega), updN (by omega)]
  exact h2 i hi
theorem LA_37 {m : sM} {L : Nat} {R : Nat → Int32} (h : LA m L R) (hc : cOf R ≤ 10) (v : Int32) : LA (s_up m (L + 7) (upd (m (L + 7)) 8 v)) L (upd R 37 v) ∧ LG m (s_up m (L + 7) (upd (m (L + 7)) 8 v)) L := by
  obtain ⟨h1, h2, h3, h4, h5⟩ := h
  refine ⟨⟨LR_fld h1 (Or.inr rfl) (Or.inr rfl), fun i hi => ?_, by rw [s_upN (by omega), updN (by omega)]; exact h3, by rw [s_upS, updN (by omega), updN (by omega)]; exact h4, by rw [s_upS, updS, updS]⟩, fun a ha => s_upN (by omega)⟩
  rw [cOf_upd (by omega)] at hi
  rw [s_upN (by omega), s_upN (by omega), s_upN (by omega), updN (by omega), updN (by omega), updN (by omega)]
  exact h2 i hi
theorem LF.g {m m' : sM} {L : Nat} (h : LF m m' L) : LG m m' L := h.1
/-- a row's step lasts, or is done at once -/
theorem skip_S {f a : Nat} {R : Nat → Int32} (h : 2 < R (6 + 3 * a + 0)) : skipF (f + 1) a R = skipF f (a + 1) (onceS a R) := by
  rw [skipF, if_pos h]
theorem skip_N {f a : Nat} {R : Nat → Int32} (h : ¬ 2 < R (6 + 3 * a + 0)) : skipF (f + 1) a R = R := by
  rw [skipF, if_neg h]
theorem gone_lt {R : Nat → Int32} (h : sR R) {a2 : Nat} (h36 : skipF (cOf R - atOf R) (atOf R) R 36 = nI a2) (h2 : a2 < cOf R) : ∃ g t : Nat, R 37 = nI g ∧ R (6 + 3 * a2 + 2) = nI t ∧ g < t ∧ t ≤ 30 := by
  obtain ⟨h1, ⟨a1, a2', a3, a4⟩, h3, g, g1, g2⟩ := h
  obtain ⟨q1, ⟨a', q2, q3, q4, q5, q6⟩, q7⟩ := skip_i a4 (cOf R - atOf R) (atOf R) R (by omega) a1 a2' h1 h3
  have e : a' = a2 := (nI_eq (by omega) (by omega)).mp (q4.symm.trans h36)
  subst e
  have hL : lastsR R a' := q5.resolve_left (by omega)
  obtain ⟨t, t1, t2, t3⟩ := hL.2.2
  rcases g2 with e | ⟨e1, e2, t', e3, e4, e5⟩
  · exact ⟨g, t, g1, t1, by omega, t3⟩
  · by_cases z : atOf R < a'
    · exact absurd (q6 z) (lasts_n e2)
    · have e6 : atOf R = a' := by omega
      rw [e6] at e3
      exact ⟨g, t', g1, e3, e4, e5⟩
theorem upd_comm {f : Nat → Int32} {a b : Nat} {x y : Int32} (h : a ≠ b) : upd (upd f a x) b y = upd (upd f b y) a x := by
  funext j
  unfold upd
  by_cases e1 : j = b
  · rw [if_pos e1, if_neg (by omega), if_pos e1]
  · rw [if_neg e1]
    by_cases e2 : j = a
    · rw [if_pos e2, if_pos e2]
    · rw [if_neg e2, if_neg e2, if_neg e1]

set_option maxHeartbeats 1000000 in
theorem c_X1_lasts {L : Nat} {xs : Nat → Int32} {d : Nat} {m : sM} {n : sN} {Q : sQ} {D0 i : Nat} {i0 : Int32} (hD : isDg D0) (hi : i0 = nI i) (hi2 : i < 10) (hQ1 : (m (D0 + 1) i = 1 ∨ m (D0 + 1) i = 2) → Q (some (.int 1)) m n) (hQ0 : ¬ (m (D0 + 1) i = 1 ∨ m (D0 + 1) i = 2) → Q (some (.int 0)) m n) : sRun (scT L xs) (d + 1) yX1_lasts cX1_lasts 2 (some .boolean) [.ref D0, .int i0] m n Q := by
  subst hi
  refine y_run (own := "LoafFall$Doing") rfl (by decide +kernel) (Nat.le_of_ble_eq_true rfl) rfl ?_
  refine y_aload_n dX1_lasts_0 rfl rfl ?_
  refine y_getr dX1_lasts_1 gf_X1_9 hD.1 rfl ?_
  refine y_iload_n dX1_lasts_4 rfl rfl ?_
  refine y_ialdN dX1_lasts_5 hD.2.1 rfl (by first | omega | decide) (by decide) ?_
  refine y_iconst (v := 1) dX1_lasts_6 (by decide) ?_
  refine y_icmp_eq (tgt := 20) dX1_lasts_7 (by decide) (fun h7 => ?_) (fun h7 => ?_)
  · refine y_iconst (v := 1) dX1_lasts_20 (by decide) ?_
    refine y_goto (tgt := 25) dX1_lasts_21 (by decide) ?_
    refine y_ireturn dX1_lasts_25 rfl rfl ?_
    first | exact hQ1 (Or.inl h7) | exact hQ1 (Or.inr (Classical.not_not.mp h17)) | exact hQ1 (Or.inr h17) | exact hQ0 (fun q => q.elim h7 h17)
  · refine y_aload_n dX1_lasts_10 rfl rfl ?_
    refine y_getr dX1_lasts_11 gf_X1_9 hD.1 rfl ?_
    refine y_iload_n dX1_lasts_14 rfl rfl ?_
    refine y_ialdN dX1_lasts_15 hD.2.1 rfl (by first | omega | decide) (by decide) ?_
    refine y_iconst (v := 2) dX1_lasts_16 (by decide) ?_
    refine y_icmp_ne (tgt := 24) dX1_lasts_17 (by decide) (fun h17 => ?_) (fun h17 => ?_)
    · refine y_iconst (v := 0) dX1_lasts_24 (by decide) ?_
      refine y_ireturn dX1_lasts_25 rfl rfl ?_
      first | exact hQ1 (Or.inl h7) | exact hQ1 (Or.inr (Classical.not_not.mp h17)) | exact hQ1 (Or.inr h17) | exact hQ0 (fun q => q.elim h7 h17)
    · refine y_iconst (v := 1) dX1_lasts_20 (by decide) ?_
      refine y_goto (tgt := 25) dX1_lasts_21 (by decide) ?_
      refine y_ireturn dX1_lasts_25 rfl rfl ?_
      first | exact hQ1 (Or.inl h7) | exact hQ1 (Or.inr (Classical.not_not.mp h17)) | exact hQ1 (Or.inr h17) | exact hQ0 (fun q => q.elim h7 h17)
set_option maxHeartbeats 1000000 in
theorem c_X2_isAllTorn {L : Nat} {xs : Nat → Int32} {d : Nat} {m : sM} {n : sN} {Q : sQ} {D0 q : Nat} (hD : isDh D0) (hq : m D0 5 = nI q) (hq2 : q ≤ 24) (hQ1 : q = 24 → Q (some (.int 1)) m n) (hQ0 : q < 24 → Q (some (.int 0)) m n) : sRun (scT L xs) (d + 1) yX2_isAllTorn cX2_isAllTorn 1 (some .boolean) [.ref D0] m n Q := by
  refine y_run (own := "LoafFall$Dough") rfl (by decide +kernel) (Nat.le_of_ble_eq_true rfl) rfl ?_
  refine y_aload_n dX2_isAllTorn_0 rfl rfl ?_
  refine y_geti dX2_isAllTorn_1 gf_X2_27 hD.1 rfl ?_
  refine y_bipush (v := 24) dX2_isAllTorn_4 (by decide) ?_
  rw [hq]
  refine y_icmp_lt (tgt := 13) dX2_isAllTorn_6 (by decide) (fun h6 => ?_) (fun h6 => ?_)
  · refine y_iconst (v := 0) dX2_isAllTorn_13 (by decide) ?_
    refine y_ireturn dX2_isAllTorn_14 rfl rfl ?_
    first | exact hQ1 (by have : ¬ q < 24 := fun z => h6 (nI_lt (a := q) (b := 24) z (by omega)); omega) | exact hQ0 ((nI_ltI (a := q) (b := 24) (by omega) (by omega)).mp h6)
  · refine y_iconst (v := 1) dX2_isAllTorn_9 (by decide) ?_
    refine y_goto (tgt := 14) dX2_isAllTorn_10 (by decide) ?_
    refine y_ireturn dX2_isAllTorn_14 rfl rfl ?_
    first | exact hQ1 (by have : ¬ q < 24 := fun z => h6 (nI_lt (a := q) (b := 24) z (by omega)); omega) | exact hQ0 ((nI_ltI (a := q) (b := 24) (by omega) (by omega)).mp h6)
set_option maxHeartbeats 1000000 in
theorem c_X6_passTurn {L : Nat} {xs : Nat → Int32} {d : Nat} {m : sM} {n : sN} {Q : sQ} {L0 : Nat} {R : Nat → Int32} (hL : isLf L0) (hLA : LA m L0 R) (hs : sR R) (hQ : ∀ m', LA m' L0 (nextF R) → LG m m' L0 → Q none m' n) : sRun (scT L xs) (d + 5) yX6_passTurn cX6_passTurn 2 none [.ref L0] m n Q := by
  obtain ⟨hi, ⟨ha1, ha2, ha3, ha4⟩, hst, hgo⟩ := hs
  refine y_run (own := "LoafFall$Loaf") rfl (by decide +kernel) (Nat.le_of_ble_eq_true rfl) rfl ?_
  refine y_aload_n dX6_passTurn_0 rfl rfl ?_
  refine y_getr dX6_passTurn_1 gf_X6_28 hL.1 rfl ?_
  refine y_geti dX6_passTurn_4 gf_X6_72 hL.2.2.2.1.1 rfl ?_
  refine y_ist2_1 dX6_passTurn_7 rfl ?_
  rw [show m (L0 + 7) 7 = nI (atOf R) from hLA.2.2.2.1.trans ha1]
  have key : ∀ (f a : Nat) (S : Nat → Int32) (m' : sM), a + f = cOf R → S 36 = nI a → S 5 = nI (cOf R) → iR S → stOK S → LA m' L0 S → LG m m' L0 → (∀ (m2 : sM) (a2 : Nat), LA m2 L0 (skipF f a S) → LG m m2 L0 → a2 ≤ cOf R → (a2 = cOf R ∨ lastsR S a2) → skipF f a S 36 = nI a2 → sV (scT L xs) (d + 4) "LoafFall$Loaf" cX6_passTurn 2 none Q 59 [some (.ref L0), some (.int (nI a2))] [] m2 n) → sV (scT L xs) (d + 4) "LoafFall$Loaf" cX6_passTurn 2 none Q 8 [some (.ref L0), some (.int (nI a))] [] m' n := by
    intro f
    induction f with
    | zero =>
      intro a S m' e1 e2 e3 e4 e5 e6 e7 hK
      have ec : cOf S = cOf R := by unfold cOf; rw [e3, nI_clamp (by omega)]; rfl
      refine y_iload_n dX6_passTurn_8 rfl rfl ?_
      refine y_aload_n dX6_passTurn_9 rfl rfl ?_
      refine y_getr dX6_passTurn_10 gf_X6_21 hL.1 rfl ?_
      refine y_geti dX6_passTurn_13 gf_X6_75 hL.2.2.1.1 rfl ?_
      rw [e6.2.2.1, e3]
      refine y_icmp_ge (tgt := 59) dX6_passTurn_16 (by decide) (fun h16 => ?_) (fun h16 => absurd (nI_le (a := cOf R) (b := a) (by omega) (by omega)) h16)
      exact hK _ _ e6 e7 (by omega) (Or.inl (by omega)) e2
    | succ f ih =>
      intro a S m' e1 e2 e3 e4 e5 e6 e7 hK
      have ec : cOf S = cOf R := by unfold cOf; rw [e3, nI_clamp (by omega)]; rfl
      have hsa := e5 a (by omega)
      have hka := e6.2.1 a (by omega)
      refine y_iload_n dX6_passTurn_8 rfl rfl ?_
      refine y_aload_n dX6_passTurn_9 rfl rfl ?_
      refine y_getr dX6_passTurn_10 gf_X6_21 hL.1 rfl ?_
      refine y_geti dX6_passTurn_13 gf_X6_75 hL.2.2.1.1 rfl ?_
      rw [e6.2.2.1, e3]
      refine y_icmp_ge (tgt := 59) dX6_passTurn_16 (by decide) (fun h16 => absurd h16 (nI_ge (a := a) (b := cOf R) (by omega) (by omega))) (fun h16 => ?_)
      refine y_aload_n dX6_passTurn_19 rfl rfl ?_
      refine y_getr dX6_passTurn_20 gf_X6_21 hL.1 rfl ?_
      refine y_iload_n dX6_passTurn_23 rfl rfl ?_
      refine y_ivI1 dX6_passTurn_24 mv_X6_78 my_X1_lasts (Or.inl rfl) hL.2.2.1.1 ?_
      refine c_X1_lasts (i := a) hL.2.2.1 rfl (by omega) (fun hl => ⟨_, rfl, ?_⟩) (fun hl => ⟨_, rfl, ?_⟩)
      · have hlS : lastsR S a := hsa.resolve_left (fun z => by rw [hka.1] at hl; rcases hl with q | q <;> rw [q] at z <;> exact absurd z (by decide))
        have hsk : skipF (f + 1) a S = S := skip_N (lasts_n hlS)
        rw [hsk] at hK
        refine y_if_ne (tgt := 59) dX6_passTurn_27 (by decide) (fun h27 => ?_) (fun h27 => absurd h27 (by decide))
        exact hK _ _ e6 e7 (by omega) (Or.inr hlS) e2
      · have hoS : S (6 + 3 * a + 0) = 3 ∨ S (6 + 3 * a + 0) = 4 ∨ S (6 + 3 * a + 0) = 5 := hsa.resolve_right (fun z => hl (by rw [hka.1]; exact z.1))
        have hsk : skipF (f + 1) a S = skipF f (a + 1) (onceS a S) := skip_S (once_n hoS)
        rw [hsk] at hK
        have hlo : ∀ p, p < 36 → onceS a S p = S p := fun p hp => onceS_low (by omega) (by omega)
        refine y_if_ne (tgt := 59) dX6_passTurn_27 (by decide) (fun h27 => absurd (by decide) h27) (fun h27 => ?_)
        refine y_aload_n dX6_passTurn_30 rfl rfl ?_
        refine y_aload_n dX6_passTurn_31 rfl rfl ?_
        refine y_getr dX6_passTurn_32 gf_X6_21 hL.1 rfl ?_
        refine y_getr dX6_passTurn_35 gf_X6_82 hL.2.2.1.1 rfl ?_
        refine y_iload_n dX6_passTurn_38 rfl rfl ?_
        refine y_ialdN dX6_passTurn_39 hL.2.2.1.2.1 rfl (by first | omega | decide) (by decide) ?_
        rw [hka.1]
        refine y_ivV1 dX6_passTurn_40 mv_X6_85 my_X6_handle (Or.inl rfl) hL.1 ?_
        refine c_X6_handle hL e6.1 e4.wf (i_kOK e4) hoS (fun m2 l1 l2 => ⟨rfl, ?_⟩)
        have l3 := LA_step e6 l1 l2 (fun p hp => once_low (by omega)) (by omega)
        have l4 := LA_36 l3 (by unfold cOf; rw [once_low (by omega)]; exact (by omega : cOf S ≤ 10)) (nI (a + 1))
        refine y_aload_n dX6_passTurn_43 rfl rfl ?_
        refine y_getr dX6_passTurn_44 gf_X6_28 hL.1 rfl ?_
        refine y_iload_n dX6_passTurn_47 rfl rfl ?_
        refine y_iconst (v := 1) dX6_passTurn_48 (by decide) ?_
        refine y_iaddN (a := a) (b := 1) dX6_passTurn_49 rfl rfl ?_
        refine y_puti dX6_passTurn_50 pf_X6_72 hL.2.2.2.1.1 rfl rfl rfl ?_
        refine y_iinc2_1 dX6_passTurn_53 (nI_1 _) rfl ?_
        refine y_goto (tgt := 8) dX6_passTurn_56 (by decide) ?_
        have eO : onceS a S = upd (atOnceF (S (6 + 3 * a + 0)) S) 36 (nI (a + 1)) := by
          unfold onceS
          rw [once_low (by omega), e2, nI_1]
        refine ih (a + 1) (onceS a S) _ (by omega) (by rw [onceS_36, e2, nI_1]) (by rw [hlo _ (by omega)]; exact e3) (by rw [eO]; exact i_set (i_once e4 hoS) (by omega) (by omega)) (st_low e5 hlo (by omega)) (by rw [eO]; exact l4.1) (e7.tr (l2.g.tr l4.2)) (fun m2 a2 k1 k2 k3 k4 k5 => hK m2 a2 k1 k2 k3 ?_ k5)
        rcases k4 with z | z
        · exact Or.inl z
        · by_cases z2 : a2 = cOf R
          · exact Or.inl z2
          · unfold lastsR at z ⊢
            rw [hlo _ (by omega), hlo _ (by omega), hlo _ (by omega)] at z
            exact Or.inr z
  refine key (cOf R - atOf R) (atOf R) R m (by omega) ha1 ha2 hi hst hLA LG.rf (fun m2 a2 k1 k2 k3 k4 k5 => ?_)
  obtain ⟨q1, -, q7⟩ := skip_i ha4 (cOf R - atOf R) (atOf R) R (by omega) ha1 ha2 hi hst
  have e36 : atOf (skipF (cOf R - atOf R) (atOf R) R) = a2 := at_mk k5 (by omega)
  have eN : nextF R = stepF a2 (cOf R) (skipF (cOf R - atOf R) (atOf R) R) := by unfold nextF; rw [e36]
  have hgl0 : ∀ a, skipF (cOf R - atOf R) (atOf R) R 36 = nI a → a < cOf R → ∃ g t : Nat, R 37 = nI g ∧ R (6 + 3 * a + 2) = nI t ∧ g < t ∧ t ≤ 30 := fun a q1 q2 => gone_lt ⟨hi, ⟨ha1, ha2, ha3, ha4⟩, hst, hgo⟩ q1 q2
  have hsN := s_next ⟨hi, ⟨ha1, ha2, ha3, ha4⟩, hst, hgo⟩
  rw [eN] at hQ hsN
  generalize skipF (cOf R - atOf R) (atOf R) R = S at k1 k5 q1 q7 hQ hsN hgl0
  have s5 : S 5 = nI (cOf R) := (q7 5 (by omega) (by omega)).trans ha2
  have cS : cOf S = cOf R := by unfold cOf; rw [s5, nI_clamp (by omega)]; rfl
  unfold stepF at hQ hsN
  have hgl : a2 < cOf R → ∃ g t : Nat, R 37 = nI g ∧ R (6 + 3 * a2 + 2) = nI t ∧ g < t ∧ t ≤ 30 := hgl0 a2 k5
  refine y_aload_n dX6_passTurn_59 rfl rfl ?_
  refine y_getr dX6_passTurn_60 gf_X6_28 hL.1 rfl ?_
  refine y_geti dX6_passTurn_63 gf_X6_72 hL.2.2.2.1.1 rfl ?_
  rw [show m2 (L0 + 7) 7 = nI a2 from k1.2.2.2.1.trans k5]
  refine y_ist2_1 dX6_passTurn_66 rfl ?_
  refine y_iload_n dX6_passTurn_67 rfl rfl ?_
  refine y_aload_n dX6_passTurn_68 rfl rfl ?_
  refine y_getr dX6_passTurn_69 gf_X6_21 hL.1 rfl ?_
  refine y_geti dX6_passTurn_72 gf_X6_75 hL.2.2.1.1 rfl ?_
  rw [k1.2.2.1, s5]
  refine y_icmp_lt (tgt := 85) dX6_passTurn_75 (by decide) (fun h75 => ?_) (fun h75 => ?_)
  · have z : a2 < cOf R := (nI_ltI (a := a2) (b := cOf R) (by omega) (by omega)).mp h75
    have hLs : lastsR R a2 := k4.resolve_left (by omega)
    have hst2 := k1.2.1 a2 (by omega)
    rw [if_neg (by omega)] at hQ hsN
    obtain ⟨g, t, g1, g2, g3, g4⟩ := hgl z
    refine y_aload_n dX6_passTurn_85 rfl rfl ?_
    refine y_aload_n dX6_passTurn_86 rfl rfl ?_
    refine y_getr dX6_passTurn_87 gf_X6_21 hL.1 rfl ?_
    refine y_getr dX6_passTurn_90 gf_X6_92 hL.2.2.1.1 rfl ?_
    refine y_iload_n dX6_passTurn_93 rfl rfl ?_
    refine y_ialdN dX6_passTurn_94 hL.2.2.1.2.2.1 rfl (by first | omega | decide) (by decide) ?_
    rw [hst2.2.1]
    refine y_aload_n dX6_passTurn_95 rfl rfl ?_
    refine y_getr dX6_passTurn_96 gf_X6_21 hL.1 rfl ?_
    refine y_getr dX6_passTurn_99 gf_X6_82 hL.2.2.1.1 rfl ?_
    refine y_iload_n dX6_passTurn_102 rfl rfl ?_
    refine y_ialdN dX6_passTurn_103 hL.2.2.1.2.1 rfl (by first | omega | decide) (by decide) ?_
    rw [hst2.1]
    refine y_iconst (v := 2) dX6_passTurn_104 (by decide) ?_
    refine y_icmp_ne (tgt := 112) dX6_passTurn_105 (by decide) (fun h105 => ?_) (fun h105 => ?_)
    · refine y_iconst (v := 0) dX6_passTurn_112 (by decide) ?_
      refine y_ivV2 dX6_passTurn_113 mv_X6_88 my_X6_turnBy (Or.inl rfl) hL.1 ?_
      refine c_X6_turnBy hL k1.1 q1.wf q1.rg (fun m3 l1 l2 => ⟨rfl, ?_⟩)
      have l1' : LR m3 L0 (turnF (ovk (S (6 + 3 * a2 + 0))) (S (6 + 3 * a2 + 1)) S) := by
        unfold ovk
        first | (rw [if_pos h105]; exact l1) | (rw [if_neg h105]; exact l1) | (rw [if_pos (Classical.not_not.mp h105)]; exact l1)
      have l3 := LA_step k1 l1' l2 (fun p hp => turn_low (by omega)) (by omega)
      have u36 : turnF (ovk (S (6 + 3 * a2 + 0))) (S (6 + 3 * a2 + 1)) S 36 = nI a2 := (turn_low (by omega)).trans k5
      have u37 : turnF (ovk (S (6 + 3 * a2 + 0))) (S (6 + 3 * a2 + 1)) S 37 = nI g := by rw [turn_low (by omega), q7 _ (by omega) (by omega), g1]
      have ut : turnF (ovk (S (6 + 3 * a2 + 0))) (S (6 + 3 * a2 + 1)) S (6 + 3 * a2 + 2) = nI t := by rw [turn_low (by omega), q7 _ (by omega) (by omega), g2]
      have u5 : cOf (turnF (ovk (S (6 + 3 * a2 + 0))) (S (6 + 3 * a2 + 1)) S) = cOf R := by
        unfold cOf at cS ⊢
        rw [turn_low (by omega), cS]
      unfold lastF at hQ
      generalize turnF (ovk (S (6 + 3 * a2 + 0))) (S (6 + 3 * a2 + 1)) S = U at l3 u36 u37 ut u5 hQ
      have l4 := LA_37 l3 (by omega) (nI (g + 1))
      unfold lastG at hQ
      rw [updS, updN (show 6 + 3 * a2 + 2 ≠ 37 by omega), u37, ut, nI_1] at hQ
      refine y_aload_n dX6_passTurn_116 rfl rfl ?_
      refine y_getr dX6_passTurn_117 gf_X6_28 hL.1 rfl ?_
      refine y_dup dX6_passTurn_120 rfl ?_
      refine y_geti dX6_passTurn_121 gf_X6_95 hL.2.2.2.1.1 rfl ?_
      refine y_iconst (v := 1) dX6_passTurn_124 (by decide) ?_
      refine y_iadd dX6_passTurn_125 ?_
      rw [show m3 (L0 + 7) 8 = nI g from l3.2.2.2.2.trans u37, nI_1]
      refine y_puti dX6_passTurn_126 pf_X6_95 hL.2.2.2.1.1 rfl rfl rfl ?_
      obtain ⟨l5, l6⟩ := l4
      generalize s_up m3 (L0 + 7) (upd (m3 (L0 + 7)) 8 (nI (g + 1))) = m4 at l5 l6 ⊢
      refine y_aload_n dX6_passTurn_129 rfl rfl ?_
      refine y_getr dX6_passTurn_130 gf_X6_28 hL.1 rfl ?_
      refine y_geti dX6_passTurn_133 gf_X6_95 hL.2.2.2.1.1 rfl ?_
      refine y_aload_n dX6_passTurn_136 rfl rfl ?_
      refine y_getr dX6_passTurn_137 gf_X6_21 hL.1 rfl ?_
      refine y_getr dX6_passTurn_140 gf_X6_98 hL.2.2.1.1 rfl ?_
      refine y_iload_n dX6_passTurn_143 rfl rfl ?_
      refine y_ialdN dX6_passTurn_144 hL.2.2.1.2.2.2 rfl (by first | omega | decide) (by decide) ?_
      rw [show m4 (L0 + 7) 8 = nI (g + 1) from l5.2.2.2.2.trans updS, show m4 (L0 + 6) a2 = nI t from (l5.2.1 a2 (by rw [cOf_upd (by omega), u5]; exact z)).2.2.trans ((updN (by omega)).trans ut)]
      refine y_icmp_lt (tgt := 166) dX6_passTurn_145 (by decide) (fun h145 => ?_) (fun h145 => ?_)
      · refine y_return dX6_passTurn_166 rfl ?_
        first
          | (rw [if_neg (by have := (nI_ltI (a := g + 1) (b := t) (by omega) (by omega)).mp h145; rw [nI_eq (by omega) (by omega)]; omega)] at hQ
             exact hQ _ l5 (k2.tr (l2.g.tr l6)))
          | (refine hQ _ ?_ (k2.tr (l2.g.tr (l6.tr (l9.tr l10.2))))
             rw [upd_comm (by omega)]
             exact l10.1)
      · have eg : g + 1 = t := by have : ¬ g + 1 < t := fun q => h145 (nI_lt q (by omega)); omega
        rw [if_pos (by rw [eg]), updN (show 36 ≠ 37 by omega), updN (show 36 ≠ 37 by omega), u36, nI_1] at hQ
        have l7 := LA_36 l5 (by rw [cOf_upd (by omega)]; omega) (nI (a2 + 1))
        refine y_aload_n dX6_passTurn_148 rfl rfl ?_
        refine y_getr dX6_passTurn_149 gf_X6_28 hL.1 rfl ?_
        refine y_iload_n dX6_passTurn_152 rfl rfl ?_
        refine y_iconst (v := 1) dX6_passTurn_153 (by decide) ?_
        refine y_iadd dX6_passTurn_154 ?_
        rw [nI_1]
        refine y_puti dX6_passTurn_155 pf_X6_72 hL.2.2.2.1.1 rfl rfl rfl ?_
        obtain ⟨l8, l9⟩ := l7
        generalize s_up m4 (L0 + 7) (upd (m4 (L0 + 7)) 7 (nI (a2 + 1))) = m5 at l8 l9 ⊢
        have l10 := LA_37 l8 (by rw [cOf_upd (by omega), cOf_upd (by omega)]; omega) 0
        refine y_aload_n dX6_passTurn_158 rfl rfl ?_
        refine y_getr dX6_passTurn_159 gf_X6_28 hL.1 rfl ?_
        refine y_iconst (v := 0) dX6_passTurn_162 (by decide) ?_
        refine y_puti dX6_passTurn_163 pf_X6_95 hL.2.2.2.1.1 rfl rfl rfl ?_
        refine y_return dX6_passTurn_166 rfl ?_
        first
          | (rw [if_neg (by have := (nI_ltI (a := g + 1) (b := t) (by omega) (by omega)).mp h145; rw [nI_eq (by omega) (by omega)]; omega)] at hQ
             exact hQ _ l5 (k2.tr (l2.g.tr l6)))
          | (refine hQ _ ?_ (k2.tr (l2.g.tr (l6.tr (l9.tr l10.2))))
             rw [upd_comm (by omega)]
             exact l10.1)
    · refine y_iconst (v := 1) dX6_passTurn_108 (by decide) ?_
      refine y_goto (tgt := 113) dX6_passTurn_109 (by decide) ?_
      refine y_ivV2 dX6_passTurn_113 mv_X6_88 my_X6_turnBy (Or.inl rfl) hL.1 ?_
      refine c_X6_turnBy hL k1.1 q1.wf q1.rg (fun m3 l1 l2 => ⟨rfl, ?_⟩)
      have l1' : LR m3 L0 (turnF (ovk (S (6 + 3 * a2 + 0))) (S (6 + 3 * a2 + 1)) S) := by
        unfold ovk
        first | (rw [if_pos h105]; exact l1) | (rw [if_neg h105]; exact l1) | (rw [if_pos (Classical.not_not.mp h105)]; exact l1)
      have l3 := LA_step k1 l1' l2 (fun p hp => turn_low (by omega)) (by omega)
      have u36 : turnF (ovk (S (6 + 3 * a2 + 0))) (S (6 + 3 * a2 + 1)) S 36 = nI a2 := (turn_low (by omega)).trans k5
      have u37 : turnF (ovk (S (6 + 3 * a2 + 0))) (S (6 + 3 * a2 + 1)) S 37 = nI g := by rw [turn_low (by omega), q7 _ (by omega) (by omega), g1]
      have ut : turnF (ovk (S (6 + 3 * a2 + 0))) (S (6 + 3 * a2 + 1)) S (6 + 3 * a2 + 2) = nI t := by rw [turn_low (by omega), q7 _ (by omega) (by omega), g2]
      have u5 : cOf (turnF (ovk (S (6 + 3 * a2 + 0))) (S (6 + 3 * a2 + 1)) S) = cOf R := by
        unfold cOf at cS ⊢
        rw [turn_low (by omega), cS]
      unfold lastF at hQ
      generalize turnF (ovk (S (6 + 3 * a2 + 0))) (S (6 + 3 * a2 + 1)) S = U at l3 u36 u37 ut u5 hQ
      have l4 := LA_37 l3 (by omega) (nI (g + 1))
      unfold lastG at hQ
      rw [updS, updN (show 6 + 3 * a2 + 2 ≠ 37 by omega), u37, ut, nI_1] at hQ
      refine y_aload_n dX6_passTurn_116 rfl rfl ?_
      refine y_getr dX6_passTurn_117 gf_X6_28 hL.1 rfl ?_
      refine y_dup dX6_passTurn_120 rfl ?_
      refine y_geti dX6_passTurn_121 gf_X6_95 hL.2.2.2.1.1 rfl ?_
      refine y_iconst (v := 1) dX6_passTurn_124 (by decide) ?_
      refine y_iadd dX6_passTurn_125 ?_
      rw [show m3 (L0 + 7) 8 = nI g from l3.2.2.2.2.trans u37, nI_1]
      refine y_puti dX6_passTurn_126 pf_X6_95 hL.2.2.2.1.1 rfl rfl rfl ?_
      obtain ⟨l5, l6⟩ := l4
      generalize s_up m3 (L0 + 7) (upd (m3 (L0 + 7)) 8 (nI (g + 1))) = m4 at l5 l6 ⊢
      refine y_aload_n dX6_passTurn_129 rfl rfl ?_
      refine y_getr dX6_passTurn_130 gf_X6_28 hL.1 rfl ?_
      refine y_geti dX6_passTurn_133 gf_X6_95 hL.2.2.2.1.1 rfl ?_
      refine y_aload_n dX6_passTurn_136 rfl rfl ?_
      refine y_getr dX6_passTurn_137 gf_X6_21 hL.1 rfl ?_
      refine y_getr dX6_passTurn_140 gf_X6_98 hL.2.2.1.1 rfl ?_
      refine y_iload_n dX6_passTurn_143 rfl rfl ?_
      refine y_ialdN dX6_passTurn_144 hL.2.2.1.2.2.2 rfl (by first | omega | decide) (by decide) ?_
      rw [show m4 (L0 + 7) 8 = nI (g + 1) from l5.2.2.2.2.trans updS, show m4 (L0 + 6) a2 = nI t from (l5.2.1 a2 (by rw [cOf_upd (by omega), u5]; exact z)).2.2.trans ((updN (by omega)).trans ut)]
      refine y_icmp_lt (tgt := 166) dX6_passTurn_145 (by decide) (fun h145 => ?_) (fun h145 => ?_)
      · refine y_return dX6_passTurn_166 rfl ?_
        first
          | (rw [if_neg (by have := (nI_ltI (a := g + 1) (b := t) (by omega) (by omega)).mp h145; rw [nI_eq (by omega) (by omega)]; omega)] at hQ
             exact hQ _ l5 (k2.tr (l2.g.tr l6)))
          | (refine hQ _ ?_ (k2.tr (l2.g.tr (l6.tr (l9.tr l10.2))))
             rw [upd_comm (by omega)]
             exact l10.1)
      · have eg : g + 1 = t := by have : ¬ g + 1 < t := fun q => h145 (nI_lt q (by omega)); omega
        rw [if_pos (by rw [eg]), updN (show 36 ≠ 37 by omega), updN (show 36 ≠ 37 by omega), u36, nI_1] at hQ
        have l7 := LA_36 l5 (by rw [cOf_upd (by omega)]; omega) (nI (a2 + 1))
        refine y_aload_n dX6_passTurn_148 rfl rfl ?_
        refine y_getr dX6_passTurn_149 gf_X6_28 hL.1 rfl ?_
        refine y_iload_n dX6_passTurn_152 rfl rfl ?_
        refine y_iconst (v := 1) dX6_passTurn_153 (by decide) ?_
        refine y_iadd dX6_passTurn_154 ?_
        rw [nI_1]
        refine y_puti dX6_passTurn_155 pf_X6_72 hL.2.2.2.1.1 rfl rfl rfl ?_
        obtain ⟨l8, l9⟩ := l7
        generalize s_up m4 (L0 + 7) (upd (m4 (L0 + 7)) 7 (nI (a2 + 1))) = m5 at l8 l9 ⊢
        have l10 := LA_37 l8 (by rw [cOf_upd (by omega), cOf_upd (by omega)]; omega) 0
        refine y_aload_n dX6_passTurn_158 rfl rfl ?_
        refine y_getr dX6_passTurn_159 gf_X6_28 hL.1 rfl ?_
        refine y_iconst (v := 0) dX6_passTurn_162 (by decide) ?_
        refine y_puti dX6_passTurn_163 pf_X6_95 hL.2.2.2.1.1 rfl rfl rfl ?_
        refine y_return dX6_passTurn_166 rfl ?_
        first
          | (rw [if_neg (by have := (nI_ltI (a := g + 1) (b := t) (by omega) (by omega)).mp h145; rw [nI_eq (by omega) (by omega)]; omega)] at hQ
             exact hQ _ l5 (k2.tr (l2.g.tr l6)))
          | (refine hQ _ ?_ (k2.tr (l2.g.tr (l6.tr (l9.tr l10.2))))
             rw [upd_comm (by omega)]
             exact l10.1)
  · refine y_aload_n dX6_passTurn_78 rfl rfl ?_
    refine y_iconst (v := 2) dX6_passTurn_79 (by decide) ?_
    refine y_iconst (v := 0) dX6_passTurn_80 (by decide) ?_
    have z : a2 = cOf R := by have : ¬ a2 < cOf R := fun q => h75 (nI_lt q (by omega)); omega
    rw [if_pos z] at hQ
    refine y_ivV2 dX6_passTurn_81 mv_X6_88 my_X6_turnBy (Or.inl rfl) hL.1 ?_
    refine c_X6_turnBy (ov := 0) (w := 2) hL k1.1 q1.wf q1.rg (fun m3 l1 l2 => ⟨rfl, ?_⟩)
    have l3 := LA_step k1 l1 l2 (fun p hp => turn_low (by omega)) (by omega)
    refine y_return dX6_passTurn_84 rfl ?_
    exact hQ _ l3 (k2.tr l2.g)
