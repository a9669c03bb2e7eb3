/-! ===== resting on; a doing's steps ===== -/
def restsF (w x : Int32) : Nat → Nat → (Nat → Int32) → Int32
  | 0, _, _ => 60
  | f + 1, k, R => if turnF 0 w R 40 ≤ x then restsF w x f (k + 1) (turnF 0 w R) else nI k
theorem tornN_mono {R R' : Nat → Int32} (ht : tnR R) (h : ∀ k, k < 24 → tT R k → tT R' k) : ∀ k, k ≤ 24 → tornN R k ≤ tornN R' k := by
  intro k
  induction k with
  | zero => intro _; exact Nat.le_refl _
  | succ k ih =>
    intro hk
    have i := ih (by omega)
    unfold tornN
    rcases ht k (by omega) with e | e
    · rw [if_pos e]
      split <;> omega
    · rw [if_neg (by rw [e]; decide), if_neg (by rw [h k (by omega) e]; decide)]
      omega
theorem q_turns {w : Nat} {R : Nat → Int32} (h : iR R) (hw : w ≤ 9) (k : Nat) : ∃ a b : Nat, R 40 = nI a ∧ turnsF 0 (nI w) k R 40 = nI b ∧ a ≤ b ∧ b ≤ 24 := by
  have i := i_turns (ov := 0) h hw k
  refine ⟨_, _, h.wf, i.wf, tornN_mono h.2.2.1 (fun j hj e => ?_) 24 (Nat.le_refl _), tornN_le _ _⟩
  clear i
  induction k with
  | zero => exact e
  | succ k ih => exact tT_turn hj ih
theorem LA.up {m : sM} {a b : Nat} {f : Nat → Int32} {R : Nat → Int32} (h : LA m a R) (hb : b < a ∨ a + 19 ≤ b) (hc : True := trivial) : LA (s_up m b f) a R := by
  obtain ⟨⟨r1, r2, r3, r4, r5, r6⟩, d1, d2, d3, d4⟩ := h
  have e : ∀ c, a ≤ c → c < a + 19 → s_up m b f c = m c := fun c h1 h2 => s_upN (by omega)
  refine ⟨⟨fun i hi => ?_, fun k hk => ?_, ?_, ?_, ?_, fun k hk => ?_⟩, fun i hi => ?_, ?_, ?_, ?_⟩
  · rw [e _ (by omega) (by omega)]; exact r1 i hi
  · rw [e _ (by omega) (by omega), e _ (by omega) (by omega), e _ (by omega) (by omega), e _ (by omega) (by omega), e _ (by omega) (by omega)]; exact r2 k hk
  · rw [e _ (by omega) (by omega)]; exact r3
  · rw [e _ (by omega) (by omega)]; exact r4
  · rw [e _ (by omega) (by omega)]; exact r5
  · rw [e _ (by omega) (by omega), e _ (by omega) (by omega), e _ (by omega) (by omega), e _ (by omega) (by omega), e _ (by omega) (by omega)]; exact r6 k hk
  · rw [e _ (by omega) (by omega), e _ (by omega) (by omega), e _ (by omega) (by omega)]; exact d1 i hi
  · rw [e _ (by omega) (by omega)]; exact d2
  · rw [e _ (by omega) (by omega)]; exact d3
  · rw [e _ (by omega) (by omega)]; exact d4
set_option maxHeartbeats 1000000 in
theorem c_X0_restsOf {L : Nat} {xs : Nat → Int32} {d : Nat} {m : sM} {n : sN} {Q : sQ} {F1 wn : Nat} {w0 : Int32} {R : Nat → Int32} (hG : isLf F1) (hd : F1 + 19 ≤ 35 ∨ 122 ≤ F1) (h : LA m F1 R) (hs : sR R) (hb1 : m (F1 + 1) 1 = 0 ∨ m (F1 + 1) 1 = 1) (hb2 : m (F1 + 3) 4 = 0 ∨ m (F1 + 3) 4 = 1) (hb3 : m F1 4 = 0 ∨ m F1 4 = 1) (hw0 : w0 = nI wn) (hwn : wn ≤ 9) (hQ : ∀ m', BK m' → (∀ a, a < 35 ∨ 122 ≤ a → m' a = m a) → Q (some (.int (restsF (nI wn) (R 40) 60 0 R))) m' n) : sRun (scT L xs) (d + 6) yX0_restsOf cX0_restsOf 5 (some .int) [.ref 35, .ref F1, .int w0] m n Q := by
  subst hw0
  refine y_run (own := "LoafFall$Baker") rfl (by decide +kernel) (Nat.le_of_ble_eq_true rfl) rfl ?_
  refine y_aload_n dX0_restsOf_0 rfl rfl ?_
  refine y_iconst (v := 0) dX0_restsOf_1 (by decide) ?_
  refine y_puti dX0_restsOf_2 pf_X0_41 sh_35 rfl rfl rfl ?_
  refine y_aload_n dX0_restsOf_5 rfl rfl ?_
  refine y_getr dX0_restsOf_6 gf_X0_12 sh_35 rfl ?_
  refine y_aload_n dX0_restsOf_9 rfl rfl ?_
  refine y_ivV1 dX0_restsOf_10 mv_X0_89 my_X6_take (Or.inl rfl) sh_36 ?_
  refine c_X6_take lf36 hG (by omega) (h.up (by omega)) hs (by rw [s_upN (by omega)]; exact hb1) (by rw [s_upN (by omega)]; exact hb2) (by rw [s_upN (by omega)]; exact hb3) (fun m1 l1 l2 l3 l4 l5 => ⟨rfl, ?_⟩)
  have fr1 : ∀ a, a < 35 ∨ 122 ≤ a → m1 a = m a := fun a ha => (l2 a (by omega)).trans (s_upN (by omega))
  have k1 : m1 35 2 = nI 0 := by rw [l2 _ (by omega), s_upS, updS]; exact nI_0.symm
  refine y_aload_n dX0_restsOf_13 rfl rfl ?_
  refine y_getr dX0_restsOf_14 gf_X0_12 sh_35 rfl ?_
  refine y_getr dX0_restsOf_17 gf_X0_33 sh_36 rfl ?_
  refine y_geti dX0_restsOf_20 gf_X0_92 sh_43 rfl ?_
  rw [show m1 43 5 = R 40 from l1.1.2.2.1]
  refine y_ist5_3 dX0_restsOf_23 rfl ?_
  refine y_iconst (v := 0) dX0_restsOf_24 (by decide) ?_
  refine y_ist5_4 dX0_restsOf_25 rfl ?_
  refine cnt (P := fun k => ∀ m' : sM, LD m' 36 (turnsF 0 (nI wn) k R) → m' 35 2 = nI 0 → (∀ a, a < 35 ∨ 122 ≤ a → m' a = m a) → (∀ m', BK m' → (∀ a, a < 35 ∨ 122 ≤ a → m' a = m a) → Q (some (.int (restsF (nI wn) (R 40) (60 - k) k (turnsF 0 (nI wn) k R)))) m' n) → sV (scT L xs) (d + 5) "LoafFall$Baker" cX0_restsOf 5 (some .int) Q 27 [some (.ref 35), some (.ref F1), some (.int (nI wn)), some (.int (R 40)), some (.int (nI k))] [] m' n) 60 ?_ ?_ 0 (by omega) m1 l1.1.d k1 fr1 hQ
  · intro m' ld kk fr hQ
    refine y_iload dX0_restsOf_27 rfl ?_
    refine y_bipush (v := 60) dX0_restsOf_29 (by decide) ?_
    refine y_icmp_ge (tgt := 66) dX0_restsOf_31 (by decide) (fun h31 => ?_) (fun h31 => absurd (nI_le (a := 60) (b := 60) (Nat.le_refl _) (by decide)) h31)
    refine y_bipush (v := 60) dX0_restsOf_66 (by decide) ?_
    refine y_ireturn dX0_restsOf_68 rfl rfl ?_
    exact hQ _ (Or.inl kk) fr
  · intro k hk hP
    intro m' ld kk fr hQ
    have hiK := i_turns (ov := 0) hs.1 hwn k
    obtain ⟨qa, qb, qa1, qb1, qab, qb24⟩ := q_turns hs.1 hwn (k + 1)
    have hS : restsF (nI wn) (R 40) (60 - k) k (turnsF 0 (nI wn) k R) = if turnsF 0 (nI wn) (k + 1) R 40 ≤ R 40 then restsF (nI wn) (R 40) (60 - (k + 1)) (k + 1) (turnsF 0 (nI wn) (k + 1) R) else nI k := by
      rw [show 60 - k = (60 - (k + 1)) + 1 by omega]
      rfl
    rw [hS] at hQ
    refine y_iload dX0_restsOf_27 rfl ?_
    refine y_bipush (v := 60) dX0_restsOf_29 (by decide) ?_
    refine y_icmp_ge (tgt := 66) dX0_restsOf_31 (by decide) (fun h31 => absurd h31 (nI_ge (a := k) (b := 60) hk (by decide))) (fun h31 => ?_)
    refine y_aload_n dX0_restsOf_34 rfl rfl ?_
    refine y_getr dX0_restsOf_35 gf_X0_12 sh_35 rfl ?_
    refine y_iload_n dX0_restsOf_38 rfl rfl ?_
    refine y_iconst (v := 0) dX0_restsOf_39 (by decide) ?_
    refine y_ivV2 dX0_restsOf_40 mv_X0_61 my_X6_turnBy (Or.inl rfl) sh_36 ?_
    refine c_turnD (ov := 0) (w := nI wn) lf36 ld hiK (fun m3 g1 g2 => ⟨rfl, ?_⟩)
    have e40 : m3 43 5 = turnsF 0 (nI wn) (k + 1) R 40 := g1.2.2.1
    refine y_aload_n dX0_restsOf_43 rfl rfl ?_
    refine y_getr dX0_restsOf_44 gf_X0_12 sh_35 rfl ?_
    refine y_getr dX0_restsOf_47 gf_X0_33 sh_36 rfl ?_
    refine y_geti dX0_restsOf_50 gf_X0_92 sh_43 rfl ?_
    refine y_iload_n dX0_restsOf_53 rfl rfl ?_
    rw [e40]
    refine y_icmp_eq (tgt := 60) dX0_restsOf_54 (by decide) (fun h54 => ?_) (fun h54 => ?_)
    · refine y_iinc5_4 dX0_restsOf_60 (nI_1 _) rfl ?_
      refine y_goto (tgt := 27) dX0_restsOf_63 (by decide) ?_
      rw [if_pos (by rw [h54]; exact Int32.le_refl _)] at hQ
      exact hP _ g1 (by rw [g2 _ (by omega)]; exact kk) (fun a ha => (g2 a (by omega)).trans (fr a ha)) hQ
    · refine y_iload dX0_restsOf_57 rfl ?_
      refine y_ireturn dX0_restsOf_59 rfl rfl ?_
      rw [if_neg (by
        rw [qa1, qb1, nI_leI (by omega) (by omega)]
        intro z
        exact h54 (by rw [qa1, qb1, show qa = qb by omega]))] at hQ
      exact hQ _ (Or.inl (by rw [g2 _ (by omega)]; exact kk)) (fun a ha => (g2 a (by omega)).trans (fr a ha))
set_option maxHeartbeats 1000000 in
theorem c_X1_turnsInAll {L : Nat} {xs : Nat → Int32} {d : Nat} {m : sM} {n : sN} {Q : sQ} {G0 c : Nat} {R : Nat → Int32} (hG : isDg G0) (hg : DR m G0 R) (hc : R 5 = nI c) (hc2 : c ≤ 10) (hQ : Q (some (.int (rsum R c))) m n) : sRun (scT L xs) (d + 1) yX1_turnsInAll cX1_turnsInAll 3 (some .int) [.ref G0] m n Q := by
  have ec : cOf R = c := by unfold cOf; rw [hc, nI_clamp (by omega)]
  refine y_run (own := "LoafFall$Doing") rfl (by decide +kernel) (Nat.le_of_ble_eq_true rfl) rfl ?_
  refine y_iconst (v := 0) dX1_turnsInAll_0 (by decide) ?_
  refine y_ist3_1 dX1_turnsInAll_1 rfl ?_
  refine y_iconst (v := 0) dX1_turnsInAll_2 (by decide) ?_
  refine y_ist3_2 dX1_turnsInAll_3 rfl ?_
  refine cnt (P := fun k => sV (scT L xs) d "LoafFall$Doing" cX1_turnsInAll 3 (some .int) Q 4 [some (.ref G0), some (.int (rsum R k)), some (.int (nI k))] [] m n) c ?_ ?_ 0 (by omega)
  · refine y_iload_n dX1_turnsInAll_4 rfl rfl ?_
    refine y_aload_n dX1_turnsInAll_5 rfl rfl ?_
    refine y_geti dX1_turnsInAll_6 gf_X1_21 hG.1 rfl ?_
    rw [hg.2, hc]
    refine y_icmp_ge (tgt := 27) dX1_turnsInAll_9 (by decide) (fun h9 => ?_) (fun h9 => absurd (nI_le (a := c) (b := c) (Nat.le_refl _) (by omega)) h9)
    refine y_iload_n dX1_turnsInAll_27 rfl rfl ?_
    refine y_ireturn dX1_turnsInAll_28 rfl rfl ?_
    exact hQ
  · intro k hk hP
    refine y_iload_n dX1_turnsInAll_4 rfl rfl ?_
    refine y_aload_n dX1_turnsInAll_5 rfl rfl ?_
    refine y_geti dX1_turnsInAll_6 gf_X1_21 hG.1 rfl ?_
    rw [hg.2, hc]
    refine y_icmp_ge (tgt := 27) dX1_turnsInAll_9 (by decide) (fun h9 => absurd h9 (nI_ge (a := k) (b := c) hk (by omega))) (fun h9 => ?_)
    refine y_iload_n dX1_turnsInAll_12 rfl rfl ?_
    refine y_aload_n dX1_turnsInAll_13 rfl rfl ?_
    refine y_getr dX1_turnsInAll_14 gf_X1_18 hG.1 rfl ?_
    refine y_iload_n dX1_turnsInAll_17 rfl rfl ?_
    refine y_ialdN dX1_turnsInAll_18 hG.2.2.2 rfl (by first | omega | decide) (by decide) ?_
    rw [(hg.1 k (by omega)).2.2]
    refine y_iadd dX1_turnsInAll_19 ?_
    refine y_ist3_1 dX1_turnsInAll_20 rfl ?_
    refine y_iinc3_2 dX1_turnsInAll_21 (nI_1 _) rfl ?_
    refine y_goto (tgt := 4) dX1_turnsInAll_24 (by decide) ?_
    exact hP
set_option maxHeartbeats 1000000 in
theorem c_X1_mayLast {L : Nat} {xs : Nat → Int32} {d : Nat} {m : sM} {n : sN} {Q : sQ} {G0 c i : Nat} {i0 t0 : Int32} {R : Nat → Int32} (hG : isDg G0) (hg : DR m G0 R) (hc : R 5 = nI c) (hc2 : c ≤ 10) (hi0 : i0 = nI i) (hi : i < c) (hQ1 : (1 ≤ t0 ∧ t0 ≤ 30 ∧ rsum R c - R (6 + 3 * i + 2) + t0 ≤ 90) → Q (some (.int 1)) m n) (hQ0 : ¬ (1 ≤ t0 ∧ t0 ≤ 30 ∧ rsum R c - R (6 + 3 * i + 2) + t0 ≤ 90) → Q (some (.int 0)) m n) : sRun (scT L xs) (d + 2) yX1_mayLast cX1_mayLast 3 (some .boolean) [.ref G0, .int i0, .int t0] m n Q := by
  subst hi0
  refine y_run (own := "LoafFall$Doing") rfl (by decide +kernel) (Nat.le_of_ble_eq_true rfl) rfl ?_
  refine y_iload_n dX1_mayLast_0 rfl rfl ?_
  refine y_iconst (v := 1) dX1_mayLast_1 (by decide) ?_
  refine y_icmp_lt (tgt := 33) dX1_mayLast_2 (by decide) (fun h2 => ?_) (fun h2 => ?_)
  · refine y_iconst (v := 0) dX1_mayLast_33 (by decide) ?_
    refine y_ireturn dX1_mayLast_34 rfl rfl ?_
    first
      | exact hQ0 (fun z => absurd h2 (Int32.not_lt.mpr z.1))
      | exact hQ0 (fun z => absurd h8 (Int32.not_lt.mpr z.2.1))
      | exact hQ0 (fun z => absurd h26 (Int32.not_lt.mpr z.2.2))
      | exact hQ1 ⟨Int32.not_lt.mp h2, Int32.not_lt.mp h8, Int32.not_lt.mp h26⟩
      | exact hQ0 (fun z => h2 z.1)
      | exact hQ0 (fun z => h8 z.2.1)
      | exact hQ0 (fun z => h26 z.2.2)
      | exact hQ1 ⟨Int32.not_lt.mp h2, h8, h26⟩
  · refine y_iload_n dX1_mayLast_5 rfl rfl ?_
    refine y_bipush (v := 30) dX1_mayLast_6 (by decide) ?_
    refine y_icmp_gt (tgt := 33) dX1_mayLast_8 (by decide) (fun h8 => ?_) (fun h8 => ?_)
    · refine y_iconst (v := 0) dX1_mayLast_33 (by decide) ?_
      refine y_ireturn dX1_mayLast_34 rfl rfl ?_
      first
        | exact hQ0 (fun z => absurd h2 (Int32.not_lt.mpr z.1))
        | exact hQ0 (fun z => absurd h8 (Int32.not_lt.mpr z.2.1))
        | exact hQ0 (fun z => absurd h26 (Int32.not_lt.mpr z.2.2))
        | exact hQ1 ⟨Int32.not_lt.mp h2, Int32.not_lt.mp h8, Int32.not_lt.mp h26⟩
        | exact hQ0 (fun z => h2 z.1)
        | exact hQ0 (fun z => h8 z.2.1)
        | exact hQ0 (fun z => h26 z.2.2)
        | exact hQ1 ⟨Int32.not_lt.mp h2, h8, h26⟩
    · refine y_aload_n dX1_mayLast_11 rfl rfl ?_
      refine y_ivI0 dX1_mayLast_12 mv_X1_35 my_X1_turnsInAll (Or.inl rfl) hG.1 ?_
      refine c_X1_turnsInAll hG hg hc hc2 ⟨_, rfl, ?_⟩
      refine y_aload_n dX1_mayLast_15 rfl rfl ?_
      refine y_getr dX1_mayLast_16 gf_X1_18 hG.1 rfl ?_
      refine y_iload_n dX1_mayLast_19 rfl rfl ?_
      refine y_ialdN dX1_mayLast_20 hG.2.2.2 rfl (by first | omega | decide) (by decide) ?_
      rw [(hg.1 i (by rw [show cOf R = c from by unfold cOf; rw [hc, nI_clamp (by omega)]]; exact hi)).2.2]
      refine y_isub dX1_mayLast_21 ?_
      refine y_iload_n dX1_mayLast_22 rfl rfl ?_
      refine y_iadd dX1_mayLast_23 ?_
      refine y_bipush (v := 90) dX1_mayLast_24 (by decide) ?_
      refine y_icmp_gt (tgt := 33) dX1_mayLast_26 (by decide) (fun h26 => ?_) (fun h26 => ?_)
      · refine y_iconst (v := 0) dX1_mayLast_33 (by decide) ?_
        refine y_ireturn dX1_mayLast_34 rfl rfl ?_
        first
          | exact hQ0 (fun z => absurd h2 (Int32.not_lt.mpr z.1))
          | exact hQ0 (fun z => absurd h8 (Int32.not_lt.mpr z.2.1))
          | exact hQ0 (fun z => absurd h26 (Int32.not_lt.mpr z.2.2))
          | exact hQ1 ⟨Int32.not_lt.mp h2, Int32.not_lt.mp h8, Int32.not_lt.mp h26⟩
          | exact hQ0 (fun z => h2 z.1)
          | exact hQ0 (fun z => h8 z.2.1)
          | exact hQ0 (fun z => h26 z.2.2)
          | exact hQ1 ⟨Int32.not_lt.mp h2, h8, h26⟩
      · refine y_iconst (v := 1) dX1_mayLast_29 (by decide) ?_
        refine y_goto (tgt := 34) dX1_mayLast_30 (by decide) ?_
        refine y_ireturn dX1_mayLast_34 rfl rfl ?_
        first
          | exact hQ0 (fun z => absurd h2 (Int32.not_lt.mpr z.1))
          | exact hQ0 (fun z => absurd h8 (Int32.not_lt.mpr z.2.1))
          | exact hQ0 (fun z => absurd h26 (Int32.not_lt.mpr z.2.2))
          | exact hQ1 ⟨Int32.not_lt.mp h2, Int32.not_lt.mp h8, Int32.not_lt.mp h26⟩
          | exact hQ0 (fun z => h2 z.1)
          | exact hQ0 (fun z => h8 z.2.1)
          | exact hQ0 (fun z => h26 z.2.2)
          | exact hQ1 ⟨Int32.not_lt.mp h2, h8, h26⟩
set_option maxHeartbeats 1000000 in
theorem c_X1_warmthAndTurns {L : Nat} {xs : Nat → Int32} {d : Nat} {m : sM} {n : sN} {Q : sQ} {G0 i : Nat} {i0 : Int32} {R : Nat → Int32} (hG : isDg G0) (hg : DR m G0 R) (hc2 : cOf R ≤ 10) (hi0 : i0 = nI i) (hi : i < cOf R) (hQ : Q (some (.int (100 * R (6 + 3 * i + 1) + R (6 + 3 * i + 2)))) m n) : sRun (scT L xs) (d + 1) yX1_warmthAndTurns cX1_warmthAndTurns 2 (some .int) [.ref G0, .int i0] m n Q := by
  subst hi0
  refine y_run (own := "LoafFall$Doing") rfl (by decide +kernel) (Nat.le_of_ble_eq_true rfl) rfl ?_
  refine y_bipush (v := 100) dX1_warmthAndTurns_0 (by decide) ?_
  refine y_aload_n dX1_warmthAndTurns_2 rfl rfl ?_
  refine y_getr dX1_warmthAndTurns_3 gf_X1_15 hG.1 rfl ?_
  refine y_iload_n dX1_warmthAndTurns_6 rfl rfl ?_
  refine y_ialdN dX1_warmthAndTurns_7 hG.2.2.1 rfl (by first | omega | decide) (by decide) ?_
  rw [(hg.1 i hi).2.1]
  refine y_imul dX1_warmthAndTurns_8 ?_
  refine y_aload_n dX1_warmthAndTurns_9 rfl rfl ?_
  refine y_getr dX1_warmthAndTurns_10 gf_X1_18 hG.1 rfl ?_
  refine y_iload_n dX1_warmthAndTurns_13 rfl rfl ?_
  refine y_ialdN dX1_warmthAndTurns_14 hG.2.2.2 rfl (by first | omega | decide) (by decide) ?_
  rw [(hg.1 i hi).2.2]
  refine y_iadd dX1_warmthAndTurns_15 ?_
  refine y_ireturn dX1_warmthAndTurns_16 rfl rfl ?_
  exact hQ
set_option maxHeartbeats 1000000 in
theorem c_X1_firstRest {L : Nat} {xs : Nat → Int32} {d : Nat} {m : sM} {n : sN} {Q : sQ} {G0 c : Nat} {R : Nat → Int32} (hG : isDg G0) (hg : DR m G0 R) (hc : R 5 = nI c) (hc2 : c ≤ 10) (hQ1 : ∀ i, i < c → R (6 + 3 * i + 0) = 1 → (∀ j, j < i → ¬ R (6 + 3 * j + 0) = 1) → Q (some (.int (nI i))) m n) (hQ0 : (∀ j, j < c → ¬ R (6 + 3 * j + 0) = 1) → Q (some (.int (-9))) m n) : sRun (scT L xs) (d + 1) yX1_firstRest cX1_firstRest 2 (some .int) [.ref G0] m n Q := by
  have ec : cOf R = c := by unfold cOf; rw [hc, nI_clamp (by omega)]
  refine y_run (own := "LoafFall$Doing") rfl (by decide +kernel) (Nat.le_of_ble_eq_true rfl) rfl ?_
  refine y_iconst (v := 0) dX1_firstRest_0 (by decide) ?_
  refine y_ist2_1 dX1_firstRest_1 rfl ?_
  refine cnt (P := fun k => (∀ j, j < k → ¬ R (6 + 3 * j + 0) = 1) → sV (scT L xs) d "LoafFall$Doing" cX1_firstRest 2 (some .int) Q 2 [some (.ref G0), some (.int (nI k))] [] m n) c ?_ ?_ 0 (by omega) (fun j hj => absurd hj (by omega))
  · intro hj
    refine y_iload_n dX1_firstRest_2 rfl rfl ?_
    refine y_aload_n dX1_firstRest_3 rfl rfl ?_
    refine y_geti dX1_firstRest_4 gf_X1_21 hG.1 rfl ?_
    rw [hg.2, hc]
    refine y_icmp_ge (tgt := 28) dX1_firstRest_7 (by decide) (fun h7 => ?_) (fun h7 => absurd (nI_le (a := c) (b := c) (Nat.le_refl _) (by omega)) h7)
    refine y_bipush (v := -9) dX1_firstRest_28 (by decide) ?_
    refine y_ireturn dX1_firstRest_30 rfl rfl ?_
    exact hQ0 hj
  · intro k hk hP
    intro hj
    refine y_iload_n dX1_firstRest_2 rfl rfl ?_
    refine y_aload_n dX1_firstRest_3 rfl rfl ?_
    refine y_geti dX1_firstRest_4 gf_X1_21 hG.1 rfl ?_
    rw [hg.2, hc]
    refine y_icmp_ge (tgt := 28) dX1_firstRest_7 (by decide) (fun h7 => absurd h7 (nI_ge (a := k) (b := c) hk (by omega))) (fun h7 => ?_)
    refine y_aload_n dX1_firstRest_10 rfl rfl ?_
    refine y_getr dX1_firstRest_11 gf_X1_9 hG.1 rfl ?_
    refine y_iload_n dX1_firstRest_14 rfl rfl ?_
    refine y_ialdN dX1_firstRest_15 hG.2.1 rfl (by first | omega | decide) (by decide) ?_
    rw [(hg.1 k (by omega)).1]
    refine y_iconst (v := 1) dX1_firstRest_16 (by decide) ?_
    refine y_icmp_ne (tgt := 22) dX1_firstRest_17 (by decide) (fun h17 => ?_) (fun h17 => ?_)
    · refine y_iinc2_1 dX1_firstRest_22 (nI_1 _) rfl ?_
      refine y_goto (tgt := 2) dX1_firstRest_25 (by decide) ?_
      refine hP (fun j hj2 => ?_)
      by_cases e : j = k
      · rw [e]; exact h17
      · exact hj j (by omega)
    · refine y_iload_n dX1_firstRest_20 rfl rfl ?_
      refine y_ireturn dX1_firstRest_21 rfl rfl ?_
      exact hQ1 k hk h17 hj
