/-! ===== a whole step of a dough ===== -/
/-- the dough is that of the row, or both are torn all over -/
def ST (m : sM) (L : Nat) (S : Nat → Int32) : Prop := LD m L S ∨ (allT S ∧ ∃ A, LD m L A ∧ iR A ∧ allT A)
theorem LD_q {m : sM} {L : Nat} {S : Nat → Int32} (h : LD m L S) (hi : iR S) : m (L + 7) 5 = nI (qOf S) ∧ qOf S ≤ 24 := ⟨h.2.2.1.trans (wfR_q hi.wf).1, (wfR_q hi.wf).2⟩
theorem LG.a {m m' : sM} {L : Nat} (h : LG m m' L) {a : Nat} (ha : a < L + 7) : m' a = m a := h a (Or.inl ha)
set_option maxHeartbeats 1000000 in
theorem c_X6_passStep {L : Nat} {xs : Nat → Int32} {d : Nat} {m : sM} {n : sN} {Q : sQ} {L0 i : Nat} {i0 : Int32} {S : Nat → Int32} (hL : isLf L0) (hi0 : i0 = nI i) (hi10 : i < 10) (h : LD m L0 S) (hi : iR S) (k0 : m (L0 + 4) i = S (6 + 3 * i + 0)) (k1 : m (L0 + 5) i = S (6 + 3 * i + 1)) (k2 : m (L0 + 6) i = S (6 + 3 * i + 2)) (hst : (S (6 + 3 * i + 0) = 3 ∨ S (6 + 3 * i + 0) = 4 ∨ S (6 + 3 * i + 0) = 5) ∨ lastsR S i) (hQ : ∀ m', ST m' L0 (passF i S) → LG m m' L0 → Q none m' n) : sRun (scT L xs) (d + 5) yX6_passStep cX6_passStep 3 none [.ref L0, .int i0] m n Q := by
  subst hi0
  refine y_run (own := "LoafFall$Loaf") rfl (by decide +kernel) (Nat.le_of_ble_eq_true rfl) rfl ?_
  refine y_aload_n dX6_passStep_0 rfl rfl ?_
  refine y_getr dX6_passStep_1 gf_X6_21 hL.1 rfl ?_
  refine y_iload_n dX6_passStep_4 rfl rfl ?_
  refine y_ivI1 dX6_passStep_5 mv_X6_78 my_X1_lasts (Or.inl rfl) hL.2.2.1.1 ?_
  refine c_X1_lasts (i := i) hL.2.2.1 rfl hi10 (fun hl => ⟨_, rfl, ?_⟩) (fun hl => ⟨_, rfl, ?_⟩)
  · have hlS : lastsR S i := hst.resolve_left (fun z => by rw [k0] at hl; rcases hl with q | q <;> rw [q] at z <;> exact absurd z (by decide))
    refine y_if_ne (tgt := 25) dX6_passStep_8 (by decide) (fun h8 => ?_) (fun h8 => absurd h8 (by decide))
    refine y_iconst (v := 0) dX6_passStep_25 (by decide) ?_
    refine y_ist3_2 dX6_passStep_26 rfl ?_
    obtain ⟨t, t1, t2, t3⟩ := hlS.2.2
    obtain ⟨wn, w1, w2⟩ := hlS.2.1
    have hp : passF i S = turnsF (ovk (S (6 + 3 * i + 0))) (S (6 + 3 * i + 1)) t S := by unfold passF tOf; rw [if_neg (lasts_n hlS), t1, nI_clamp (by omega)]
    have hiT : ∀ k, iR (turnsF (ovk (S (6 + 3 * i + 0))) (S (6 + 3 * i + 1)) k S) := fun k => by rw [w1]; exact i_turns hi w2 k
    rw [hp] at hQ
    refine cnt (P := fun k => ∀ m' : sM, LD m' L0 (turnsF (ovk (S (6 + 3 * i + 0))) (S (6 + 3 * i + 1)) k S) → LG m m' L0 → sV (scT L xs) (d + 4) "LoafFall$Loaf" cX6_passStep 3 none Q 27 [some (.ref L0), some (.int (nI i)), some (.int (nI k))] [] m' n) t ?_ ?_ 0 (by omega) m h LG.rf
    · intro m' h1 h2
      refine y_iload_n dX6_passStep_27 rfl rfl ?_
      refine y_aload_n dX6_passStep_28 rfl rfl ?_
      refine y_getr dX6_passStep_29 gf_X6_21 hL.1 rfl ?_
      refine y_getr dX6_passStep_32 gf_X6_98 hL.2.2.1.1 rfl ?_
      refine y_iload_n dX6_passStep_35 rfl rfl ?_
      refine y_ialdN dX6_passStep_36 hL.2.2.1.2.2.2 rfl (by first | omega | decide) (by decide) ?_
      rw [show m' (L0 + 6) i = nI t from by rw [h2.a (by omega), k2, t1]]
      refine y_icmp_ge (tgt := 87) dX6_passStep_37 (by decide) (fun h37 => ?_) (fun h37 => absurd (nI_le (a := t) (b := t) (Nat.le_refl _) (by omega)) h37)
      refine y_return dX6_passStep_87 rfl ?_
      exact hQ _ (Or.inl h1) h2
    · intro k hk hP
      intro m' h1 h2
      have hiK := hiT k
      have hA : allT (turnsF (ovk (S (6 + 3 * i + 0))) (S (6 + 3 * i + 1)) k S) → allT (turnsF (ovk (S (6 + 3 * i + 0))) (S (6 + 3 * i + 1)) t S) := fun z => by
        have z2 := allT_turns k (t - k) z
        rw [show k + (t - k) = t by omega] at z2
        exact z2
      obtain ⟨hq, hq24⟩ := LD_q h1 hiK
      generalize hSk : turnsF (ovk (S (6 + 3 * i + 0))) (S (6 + 3 * i + 1)) k S = Sk at h1 hiK hA hq hq24
      replace hP : ∀ m' : sM, LD m' L0 (turnF (ovk (S (6 + 3 * i + 0))) (S (6 + 3 * i + 1)) Sk) → LG m m' L0 → sV (scT L xs) (d + 4) "LoafFall$Loaf" cX6_passStep 3 none Q 27 [some (.ref L0), some (.int (nI i)), some (.int (nI (k + 1)))] [] m' n := by rw [← hSk]; exact hP
      refine y_iload_n dX6_passStep_27 rfl rfl ?_
      refine y_aload_n dX6_passStep_28 rfl rfl ?_
      refine y_getr dX6_passStep_29 gf_X6_21 hL.1 rfl ?_
      refine y_getr dX6_passStep_32 gf_X6_98 hL.2.2.1.1 rfl ?_
      refine y_iload_n dX6_passStep_35 rfl rfl ?_
      refine y_ialdN dX6_passStep_36 hL.2.2.1.2.2.2 rfl (by first | omega | decide) (by decide) ?_
      rw [show m' (L0 + 6) i = nI t from by rw [h2.a (by omega), k2, t1]]
      refine y_icmp_ge (tgt := 87) dX6_passStep_37 (by decide) (fun h37 => absurd h37 (nI_ge (a := k) (b := t) hk (by omega))) (fun h37 => ?_)
      refine y_aload_n dX6_passStep_40 rfl rfl ?_
      refine y_getr dX6_passStep_41 gf_X6_28 hL.1 rfl ?_
      refine y_ivI0 dX6_passStep_44 mv_X6_101 my_X2_isAllTorn (Or.inl rfl) hL.2.2.2.1.1 ?_
      refine c_X2_isAllTorn (q := qOf Sk) hL.2.2.2.1 hq hq24 (fun hq1 => ⟨_, rfl, ?_⟩) (fun hq0 => ⟨_, rfl, ?_⟩)
      · refine y_if_ne (tgt := 87) dX6_passStep_47 (by decide) (fun h47 => ?_) (fun h47 => absurd h47 (by decide))
        refine y_return dX6_passStep_87 rfl ?_
        exact hQ _ (Or.inr ⟨hA (i_allT hiK hq1), Sk, h1, hiK, i_allT hiK hq1⟩) h2
      · refine y_if_ne (tgt := 87) dX6_passStep_47 (by decide) (fun h47 => absurd (by decide) h47) (fun h47 => ?_)
        refine y_aload_n dX6_passStep_50 rfl rfl ?_
        refine y_aload_n dX6_passStep_51 rfl rfl ?_
        refine y_getr dX6_passStep_52 gf_X6_21 hL.1 rfl ?_
        refine y_getr dX6_passStep_55 gf_X6_92 hL.2.2.1.1 rfl ?_
        refine y_iload_n dX6_passStep_58 rfl rfl ?_
        refine y_ialdN dX6_passStep_59 hL.2.2.1.2.2.1 rfl (by first | omega | decide) (by decide) ?_
        rw [show m' (L0 + 5) i = S (6 + 3 * i + 1) from by rw [h2.a (by omega), k1]]
        refine y_aload_n dX6_passStep_60 rfl rfl ?_
        refine y_getr dX6_passStep_61 gf_X6_21 hL.1 rfl ?_
        refine y_getr dX6_passStep_64 gf_X6_82 hL.2.2.1.1 rfl ?_
        refine y_iload_n dX6_passStep_67 rfl rfl ?_
        refine y_ialdN dX6_passStep_68 hL.2.2.1.2.1 rfl (by first | omega | decide) (by decide) ?_
        rw [show m' (L0 + 4) i = S (6 + 3 * i + 0) from by rw [h2.a (by omega), k0]]
        refine y_iconst (v := 2) dX6_passStep_69 (by decide) ?_
        refine y_icmp_ne (tgt := 77) dX6_passStep_70 (by decide) (fun h70 => ?_) (fun h70 => ?_)
        · refine y_iconst (v := 0) dX6_passStep_77 (by decide) ?_
          refine y_ivV2 dX6_passStep_78 mv_X6_88 my_X6_turnBy (Or.inl rfl) hL.1 ?_
          refine c_turnD hL h1 hiK (fun m3 l1 l2 => ⟨rfl, ?_⟩)
          have l1' : LD m3 L0 (turnF (ovk (S (6 + 3 * i + 0))) (S (6 + 3 * i + 1)) Sk) := by
            unfold ovk
            first | (rw [if_pos h70]; exact l1) | (rw [if_neg h70]; exact l1) | (rw [if_pos (Classical.not_not.mp h70)]; exact l1)
          refine y_iinc3_2 dX6_passStep_81 (nI_1 _) rfl ?_
          refine y_goto (tgt := 27) dX6_passStep_84 (by decide) ?_
          exact hP _ l1' (h2.tr l2)
        · refine y_iconst (v := 1) dX6_passStep_73 (by decide) ?_
          refine y_goto (tgt := 78) dX6_passStep_74 (by decide) ?_
          refine y_ivV2 dX6_passStep_78 mv_X6_88 my_X6_turnBy (Or.inl rfl) hL.1 ?_
          refine c_turnD hL h1 hiK (fun m3 l1 l2 => ⟨rfl, ?_⟩)
          have l1' : LD m3 L0 (turnF (ovk (S (6 + 3 * i + 0))) (S (6 + 3 * i + 1)) Sk) := by
            unfold ovk
            first | (rw [if_pos h70]; exact l1) | (rw [if_neg h70]; exact l1) | (rw [if_pos (Classical.not_not.mp h70)]; exact l1)
          refine y_iinc3_2 dX6_passStep_81 (nI_1 _) rfl ?_
          refine y_goto (tgt := 27) dX6_passStep_84 (by decide) ?_
          exact hP _ l1' (h2.tr l2)
  · have hoS : S (6 + 3 * i + 0) = 3 ∨ S (6 + 3 * i + 0) = 4 ∨ S (6 + 3 * i + 0) = 5 := hst.resolve_right (fun z => hl (by rw [k0]; exact z.1))
    refine y_if_ne (tgt := 25) dX6_passStep_8 (by decide) (fun h8 => absurd (by decide) h8) (fun h8 => ?_)
    refine y_aload_n dX6_passStep_11 rfl rfl ?_
    refine y_aload_n dX6_passStep_12 rfl rfl ?_
    refine y_getr dX6_passStep_13 gf_X6_21 hL.1 rfl ?_
    refine y_getr dX6_passStep_16 gf_X6_82 hL.2.2.1.1 rfl ?_
    refine y_iload_n dX6_passStep_19 rfl rfl ?_
    refine y_ialdN dX6_passStep_20 hL.2.2.1.2.1 rfl (by first | omega | decide) (by decide) ?_
    rw [k0]
    refine y_ivV1 dX6_passStep_21 mv_X6_85 my_X6_handle (Or.inl rfl) hL.1 ?_
    refine c_handleD hL h hi hoS (fun m2 l1 l2 => ⟨rfl, ?_⟩)
    refine y_return dX6_passStep_24 rfl ?_
    refine hQ _ (Or.inl ?_) l2
    unfold passF
    rw [if_pos (once_n hoS)]
    exact l1
set_option maxHeartbeats 1000000 in
theorem c_X4_isLike {L : Nat} {xs : Nat → Int32} {d : Nat} {m : sM} {n : sN} {Q : sQ} {F0 F1 : Nat} (hF : isFl F0) (hG : isFl F1) (hQ1 : (∀ i, i < 5 → m (F0 + 1) i = m (F1 + 1) i) → Q (some (.int 1)) m n) (hQ0 : Q (some (.int 0)) m n) : sRun (scT L xs) (d + 1) yX4_isLike cX4_isLike 3 (some .boolean) [.ref F0, .ref F1] m n Q := by
  refine y_run (own := "LoafFall$Flour") rfl (by decide +kernel) (Nat.le_of_ble_eq_true rfl) rfl ?_
  refine y_iconst (v := 0) dX4_isLike_0 (by decide) ?_
  refine y_ist3_2 dX4_isLike_1 rfl ?_
  refine cnt (P := fun k => (∀ i, i < k → m (F0 + 1) i = m (F1 + 1) i) → sV (scT L xs) d "LoafFall$Flour" cX4_isLike 3 (some .boolean) Q 2 [some (.ref F0), some (.ref F1), some (.int (nI k))] [] m n) 5 ?_ ?_ 0 (by omega) (fun i hi => absurd hi (by omega))
  · intro h1
    refine y_iload_n dX4_isLike_2 rfl rfl ?_
    refine y_iconst (v := 5) dX4_isLike_3 (by decide) ?_
    refine y_icmp_ge (tgt := 30) dX4_isLike_4 (by decide) (fun h4 => ?_) (fun h4 => absurd (nI_le (a := 5) (b := 5) (Nat.le_refl _) (by decide)) h4)
    refine y_iconst (v := 1) dX4_isLike_30 (by decide) ?_
    refine y_ireturn dX4_isLike_31 rfl rfl ?_
    exact hQ1 h1
  · intro k hk hP
    intro h1
    refine y_iload_n dX4_isLike_2 rfl rfl ?_
    refine y_iconst (v := 5) dX4_isLike_3 (by decide) ?_
    refine y_icmp_ge (tgt := 30) dX4_isLike_4 (by decide) (fun h4 => absurd h4 (nI_ge (a := k) (b := 5) hk (by decide))) (fun h4 => ?_)
    refine y_aload_n dX4_isLike_7 rfl rfl ?_
    refine y_getr dX4_isLike_8 gf_X4_9 hF.1 rfl ?_
    refine y_iload_n dX4_isLike_11 rfl rfl ?_
    refine y_ialdN dX4_isLike_12 hF.2 rfl (by first | omega | decide) (by decide) ?_
    refine y_aload_n dX4_isLike_13 rfl rfl ?_
    refine y_getr dX4_isLike_14 gf_X4_9 hG.1 rfl ?_
    refine y_iload_n dX4_isLike_17 rfl rfl ?_
    refine y_ialdN dX4_isLike_18 hG.2 rfl (by first | omega | decide) (by decide) ?_
    refine y_icmp_eq (tgt := 24) dX4_isLike_19 (by decide) (fun h19 => ?_) (fun h19 => ?_)
    · refine y_iinc3_2 dX4_isLike_24 (nI_1 _) rfl ?_
      refine y_goto (tgt := 2) dX4_isLike_27 (by decide) ?_
      refine hP (fun i hi => ?_)
      by_cases e : i = k
      · rw [e]; exact h19
      · exact h1 i (by omega)
    · refine y_iconst (v := 0) dX4_isLike_22 (by decide) ?_
      refine y_ireturn dX4_isLike_23 rfl rfl ?_
      exact hQ0
theorem minN {a b : Nat} (ha : a < 2 ^ 31) (hb : b < 2 ^ 31) : (if nI b < nI a then nI b else nI a) = nI (min a b) := by
  by_cases h : b < a
  · rw [if_pos (nI_lt h ha), show min a b = b by omega]
  · rw [if_neg (nI_nlt (by omega) hb), show min a b = a by omega]
set_option maxHeartbeats 1000000 in
theorem c_X1_sharedSteps {L : Nat} {xs : Nat → Int32} {d : Nat} {m : sM} {n : sN} {Q : sQ} {F0 F1 s0 s1 : Nat} (hF : isDg F0) (hG : isDg F1) (h0 : m F0 3 = nI s0) (h1 : m F1 3 = nI s1) (hs0 : s0 ≤ 10) (hs1 : s1 ≤ 10) (hQ : ∀ q, q ≤ s0 → q ≤ s1 → (∀ i, i < q → m (F0 + 1) i = m (F1 + 1) i ∧ m (F0 + 2) i = m (F1 + 2) i ∧ m (F0 + 3) i = m (F1 + 3) i) → Q (some (.int (nI q))) m n) : sRun (scT L xs) (d + 1) yX1_sharedSteps cX1_sharedSteps 4 (some .int) [.ref F0, .ref F1] m n Q := by
  refine y_run (own := "LoafFall$Doing") rfl (by decide +kernel) (Nat.le_of_ble_eq_true rfl) rfl ?_
  refine y_aload_n dX1_sharedSteps_0 rfl rfl ?_
  refine y_geti dX1_sharedSteps_1 gf_X1_21 hF.1 rfl ?_
  refine y_aload_n dX1_sharedSteps_4 rfl rfl ?_
  refine y_geti dX1_sharedSteps_5 gf_X1_21 hG.1 rfl ?_
  rw [h0, h1]
  refine y_mmin dX1_sharedSteps_8 mm_X1_39 (Nat.le_of_ble_eq_true rfl) ?_
  rw [minN (by omega) (by omega)]
  refine y_ist4_2 dX1_sharedSteps_11 rfl ?_
  refine y_iconst (v := 0) dX1_sharedSteps_12 (by decide) ?_
  refine y_ist4_3 dX1_sharedSteps_13 rfl ?_
  generalize hM : min s0 s1 = M
  refine cnt (P := fun k => (∀ i, i < k → m (F0 + 1) i = m (F1 + 1) i ∧ m (F0 + 2) i = m (F1 + 2) i ∧ m (F0 + 3) i = m (F1 + 3) i) → sV (scT L xs) d "LoafFall$Doing" cX1_sharedSteps 4 (some .int) Q 14 [some (.ref F0), some (.ref F1), some (.int (nI M)), some (.int (nI k))] [] m n) M ?_ ?_ 0 (by omega) (fun i hi => absurd hi (by omega))
  · intro hh
    refine y_iload_n dX1_sharedSteps_14 rfl rfl ?_
    refine y_iload_n dX1_sharedSteps_15 rfl rfl ?_
    refine y_icmp_ge (tgt := 72) dX1_sharedSteps_16 (by decide) (fun h16 => ?_) (fun h16 => absurd (nI_le (a := M) (b := M) (Nat.le_refl _) (by omega)) h16)
    refine y_iload_n dX1_sharedSteps_72 rfl rfl ?_
    refine y_ireturn dX1_sharedSteps_73 rfl rfl ?_
    exact hQ M (by omega) (by omega) hh
  · intro k hk hP
    intro hh
    refine y_iload_n dX1_sharedSteps_14 rfl rfl ?_
    refine y_iload_n dX1_sharedSteps_15 rfl rfl ?_
    refine y_icmp_ge (tgt := 72) dX1_sharedSteps_16 (by decide) (fun h16 => absurd h16 (nI_ge (a := k) (b := M) hk (by omega))) (fun h16 => ?_)
    refine y_aload_n dX1_sharedSteps_19 rfl rfl ?_
    refine y_getr dX1_sharedSteps_20 gf_X1_9 hF.1 rfl ?_
    refine y_iload_n dX1_sharedSteps_23 rfl rfl ?_
    refine y_ialdN dX1_sharedSteps_24 hF.2.1 rfl (by first | omega | decide) (by decide) ?_
    refine y_aload_n dX1_sharedSteps_25 rfl rfl ?_
    refine y_getr dX1_sharedSteps_26 gf_X1_9 hG.1 rfl ?_
    refine y_iload_n dX1_sharedSteps_29 rfl rfl ?_
    refine y_ialdN dX1_sharedSteps_30 hG.2.1 rfl (by first | omega | decide) (by decide) ?_
    refine y_icmp_ne (tgt := 64) dX1_sharedSteps_31 (by decide) (fun h31 => ?_) (fun h31 => ?_)
    · refine y_iload_n dX1_sharedSteps_64 rfl rfl ?_
      refine y_ireturn dX1_sharedSteps_65 rfl rfl ?_
      exact hQ k (by omega) (by omega) hh
    · refine y_aload_n dX1_sharedSteps_34 rfl rfl ?_
      refine y_getr dX1_sharedSteps_35 gf_X1_15 hF.1 rfl ?_
      refine y_iload_n dX1_sharedSteps_38 rfl rfl ?_
      refine y_ialdN dX1_sharedSteps_39 hF.2.2.1 rfl (by first | omega | decide) (by decide) ?_
      refine y_aload_n dX1_sharedSteps_40 rfl rfl ?_
      refine y_getr dX1_sharedSteps_41 gf_X1_15 hG.1 rfl ?_
      refine y_iload_n dX1_sharedSteps_44 rfl rfl ?_
      refine y_ialdN dX1_sharedSteps_45 hG.2.2.1 rfl (by first | omega | decide) (by decide) ?_
      refine y_icmp_ne (tgt := 64) dX1_sharedSteps_46 (by decide) (fun h46 => ?_) (fun h46 => ?_)
      · refine y_iload_n dX1_sharedSteps_64 rfl rfl ?_
        refine y_ireturn dX1_sharedSteps_65 rfl rfl ?_
        exact hQ k (by omega) (by omega) hh
      · refine y_aload_n dX1_sharedSteps_49 rfl rfl ?_
        refine y_getr dX1_sharedSteps_50 gf_X1_18 hF.1 rfl ?_
        refine y_iload_n dX1_sharedSteps_53 rfl rfl ?_
        refine y_ialdN dX1_sharedSteps_54 hF.2.2.2 rfl (by first | omega | decide) (by decide) ?_
        refine y_aload_n dX1_sharedSteps_55 rfl rfl ?_
        refine y_getr dX1_sharedSteps_56 gf_X1_18 hG.1 rfl ?_
        refine y_iload_n dX1_sharedSteps_59 rfl rfl ?_
        refine y_ialdN dX1_sharedSteps_60 hG.2.2.2 rfl (by first | omega | decide) (by decide) ?_
        refine y_icmp_eq (tgt := 66) dX1_sharedSteps_61 (by decide) (fun h61 => ?_) (fun h61 => ?_)
        · refine y_iinc4_3 dX1_sharedSteps_66 (nI_1 _) rfl ?_
          refine y_goto (tgt := 14) dX1_sharedSteps_69 (by decide) ?_
          refine hP (fun i hi => ?_)
          by_cases e : i = k
          · rw [e]; exact ⟨by first | exact h31 | exact Classical.not_not.mp h31, by first | exact h46 | exact Classical.not_not.mp h46, h61⟩
          · exact hh i (by omega)
        · refine y_iload_n dX1_sharedSteps_64 rfl rfl ?_
          refine y_ireturn dX1_sharedSteps_65 rfl rfl ?_
          exact hQ k (by omega) (by omega) hh
