/-! ===== the baker ===== -/
theorem lf36 : isLf 36 := ⟨sh_36, ⟨sh_37, sh_38⟩, ⟨sh_39, sh_40, sh_41, sh_42⟩, ⟨sh_43, sh_44, sh_45, sh_46, sh_47, sh_48⟩, ⟨sh_49, sh_50, sh_51, sh_52, sh_53, sh_54⟩⟩
theorem dhA : ∀ i, i < 11 → isDh (56 + 6 * i) := by
  intro i hi
  have : i = 0 ∨ i = 1 ∨ i = 2 ∨ i = 3 ∨ i = 4 ∨ i = 5 ∨ i = 6 ∨ i = 7 ∨ i = 8 ∨ i = 9 ∨ i = 10 := by omega
  rcases this with rfl | rfl | rfl | rfl | rfl | rfl | rfl | rfl | rfl | rfl | rfl
  · exact ⟨sh_56, sh_57, sh_58, sh_59, sh_60, sh_61⟩
  · exact ⟨sh_62, sh_63, sh_64, sh_65, sh_66, sh_67⟩
  · exact ⟨sh_68, sh_69, sh_70, sh_71, sh_72, sh_73⟩
  · exact ⟨sh_74, sh_75, sh_76, sh_77, sh_78, sh_79⟩
  · exact ⟨sh_80, sh_81, sh_82, sh_83, sh_84, sh_85⟩
  · exact ⟨sh_86, sh_87, sh_88, sh_89, sh_90, sh_91⟩
  · exact ⟨sh_92, sh_93, sh_94, sh_95, sh_96, sh_97⟩
  · exact ⟨sh_98, sh_99, sh_100, sh_101, sh_102, sh_103⟩
  · exact ⟨sh_104, sh_105, sh_106, sh_107, sh_108, sh_109⟩
  · exact ⟨sh_110, sh_111, sh_112, sh_113, sh_114, sh_115⟩
  · exact ⟨sh_116, sh_117, sh_118, sh_119, sh_120, sh_121⟩
theorem ahA : ∀ i, i < 11 → [56, 62, 68, 74, 80, 86, 92, 98, 104, 110, 116][i]? = some (56 + 6 * i) := by decide +kernel
theorem DD_m {m m' : sM} {a : Nat} {R : Nat → Int32} (h : DD m a R) (e : ∀ c, a ≤ c → c < a + 6 → m' c = m c) : DD m' a R := by
  obtain ⟨h1, h2, h3, h4⟩ := h
  refine ⟨fun k hk => ?_, by rw [e _ (by omega) (by omega)]; exact h2, by rw [e _ (by omega) (by omega)]; exact h3, by rw [e _ (by omega) (by omega)]; exact h4⟩
  rw [e _ (by omega) (by omega), e _ (by omega) (by omega), e _ (by omega) (by omega), e _ (by omega) (by omega), e _ (by omega) (by omega)]
  exact h1 k hk
theorem DD_t {m m' : sM} {a b : Nat} {R : Nat → Int32} (h : DD m b R) (t : DhT m m' a b) : DD m' a R := by
  obtain ⟨h1, h2, h3, h4⟩ := h
  obtain ⟨t0, t1, t2, t3, -, -, t6⟩ := t
  refine ⟨fun k hk => ?_, t2.trans h2, t3.trans h3, t6.trans h4⟩
  obtain ⟨a1, a2, a3, a4, a5⟩ := t1 k hk
  obtain ⟨b1, b2, b3, b4, b5⟩ := h1 k hk
  exact ⟨a1.trans b1, a2.trans b2, a3.trans b3, a4.trans b4, a5.trans b5⟩
theorem FR_m {m m' : sM} {a : Nat} {R : Nat → Int32} (h : FR m a R) (e : m' (a + 1) = m (a + 1)) : FR m' a R := fun i hi => by rw [e]; exact h i hi
theorem DR_m {m m' : sM} {a : Nat} {R : Nat → Int32} (h : DR m a R) (e : ∀ c, a ≤ c → c < a + 4 → m' c = m c) : DR m' a R := by
  refine ⟨fun i hi => ?_, by rw [e _ (by omega) (by omega)]; exact h.2⟩
  rw [e _ (by omega) (by omega), e _ (by omega) (by omega), e _ (by omega) (by omega)]
  exact h.1 i hi
/-- what the baker knows: the doughs ahead of the first k steps -/
def KB (m : sM) (k : Nat) (R : Nat → Int32) : Prop := m 35 2 = nI k ∧ (∀ i, i < k → DD m (56 + 6 * i) (stepsF i (beginsF R))) ∧ FR m 37 R ∧ DR m 39 R
def BK (m : sM) : Prop := m 35 2 = nI 0 ∨ ∃ (k c : Nat) (R : Nat → Int32), R 5 = nI c ∧ c ≤ 10 ∧ k ≤ c + 1 ∧ KB m k R
theorem KB_m {m m' : sM} {k : Nat} {R : Nat → Int32} (h : KB m k R) (e : ∀ c, 35 ≤ c → c < 43 ∨ 55 ≤ c → c < 122 → m' c = m c) (hk : k ≤ 11) : KB m' k R := ⟨by rw [e _ (by omega) (by omega) (by omega)]; exact h.1, fun i hi => DD_m (h.2.1 i hi) (fun c h1 h2 => e c (by omega) (by omega) (by omega)), FR_m h.2.2.1 (e _ (by omega) (by omega) (by omega)), DR_m h.2.2.2 (fun c h1 h2 => e c (by omega) (by omega) (by omega))⟩
set_option maxHeartbeats 1000000 in
theorem c_X0_rememberAhead {L : Nat} {xs : Nat → Int32} {d : Nat} {m : sM} {n : sN} {Q : sQ} {i : Nat} {i0 : Int32} {S : Nat → Int32} (hi0 : i0 = nI i) (hi : i < 11) (h : LD m 36 S) (hs : iR S) (hQ : ∀ m', DD m' (56 + 6 * i) S → (∀ c, c < 56 + 6 * i ∨ 56 + 6 * i + 6 ≤ c → c ≠ 35 → m' c = m c) → m' 35 2 = nI (i + 1) → Q none m' n) : sRun (scT L xs) (d + 2) yX0_rememberAhead cX0_rememberAhead 2 none [.ref 35, .int i0] m n Q := by
  subst hi0
  refine y_run (own := "LoafFall$Baker") rfl (by decide +kernel) (Nat.le_of_ble_eq_true rfl) rfl ?_
  refine y_aload_n dX0_rememberAhead_0 rfl rfl ?_
  refine y_getr dX0_rememberAhead_1 gf_X0_20 sh_35 rfl ?_
  refine y_iload_n dX0_rememberAhead_4 rfl rfl ?_
  refine y_aaldN dX0_rememberAhead_5 (by decide) sh_55 rfl (ahA i hi) (by decide) ?_
  refine y_aload_n dX0_rememberAhead_6 rfl rfl ?_
  refine y_getr dX0_rememberAhead_7 gf_X0_12 sh_35 rfl ?_
  refine y_getr dX0_rememberAhead_10 gf_X0_33 sh_36 rfl ?_
  refine y_ivV1 dX0_rememberAhead_13 mv_X0_37 my_X2_take (Or.inl rfl) (dhA i hi).1 ?_
  refine c_X2_take (dhA i hi) lf36.2.2.2.1 (by omega) (by rw [show m (36 + 7) 9 = S 39 from h.2.2.2.2]; exact hs.2.2.2.1) (fun m1 t1 => ⟨rfl, ?_⟩)
  refine y_aload_n dX0_rememberAhead_16 rfl rfl ?_
  refine y_iload_n dX0_rememberAhead_17 rfl rfl ?_
  refine y_iconst (v := 1) dX0_rememberAhead_18 (by decide) ?_
  refine y_iaddN (a := i) (b := 1) dX0_rememberAhead_19 rfl rfl ?_
  refine y_puti dX0_rememberAhead_20 pf_X0_41 sh_35 rfl rfl rfl ?_
  refine y_return dX0_rememberAhead_23 rfl ?_
  refine hQ _ (DD_m (DD_t h.2 t1) (fun c h1 h2 => s_upN (by omega))) (fun c h1 h2 => ?_) (by rw [s_upS, updS])
  rw [s_upN h2]
  exact t1.1 c h1
set_option maxHeartbeats 1000000 in
theorem c_X0_stepsKnown {L : Nat} {xs : Nat → Int32} {d : Nat} {m : sM} {n : sN} {Q : sQ} {F1 G1 c : Nat} {R : Nat → Int32} (hF : isFl F1) (hG : isDg G1) (hf : FR m F1 R) (hg : DR m G1 R) (hc : R 5 = nI c) (hc2 : c ≤ 10) (hB : BK m) (hQ : ∀ f, f ≤ c → (∀ i, i < f → DD m (56 + 6 * i) (stepsF i (beginsF R))) → (0 < f → DD m (56 + 6 * f) (stepsF f (beginsF R))) → Q (some (.int (nI f))) m n) : sRun (scT L xs) (d + 2) yX0_stepsKnown cX0_stepsKnown 3 (some .int) [.ref 35, .ref F1, .ref G1] m n Q := by
  refine y_run (own := "LoafFall$Baker") rfl (by decide +kernel) (Nat.le_of_ble_eq_true rfl) rfl ?_
  refine y_aload_n dX0_stepsKnown_0 rfl rfl ?_
  refine y_geti dX0_stepsKnown_1 gf_X0_41 sh_35 rfl ?_
  refine y_if_eq (tgt := 21) dX0_stepsKnown_4 (by decide) (fun h4 => ?_) (fun h4 => ?_)
  · refine y_iconst (v := 0) dX0_stepsKnown_21 (by decide) ?_
    refine y_ireturn dX0_stepsKnown_22 rfl rfl ?_
    exact hQ 0 (Nat.zero_le _) (fun i hi => absurd hi (by omega)) (fun z => absurd z (by omega))
  · refine y_aload_n dX0_stepsKnown_7 rfl rfl ?_
    refine y_getr dX0_stepsKnown_8 gf_X0_12 sh_35 rfl ?_
    refine y_getr dX0_stepsKnown_11 gf_X0_65 sh_36 rfl ?_
    refine y_aload_n dX0_stepsKnown_14 rfl rfl ?_
    refine y_ivI1 dX0_stepsKnown_15 mv_X0_69 my_X4_isLike (Or.inl rfl) sh_37 ?_
    refine c_X4_isLike lf36.2.1 hF (fun hl => ⟨_, rfl, ?_⟩) ⟨_, rfl, ?_⟩
    · refine y_if_ne (tgt := 23) dX0_stepsKnown_18 (by decide) (fun h18 => ?_) (fun h18 => absurd h18 (by decide))
      obtain ⟨k, c', R', hc', hc2', hk, b1, b2, b3, b4⟩ := hB.resolve_left (fun z => h4 (by rw [z]; exact nI_0))
      have hk0 : 0 < k := by
        rcases Nat.eq_zero_or_pos k with z | z
        · exact absurd (by rw [b1, z]; exact nI_0) h4
        · exact z
      refine y_aload_n dX0_stepsKnown_23 rfl rfl ?_
      refine y_geti dX0_stepsKnown_24 gf_X0_41 sh_35 rfl ?_
      refine y_iconst (v := 1) dX0_stepsKnown_27 (by decide) ?_
      rw [b1]
      refine y_isub dX0_stepsKnown_28 ?_
      rw [show nI k - 1 = nI (k - 1) from pk_sub (a := k) (b := 1) (by omega)]
      refine y_aload_n dX0_stepsKnown_29 rfl rfl ?_
      refine y_getr dX0_stepsKnown_30 gf_X0_12 sh_35 rfl ?_
      refine y_getr dX0_stepsKnown_33 gf_X0_75 sh_36 rfl ?_
      refine y_aload_n dX0_stepsKnown_36 rfl rfl ?_
      refine y_ivI1 dX0_stepsKnown_37 mv_X0_79 my_X1_sharedSteps (Or.inl rfl) sh_39 ?_
      refine c_X1_sharedSteps (s0 := c') (s1 := c) lf36.2.2.1 hG (b4.2.trans hc') (hg.2.trans hc) hc2' hc2 (fun q q1 q2 q3 => ⟨_, rfl, ?_⟩)
      refine y_mmin dX0_stepsKnown_40 mm_X0_83 (Nat.le_of_ble_eq_true rfl) ?_
      rw [minN (by omega) (by omega)]
      refine y_ireturn dX0_stepsKnown_43 rfl rfl ?_
      have ec : cOf R = c := by unfold cOf; rw [hc, nI_clamp (by omega)]
      have ec' : cOf R' = c' := by unfold cOf; rw [hc', nI_clamp (by omega)]
      have hE : ∀ i, i ≤ q → eqE (stepsF i (beginsF R')) (stepsF i (beginsF R)) := fun i hi => by
        refine eqE_steps (eqE_begins (fun p hp => (hf p hp).symm.trans ((hl p hp).symm.trans (b3 p hp)))) i (by omega) (fun a ha => ?_)
        obtain ⟨e1, e2, e3⟩ := q3 a (by omega)
        obtain ⟨x1, x2, x3⟩ := b4.1 a (by omega)
        obtain ⟨z1, z2, z3⟩ := hg.1 a (by omega)
        rw [begins_low (by omega), begins_low (by omega), begins_low (by omega), begins_low (by omega), begins_low (by omega), begins_low (by omega)]
        exact ⟨z1.symm.trans (e1.symm.trans x1), z2.symm.trans (e2.symm.trans x2), z3.symm.trans (e3.symm.trans x3)⟩
      exact hQ (min (k - 1) q) (by omega) (fun i hi => DD_eq (b2 i (by omega)) (hE i (by omega))) (fun _ => DD_eq (b2 _ (by omega)) (hE _ (by omega)))
    · refine y_if_ne (tgt := 23) dX0_stepsKnown_18 (by decide) (fun h18 => absurd (by decide) h18) (fun h18 => ?_)
      refine y_iconst (v := 0) dX0_stepsKnown_21 (by decide) ?_
      refine y_ireturn dX0_stepsKnown_22 rfl rfl ?_
      exact hQ 0 (Nat.zero_le _) (fun i hi => absurd hi (by omega)) (fun z => absurd z (by omega))
set_option maxHeartbeats 1000000 in
theorem c_X0_bake {L : Nat} {xs : Nat → Int32} {d : Nat} {m : sM} {n : sN} {Q : sQ} {F1 G1 c : Nat} {R : Nat → Int32} (hF : isFl F1) (hG : isDg G1) (hFo : F1 + 2 ≤ 35 ∨ 122 ≤ F1) (hGo : G1 + 4 ≤ 35 ∨ 122 ≤ G1) (hf : FR m F1 R) (hg : DR m G1 R) (hfl : flR R) (hc : R 5 = nI c) (hc2 : c ≤ 10) (hst : stOK R) (hz : zOK R) (hb1 : m F1 1 = 0 ∨ m F1 1 = 1) (hb2 : m G1 4 = 0 ∨ m G1 4 = 1) (hB : BK m) (hQ : ∀ m' A, DD m' 43 A → iR A → OB (bakesF (Tn R c) R) A → BK m' → (∀ a, a < 35 ∨ 122 ≤ a → m' a = m a) → Q (some (.ref 43)) m' n) : sRun (scT L xs) (d + 6) yX0_bake cX0_bake 5 (some (.object "LoafFall$Dough")) [.ref 35, .ref F1, .ref G1] m n Q := by
  have ec : cOf R = c := by unfold cOf; rw [hc, nI_clamp (by omega)]
  have sB := s_begins hfl hc hc2 hst
  have ecB : cOf (beginsF R) = c := by unfold cOf; rw [begins_low (by omega), hc, nI_clamp (by omega)]
  have lB : ∀ p, p < 36 → beginsF R p = R p := fun p hp => begins_low hp
  have hEq := bakes_eq hc hc2 hst hz
  have iS : ∀ i, i ≤ c → iR (stepsF i (beginsF R)) := fun i hi => i_steps sB.1 sB.2.2.1 (by omega) i (by omega)
  have iT : ∀ k, iR (turnsF 0 2 k (stepsF c (beginsF R))) := fun k => i_turns (w := 2) (iS c (Nat.le_refl _)) (by omega) k
  refine y_run (own := "LoafFall$Baker") rfl (by decide +kernel) (Nat.le_of_ble_eq_true rfl) rfl ?_
  have table : ∀ (f k : Nat) (m0 : sM), ST m0 36 (stepsF c (beginsF R)) → KB m0 k R → k ≤ c + 1 → (∀ a, a < 35 ∨ 122 ≤ a → m0 a = m a) → sV (scT L xs) (d + 5) "LoafFall$Baker" cX0_bake 5 (some (.object "LoafFall$Dough")) Q 111 [some (.ref 35), some (.ref F1), some (.ref G1), some (.int (nI f)), some (.int (nI 0))] [] m0 n := by
    intro f k0 m0 s0 kb0 hk0 fr0
    refine cnt (P := fun k => ∀ m' : sM, ST m' 36 (turnsF 0 2 k (stepsF c (beginsF R))) → KB m' k0 R → (∀ a, a < 35 ∨ 122 ≤ a → m' a = m a) → sV (scT L xs) (d + 5) "LoafFall$Baker" cX0_bake 5 (some (.object "LoafFall$Dough")) Q 111 [some (.ref 35), some (.ref F1), some (.ref G1), some (.int (nI f)), some (.int (nI k))] [] m' n) 6 ?_ ?_ 0 (by omega) m0 s0 kb0 fr0
    · intro m' st kb fr
      have iB : iR (bakesF (Tn R c) R) := i_eqE (iT 6) hEq
      have outA : ∀ A, DD m' 43 A → iR A → allT A → allT (tableF c (beginsF R)) → Q (some (.ref 43)) m' n := fun A a1 a2 a3 a4 => hQ m' A a1 a2 (OB_all iB a2 (fun j hj => (hEq _ (by omega) (by omega) (by omega)).trans (a4 j hj)) a3) (Or.inr ⟨k0, c, R, hc, hc2, hk0, kb⟩) fr
      refine y_iload dX0_bake_111 rfl ?_
      refine y_bipush (v := 6) dX0_bake_113 (by decide) ?_
      refine y_icmp_ge (tgt := 146) dX0_bake_115 (by decide) (fun h115 => ?_) (fun h115 => absurd (nI_le (a := 6) (b := 6) (Nat.le_refl _) (by decide)) h115)
      refine y_aload_n dX0_bake_146 rfl rfl ?_
      refine y_getr dX0_bake_147 gf_X0_12 sh_35 rfl ?_
      refine y_getr dX0_bake_150 gf_X0_33 sh_36 rfl ?_
      refine y_areturn dX0_bake_153 rfl ?_
      rcases st with z | ⟨z1, A, z2, z3, z4⟩
      · exact hQ m' _ z.2 (iT 6) (OB_eqE hEq.sy) (Or.inr ⟨k0, c, R, hc, hc2, hk0, kb⟩) fr
      · exact outA A z2.2 z3 z4 z1
    · intro k hk hP m' st kb fr
      have iB : iR (bakesF (Tn R c) R) := i_eqE (iT 6) hEq
      have outA : ∀ A, DD m' 43 A → iR A → allT A → allT (tableF c (beginsF R)) → Q (some (.ref 43)) m' n := fun A a1 a2 a3 a4 => hQ m' A a1 a2 (OB_all iB a2 (fun j hj => (hEq _ (by omega) (by omega) (by omega)).trans (a4 j hj)) a3) (Or.inr ⟨k0, c, R, hc, hc2, hk0, kb⟩) fr
      have hA : allT (turnsF 0 2 k (stepsF c (beginsF R))) → allT (tableF c (beginsF R)) := fun z => by
        have z2 := allT_turns (R := stepsF c (beginsF R)) (ov := 0) (w := 2) k (6 - k) z
        rw [show k + (6 - k) = 6 by omega] at z2
        exact z2
      have hiK := iT k
      rcases st with z | ⟨z1, A, z2, z3, z4⟩
      · obtain ⟨hq, hq24⟩ := LD_q z hiK
        refine y_iload dX0_bake_111 rfl ?_
        refine y_bipush (v := 6) dX0_bake_113 (by decide) ?_
        refine y_icmp_ge (tgt := 146) dX0_bake_115 (by decide) (fun h115 => absurd h115 (nI_ge (a := k) (b := 6) hk (by decide))) (fun h115 => ?_)
        refine y_aload_n dX0_bake_118 rfl rfl ?_
        refine y_getr dX0_bake_119 gf_X0_12 sh_35 rfl ?_
        refine y_getr dX0_bake_122 gf_X0_33 sh_36 rfl ?_
        refine y_ivI0 dX0_bake_125 mv_X0_50 my_X2_isAllTorn (Or.inl rfl) sh_43 ?_
        refine c_X2_isAllTorn (q := qOf (turnsF 0 2 k (stepsF c (beginsF R)))) lf36.2.2.2.1 hq hq24 (fun hq1 => ⟨_, rfl, ?_⟩) (fun hq0 => ⟨_, rfl, ?_⟩)
        · refine y_if_ne (tgt := 146) dX0_bake_128 (by decide) (fun h128 => ?_) (fun h128 => absurd h128 (by decide))
          refine y_aload_n dX0_bake_146 rfl rfl ?_
          refine y_getr dX0_bake_147 gf_X0_12 sh_35 rfl ?_
          refine y_getr dX0_bake_150 gf_X0_33 sh_36 rfl ?_
          refine y_areturn dX0_bake_153 rfl ?_
          exact outA _ z.2 hiK (i_allT hiK hq1) (hA (i_allT hiK hq1))
        · refine y_if_ne (tgt := 146) dX0_bake_128 (by decide) (fun h128 => absurd (by decide) h128) (fun h128 => ?_)
          refine y_aload_n dX0_bake_131 rfl rfl ?_
          refine y_getr dX0_bake_132 gf_X0_12 sh_35 rfl ?_
          refine y_iconst (v := 2) dX0_bake_135 (by decide) ?_
          refine y_iconst (v := 0) dX0_bake_136 (by decide) ?_
          refine y_ivV2 dX0_bake_137 mv_X0_61 my_X6_turnBy (Or.inl rfl) sh_36 ?_
          refine c_turnD (ov := 0) (w := 2) lf36 z hiK (fun m3 l1 l2 => ⟨rfl, ?_⟩)
          refine y_iinc5_4 dX0_bake_140 (nI_1 _) rfl ?_
          refine y_goto (tgt := 111) dX0_bake_143 (by decide) ?_
          exact hP _ (Or.inl l1) (KB_m kb (fun a h1 h2 h3 => l2 a (by omega)) (by omega)) (fun a ha => (l2 a (by omega)).trans (fr a ha))
      · have hq : m' (36 + 7) 5 = nI 24 := by
          obtain ⟨e1, e2⟩ := LD_q z2 z3
          rw [e1]
          have e3 := z3.wf
          unfold wfR at e3
          unfold qOf
          rw [e3, tornN_full z4 24 (Nat.le_refl _), nI_clamp (by omega)]
        refine y_iload dX0_bake_111 rfl ?_
        refine y_bipush (v := 6) dX0_bake_113 (by decide) ?_
        refine y_icmp_ge (tgt := 146) dX0_bake_115 (by decide) (fun h115 => absurd h115 (nI_ge (a := k) (b := 6) hk (by decide))) (fun h115 => ?_)
        refine y_aload_n dX0_bake_118 rfl rfl ?_
        refine y_getr dX0_bake_119 gf_X0_12 sh_35 rfl ?_
        refine y_getr dX0_bake_122 gf_X0_33 sh_36 rfl ?_
        refine y_ivI0 dX0_bake_125 mv_X0_50 my_X2_isAllTorn (Or.inl rfl) sh_43 ?_
        refine c_X2_isAllTorn (q := 24) lf36.2.2.2.1 hq (by omega) (fun hq1 => ⟨_, rfl, ?_⟩) (fun hq0 => absurd hq0 (by omega))
        refine y_if_ne (tgt := 146) dX0_bake_128 (by decide) (fun h128 => ?_) (fun h128 => absurd h128 (by decide))
        refine y_aload_n dX0_bake_146 rfl rfl ?_
        refine y_getr dX0_bake_147 gf_X0_12 sh_35 rfl ?_
        refine y_getr dX0_bake_150 gf_X0_33 sh_36 rfl ?_
        refine y_areturn dX0_bake_153 rfl ?_
        exact outA A z2.2 z3 z4 (hA z1)
  have tail : ∀ (f k : Nat) (a4 : Option Value) (m0 : sM) (A : Nat → Int32), LD m0 36 A → iR A → (k = c ∧ A = stepsF c (beginsF R)) ∨ (allT A ∧ allT (stepsF c (beginsF R))) → k ≤ c → KB m0 k R → (∀ a, a < 35 ∨ 122 ≤ a → m0 a = m a) → sV (scT L xs) (d + 5) "LoafFall$Baker" cX0_bake 5 (some (.object "LoafFall$Dough")) Q 87 [some (.ref 35), some (.ref F1), some (.ref G1), some (.int (nI f)), a4] [] m0 n := by
    intro f k a4 m0 A hA iA hor hk kb fr
    obtain ⟨hq, hq24⟩ := LD_q hA iA
    refine y_aload_n dX0_bake_87 rfl rfl ?_
    refine y_getr dX0_bake_88 gf_X0_12 sh_35 rfl ?_
    refine y_getr dX0_bake_91 gf_X0_33 sh_36 rfl ?_
    refine y_ivI0 dX0_bake_94 mv_X0_50 my_X2_isAllTorn (Or.inl rfl) sh_43 ?_
    refine c_X2_isAllTorn (q := qOf A) lf36.2.2.2.1 hq hq24 (fun hq1 => ⟨_, rfl, ?_⟩) (fun hq0 => ⟨_, rfl, ?_⟩)
    · have aT := i_allT iA hq1
      refine y_if_ne (tgt := 108) dX0_bake_97 (by decide) (fun h97 => ?_) (fun h97 => absurd h97 (by decide))
      refine y_iconst (v := 0) dX0_bake_108 (by decide) ?_
      refine y_ist5_4 dX0_bake_109 rfl ?_
      first
        | exact table f (k + 1) m1 (Or.inl ld1) kb1 (by omega) (fun a ha => (r2 a (by omega) (by omega)).trans (fr a ha))
        | exact table f k m0 (Or.inr ⟨hor.elim (fun z => by rw [← z.2]; exact aT) (fun z => z.2), A, hA, iA, aT⟩) kb (by omega) fr
    · have hS : k = c ∧ A = stepsF c (beginsF R) := by
        rcases hor with z | ⟨z, -⟩
        · exact z
        · have e3 := iA.wf
          unfold wfR at e3
          unfold qOf at hq0
          rw [e3, tornN_full z 24 (Nat.le_refl _), nI_clamp (by omega)] at hq0
          omega
      obtain ⟨rfl, rfl⟩ := hS
      refine y_if_ne (tgt := 108) dX0_bake_97 (by decide) (fun h97 => absurd (by decide) h97) (fun h97 => ?_)
      refine y_aload_n dX0_bake_100 rfl rfl ?_
      refine y_aload_n dX0_bake_101 rfl rfl ?_
      refine y_geti dX0_bake_102 gf_X0_45 hG.1 rfl ?_
      rw [show m0 G1 3 = nI k from by rw [fr _ (by omega)]; exact hg.2.trans hc]
      refine y_ivV1 dX0_bake_105 mv_X0_54 my_X0_rememberAhead (Or.inl rfl) sh_35 ?_
      refine c_X0_rememberAhead (i := k) rfl (by omega) hA iA (fun m1 r1 r2 r3 => ⟨rfl, ?_⟩)
      have kb1 : KB m1 (k + 1) R := ⟨r3, fun i hi => by
        by_cases e : i = k
        · rw [e]; exact r1
        · exact DD_m (kb.2.1 i (by omega)) (fun c h1 h2 => r2 c (by omega) (by omega)), FR_m kb.2.2.1 (r2 _ (by omega) (by omega)), DR_m kb.2.2.2 (fun c h1 h2 => r2 c (by omega) (by omega))⟩
      have ld1 : LD m1 36 (stepsF k (beginsF R)) := ⟨fun i hi => by rw [r2 _ (by omega) (by omega)]; exact hA.1 i hi, DD_m hA.2 (fun c h1 h2 => r2 c (by omega) (by omega))⟩
      refine y_iconst (v := 0) dX0_bake_108 (by decide) ?_
      refine y_ist5_4 dX0_bake_109 rfl ?_
      first
        | exact table f (k + 1) m1 (Or.inl ld1) kb1 (by omega) (fun a ha => (r2 a (by omega) (by omega)).trans (fr a ha))
        | exact table f k m0 (Or.inr ⟨hor.elim (fun z => by rw [← z.2]; exact aT) (fun z => z.2), A, hA, iA, aT⟩) kb (by omega) fr
  have loopS : ∀ (f : Nat) (m0 : sM), f ≤ c → LD m0 36 (stepsF f (beginsF R)) → KB m0 f R → (∀ a, a < 35 ∨ 122 ≤ a → m0 a = m a) → sV (scT L xs) (d + 5) "LoafFall$Baker" cX0_bake 5 (some (.object "LoafFall$Dough")) Q 44 [some (.ref 35), some (.ref F1), some (.ref G1), some (.int (nI f)), some (.int (nI f))] [] m0 n := by
    intro f m0 hfc s0 kb0 fr0
    refine cnt2 (P := fun k => ∀ m' : sM, ST m' 36 (stepsF k (beginsF R)) → KB m' k R → (∀ a, a < 35 ∨ 122 ≤ a → m' a = m a) → sV (scT L xs) (d + 5) "LoafFall$Baker" cX0_bake 5 (some (.object "LoafFall$Dough")) Q 44 [some (.ref 35), some (.ref F1), some (.ref G1), some (.int (nI f)), some (.int (nI k))] [] m' n) f c ?_ ?_ f (Nat.le_refl _) hfc m0 (Or.inl s0) kb0 fr0
    · intro m' st kb fr
      refine y_iload dX0_bake_44 rfl ?_
      refine y_aload_n dX0_bake_46 rfl rfl ?_
      refine y_geti dX0_bake_47 gf_X0_45 hG.1 rfl ?_
      rw [show m' G1 3 = nI c from by rw [fr _ (by omega)]; exact hg.2.trans hc]
      refine y_icmp_ge (tgt := 87) dX0_bake_50 (by decide) (fun h50 => ?_) (fun h50 => absurd (nI_le (a := c) (b := c) (Nat.le_refl _) (by omega)) h50)
      rcases st with z | ⟨z1, A, z2, z3, z4⟩
      · exact tail f c _ m' _ z (iS c (Nat.le_refl _)) (Or.inl ⟨rfl, rfl⟩) (Nat.le_refl _) kb fr
      · exact tail f c _ m' A z2 z3 (Or.inr ⟨z4, z1⟩) (Nat.le_refl _) kb fr
    · intro k hk0 hk hP m' st kb fr
      have hiK := iS k (by omega)
      have hA : allT (stepsF k (beginsF R)) → allT (stepsF c (beginsF R)) := fun z => by
        have z2 := allT_steps k (c - k) z
        rw [show k + (c - k) = c by omega] at z2
        exact z2
      rcases st with z | ⟨z1, A, z2, z3, z4⟩
      · obtain ⟨hq, hq24⟩ := LD_q z hiK
        refine y_iload dX0_bake_44 rfl ?_
        refine y_aload_n dX0_bake_46 rfl rfl ?_
        refine y_geti dX0_bake_47 gf_X0_45 hG.1 rfl ?_
        rw [show m' G1 3 = nI c from by rw [fr _ (by omega)]; exact hg.2.trans hc]
        refine y_icmp_ge (tgt := 87) dX0_bake_50 (by decide) (fun h50 => absurd h50 (nI_ge (a := k) (b := c) hk (by omega))) (fun h50 => ?_)
        refine y_aload_n dX0_bake_53 rfl rfl ?_
        refine y_getr dX0_bake_54 gf_X0_12 sh_35 rfl ?_
        refine y_getr dX0_bake_57 gf_X0_33 sh_36 rfl ?_
        refine y_ivI0 dX0_bake_60 mv_X0_50 my_X2_isAllTorn (Or.inl rfl) sh_43 ?_
        refine c_X2_isAllTorn (q := qOf (stepsF k (beginsF R))) lf36.2.2.2.1 hq hq24 (fun hq1 => ⟨_, rfl, ?_⟩) (fun hq0 => ⟨_, rfl, ?_⟩)
        · refine y_if_ne (tgt := 87) dX0_bake_63 (by decide) (fun h63 => ?_) (fun h63 => absurd h63 (by decide))
          exact tail f k _ m' _ z hiK (Or.inr ⟨i_allT hiK hq1, hA (i_allT hiK hq1)⟩) (by omega) kb fr
        · refine y_if_ne (tgt := 87) dX0_bake_63 (by decide) (fun h63 => absurd (by decide) h63) (fun h63 => ?_)
          refine y_aload_n dX0_bake_66 rfl rfl ?_
          refine y_iload dX0_bake_67 rfl ?_
          refine y_ivV1 dX0_bake_69 mv_X0_54 my_X0_rememberAhead (Or.inl rfl) sh_35 ?_
          refine c_X0_rememberAhead (i := k) rfl (by omega) z hiK (fun m1 r1 r2 r3 => ⟨rfl, ?_⟩)
          have kb1 : KB m1 (k + 1) R := ⟨r3, fun i hi => by
            by_cases e : i = k
            · rw [e]; exact r1
            · exact DD_m (kb.2.1 i (by omega)) (fun c h1 h2 => r2 c (by omega) (by omega)), FR_m kb.2.2.1 (r2 _ (by omega) (by omega)), DR_m kb.2.2.2 (fun c h1 h2 => r2 c (by omega) (by omega))⟩
          have ld1 : LD m1 36 (stepsF k (beginsF R)) := ⟨fun i hi => by rw [r2 _ (by omega) (by omega)]; exact z.1 i hi, DD_m z.2 (fun c h1 h2 => r2 c (by omega) (by omega))⟩
          obtain ⟨g1, g2, g3⟩ := kb1.2.2.2.1 k (by omega)
          have sl : ∀ p, p < 36 → stepsF k (beginsF R) p = R p := fun p hp => (steps_low (by omega) k).trans (lB p hp)
          refine y_aload_n dX0_bake_72 rfl rfl ?_
          refine y_getr dX0_bake_73 gf_X0_12 sh_35 rfl ?_
          refine y_iload dX0_bake_76 rfl ?_
          refine y_ivV1 dX0_bake_78 mv_X0_58 my_X6_passStep (Or.inl rfl) sh_36 ?_
          refine c_X6_passStep (i := k) lf36 rfl (by omega) ld1 hiK (g1.trans (sl _ (by omega)).symm) (g2.trans (sl _ (by omega)).symm) (g3.trans (sl _ (by omega)).symm) (st_at hst sl (by omega) (by omega)) (fun m3 l1 l2 => ⟨rfl, ?_⟩)
          refine y_iinc5_4 dX0_bake_81 (nI_1 _) rfl ?_
          refine y_goto (tgt := 44) dX0_bake_84 (by decide) ?_
          exact hP _ l1 (KB_m kb1 (fun a h1 h2 h3 => l2 a (by omega)) (by omega)) (fun a ha => (l2 a (by omega)).trans ((r2 a (by omega) (by omega)).trans (fr a ha)))
      · have hq : m' (36 + 7) 5 = nI 24 := by
          obtain ⟨e1, e2⟩ := LD_q z2 z3
          rw [e1]
          have e3 := z3.wf
          unfold wfR at e3
          unfold qOf
          rw [e3, tornN_full z4 24 (Nat.le_refl _), nI_clamp (by omega)]
        refine y_iload dX0_bake_44 rfl ?_
        refine y_aload_n dX0_bake_46 rfl rfl ?_
        refine y_geti dX0_bake_47 gf_X0_45 hG.1 rfl ?_
        rw [show m' G1 3 = nI c from by rw [fr _ (by omega)]; exact hg.2.trans hc]
        refine y_icmp_ge (tgt := 87) dX0_bake_50 (by decide) (fun h50 => absurd h50 (nI_ge (a := k) (b := c) hk (by omega))) (fun h50 => ?_)
        refine y_aload_n dX0_bake_53 rfl rfl ?_
        refine y_getr dX0_bake_54 gf_X0_12 sh_35 rfl ?_
        refine y_getr dX0_bake_57 gf_X0_33 sh_36 rfl ?_
        refine y_ivI0 dX0_bake_60 mv_X0_50 my_X2_isAllTorn (Or.inl rfl) sh_43 ?_
        refine c_X2_isAllTorn (q := 24) lf36.2.2.2.1 hq (by omega) (fun hq1 => ⟨_, rfl, ?_⟩) (fun hq0 => absurd hq0 (by omega))
        refine y_if_ne (tgt := 87) dX0_bake_63 (by decide) (fun h63 => ?_) (fun h63 => absurd h63 (by decide))
        exact tail f k _ m' A z2 z3 (Or.inr ⟨z4, hA z1⟩) (by omega) kb fr
  refine y_aload_n dX0_bake_0 rfl rfl ?_
  refine y_aload_n dX0_bake_1 rfl rfl ?_
  refine y_aload_n dX0_bake_2 rfl rfl ?_
  refine y_ivI2 dX0_bake_3 mv_X0_25 my_X0_stepsKnown (Or.inl rfl) sh_35 ?_
  refine c_X0_stepsKnown hF hG hf hg hc hc2 hB (fun f f1 f2 f3 => ⟨_, rfl, ?_⟩)
  refine y_ist5_3 dX0_bake_6 rfl ?_
  refine y_aload_n dX0_bake_7 rfl rfl ?_
  refine y_getr dX0_bake_8 gf_X0_12 sh_35 rfl ?_
  refine y_aload_n dX0_bake_11 rfl rfl ?_
  refine y_aload_n dX0_bake_12 rfl rfl ?_
  refine y_ivV2 dX0_bake_13 mv_X0_29 my_X6_start (Or.inl rfl) sh_36 ?_
  refine c_X6_start lf36 hF hG (by omega) (by omega) hf hg hc hc2 hb1 hb2 (fun m1 l1 l2 l3 l4 l5 => ⟨rfl, ?_⟩)
  have frF : FR m1 37 R := fun i hi => (l1.1.1 i hi).trans (lB i (by omega))
  have frD : DR m1 39 R := ⟨fun i hi => by
    obtain ⟨x1, x2, x3⟩ := l1.2.1 i (by omega)
    exact ⟨x1.trans (lB _ (by omega)), x2.trans (lB _ (by omega)), x3.trans (lB _ (by omega))⟩, l1.2.2.1.trans (lB 5 (by omega))⟩
  refine y_iload_n dX0_bake_16 rfl rfl ?_
  refine y_if_le (tgt := 36) dX0_bake_17 (by decide) (fun h17 => ?_) (fun h17 => ?_)
  · refine y_aload_n dX0_bake_36 rfl rfl ?_
    refine y_iload_n dX0_bake_37 rfl rfl ?_
    refine y_puti dX0_bake_38 pf_X0_41 sh_35 rfl rfl rfl ?_
    refine y_iload_n dX0_bake_41 rfl rfl ?_
    refine y_ist5_4 dX0_bake_42 rfl ?_
    first
      | exact loopS f _ f1 ⟨fun i hi => by rw [s_upN (by omega), t2.1 _ (by omega)]; exact (frF i hi).trans ((steps_low (by omega) f).trans (lB i (by omega))).symm, DD_m (DD_t (DD_m (f3 hf0) (fun c h1 h2 => l2 c (by omega))) t2) (fun c h1 h2 => s_upN (by omega))⟩ ⟨by rw [s_upS, updS], fun i hi => DD_m (f2 i hi) (fun c h1 h2 => by rw [s_upN (by omega), t2.1 _ (by omega)]; exact l2 c (by omega)), FR_m frF (by rw [s_upN (by omega)]; exact t2.1 _ (by omega)), DR_m frD (fun c h1 h2 => by rw [s_upN (by omega)]; exact t2.1 _ (by omega))⟩ (fun a ha => by rw [s_upN (by omega), t2.1 _ (by omega)]; exact l2 a (by omega))
      | (have hf0 : f = 0 := by
           rcases Nat.eq_zero_or_pos f with z | z
           · exact z
           · exact absurd h17 (nI_nle z (by omega))
         subst hf0
         exact loopS 0 _ f1 ⟨fun i hi => by rw [s_upN (by omega)]; exact l1.1.1 i hi, DD_m l1.1.d.2 (fun c h1 h2 => s_upN (by omega))⟩ ⟨by rw [s_upS, updS], fun i hi => absurd hi (by omega), FR_m frF (s_upN (by omega)), DR_m frD (fun c h1 h2 => s_upN (by omega))⟩ (fun a ha => by rw [s_upN (by omega)]; exact l2 a (by omega)))
  · have hf0 : 0 < f := by
      rcases Nat.eq_zero_or_pos f with z | z
      · exact absurd (by rw [z]; decide) h17
      · exact z
    refine y_aload_n dX0_bake_20 rfl rfl ?_
    refine y_getr dX0_bake_21 gf_X0_12 sh_35 rfl ?_
    refine y_getr dX0_bake_24 gf_X0_33 sh_36 rfl ?_
    refine y_aload_n dX0_bake_27 rfl rfl ?_
    refine y_getr dX0_bake_28 gf_X0_20 sh_35 rfl ?_
    refine y_iload_n dX0_bake_31 rfl rfl ?_
    refine y_aaldN dX0_bake_32 (by decide) sh_55 rfl (ahA f (by omega)) (by decide) ?_
    refine y_ivV1 dX0_bake_33 mv_X0_37 my_X2_take (Or.inl rfl) sh_43 ?_
    refine c_X2_take lf36.2.2.2.1 (dhA f (by omega)) (by omega) (by rw [l2 _ (by omega), (f3 hf0).2.2.2]; exact (iS f f1).2.2.2.1) (fun m2 t2 => ⟨rfl, ?_⟩)
    refine y_aload_n dX0_bake_36 rfl rfl ?_
    refine y_iload_n dX0_bake_37 rfl rfl ?_
    refine y_puti dX0_bake_38 pf_X0_41 sh_35 rfl rfl rfl ?_
    refine y_iload_n dX0_bake_41 rfl rfl ?_
    refine y_ist5_4 dX0_bake_42 rfl ?_
    first
      | exact loopS f _ f1 ⟨fun i hi => by rw [s_upN (by omega), t2.1 _ (by omega)]; exact (frF i hi).trans ((steps_low (by omega) f).trans (lB i (by omega))).symm, DD_m (DD_t (DD_m (f3 hf0) (fun c h1 h2 => l2 c (by omega))) t2) (fun c h1 h2 => s_upN (by omega))⟩ ⟨by rw [s_upS, updS], fun i hi => DD_m (f2 i hi) (fun c h1 h2 => by rw [s_upN (by omega), t2.1 _ (by omega)]; exact l2 c (by omega)), FR_m frF (by rw [s_upN (by omega)]; exact t2.1 _ (by omega)), DR_m frD (fun c h1 h2 => by rw [s_upN (by omega)]; exact t2.1 _ (by omega))⟩ (fun a ha => by rw [s_upN (by omega), t2.1 _ (by omega)]; exact l2 a (by omega))
      | (have hf0 : f = 0 := by
           rcases Nat.eq_zero_or_pos f with z | z
           · exact z
           · exact absurd h17 (nI_nle z (by omega))
         subst hf0
         exact loopS 0 _ f1 ⟨fun i hi => by rw [s_upN (by omega)]; exact l1.1.1 i hi, DD_m l1.1.d.2 (fun c h1 h2 => s_upN (by omega))⟩ ⟨by rw [s_upS, updS], fun i hi => absurd hi (by omega), FR_m frF (s_upN (by omega)), DR_m frD (fun c h1 h2 => s_upN (by omega))⟩ (fun a ha => by rw [s_upN (by omega)]; exact l2 a (by omega)))
