/-! ===== tears of a turn; knead, knock, door ===== -/
theorem LR.g {m : sM} {L : Nat} {R : Nat → Int32} (h : LR m L R) {k : Nat} (hk : k < 24) : m (L + 8) k = R (41 + 5 * k + 0) := (h.2.1 k hk).1
theorem LR.t {m : sM} {L : Nat} {R : Nat → Int32} (h : LR m L R) {k : Nat} (hk : k < 24) : m (L + 9) k = R (41 + 5 * k + 1) := (h.2.1 k hk).2.1
theorem LR.h {m : sM} {L : Nat} {R : Nat → Int32} (h : LR m L R) {k : Nat} (hk : k < 24) : m (L + 10) k = R (41 + 5 * k + 2) := (h.2.1 k hk).2.2.1
theorem LR.s {m : sM} {L : Nat} {R : Nat → Int32} (h : LR m L R) {k : Nat} (hk : k < 24) : m (L + 11) k = R (41 + 5 * k + 3) := (h.2.1 k hk).2.2.2.1
theorem LR.o {m : sM} {L : Nat} {R : Nat → Int32} (h : LR m L R) {k : Nat} (hk : k < 24) : m (L + 12) k = R (41 + 5 * k + 4) := (h.2.1 k hk).2.2.2.2
theorem burst_low {ov : Int32} {p : Nat} {R : Nat → Int32} (h : p < 40) : ∀ k, k ≤ 24 → foldR (burstC ov) k R p = R p := foldR_low (fun k R' hk => by
  unfold burstC
  split
  · exact tearF_low h
  · rfl) R
theorem sink_low {p : Nat} {R : Nat → Int32} (h : p < 40) : ∀ k, k ≤ 24 → foldR sinkC k R p = R p := foldR_low (fun k R' hk => by
  unfold sinkC
  split
  · exact tearF_low h
  · rfl) R
theorem LR_turn {m : sM} {L : Nat} {R : Nat → Int32} {v : Int32} (h : LR m L R) (m2 : sM) (e7 : m2 (L + 7) = upd (upd (m (L + 7)) 9 v) 6 (m (L + 7) 6 + 1) ∨ (v = R 39 ∧ m2 (L + 7) = upd (m (L + 7)) 6 (m (L + 7) 6 + 1))) (eo : ∀ a, a ≠ L + 7 → m2 a = m a) : LR m2 L (endF v R) ∧ LF m m2 L := by
  obtain ⟨r1, r2, r3, r4, r5, r6⟩ := h
  have eE : ∀ p, p ≠ 39 → p ≠ 38 → endF v R p = R p := fun p h1 h2 => by unfold endF; rw [updN h2, updN h1]
  have e38 : endF v R 38 = R 38 + 1 := by unfold endF; rw [updS, updN (by omega)]
  have e39 : endF v R 39 = v := by unfold endF; rw [updN (by omega), updS]
  have j5 : m2 (L + 7) 5 = m (L + 7) 5 := by rcases e7 with e | ⟨-, e⟩ <;> rw [e] <;> first | rw [updN (by omega), updN (by omega)] | rw [updN (by omega)]
  have j6 : m2 (L + 7) 6 = m (L + 7) 6 + 1 := by rcases e7 with e | ⟨-, e⟩ <;> rw [e, updS]
  have j7 : m2 (L + 7) 7 = m (L + 7) 7 := by rcases e7 with e | ⟨-, e⟩ <;> rw [e] <;> first | rw [updN (by omega), updN (by omega)] | rw [updN (by omega)]
  have j8 : m2 (L + 7) 8 = m (L + 7) 8 := by rcases e7 with e | ⟨-, e⟩ <;> rw [e] <;> first | rw [updN (by omega), updN (by omega)] | rw [updN (by omega)]
  have j9 : m2 (L + 7) 9 = v := by
    rcases e7 with e | ⟨q, e⟩
    · rw [e, updN (by omega), updS]
    · rw [e, updN (by omega), r5, q]
  refine ⟨⟨fun i hi => by rw [eo _ (by omega), r1 i hi, eE _ (by omega) (by omega)], fun k hk => ?_, by rw [j5, r3, eE _ (by omega) (by omega)], by rw [j6, r4, e38], by rw [j9, e39], fun k hk => ?_⟩, fun a ha => eo a (by omega), j7, j8⟩
  · rw [eo _ (by omega), eo _ (by omega), eo _ (by omega), eo _ (by omega), eo _ (by omega), eE _ (by omega) (by omega), eE _ (by omega) (by omega), eE _ (by omega) (by omega), eE _ (by omega) (by omega), eE _ (by omega) (by omega)]
    exact r2 k hk
  · rw [qOf_eq (eE 40 (by omega) (by omega))] at hk
    unfold mkF
    rw [eo _ (by omega), eo _ (by omega), eo _ (by omega), eo _ (by omega), eo _ (by omega), eE _ (by omega) (by omega), eE _ (by omega) (by omega), eE _ (by omega) (by omega), eE _ (by omega) (by omega), eE _ (by omega) (by omega), eE _ (by omega) (by omega), eE _ (by omega) (by omega)]
    exact r6 k hk
theorem LR_once {m m2 : sM} {L c : Nat} {kind : Int32} {R : Nat → Int32} (h : LR m L R) (hc : c < 24) (hf : ∀ a j, ¬ ((a = L + 8 ∨ a = L + 9 ∨ a = L + 10) ∧ j = c) → m2 a j = m a j) (hr : ∀ p, p ≠ 41 + 5 * c + 0 → p ≠ 41 + 5 * c + 1 → p ≠ 41 + 5 * c + 2 → onceC kind c R p = R p) (e0 : m2 (L + 8) c = onceC kind c R (41 + 5 * c + 0)) (e1 : m2 (L + 9) c = onceC kind c R (41 + 5 * c + 1)) (e2 : m2 (L + 10) c = onceC kind c R (41 + 5 * c + 2)) : LR m2 L (onceC kind c R) ∧ LF m m2 L := by
  have hrow : ∀ a, ¬ (a = L + 8 ∨ a = L + 9 ∨ a = L + 10) → m2 a = m a := fun a ha => by funext j; exact hf a j (fun q => ha q.1)
  refine ⟨LR_same h (fun i hi => by rw [hrow _ (by omega), h.1 i hi, hr _ (by omega) (by omega) (by omega)]) (fun k hk => ⟨?_, ?_, ?_, ?_, ?_⟩) (fun j => by rw [hrow _ (by omega)]) (fun a h1 h2 => hrow _ (by omega)) (fun p hp => hr _ (by omega) (by omega) (by omega)), fun a ha => hrow _ (by omega), by rw [hrow _ (by omega)], by rw [hrow _ (by omega)]⟩
  · by_cases e : k = c
    · rw [e, e0]
    · rw [hf _ _ (fun q => e q.2), h.g hk, hr _ (by omega) (by omega) (by omega)]
  · by_cases e : k = c
    · rw [e, e1]
    · rw [hf _ _ (fun q => e q.2), h.t hk, hr _ (by omega) (by omega) (by omega)]
  · by_cases e : k = c
    · rw [e, e2]
    · rw [hf _ _ (fun q => e q.2), h.h hk, hr _ (by omega) (by omega) (by omega)]
  · rw [hrow _ (by omega), h.s hk, hr _ (by omega) (by omega) (by omega)]
  · rw [hrow _ (by omega), h.o hk, hr _ (by omega) (by omega) (by omega)]
theorem max0 (y : Int32) : (if 0 < y then y else 0) = gtr 0 y := by
  unfold gtr
  by_cases h : 0 < y
  · rw [if_pos h, if_neg (Int32.not_lt.mpr (Int32.le_of_lt h))]
  · rw [if_neg h]
    by_cases h2 : y < 0
    · rw [if_pos h2]
    · rw [if_neg h2]
      exact Int32.le_antisymm (Int32.not_lt.mp h2) (Int32.not_lt.mp h)
theorem rg_warm {w : Int32} {R : Nat → Int32} (h : rgR R) : rgR (warmsF w R) := by
  refine ⟨fun k hk => ?_, by rw [warms_low (by omega)]; exact h.2⟩
  rw [warms_o (by omega), warms_o (by omega), warms_o (by omega)]
  exact h.1 k hk

set_option maxHeartbeats 1000000 in
theorem c_X6_tearOverfull {L : Nat} {xs : Nat → Int32} {d : Nat} {m : sM} {n : sN} {Q : sQ} {L0 : Nat} {R : Nat → Int32} {ov : Int32} (hL : isLf L0) (hLR : LR m L0 R) (hw : wfR R) (hQ : ∀ m', LR m' L0 (burstsF ov R) → LF m m' L0 → Q none m' n) : sRun (scT L xs) (d + 3) yX6_tearOverfull cX6_tearOverfull 7 none [.ref L0, .int ov] m n Q := by
  refine y_run (own := "LoafFall$Loaf") rfl (by decide +kernel) (Nat.le_of_ble_eq_true rfl) rfl ?_
  refine y_aload_n dX6_tearOverfull_0 rfl rfl ?_
  refine y_getr dX6_tearOverfull_1 gf_X6_12 hL.1 rfl ?_
  refine y_getr dX6_tearOverfull_4 gf_X6_46 hL.2.1.1 rfl ?_
  refine y_iconst (v := 3) dX6_tearOverfull_7 (by decide) ?_
  refine y_ialdN dX6_tearOverfull_8 hL.2.1.2 rfl (by first | omega | decide) (by decide) ?_
  rw [hLR.1 3 (by omega)]
  refine y_ist7_2 dX6_tearOverfull_9 rfl ?_
  refine y_aload_n dX6_tearOverfull_10 rfl rfl ?_
  refine y_getr dX6_tearOverfull_11 gf_X6_28 hL.1 rfl ?_
  refine y_getr dX6_tearOverfull_14 gf_X6_133 hL.2.2.2.1.1 rfl ?_
  refine y_ast7_3 dX6_tearOverfull_17 rfl ?_
  refine y_aload_n dX6_tearOverfull_18 rfl rfl ?_
  refine y_getr dX6_tearOverfull_19 gf_X6_28 hL.1 rfl ?_
  refine y_getr dX6_tearOverfull_22 gf_X6_136 hL.2.2.2.1.1 rfl ?_
  refine y_ast7_4 dX6_tearOverfull_25 rfl ?_
  refine y_aload_n dX6_tearOverfull_27 rfl rfl ?_
  refine y_getr dX6_tearOverfull_28 gf_X6_28 hL.1 rfl ?_
  refine y_getr dX6_tearOverfull_31 gf_X6_139 hL.2.2.2.1.1 rfl ?_
  refine y_ast7_5 dX6_tearOverfull_34 rfl ?_
  refine y_iconst (v := 0) dX6_tearOverfull_36 (by decide) ?_
  refine y_ist7_6 dX6_tearOverfull_37 rfl ?_
  refine cnt (P := fun k => ∀ m' : sM, LR m' L0 (foldR (burstC ov) k R) → LF m m' L0 → sV (scT L xs) (d + 2) "LoafFall$Loaf" cX6_tearOverfull 7 none Q 39 [some (.ref L0), some (.int ov), some (.int (R 3)), some (.ref (L0 + 8)), some (.ref (L0 + 9)), some (.ref (L0 + 11)), some (.int (nI k))] [] m' n) 24 ?_ ?_ 0 (by omega) m hLR LF.rf
  · intro m' h1 h2
    refine y_iload dX6_tearOverfull_39 rfl ?_
    refine y_bipush (v := 24) dX6_tearOverfull_41 (by decide) ?_
    refine y_icmp_ge (tgt := 157) dX6_tearOverfull_43 (by decide) (fun h43 => ?_) (fun h43 => absurd (nI_le (a := 24) (b := 24) (Nat.le_refl _) (by decide)) h43)
    refine y_return dX6_tearOverfull_157 rfl ?_
    exact hQ _ h1 h2
  · intro k hk hP
    intro m' h1 h2
    have hwk := wf_bursts ov hw k (by omega)
    have hlow : ∀ p, p < 40 → foldR (burstC ov) k R p = R p := fun p hp => burst_low hp k (by omega)
    generalize hRk : foldR (burstC ov) k R = Rk at hwk h1 hlow
    replace hP : ∀ m' : sM, LR m' L0 (burstC ov k Rk) → LF m m' L0 → sV (scT L xs) (d + 2) "LoafFall$Loaf" cX6_tearOverfull 7 none Q 39 [some (.ref L0), some (.int ov), some (.int (R 3)), some (.ref (L0 + 8)), some (.ref (L0 + 9)), some (.ref (L0 + 11)), some (.int (nI (k + 1)))] [] m' n := by rw [← hRk]; exact hP
    unfold burstC at hP
    rw [hlow 3 (by omega)] at hP
    refine y_iload dX6_tearOverfull_39 rfl ?_
    refine y_bipush (v := 24) dX6_tearOverfull_41 (by decide) ?_
    refine y_icmp_ge (tgt := 157) dX6_tearOverfull_43 (by decide) (fun h43 => absurd h43 (nI_ge (a := k) (b := 24) hk (by decide))) (fun h43 => ?_)
    refine y_aload_n dX6_tearOverfull_46 rfl rfl ?_
    refine y_iload dX6_tearOverfull_47 rfl ?_
    refine y_ialdN dX6_tearOverfull_49 hL.2.2.2.1.2.1 rfl (by first | omega | decide) (by decide) ?_
    rw [h1.g hk]
    refine y_iconst (v := 2) dX6_tearOverfull_50 (by decide) ?_
    refine y_aload dX6_tearOverfull_51 rfl ?_
    refine y_iload dX6_tearOverfull_53 rfl ?_
    refine y_ialdN dX6_tearOverfull_55 hL.2.2.2.1.2.2.1 rfl (by first | omega | decide) (by decide) ?_
    rw [h1.t hk]
    refine y_imul dX6_tearOverfull_56 ?_
    refine y_aload dX6_tearOverfull_57 rfl ?_
    refine y_iload dX6_tearOverfull_59 rfl ?_
    refine y_ialdN dX6_tearOverfull_61 hL.2.2.2.1.2.2.2.2.1 rfl (by first | omega | decide) (by decide) ?_
    rw [h1.s hk]
    refine y_iadd dX6_tearOverfull_62 ?_
    refine y_iload_n dX6_tearOverfull_63 rfl rfl ?_
    refine y_iadd dX6_tearOverfull_64 ?_
    refine y_icmp_le (tgt := 151) dX6_tearOverfull_65 (by decide) (fun h65 => ?_) (fun h65 => ?_)
    · refine y_iinc7_6 dX6_tearOverfull_151 (nI_1 _) rfl ?_
      refine y_goto (tgt := 39) dX6_tearOverfull_154 (by decide) ?_
      first
        | (rw [if_neg (fun z => absurd z.2 (Int32.not_lt.mpr h65))] at hP; exact hP _ h1 h2)
        | (rw [if_neg (fun z => h78 z.1)] at hP; exact hP _ h1 h2)
        | (rw [if_pos ⟨h78, Int32.not_le.mp h65⟩, if_pos (Int32.not_le.mp h91), if_pos h106] at hP; exact hP _ hm2 (h2.tr hf2))
        | (rw [if_pos ⟨h78, Int32.not_le.mp h65⟩, if_pos (Int32.not_le.mp h91), if_neg h106] at hP; exact hP _ hm2 (h2.tr hf2))
        | (rw [if_pos ⟨h78, Int32.not_le.mp h65⟩, if_neg (Int32.not_lt.mpr h91), if_pos h130] at hP; exact hP _ hm2 (h2.tr hf2))
        | (rw [if_pos ⟨h78, Int32.not_le.mp h65⟩, if_neg (Int32.not_lt.mpr h91), if_neg h130] at hP; exact hP _ hm2 (h2.tr hf2))
    · refine y_aload_n dX6_tearOverfull_68 rfl rfl ?_
      refine y_getr dX6_tearOverfull_69 gf_X6_28 hL.1 rfl ?_
      refine y_getr dX6_tearOverfull_72 gf_X6_142 hL.2.2.2.1.1 rfl ?_
      refine y_iload dX6_tearOverfull_75 rfl ?_
      refine y_ialdN dX6_tearOverfull_77 hL.2.2.2.1.2.2.2.2.2 rfl (by first | omega | decide) (by decide) ?_
      rw [h1.o hk]
      refine y_if_eq (tgt := 84) dX6_tearOverfull_78 (by decide) (fun h78 => ?_) (fun h78 => ?_)
      · refine y_aload dX6_tearOverfull_84 rfl ?_
        refine y_iload dX6_tearOverfull_86 rfl ?_
        refine y_ialdN dX6_tearOverfull_88 hL.2.2.2.1.2.2.1 rfl (by first | omega | decide) (by decide) ?_
        rw [h1.t hk]
        refine y_bipush (v := 10) dX6_tearOverfull_89 (by decide) ?_
        refine y_icmp_ge (tgt := 126) dX6_tearOverfull_91 (by decide) (fun h91 => ?_) (fun h91 => ?_)
        · refine y_aload_n dX6_tearOverfull_126 rfl rfl ?_
          refine y_iload dX6_tearOverfull_127 rfl ?_
          refine y_iload_n dX6_tearOverfull_129 rfl rfl ?_
          refine y_if_eq (tgt := 137) dX6_tearOverfull_130 (by decide) (fun h130 => ?_) (fun h130 => ?_)
          · refine y_iconst (v := 0) dX6_tearOverfull_137 (by decide) ?_
            refine y_aload_n dX6_tearOverfull_138 rfl rfl ?_
            refine y_getr dX6_tearOverfull_139 gf_X6_28 hL.1 rfl ?_
            refine y_getr dX6_tearOverfull_142 gf_X6_149 hL.2.2.2.1.1 rfl ?_
            refine y_iload dX6_tearOverfull_145 rfl ?_
            refine y_ialdN dX6_tearOverfull_147 hL.2.2.2.1.2.2.2.1 rfl (by first | omega | decide) (by decide) ?_
            refine y_ivV3 dX6_tearOverfull_148 mv_X6_145 my_X6_tearAs (Or.inl rfl) hL.1 ?_
            refine c_X6_tearAs (c := k) (R := Rk) hL h1 hwk rfl hk h78 (by unfold mkOf; first | (rw [if_pos (by decide), h1.t hk]) | (rw [if_neg (by decide), if_neg (by decide), if_neg (by decide), h1.h hk])) (fun m2 hm2 hf2 => ⟨rfl, ?_⟩)
            refine y_iinc7_6 dX6_tearOverfull_151 (nI_1 _) rfl ?_
            refine y_goto (tgt := 39) dX6_tearOverfull_154 (by decide) ?_
            first
              | (rw [if_neg (fun z => absurd z.2 (Int32.not_lt.mpr h65))] at hP; exact hP _ h1 h2)
              | (rw [if_neg (fun z => h78 z.1)] at hP; exact hP _ h1 h2)
              | (rw [if_pos ⟨h78, Int32.not_le.mp h65⟩, if_pos (Int32.not_le.mp h91), if_pos h106] at hP; exact hP _ hm2 (h2.tr hf2))
              | (rw [if_pos ⟨h78, Int32.not_le.mp h65⟩, if_pos (Int32.not_le.mp h91), if_neg h106] at hP; exact hP _ hm2 (h2.tr hf2))
              | (rw [if_pos ⟨h78, Int32.not_le.mp h65⟩, if_neg (Int32.not_lt.mpr h91), if_pos h130] at hP; exact hP _ hm2 (h2.tr hf2))
              | (rw [if_pos ⟨h78, Int32.not_le.mp h65⟩, if_neg (Int32.not_lt.mpr h91), if_neg h130] at hP; exact hP _ hm2 (h2.tr hf2))
          · refine y_iconst (v := 2) dX6_tearOverfull_133 (by decide) ?_
            refine y_goto (tgt := 138) dX6_tearOverfull_134 (by decide) ?_
            refine y_aload_n dX6_tearOverfull_138 rfl rfl ?_
            refine y_getr dX6_tearOverfull_139 gf_X6_28 hL.1 rfl ?_
            refine y_getr dX6_tearOverfull_142 gf_X6_149 hL.2.2.2.1.1 rfl ?_
            refine y_iload dX6_tearOverfull_145 rfl ?_
            refine y_ialdN dX6_tearOverfull_147 hL.2.2.2.1.2.2.2.1 rfl (by first | omega | decide) (by decide) ?_
            refine y_ivV3 dX6_tearOverfull_148 mv_X6_145 my_X6_tearAs (Or.inl rfl) hL.1 ?_
            refine c_X6_tearAs (c := k) (R := Rk) hL h1 hwk rfl hk h78 (by unfold mkOf; first | (rw [if_pos (by decide), h1.t hk]) | (rw [if_neg (by decide), if_neg (by decide), if_neg (by decide), h1.h hk])) (fun m2 hm2 hf2 => ⟨rfl, ?_⟩)
            refine y_iinc7_6 dX6_tearOverfull_151 (nI_1 _) rfl ?_
            refine y_goto (tgt := 39) dX6_tearOverfull_154 (by decide) ?_
            first
              | (rw [if_neg (fun z => absurd z.2 (Int32.not_lt.mpr h65))] at hP; exact hP _ h1 h2)
              | (rw [if_neg (fun z => h78 z.1)] at hP; exact hP _ h1 h2)
              | (rw [if_pos ⟨h78, Int32.not_le.mp h65⟩, if_pos (Int32.not_le.mp h91), if_pos h106] at hP; exact hP _ hm2 (h2.tr hf2))
              | (rw [if_pos ⟨h78, Int32.not_le.mp h65⟩, if_pos (Int32.not_le.mp h91), if_neg h106] at hP; exact hP _ hm2 (h2.tr hf2))
              | (rw [if_pos ⟨h78, Int32.not_le.mp h65⟩, if_neg (Int32.not_lt.mpr h91), if_pos h130] at hP; exact hP _ hm2 (h2.tr hf2))
              | (rw [if_pos ⟨h78, Int32.not_le.mp h65⟩, if_neg (Int32.not_lt.mpr h91), if_neg h130] at hP; exact hP _ hm2 (h2.tr hf2))
        · refine y_aload_n dX6_tearOverfull_94 rfl rfl ?_
          refine y_iload dX6_tearOverfull_95 rfl ?_
          refine y_aload_n dX6_tearOverfull_97 rfl rfl ?_
          refine y_getr dX6_tearOverfull_98 gf_X6_12 hL.1 rfl ?_
          refine y_getr dX6_tearOverfull_101 gf_X6_46 hL.2.1.1 rfl ?_
          refine y_iconst (v := 4) dX6_tearOverfull_104 (by decide) ?_
          refine y_ialdN dX6_tearOverfull_105 hL.2.1.2 rfl (by first | omega | decide) (by decide) ?_
          rw [h1.1 4 (by omega)]
          refine y_if_ne (tgt := 114) dX6_tearOverfull_106 (by decide) (fun h106 => ?_) (fun h106 => ?_)
          · refine y_iconst (v := 1) dX6_tearOverfull_114 (by decide) ?_
            refine y_aload dX6_tearOverfull_115 rfl ?_
            refine y_iload dX6_tearOverfull_117 rfl ?_
            refine y_ialdN dX6_tearOverfull_119 hL.2.2.2.1.2.2.1 rfl (by first | omega | decide) (by decide) ?_
            refine y_ivV3 dX6_tearOverfull_120 mv_X6_145 my_X6_tearAs (Or.inl rfl) hL.1 ?_
            refine c_X6_tearAs (c := k) (R := Rk) hL h1 hwk rfl hk h78 (by unfold mkOf; first | (rw [if_pos (by decide), h1.t hk]) | (rw [if_neg (by decide), if_neg (by decide), if_neg (by decide), h1.h hk])) (fun m2 hm2 hf2 => ⟨rfl, ?_⟩)
            refine y_goto (tgt := 151) dX6_tearOverfull_123 (by decide) ?_
            refine y_iinc7_6 dX6_tearOverfull_151 (nI_1 _) rfl ?_
            refine y_goto (tgt := 39) dX6_tearOverfull_154 (by decide) ?_
            first
              | (rw [if_neg (fun z => absurd z.2 (Int32.not_lt.mpr h65))] at hP; exact hP _ h1 h2)
              | (rw [if_neg (fun z => h78 z.1)] at hP; exact hP _ h1 h2)
              | (rw [if_pos ⟨h78, Int32.not_le.mp h65⟩, if_pos (Int32.not_le.mp h91), if_pos h106] at hP; exact hP _ hm2 (h2.tr hf2))
              | (rw [if_pos ⟨h78, Int32.not_le.mp h65⟩, if_pos (Int32.not_le.mp h91), if_neg h106] at hP; exact hP _ hm2 (h2.tr hf2))
              | (rw [if_pos ⟨h78, Int32.not_le.mp h65⟩, if_neg (Int32.not_lt.mpr h91), if_pos h130] at hP; exact hP _ hm2 (h2.tr hf2))
              | (rw [if_pos ⟨h78, Int32.not_le.mp h65⟩, if_neg (Int32.not_lt.mpr h91), if_neg h130] at hP; exact hP _ hm2 (h2.tr hf2))
          · refine y_bipush (v := 6) dX6_tearOverfull_109 (by decide) ?_
            refine y_goto (tgt := 115) dX6_tearOverfull_111 (by decide) ?_
            refine y_aload dX6_tearOverfull_115 rfl ?_
            refine y_iload dX6_tearOverfull_117 rfl ?_
            refine y_ialdN dX6_tearOverfull_119 hL.2.2.2.1.2.2.1 rfl (by first | omega | decide) (by decide) ?_
            refine y_ivV3 dX6_tearOverfull_120 mv_X6_145 my_X6_tearAs (Or.inl rfl) hL.1 ?_
            refine c_X6_tearAs (c := k) (R := Rk) hL h1 hwk rfl hk h78 (by unfold mkOf; first | (rw [if_pos (by decide), h1.t hk]) | (rw [if_neg (by decide), if_neg (by decide), if_neg (by decide), h1.h hk])) (fun m2 hm2 hf2 => ⟨rfl, ?_⟩)
            refine y_goto (tgt := 151) dX6_tearOverfull_123 (by decide) ?_
            refine y_iinc7_6 dX6_tearOverfull_151 (nI_1 _) rfl ?_
            refine y_goto (tgt := 39) dX6_tearOverfull_154 (by decide) ?_
            first
              | (rw [if_neg (fun z => absurd z.2 (Int32.not_lt.mpr h65))] at hP; exact hP _ h1 h2)
              | (rw [if_neg (fun z => h78 z.1)] at hP; exact hP _ h1 h2)
              | (rw [if_pos ⟨h78, Int32.not_le.mp h65⟩, if_pos (Int32.not_le.mp h91), if_pos h106] at hP; exact hP _ hm2 (h2.tr hf2))
              | (rw [if_pos ⟨h78, Int32.not_le.mp h65⟩, if_pos (Int32.not_le.mp h91), if_neg h106] at hP; exact hP _ hm2 (h2.tr hf2))
              | (rw [if_pos ⟨h78, Int32.not_le.mp h65⟩, if_neg (Int32.not_lt.mpr h91), if_pos h130] at hP; exact hP _ hm2 (h2.tr hf2))
              | (rw [if_pos ⟨h78, Int32.not_le.mp h65⟩, if_neg (Int32.not_lt.mpr h91), if_neg h130] at hP; exact hP _ hm2 (h2.tr hf2))
      · refine y_goto (tgt := 151) dX6_tearOverfull_81 (by decide) ?_
        refine y_iinc7_6 dX6_tearOverfull_151 (nI_1 _) rfl ?_
        refine y_goto (tgt := 39) dX6_tearOverfull_154 (by decide) ?_
        first
          | (rw [if_neg (fun z => absurd z.2 (Int32.not_lt.mpr h65))] at hP; exact hP _ h1 h2)
          | (rw [if_neg (fun z => h78 z.1)] at hP; exact hP _ h1 h2)
          | (rw [if_pos ⟨h78, Int32.not_le.mp h65⟩, if_pos (Int32.not_le.mp h91), if_pos h106] at hP; exact hP _ hm2 (h2.tr hf2))
          | (rw [if_pos ⟨h78, Int32.not_le.mp h65⟩, if_pos (Int32.not_le.mp h91), if_neg h106] at hP; exact hP _ hm2 (h2.tr hf2))
          | (rw [if_pos ⟨h78, Int32.not_le.mp h65⟩, if_neg (Int32.not_lt.mpr h91), if_pos h130] at hP; exact hP _ hm2 (h2.tr hf2))
          | (rw [if_pos ⟨h78, Int32.not_le.mp h65⟩, if_neg (Int32.not_lt.mpr h91), if_neg h130] at hP; exact hP _ hm2 (h2.tr hf2))
set_option maxHeartbeats 1000000 in
theorem c_X6_tearUndone {L : Nat} {xs : Nat → Int32} {d : Nat} {m : sM} {n : sN} {Q : sQ} {L0 : Nat} {R : Nat → Int32} (hL : isLf L0) (hLR : LR m L0 R) (hw : wfR R) (hQ : ∀ m', LR m' L0 (sinksF R) → LF m m' L0 → Q none m' n) : sRun (scT L xs) (d + 3) yX6_tearUndone cX6_tearUndone 3 none [.ref L0] m n Q := by
  refine y_run (own := "LoafFall$Loaf") rfl (by decide +kernel) (Nat.le_of_ble_eq_true rfl) rfl ?_
  have main : ∀ kd : Int32, kd = (if 5 ≤ R 2 then 5 else 4) → sV (scT L xs) (d + 2) "LoafFall$Loaf" cX6_tearUndone 3 none Q 21 [some (.ref L0), some (.int kd), some (.int (0))] [] m n := by
    intro kd hkd
    refine cnt (P := fun k => ∀ m' : sM, LR m' L0 (foldR sinkC k R) → LF m m' L0 → sV (scT L xs) (d + 2) "LoafFall$Loaf" cX6_tearUndone 3 none Q 21 [some (.ref L0), some (.int kd), some (.int (nI k))] [] m' n) 24 ?_ ?_ 0 (by omega) m hLR LF.rf
    · intro m' h1 h2
      refine y_iload_n dX6_tearUndone_21 rfl rfl ?_
      refine y_bipush (v := 24) dX6_tearUndone_22 (by decide) ?_
      refine y_icmp_ge (tgt := 105) dX6_tearUndone_24 (by decide) (fun h24 => ?_) (fun h24 => absurd (nI_le (a := 24) (b := 24) (Nat.le_refl _) (by decide)) h24)
      refine y_return dX6_tearUndone_105 rfl ?_
      exact hQ _ h1 h2
    · intro k hk hP
      intro m' h1 h2
      have hwk := wf_sinks hw k (by omega)
      have hlow : ∀ p, p < 40 → foldR sinkC k R p = R p := fun p hp => sink_low hp k (by omega)
      generalize hRk : foldR sinkC k R = Rk at hwk h1 hlow
      replace hP : ∀ m' : sM, LR m' L0 (sinkC k Rk) → LF m m' L0 → sV (scT L xs) (d + 2) "LoafFall$Loaf" cX6_tearUndone 3 none Q 21 [some (.ref L0), some (.int kd), some (.int (nI (k + 1)))] [] m' n := by rw [← hRk]; exact hP
      unfold sinkC at hP
      rw [hlow 2 (by omega), ← hkd] at hP
      refine y_iload_n dX6_tearUndone_21 rfl rfl ?_
      refine y_bipush (v := 24) dX6_tearUndone_22 (by decide) ?_
      refine y_icmp_ge (tgt := 105) dX6_tearUndone_24 (by decide) (fun h24 => absurd h24 (nI_ge (a := k) (b := 24) hk (by decide))) (fun h24 => ?_)
      refine y_aload_n dX6_tearUndone_27 rfl rfl ?_
      refine y_getr dX6_tearUndone_28 gf_X6_28 hL.1 rfl ?_
      refine y_getr dX6_tearUndone_31 gf_X6_142 hL.2.2.2.1.1 rfl ?_
      refine y_iload_n dX6_tearUndone_34 rfl rfl ?_
      refine y_ialdN dX6_tearUndone_35 hL.2.2.2.1.2.2.2.2.2 rfl (by first | omega | decide) (by decide) ?_
      rw [h1.o hk]
      refine y_if_ne (tgt := 99) dX6_tearUndone_36 (by decide) (fun h36 => ?_) (fun h36 => ?_)
      · refine y_iinc3_2 dX6_tearUndone_99 (nI_1 _) rfl ?_
        refine y_goto (tgt := 21) dX6_tearUndone_102 (by decide) ?_
        first
          | (rw [if_neg (fun z => h36 z.1)] at hP; exact hP _ h1 h2)
          | (rw [if_neg (fun z => absurd z.2.1 (Int32.not_lt.mpr h50))] at hP; exact hP _ h1 h2)
          | (rw [if_neg (fun z => absurd z.2.2.1 (Int32.not_lt.mpr h64))] at hP; exact hP _ h1 h2)
          | (rw [if_neg (fun z => absurd z.2.2.2 (Int32.not_lt.mpr h78))] at hP; exact hP _ h1 h2)
          | (rw [if_pos ⟨h36, Int32.not_le.mp h50, Int32.not_le.mp h64, Int32.not_le.mp h78⟩] at hP; exact hP _ hm2 (h2.tr hf2))
      · refine y_aload_n dX6_tearUndone_39 rfl rfl ?_
        refine y_getr dX6_tearUndone_40 gf_X6_28 hL.1 rfl ?_
        refine y_getr dX6_tearUndone_43 gf_X6_149 hL.2.2.2.1.1 rfl ?_
        refine y_iload_n dX6_tearUndone_46 rfl rfl ?_
        refine y_ialdN dX6_tearUndone_47 hL.2.2.2.1.2.2.2.1 rfl (by first | omega | decide) (by decide) ?_
        rw [h1.h hk]
        refine y_bipush (v := 60) dX6_tearUndone_48 (by decide) ?_
        refine y_icmp_ge (tgt := 99) dX6_tearUndone_50 (by decide) (fun h50 => ?_) (fun h50 => ?_)
        · refine y_iinc3_2 dX6_tearUndone_99 (nI_1 _) rfl ?_
          refine y_goto (tgt := 21) dX6_tearUndone_102 (by decide) ?_
          first
            | (rw [if_neg (fun z => h36 z.1)] at hP; exact hP _ h1 h2)
            | (rw [if_neg (fun z => absurd z.2.1 (Int32.not_lt.mpr h50))] at hP; exact hP _ h1 h2)
            | (rw [if_neg (fun z => absurd z.2.2.1 (Int32.not_lt.mpr h64))] at hP; exact hP _ h1 h2)
            | (rw [if_neg (fun z => absurd z.2.2.2 (Int32.not_lt.mpr h78))] at hP; exact hP _ h1 h2)
            | (rw [if_pos ⟨h36, Int32.not_le.mp h50, Int32.not_le.mp h64, Int32.not_le.mp h78⟩] at hP; exact hP _ hm2 (h2.tr hf2))
        · refine y_aload_n dX6_tearUndone_53 rfl rfl ?_
          refine y_getr dX6_tearUndone_54 gf_X6_28 hL.1 rfl ?_
          refine y_getr dX6_tearUndone_57 gf_X6_139 hL.2.2.2.1.1 rfl ?_
          refine y_iload_n dX6_tearUndone_60 rfl rfl ?_
          refine y_ialdN dX6_tearUndone_61 hL.2.2.2.1.2.2.2.2.1 rfl (by first | omega | decide) (by decide) ?_
          rw [h1.s hk]
          refine y_bipush (v := 50) dX6_tearUndone_62 (by decide) ?_
          refine y_icmp_ge (tgt := 99) dX6_tearUndone_64 (by decide) (fun h64 => ?_) (fun h64 => ?_)
          · refine y_iinc3_2 dX6_tearUndone_99 (nI_1 _) rfl ?_
            refine y_goto (tgt := 21) dX6_tearUndone_102 (by decide) ?_
            first
              | (rw [if_neg (fun z => h36 z.1)] at hP; exact hP _ h1 h2)
              | (rw [if_neg (fun z => absurd z.2.1 (Int32.not_lt.mpr h50))] at hP; exact hP _ h1 h2)
              | (rw [if_neg (fun z => absurd z.2.2.1 (Int32.not_lt.mpr h64))] at hP; exact hP _ h1 h2)
              | (rw [if_neg (fun z => absurd z.2.2.2 (Int32.not_lt.mpr h78))] at hP; exact hP _ h1 h2)
              | (rw [if_pos ⟨h36, Int32.not_le.mp h50, Int32.not_le.mp h64, Int32.not_le.mp h78⟩] at hP; exact hP _ hm2 (h2.tr hf2))
          · refine y_aload_n dX6_tearUndone_67 rfl rfl ?_
            refine y_getr dX6_tearUndone_68 gf_X6_28 hL.1 rfl ?_
            refine y_getr dX6_tearUndone_71 gf_X6_133 hL.2.2.2.1.1 rfl ?_
            refine y_iload_n dX6_tearUndone_74 rfl rfl ?_
            refine y_ialdN dX6_tearUndone_75 hL.2.2.2.1.2.1 rfl (by first | omega | decide) (by decide) ?_
            rw [h1.g hk]
            refine y_bipush (v := 40) dX6_tearUndone_76 (by decide) ?_
            refine y_icmp_le (tgt := 99) dX6_tearUndone_78 (by decide) (fun h78 => ?_) (fun h78 => ?_)
            · refine y_iinc3_2 dX6_tearUndone_99 (nI_1 _) rfl ?_
              refine y_goto (tgt := 21) dX6_tearUndone_102 (by decide) ?_
              first
                | (rw [if_neg (fun z => h36 z.1)] at hP; exact hP _ h1 h2)
                | (rw [if_neg (fun z => absurd z.2.1 (Int32.not_lt.mpr h50))] at hP; exact hP _ h1 h2)
                | (rw [if_neg (fun z => absurd z.2.2.1 (Int32.not_lt.mpr h64))] at hP; exact hP _ h1 h2)
                | (rw [if_neg (fun z => absurd z.2.2.2 (Int32.not_lt.mpr h78))] at hP; exact hP _ h1 h2)
                | (rw [if_pos ⟨h36, Int32.not_le.mp h50, Int32.not_le.mp h64, Int32.not_le.mp h78⟩] at hP; exact hP _ hm2 (h2.tr hf2))
            · refine y_aload_n dX6_tearUndone_81 rfl rfl ?_
              refine y_iload_n dX6_tearUndone_82 rfl rfl ?_
              refine y_iload_n dX6_tearUndone_83 rfl rfl ?_
              refine y_bipush (v := 50) dX6_tearUndone_84 (by decide) ?_
              refine y_aload_n dX6_tearUndone_86 rfl rfl ?_
              refine y_getr dX6_tearUndone_87 gf_X6_28 hL.1 rfl ?_
              refine y_getr dX6_tearUndone_90 gf_X6_139 hL.2.2.2.1.1 rfl ?_
              refine y_iload_n dX6_tearUndone_93 rfl rfl ?_
              refine y_ialdN dX6_tearUndone_94 hL.2.2.2.1.2.2.2.2.1 rfl (by first | omega | decide) (by decide) ?_
              refine y_isub dX6_tearUndone_95 ?_
              refine y_ivV3 dX6_tearUndone_96 mv_X6_145 my_X6_tearAs (Or.inl rfl) hL.1 ?_
              refine c_X6_tearAs (c := k) (R := Rk) hL h1 hwk rfl hk h36 (by unfold mkOf; rw [h1.s hk, hkd]; split <;> rfl) (fun m2 hm2 hf2 => ⟨rfl, ?_⟩)
              refine y_iinc3_2 dX6_tearUndone_99 (nI_1 _) rfl ?_
              refine y_goto (tgt := 21) dX6_tearUndone_102 (by decide) ?_
              first
                | (rw [if_neg (fun z => h36 z.1)] at hP; exact hP _ h1 h2)
                | (rw [if_neg (fun z => absurd z.2.1 (Int32.not_lt.mpr h50))] at hP; exact hP _ h1 h2)
                | (rw [if_neg (fun z => absurd z.2.2.1 (Int32.not_lt.mpr h64))] at hP; exact hP _ h1 h2)
                | (rw [if_neg (fun z => absurd z.2.2.2 (Int32.not_lt.mpr h78))] at hP; exact hP _ h1 h2)
                | (rw [if_pos ⟨h36, Int32.not_le.mp h50, Int32.not_le.mp h64, Int32.not_le.mp h78⟩] at hP; exact hP _ hm2 (h2.tr hf2))
  refine y_aload_n dX6_tearUndone_0 rfl rfl ?_
  refine y_getr dX6_tearUndone_1 gf_X6_12 hL.1 rfl ?_
  refine y_getr dX6_tearUndone_4 gf_X6_46 hL.2.1.1 rfl ?_
  refine y_iconst (v := 2) dX6_tearUndone_7 (by decide) ?_
  refine y_ialdN dX6_tearUndone_8 hL.2.1.2 rfl (by first | omega | decide) (by decide) ?_
  rw [hLR.1 2 (by omega)]
  refine y_iconst (v := 5) dX6_tearUndone_9 (by decide) ?_
  refine y_icmp_lt (tgt := 17) dX6_tearUndone_10 (by decide) (fun h10 => ?_) (fun h10 => ?_)
  · refine y_iconst (v := 4) dX6_tearUndone_17 (by decide) ?_
    refine y_ist3_1 dX6_tearUndone_18 rfl ?_
    refine y_iconst (v := 0) dX6_tearUndone_19 (by decide) ?_
    refine y_ist3_2 dX6_tearUndone_20 rfl ?_
    first | exact main _ (by rw [if_neg (Int32.not_le.mpr h10)]) | exact main _ (by rw [if_pos (Int32.not_lt.mp h10)])
  · refine y_iconst (v := 5) dX6_tearUndone_13 (by decide) ?_
    refine y_goto (tgt := 18) dX6_tearUndone_14 (by decide) ?_
    refine y_ist3_1 dX6_tearUndone_18 rfl ?_
    refine y_iconst (v := 0) dX6_tearUndone_19 (by decide) ?_
    refine y_ist3_2 dX6_tearUndone_20 rfl ?_
    first | exact main _ (by rw [if_neg (Int32.not_le.mpr h10)]) | exact main _ (by rw [if_pos (Int32.not_lt.mp h10)])
set_option maxHeartbeats 1000000 in
theorem c_X6_turnBy {L : Nat} {xs : Nat → Int32} {d : Nat} {m : sM} {n : sN} {Q : sQ} {L0 : Nat} {R : Nat → Int32} {w ov : Int32} (hL : isLf L0) (hLR : LR m L0 R) (hw : wfR R) (hrg : rgR R) (hQ : ∀ m', LR m' L0 (turnF ov w R) → LF m m' L0 → Q none m' n) : sRun (scT L xs) (d + 4) yX6_turnBy cX6_turnBy 3 none [.ref L0, .int w, .int ov] m n Q := by
  refine y_run (own := "LoafFall$Loaf") rfl (by decide +kernel) (Nat.le_of_ble_eq_true rfl) rfl ?_
  obtain ⟨wa, wb⟩ := LR_warm (w := w) hLR
  have hw1 : wfR (warmsF w R) := wf_warms w hw
  have hg1 : rgR (warmsF w R) := rg_warm hrg
  have hw2 : wfR (growsF (warmsF w R)) := wf_grows hw1
  have hw3 : wfR (burstsF ov (growsF (warmsF w R))) := wf_bursts ov hw2 24 (Nat.le_refl _)
  have h39 : burstsF ov (growsF (warmsF w R)) 39 = R 39 := by rw [bursts_low (by omega), grows_low (by omega), warms_low (by omega)]
  unfold turnF at hQ
  refine y_aload_n dX6_turnBy_0 rfl rfl ?_
  refine y_getr dX6_turnBy_1 gf_X6_28 hL.1 rfl ?_
  refine y_bipush (v := 10) dX6_turnBy_4 (by decide) ?_
  refine y_iload_n dX6_turnBy_6 rfl rfl ?_
  refine y_imul dX6_turnBy_7 ?_
  refine y_ivV1 dX6_turnBy_8 mv_X6_105 my_X2_warmBy (Or.inl rfl) hL.2.2.2.1.1 ?_
  refine c_X2_warmBy hL.2.2.2.1 ⟨rfl, ?_⟩
  refine y_aload_n dX6_turnBy_11 rfl rfl ?_
  refine y_getr dX6_turnBy_12 gf_X6_28 hL.1 rfl ?_
  refine y_aload_n dX6_turnBy_15 rfl rfl ?_
  refine y_getr dX6_turnBy_16 gf_X6_12 hL.1 rfl ?_
  refine y_ivV1 dX6_turnBy_19 mv_X6_108 my_X2_ripen (Or.inl rfl) hL.2.2.2.1.1 ?_
  refine c_X2_ripen hL wa hg1 (fun m2 a2 b2 => ⟨rfl, ?_⟩)
  refine y_aload_n dX6_turnBy_22 rfl rfl ?_
  refine y_iload_n dX6_turnBy_23 rfl rfl ?_
  refine y_ivV1 dX6_turnBy_24 mv_X6_111 my_X6_tearOverfull (Or.inl rfl) hL.1 ?_
  refine c_X6_tearOverfull hL a2 hw2 (fun m3 a3 b3 => ⟨rfl, ?_⟩)
  refine y_iload_n dX6_turnBy_27 rfl rfl ?_
  refine y_if_eq (tgt := 42) dX6_turnBy_28 (by decide) (fun h28 => ?_) (fun h28 => ?_)
  · refine y_aload_n dX6_turnBy_42 rfl rfl ?_
    refine y_getr dX6_turnBy_43 gf_X6_28 hL.1 rfl ?_
    refine y_geti dX6_turnBy_46 gf_X6_115 hL.2.2.2.1.1 rfl ?_
    rw [a3.2.2.2.2.1]
    refine y_if_eq (tgt := 56) dX6_turnBy_49 (by decide) (fun h49 => ?_) (fun h49 => ?_)
    · refine y_aload_n dX6_turnBy_56 rfl rfl ?_
      refine y_getr dX6_turnBy_57 gf_X6_28 hL.1 rfl ?_
      refine y_dup dX6_turnBy_60 rfl ?_
      refine y_geti dX6_turnBy_61 gf_X6_121 hL.2.2.2.1.1 rfl ?_
      refine y_iconst (v := 1) dX6_turnBy_64 (by decide) ?_
      refine y_iadd dX6_turnBy_65 ?_
      refine y_puti dX6_turnBy_66 pf_X6_121 hL.2.2.2.1.1 rfl rfl rfl ?_
      refine y_return dX6_turnBy_69 rfl ?_
      first
        | (rw [if_neg h28] at hQ; exact hQ _ (LR_turn (v := 1) a3 _ (Or.inl (by rw [s_upS, s_upS, updN (by omega)])) (fun a ha => by rw [s_upN ha, s_upN ha])).1 (((wb.tr b2).tr b3).tr (LR_turn (v := 1) a3 _ (Or.inl (by rw [s_upS, s_upS, updN (by omega)])) (fun a ha => by rw [s_upN ha, s_upN ha])).2))
        | (rw [if_pos h28, if_neg (by rw [h39]; intro z; rw [h39, z] at h49; exact absurd h49 (by decide))] at hQ; exact hQ _ (LR_turn a3 _ (Or.inr ⟨rfl, by rw [s_upS]⟩) (fun a ha => by rw [s_upN ha])).1 (((wb.tr b2).tr b3).tr (LR_turn a3 _ (Or.inr ⟨rfl, by rw [s_upS]⟩) (fun a ha => by rw [s_upN ha])).2))
        | (rw [if_pos h28, if_pos (by rw [h39]; rw [h39] at h49; exact hrg.2.resolve_left h49)] at hQ; exact hQ _ (LR_turn a4 _ (Or.inr ⟨rfl, by rw [s_upS]⟩) (fun a ha => by rw [s_upN ha])).1 ((((wb.tr b2).tr b3).tr b4).tr (LR_turn a4 _ (Or.inr ⟨rfl, by rw [s_upS]⟩) (fun a ha => by rw [s_upN ha])).2))
    · refine y_aload_n dX6_turnBy_52 rfl rfl ?_
      refine y_ivV0 dX6_turnBy_53 mv_X6_118 my_X6_tearUndone (Or.inl rfl) hL.1 ?_
      refine c_X6_tearUndone hL a3 hw3 (fun m4 a4 b4 => ⟨rfl, ?_⟩)
      refine y_aload_n dX6_turnBy_56 rfl rfl ?_
      refine y_getr dX6_turnBy_57 gf_X6_28 hL.1 rfl ?_
      refine y_dup dX6_turnBy_60 rfl ?_
      refine y_geti dX6_turnBy_61 gf_X6_121 hL.2.2.2.1.1 rfl ?_
      refine y_iconst (v := 1) dX6_turnBy_64 (by decide) ?_
      refine y_iadd dX6_turnBy_65 ?_
      refine y_puti dX6_turnBy_66 pf_X6_121 hL.2.2.2.1.1 rfl rfl rfl ?_
      refine y_return dX6_turnBy_69 rfl ?_
      first
        | (rw [if_neg h28] at hQ; exact hQ _ (LR_turn (v := 1) a3 _ (Or.inl (by rw [s_upS, s_upS, updN (by omega)])) (fun a ha => by rw [s_upN ha, s_upN ha])).1 (((wb.tr b2).tr b3).tr (LR_turn (v := 1) a3 _ (Or.inl (by rw [s_upS, s_upS, updN (by omega)])) (fun a ha => by rw [s_upN ha, s_upN ha])).2))
        | (rw [if_pos h28, if_neg (by rw [h39]; intro z; rw [h39, z] at h49; exact absurd h49 (by decide))] at hQ; exact hQ _ (LR_turn a3 _ (Or.inr ⟨rfl, by rw [s_upS]⟩) (fun a ha => by rw [s_upN ha])).1 (((wb.tr b2).tr b3).tr (LR_turn a3 _ (Or.inr ⟨rfl, by rw [s_upS]⟩) (fun a ha => by rw [s_upN ha])).2))
        | (rw [if_pos h28, if_pos (by rw [h39]; rw [h39] at h49; exact hrg.2.resolve_left h49)] at hQ; exact hQ _ (LR_turn a4 _ (Or.inr ⟨rfl, by rw [s_upS]⟩) (fun a ha => by rw [s_upN ha])).1 ((((wb.tr b2).tr b3).tr b4).tr (LR_turn a4 _ (Or.inr ⟨rfl, by rw [s_upS]⟩) (fun a ha => by rw [s_upN ha])).2))
  · refine y_aload_n dX6_turnBy_31 rfl rfl ?_
    refine y_getr dX6_turnBy_32 gf_X6_28 hL.1 rfl ?_
    refine y_iconst (v := 1) dX6_turnBy_35 (by decide) ?_
    refine y_puti dX6_turnBy_36 pf_X6_115 hL.2.2.2.1.1 rfl rfl rfl ?_
    refine y_goto (tgt := 56) dX6_turnBy_39 (by decide) ?_
    refine y_aload_n dX6_turnBy_56 rfl rfl ?_
    refine y_getr dX6_turnBy_57 gf_X6_28 hL.1 rfl ?_
    refine y_dup dX6_turnBy_60 rfl ?_
    refine y_geti dX6_turnBy_61 gf_X6_121 hL.2.2.2.1.1 rfl ?_
    refine y_iconst (v := 1) dX6_turnBy_64 (by decide) ?_
    refine y_iadd dX6_turnBy_65 ?_
    refine y_puti dX6_turnBy_66 pf_X6_121 hL.2.2.2.1.1 rfl rfl rfl ?_
    refine y_return dX6_turnBy_69 rfl ?_
    first
      | (rw [if_neg h28] at hQ; exact hQ _ (LR_turn (v := 1) a3 _ (Or.inl (by rw [s_upS, s_upS, updN (by omega)])) (fun a ha => by rw [s_upN ha, s_upN ha])).1 (((wb.tr b2).tr b3).tr (LR_turn (v := 1) a3 _ (Or.inl (by rw [s_upS, s_upS, updN (by omega)])) (fun a ha => by rw [s_upN ha, s_upN ha])).2))
      | (rw [if_pos h28, if_neg (by rw [h39]; intro z; rw [h39, z] at h49; exact absurd h49 (by decide))] at hQ; exact hQ _ (LR_turn a3 _ (Or.inr ⟨rfl, by rw [s_upS]⟩) (fun a ha => by rw [s_upN ha])).1 (((wb.tr b2).tr b3).tr (LR_turn a3 _ (Or.inr ⟨rfl, by rw [s_upS]⟩) (fun a ha => by rw [s_upN ha])).2))
      | (rw [if_pos h28, if_pos (by rw [h39]; rw [h39] at h49; exact hrg.2.resolve_left h49)] at hQ; exact hQ _ (LR_turn a4 _ (Or.inr ⟨rfl, by rw [s_upS]⟩) (fun a ha => by rw [s_upN ha])).1 ((((wb.tr b2).tr b3).tr b4).tr (LR_turn a4 _ (Or.inr ⟨rfl, by rw [s_upS]⟩) (fun a ha => by rw [s_upN ha])).2))
