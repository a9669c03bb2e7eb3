/-! ===== the component's loaf: the same rows ===== -/
theorem s_up_ap (m : sM) (a : Nat) (f : Nat → Int32) (b : Nat) : s_up m a f b = if b = a then f else m b := rfl
theorem upd_ap (f : Nat → Int32) (k : Nat) (x : Int32) (j : Nat) : upd f k x j = if j = k then x else f j := rfl
/-- heats behind a turn of air -/
def heatC (air : Int32) (H : Nat → Int32) (k : Nat) : Int32 := if k % 2 = 0 ∨ k / 2 = 0 ∨ k / 2 = 11 then H k + (air - H k) / 2 else H k + (H (k - 2) + H (k + 2) + H (k - 1) - 3 * H k) / 4
theorem hUp_o {f g : Nat → Int32} {k j : Nat} (h : k ≤ j) : hUp f g k j = g j := by
  unfold hUp
  rw [if_neg (by omega)]
theorem hUp_i {f g : Nat → Int32} {k j : Nat} (h : j < k) : hUp f g k j = f j := by
  unfold hUp
  rw [if_pos h]
theorem hUp2 {f g : Nat → Int32} {k : Nat} : upd (upd (hUp f g k) (k + 1) (f (k + 1))) k (f k) = hUp f g (k + 2) := by
  funext j
  unfold upd hUp
  by_cases e : j = k
  · rw [if_pos e, if_pos (by omega), e]
  · rw [if_neg e]
    by_cases e2 : j = k + 1
    · rw [if_pos e2, if_pos (by omega), e2]
    · rw [if_neg e2]
      by_cases q : j < k
      · rw [if_pos q, if_pos (by omega)]
      · rw [if_neg q, if_neg (by omega)]
/-- what a fall's mark is -/
def mkOf (kind g st ht se : Int32) : Int32 := if kind = 1 ∨ kind = 6 then st else if kind = 3 then g - st else if kind = 4 ∨ kind = 5 then 50 - se else ht
def mkF (R : Nat → Int32) (k : Nat) : Int32 := mkOf (R (161 + 7 * k)) (R (161 + 7 * k + 2)) (R (161 + 7 * k + 4)) (R (161 + 7 * k + 5)) (R (161 + 7 * k + 6))
/-- flour, dough, falls of the loaf at L are those of the row R -/
def LR (m : sM) (L : Nat) (R : Nat → Int32) : Prop :=
  (∀ i, i < 5 → m (L + 2) i = R i) ∧ (∀ k, k < 24 → m (L + 8) k = R (41 + 5 * k + 0) ∧ m (L + 9) k = R (41 + 5 * k + 1) ∧ m (L + 10) k = R (41 + 5 * k + 2) ∧ m (L + 11) k = R (41 + 5 * k + 3) ∧ m (L + 12) k = R (41 + 5 * k + 4)) ∧
  m (L + 7) 5 = R 40 ∧ m (L + 7) 6 = R 38 ∧ m (L + 7) 9 = R 39 ∧
  (∀ k, k < qOf R → m (L + 14) k = R (161 + 7 * k) ∧ m (L + 15) k = R (161 + 7 * k + 1) ∧ m (L + 16) k = R (161 + 7 * k + 2) ∧ m (L + 17) k = R (161 + 7 * k + 3) ∧ m (L + 18) k = mkF R k)
/-- nothing but dough and falls of the loaf at L has changed (its step's fields neither) -/
def LF (m m' : sM) (L : Nat) : Prop := (∀ a, (a < L + 7 ∨ L + 19 ≤ a) → m' a = m a) ∧ m' (L + 7) 7 = m (L + 7) 7 ∧ m' (L + 7) 8 = m (L + 7) 8
theorem LF.rf {m : sM} {L : Nat} : LF m m L := ⟨fun _ _ => rfl, rfl, rfl⟩
theorem LF.tr {m m1 m2 : sM} {L : Nat} (h1 : LF m m1 L) (h2 : LF m1 m2 L) : LF m m2 L := ⟨fun a ha => (h2.1 a ha).trans (h1.1 a ha), h2.2.1.trans h1.2.1, h2.2.2.trans h1.2.2⟩
/-- what note and tearOpen make of memory -/
def noteM (L q c : Nat) (kind mark : Int32) (m : sM) : sM := s_up (s_up (s_up (s_up (s_up m (L + 14) (upd (m (L + 14)) q kind)) (L + 15) (upd (m (L + 15)) q (nI c))) (L + 16) (upd (m (L + 16)) q (m (L + 8) c))) (L + 17) (upd (m (L + 17)) q (m (L + 7) 6))) (L + 18) (upd (m (L + 18)) q mark)
def openG (L c : Nat) (m : sM) : Nat → Int32 := if c + 2 < 24 ∧ m (L + 12) (c + 2) = 0 then upd (m (L + 8)) (c + 2) (m (L + 8) (c + 2) + m (L + 8) c / 2) else m (L + 8)
def openM (L c : Nat) (m : sM) : sM := s_up (s_up (s_up m (L + 8) (upd (openG L c m) c 0)) (L + 12) (upd (m (L + 12)) c 1)) (L + 7) (upd (m (L + 7)) 5 (m (L + 7) 5 + 1))
theorem s_up2 (m : sM) (a : Nat) (f g : Nat → Int32) : s_up (s_up m a f) a g = s_up m a g := by
  funext b
  unfold s_up
  by_cases h : b = a
  · rw [if_pos h, if_pos h]
  · rw [if_neg h, if_neg h, if_neg h]

set_option maxHeartbeats 1000000 in
theorem c_X2_warmBy {L : Nat} {xs : Nat → Int32} {d : Nat} {m : sM} {n : sN} {Q : sQ} {D : Nat} {air : Int32} (hD : isDh D) (hQ : Q none (s_up m (D + 3) (hUp (heatC air (m (D + 3))) (m (D + 3)) 24)) n) : sRun (scT L xs) (d + 1) yX2_warmBy cX2_warmBy 6 none [.ref D, .int air] m n Q := by
  refine y_run (own := "LoafFall$Dough") rfl (by decide +kernel) (Nat.le_of_ble_eq_true rfl) rfl ?_
  refine y_aload_n dX2_warmBy_0 rfl rfl ?_
  refine y_getr dX2_warmBy_1 gf_X2_18 hD.1 rfl ?_
  refine y_iconst (v := 1) dX2_warmBy_4 (by decide) ?_
  refine y_ialdN dX2_warmBy_5 hD.2.2.2.1 rfl (by first | omega | decide) (by decide) ?_
  refine y_ist6_2 dX2_warmBy_6 rfl ?_
  refine y_iconst (v := 0) dX2_warmBy_7 (by decide) ?_
  refine y_ist6_3 dX2_warmBy_8 rfl ?_
  refine sV_eq (m' := s_up m (D + 3) (hUp (heatC air (m (D + 3))) (m (D + 3)) (2 * 0))) (by rw [hUp0]; funext b; unfold s_up; split <;> simp_all) ?_
  refine cnt (P := fun k => ∀ (bl : Int32) (a4 a5 : Option Value), a_isL a4 = false → (¬ k = 0 → bl = m (D + 3) (2 * k - 1)) → sV (scT L xs) d "LoafFall$Dough" cX2_warmBy 6 none Q 9 [some (.ref D), some (.int air), some (.int bl), some (.int (nI (2 * k))), a4, a5] [] (s_up m (D + 3) (hUp (heatC air (m (D + 3))) (m (D + 3)) (2 * k))) n) 12 ?_ ?_ 0 (by omega) _ none none rfl (fun z => absurd rfl z)
  · intro bl a4 a5 ha4 hbl
    refine y_iload_n dX2_warmBy_9 rfl rfl ?_
    refine y_bipush (v := 24) dX2_warmBy_10 (by decide) ?_
    refine y_icmp_ge (tgt := 121) dX2_warmBy_12 (by decide) (fun h12 => ?_) (fun h12 => absurd (nI_le (a := 24) (b := 2 * 12) (by omega) (by decide)) h12)
    refine y_return dX2_warmBy_121 rfl ?_
    exact hQ
  · intro k hk hP bl a4 a5 ha4 hbl
    refine y_iload_n dX2_warmBy_9 rfl rfl ?_
    refine y_bipush (v := 24) dX2_warmBy_10 (by decide) ?_
    refine y_icmp_ge (tgt := 121) dX2_warmBy_12 (by decide) (fun h12 => absurd h12 (nI_ge (a := 2 * k) (b := 24) (by omega) (by decide))) (fun h12 => ?_)
    refine y_iload_n dX2_warmBy_15 rfl rfl ?_
    refine y_iconst (v := 1) dX2_warmBy_16 (by decide) ?_
    refine y_iaddN (a := 2 * k) (b := 1) dX2_warmBy_17 rfl rfl ?_
    refine y_ist6_4 dX2_warmBy_18 rfl ?_
    refine y_aload_n dX2_warmBy_20 rfl rfl ?_
    refine y_getr dX2_warmBy_21 gf_X2_18 hD.1 rfl ?_
    refine y_iload dX2_warmBy_24 rfl ?_
    refine y_ialdN dX2_warmBy_26 hD.2.2.2.1 rfl (by first | omega | decide) (by decide) ?_
    rw [s_upS, hUp_o (by omega)]
    refine y_ist6_5 dX2_warmBy_27 rfl ?_
    refine y_iload_n dX2_warmBy_29 rfl rfl ?_
    refine y_if_eq (tgt := 39) dX2_warmBy_30 (by decide) (fun h30 => ?_) (fun h30 => ?_)
    · have hO : k = 0 ∨ k = 11 := by first | (have := (nI_eq (a := 2 * k) (b := 0) (by omega) (by decide)).mp h30; omega) | (have := (nI_eq (a := 2 * k) (b := 22) (by omega) (by decide)).mp h36; omega)
      refine y_aload_n dX2_warmBy_39 rfl rfl ?_
      refine y_getr dX2_warmBy_40 gf_X2_18 hD.1 rfl ?_
      refine y_iload dX2_warmBy_43 rfl ?_
      refine y_iload dX2_warmBy_45 rfl ?_
      refine y_iload_n dX2_warmBy_47 rfl rfl ?_
      refine y_iload dX2_warmBy_48 rfl ?_
      refine y_isub dX2_warmBy_50 ?_
      refine y_iconst (v := 2) dX2_warmBy_51 (by decide) ?_
      refine y_idiv dX2_warmBy_52 (by decide) ?_
      refine y_iadd dX2_warmBy_53 ?_
      refine y_iastN dX2_warmBy_54 hD.2.2.2.1 rfl (by first | omega | decide) (by decide) ?_
      refine y_goto (tgt := 93) dX2_warmBy_55 (by decide) ?_
      refine y_aload_n dX2_warmBy_93 rfl rfl ?_
      refine y_getr dX2_warmBy_94 gf_X2_18 hD.1 rfl ?_
      refine y_iload_n dX2_warmBy_97 rfl rfl ?_
      refine y_dup2 dX2_warmBy_98 rfl rfl ?_
      refine y_ialdN dX2_warmBy_99 hD.2.2.2.1 rfl (by first | omega | decide) (by decide) ?_
      rw [s_upS, updN (by omega), s_upS, hUp_o (by omega)]
      refine y_iload_n dX2_warmBy_100 rfl rfl ?_
      refine y_aload_n dX2_warmBy_101 rfl rfl ?_
      refine y_getr dX2_warmBy_102 gf_X2_18 hD.1 rfl ?_
      refine y_iload_n dX2_warmBy_105 rfl rfl ?_
      refine y_ialdN dX2_warmBy_106 hD.2.2.2.1 rfl (by first | omega | decide) (by decide) ?_
      rw [s_upS, updN (by omega), hUp_o (by omega)]
      refine y_isub dX2_warmBy_107 ?_
      refine y_iconst (v := 2) dX2_warmBy_108 (by decide) ?_
      refine y_idiv dX2_warmBy_109 (by decide) ?_
      refine y_iadd dX2_warmBy_110 ?_
      refine y_iastN dX2_warmBy_111 hD.2.2.2.1 rfl (by first | omega | decide) (by decide) ?_
      refine y_iload dX2_warmBy_112 rfl ?_
      refine y_ist6_2 dX2_warmBy_114 rfl ?_
      refine y_iinc6_3 dX2_warmBy_115 (by show nI (2 * k) + nI 2 = nI (2 * (k + 1)); rw [nI_add]; rfl) rfl ?_
      refine y_goto (tgt := 9) dX2_warmBy_118 (by decide) ?_
      refine sV_eq ?_ (hP _ _ _ rfl (fun _ => by rw [show 2 * (k + 1) - 1 = 2 * k + 1 by omega]))
      simp only [s_up2, s_upS]
      rw [show 2 * (k + 1) = 2 * k + 2 by omega, ← hUp2]
      congr 2
      · congr 1
        unfold heatC
        first | rw [if_pos (by omega)] | (rw [if_neg (by omega), hbl (by omega), show 2 * k + 1 - 2 = 2 * k - 1 by omega, show 2 * k + 1 - 1 = 2 * k by omega])
      · unfold heatC
        rw [if_pos (by omega)]
    · have h30 : ¬ 2 * k = 0 := fun z => h30 ((nI_eq (a := 2 * k) (b := 0) (by omega) (by decide)).mpr z)
      refine y_iload_n dX2_warmBy_33 rfl rfl ?_
      refine y_bipush (v := 22) dX2_warmBy_34 (by decide) ?_
      refine y_icmp_ne (tgt := 58) dX2_warmBy_36 (by decide) (fun h36 => ?_) (fun h36 => ?_)
      · have h36 : ¬ 2 * k = 22 := fun z => h36 ((nI_eq (a := 2 * k) (b := 22) (by omega) (by decide)).mpr z)
        have hO : ¬ (k = 0 ∨ k = 11) := by omega
        refine y_aload_n dX2_warmBy_58 rfl rfl ?_
        refine y_getr dX2_warmBy_59 gf_X2_18 hD.1 rfl ?_
        refine y_iload dX2_warmBy_62 rfl ?_
        refine y_iload dX2_warmBy_64 rfl ?_
        refine y_iload_n dX2_warmBy_66 rfl rfl ?_
        refine y_aload_n dX2_warmBy_67 rfl rfl ?_
        refine y_getr dX2_warmBy_68 gf_X2_18 hD.1 rfl ?_
        refine y_iload dX2_warmBy_71 rfl ?_
        refine y_iconst (v := 2) dX2_warmBy_73 (by decide) ?_
        refine y_iaddN (a := 2 * k + 1) (b := 2) dX2_warmBy_74 rfl rfl ?_
        refine y_ialdN dX2_warmBy_75 hD.2.2.2.1 rfl (by first | omega | decide) (by decide) ?_
        rw [s_upS, hUp_o (by omega)]
        refine y_iadd dX2_warmBy_76 ?_
        refine y_aload_n dX2_warmBy_77 rfl rfl ?_
        refine y_getr dX2_warmBy_78 gf_X2_18 hD.1 rfl ?_
        refine y_iload_n dX2_warmBy_81 rfl rfl ?_
        refine y_ialdN dX2_warmBy_82 hD.2.2.2.1 rfl (by first | omega | decide) (by decide) ?_
        rw [s_upS, hUp_o (by omega)]
        refine y_iadd dX2_warmBy_83 ?_
        refine y_iconst (v := 3) dX2_warmBy_84 (by decide) ?_
        refine y_iload dX2_warmBy_85 rfl ?_
        refine y_imul dX2_warmBy_87 ?_
        refine y_isub dX2_warmBy_88 ?_
        refine y_iconst (v := 4) dX2_warmBy_89 (by decide) ?_
        refine y_idiv dX2_warmBy_90 (by decide) ?_
        refine y_iadd dX2_warmBy_91 ?_
        refine y_iastN dX2_warmBy_92 hD.2.2.2.1 rfl (by first | omega | decide) (by decide) ?_
        refine y_aload_n dX2_warmBy_93 rfl rfl ?_
        refine y_getr dX2_warmBy_94 gf_X2_18 hD.1 rfl ?_
        refine y_iload_n dX2_warmBy_97 rfl rfl ?_
        refine y_dup2 dX2_warmBy_98 rfl rfl ?_
        refine y_ialdN dX2_warmBy_99 hD.2.2.2.1 rfl (by first | omega | decide) (by decide) ?_
        rw [s_upS, updN (by omega), s_upS, hUp_o (by omega)]
        refine y_iload_n dX2_warmBy_100 rfl rfl ?_
        refine y_aload_n dX2_warmBy_101 rfl rfl ?_
        refine y_getr dX2_warmBy_102 gf_X2_18 hD.1 rfl ?_
        refine y_iload_n dX2_warmBy_105 rfl rfl ?_
        refine y_ialdN dX2_warmBy_106 hD.2.2.2.1 rfl (by first | omega | decide) (by decide) ?_
        rw [s_upS, updN (by omega), hUp_o (by omega)]
        refine y_isub dX2_warmBy_107 ?_
        refine y_iconst (v := 2) dX2_warmBy_108 (by decide) ?_
        refine y_idiv dX2_warmBy_109 (by decide) ?_
        refine y_iadd dX2_warmBy_110 ?_
        refine y_iastN dX2_warmBy_111 hD.2.2.2.1 rfl (by first | omega | decide) (by decide) ?_
        refine y_iload dX2_warmBy_112 rfl ?_
        refine y_ist6_2 dX2_warmBy_114 rfl ?_
        refine y_iinc6_3 dX2_warmBy_115 (by show nI (2 * k) + nI 2 = nI (2 * (k + 1)); rw [nI_add]; rfl) rfl ?_
        refine y_goto (tgt := 9) dX2_warmBy_118 (by decide) ?_
        refine sV_eq ?_ (hP _ _ _ rfl (fun _ => by rw [show 2 * (k + 1) - 1 = 2 * k + 1 by omega]))
        simp only [s_up2, s_upS]
        rw [show 2 * (k + 1) = 2 * k + 2 by omega, ← hUp2]
        congr 2
        · congr 1
          unfold heatC
          first | rw [if_pos (by omega)] | (rw [if_neg (by omega), hbl (by omega), show 2 * k + 1 - 2 = 2 * k - 1 by omega, show 2 * k + 1 - 1 = 2 * k by omega])
        · unfold heatC
          rw [if_pos (by omega)]
      · have hO : k = 0 ∨ k = 11 := by first | (have := (nI_eq (a := 2 * k) (b := 0) (by omega) (by decide)).mp h30; omega) | (have := (nI_eq (a := 2 * k) (b := 22) (by omega) (by decide)).mp h36; omega)
        refine y_aload_n dX2_warmBy_39 rfl rfl ?_
        refine y_getr dX2_warmBy_40 gf_X2_18 hD.1 rfl ?_
        refine y_iload dX2_warmBy_43 rfl ?_
        refine y_iload dX2_warmBy_45 rfl ?_
        refine y_iload_n dX2_warmBy_47 rfl rfl ?_
        refine y_iload dX2_warmBy_48 rfl ?_
        refine y_isub dX2_warmBy_50 ?_
        refine y_iconst (v := 2) dX2_warmBy_51 (by decide) ?_
        refine y_idiv dX2_warmBy_52 (by decide) ?_
        refine y_iadd dX2_warmBy_53 ?_
        refine y_iastN dX2_warmBy_54 hD.2.2.2.1 rfl (by first | omega | decide) (by decide) ?_
        refine y_goto (tgt := 93) dX2_warmBy_55 (by decide) ?_
        refine y_aload_n dX2_warmBy_93 rfl rfl ?_
        refine y_getr dX2_warmBy_94 gf_X2_18 hD.1 rfl ?_
        refine y_iload_n dX2_warmBy_97 rfl rfl ?_
        refine y_dup2 dX2_warmBy_98 rfl rfl ?_
        refine y_ialdN dX2_warmBy_99 hD.2.2.2.1 rfl (by first | omega | decide) (by decide) ?_
        rw [s_upS, updN (by omega), s_upS, hUp_o (by omega)]
        refine y_iload_n dX2_warmBy_100 rfl rfl ?_
        refine y_aload_n dX2_warmBy_101 rfl rfl ?_
        refine y_getr dX2_warmBy_102 gf_X2_18 hD.1 rfl ?_
        refine y_iload_n dX2_warmBy_105 rfl rfl ?_
        refine y_ialdN dX2_warmBy_106 hD.2.2.2.1 rfl (by first | omega | decide) (by decide) ?_
        rw [s_upS, updN (by omega), hUp_o (by omega)]
        refine y_isub dX2_warmBy_107 ?_
        refine y_iconst (v := 2) dX2_warmBy_108 (by decide) ?_
        refine y_idiv dX2_warmBy_109 (by decide) ?_
        refine y_iadd dX2_warmBy_110 ?_
        refine y_iastN dX2_warmBy_111 hD.2.2.2.1 rfl (by first | omega | decide) (by decide) ?_
        refine y_iload dX2_warmBy_112 rfl ?_
        refine y_ist6_2 dX2_warmBy_114 rfl ?_
        refine y_iinc6_3 dX2_warmBy_115 (by show nI (2 * k) + nI 2 = nI (2 * (k + 1)); rw [nI_add]; rfl) rfl ?_
        refine y_goto (tgt := 9) dX2_warmBy_118 (by decide) ?_
        refine sV_eq ?_ (hP _ _ _ rfl (fun _ => by rw [show 2 * (k + 1) - 1 = 2 * k + 1 by omega]))
        simp only [s_up2, s_upS]
        rw [show 2 * (k + 1) = 2 * k + 2 by omega, ← hUp2]
        congr 2
        · congr 1
          unfold heatC
          first | rw [if_pos (by omega)] | (rw [if_neg (by omega), hbl (by omega), show 2 * k + 1 - 2 = 2 * k - 1 by omega, show 2 * k + 1 - 1 = 2 * k by omega])
        · unfold heatC
          rw [if_pos (by omega)]
set_option maxHeartbeats 1000000 in
theorem c_X3_note {L : Nat} {xs : Nat → Int32} {d : Nat} {m : sM} {n : sN} {Q : sQ} {L0 c q : Nat} {x kind mark : Int32} (hL : isLf L0) (hx : x = nI c) (hc : c < 24) (hq : m (L0 + 7) 5 = nI q) (hq2 : q < 24) (hQ : Q none (noteM L0 q c kind mark m) n) : sRun (scT L xs) (d + 1) yX3_note cX3_note 6 none [.ref (L0 + 13), .ref (L0 + 7), .int x, .int kind, .int mark] m n Q := by
  subst hx
  refine y_run (own := "LoafFall$Falls") rfl (by decide +kernel) (Nat.le_of_ble_eq_true rfl) rfl ?_
  refine y_aload_n dX3_note_0 rfl rfl ?_
  refine y_geti dX3_note_1 gf_X3_33 hL.2.2.2.1.1 rfl ?_
  rw [hq]
  refine y_ist6_5 dX3_note_4 rfl ?_
  refine y_iload dX3_note_6 rfl ?_
  refine y_bipush (v := 24) dX3_note_8 (by decide) ?_
  refine y_icmp_lt (tgt := 14) dX3_note_10 (by decide) (fun h10 => ?_) (fun h10 => absurd (nI_lt (a := q) (b := 24) hq2 (by decide)) h10)
  refine y_aload_n dX3_note_14 rfl rfl ?_
  refine y_getr dX3_note_15 gf_X3_9 hL.2.2.2.2.1 rfl ?_
  refine y_iload dX3_note_18 rfl ?_
  refine y_iload_n dX3_note_20 rfl rfl ?_
  refine y_iastN dX3_note_21 hL.2.2.2.2.2.1 rfl (by first | omega | decide) (by decide) ?_
  refine y_aload_n dX3_note_22 rfl rfl ?_
  refine y_getr dX3_note_23 gf_X3_15 hL.2.2.2.2.1 rfl ?_
  refine y_iload dX3_note_26 rfl ?_
  refine y_iload_n dX3_note_28 rfl rfl ?_
  refine y_iastN dX3_note_29 hL.2.2.2.2.2.2.1 rfl (by first | omega | decide) (by decide) ?_
  refine y_aload_n dX3_note_30 rfl rfl ?_
  refine y_getr dX3_note_31 gf_X3_18 hL.2.2.2.2.1 rfl ?_
  refine y_iload dX3_note_34 rfl ?_
  refine y_aload_n dX3_note_36 rfl rfl ?_
  refine y_getr dX3_note_37 gf_X3_39 hL.2.2.2.1.1 rfl ?_
  refine y_iload_n dX3_note_40 rfl rfl ?_
  refine y_ialdN dX3_note_41 hL.2.2.2.1.2.1 rfl (by first | omega | decide) (by decide) ?_
  rw [s_upN (by omega), s_upN (by omega)]
  refine y_iastN dX3_note_42 hL.2.2.2.2.2.2.2.1 rfl (by first | omega | decide) (by decide) ?_
  refine y_aload_n dX3_note_43 rfl rfl ?_
  refine y_getr dX3_note_44 gf_X3_21 hL.2.2.2.2.1 rfl ?_
  refine y_iload dX3_note_47 rfl ?_
  refine y_aload_n dX3_note_49 rfl rfl ?_
  refine y_geti dX3_note_50 gf_X3_42 hL.2.2.2.1.1 rfl ?_
  rw [s_upN (by omega), s_upN (by omega), s_upN (by omega)]
  refine y_iastN dX3_note_53 hL.2.2.2.2.2.2.2.2.1 rfl (by first | omega | decide) (by decide) ?_
  refine y_aload_n dX3_note_54 rfl rfl ?_
  refine y_getr dX3_note_55 gf_X3_24 hL.2.2.2.2.1 rfl ?_
  refine y_iload dX3_note_58 rfl ?_
  refine y_iload dX3_note_60 rfl ?_
  refine y_iastN dX3_note_62 hL.2.2.2.2.2.2.2.2.2 rfl (by first | omega | decide) (by decide) ?_
  refine y_return dX3_note_63 rfl ?_
  refine sQ_eq rfl ?_ hQ
  unfold noteM
  simp only [s_up_ap, Nat.add_left_cancel_iff, Nat.reduceEqDiff, reduceIte]
set_option maxHeartbeats 1000000 in
theorem c_X2_tearOpen {L : Nat} {xs : Nat → Int32} {d : Nat} {m : sM} {n : sN} {Q : sQ} {L0 c : Nat} {x : Int32} (hL : isLf L0) (hx : x = nI c) (hc : c < 24) (hQ : Q none (openM L0 c m) n) : sRun (scT L xs) (d + 1) yX2_tearOpen cX2_tearOpen 3 none [.ref (L0 + 7), .int x] m n Q := by
  subst hx
  refine y_run (own := "LoafFall$Dough") rfl (by decide +kernel) (Nat.le_of_ble_eq_true rfl) rfl ?_
  refine y_iload_n dX2_tearOpen_0 rfl rfl ?_
  refine y_iconst (v := 2) dX2_tearOpen_1 (by decide) ?_
  refine y_iaddN (a := c) (b := 2) dX2_tearOpen_2 rfl rfl ?_
  refine y_ist3_2 dX2_tearOpen_3 rfl ?_
  refine y_iload_n dX2_tearOpen_4 rfl rfl ?_
  refine y_bipush (v := 24) dX2_tearOpen_5 (by decide) ?_
  refine y_icmp_ge (tgt := 36) dX2_tearOpen_7 (by decide) (fun h7 => ?_) (fun h7 => ?_)
  · refine y_aload_n dX2_tearOpen_36 rfl rfl ?_
    refine y_getr dX2_tearOpen_37 gf_X2_9 hL.2.2.2.1.1 rfl ?_
    refine y_iload_n dX2_tearOpen_40 rfl rfl ?_
    refine y_iconst (v := 0) dX2_tearOpen_41 (by decide) ?_
    refine y_iastN dX2_tearOpen_42 hL.2.2.2.1.2.1 rfl (by first | omega | decide) (by decide) ?_
    refine y_aload_n dX2_tearOpen_43 rfl rfl ?_
    refine y_getr dX2_tearOpen_44 gf_X2_24 hL.2.2.2.1.1 rfl ?_
    refine y_iload_n dX2_tearOpen_47 rfl rfl ?_
    refine y_iconst (v := 1) dX2_tearOpen_48 (by decide) ?_
    refine y_iastN dX2_tearOpen_49 hL.2.2.2.1.2.2.2.2.2 rfl (by first | omega | decide) (by decide) ?_
    refine y_aload_n dX2_tearOpen_50 rfl rfl ?_
    refine y_dup dX2_tearOpen_51 rfl ?_
    refine y_geti dX2_tearOpen_52 gf_X2_27 hL.2.2.2.1.1 rfl ?_
    refine y_iconst (v := 1) dX2_tearOpen_55 (by decide) ?_
    refine y_iadd dX2_tearOpen_56 ?_
    refine y_puti dX2_tearOpen_57 pf_X2_27 hL.2.2.2.1.1 rfl rfl rfl ?_
    refine y_return dX2_tearOpen_60 rfl ?_
    refine sQ_eq rfl ?_ hQ
    unfold openM openG
    first
      | (have hk2 := (nI_leI (a := 24) (b := c + 2) (by decide) (by omega)).mp h7
         rw [if_neg (fun z => absurd z.1 (by omega))])
      | (have hk2 : ¬ 24 ≤ c + 2 := fun z => h7 ((nI_leI (a := 24) (b := c + 2) (by decide) (by omega)).mpr z)
         rw [if_pos ⟨by omega, h16⟩, s_up2])
      | rw [if_neg (fun z => h16 z.2)]
    simp only [s_up_ap, Nat.add_left_cancel_iff, Nat.reduceEqDiff, reduceIte]
  · have hc2 : ¬ 24 ≤ c + 2 := fun z => h7 ((nI_leI (a := 24) (b := c + 2) (by decide) (by omega)).mpr z)
    refine y_aload_n dX2_tearOpen_10 rfl rfl ?_
    refine y_getr dX2_tearOpen_11 gf_X2_24 hL.2.2.2.1.1 rfl ?_
    refine y_iload_n dX2_tearOpen_14 rfl rfl ?_
    refine y_ialdN dX2_tearOpen_15 hL.2.2.2.1.2.2.2.2.2 rfl (by first | omega | decide) (by decide) ?_
    refine y_if_ne (tgt := 36) dX2_tearOpen_16 (by decide) (fun h16 => ?_) (fun h16 => ?_)
    · refine y_aload_n dX2_tearOpen_36 rfl rfl ?_
      refine y_getr dX2_tearOpen_37 gf_X2_9 hL.2.2.2.1.1 rfl ?_
      refine y_iload_n dX2_tearOpen_40 rfl rfl ?_
      refine y_iconst (v := 0) dX2_tearOpen_41 (by decide) ?_
      refine y_iastN dX2_tearOpen_42 hL.2.2.2.1.2.1 rfl (by first | omega | decide) (by decide) ?_
      refine y_aload_n dX2_tearOpen_43 rfl rfl ?_
      refine y_getr dX2_tearOpen_44 gf_X2_24 hL.2.2.2.1.1 rfl ?_
      refine y_iload_n dX2_tearOpen_47 rfl rfl ?_
      refine y_iconst (v := 1) dX2_tearOpen_48 (by decide) ?_
      refine y_iastN dX2_tearOpen_49 hL.2.2.2.1.2.2.2.2.2 rfl (by first | omega | decide) (by decide) ?_
      refine y_aload_n dX2_tearOpen_50 rfl rfl ?_
      refine y_dup dX2_tearOpen_51 rfl ?_
      refine y_geti dX2_tearOpen_52 gf_X2_27 hL.2.2.2.1.1 rfl ?_
      refine y_iconst (v := 1) dX2_tearOpen_55 (by decide) ?_
      refine y_iadd dX2_tearOpen_56 ?_
      refine y_puti dX2_tearOpen_57 pf_X2_27 hL.2.2.2.1.1 rfl rfl rfl ?_
      refine y_return dX2_tearOpen_60 rfl ?_
      refine sQ_eq rfl ?_ hQ
      unfold openM openG
      first
        | (have hk2 := (nI_leI (a := 24) (b := c + 2) (by decide) (by omega)).mp h7
           rw [if_neg (fun z => absurd z.1 (by omega))])
        | (have hk2 : ¬ 24 ≤ c + 2 := fun z => h7 ((nI_leI (a := 24) (b := c + 2) (by decide) (by omega)).mpr z)
           rw [if_pos ⟨by omega, h16⟩, s_up2])
        | rw [if_neg (fun z => h16 z.2)]
      simp only [s_up_ap, Nat.add_left_cancel_iff, Nat.reduceEqDiff, reduceIte]
    · refine y_aload_n dX2_tearOpen_19 rfl rfl ?_
      refine y_getr dX2_tearOpen_20 gf_X2_9 hL.2.2.2.1.1 rfl ?_
      refine y_iload_n dX2_tearOpen_23 rfl rfl ?_
      refine y_dup2 dX2_tearOpen_24 rfl rfl ?_
      refine y_ialdN dX2_tearOpen_25 hL.2.2.2.1.2.1 rfl (by first | omega | decide) (by decide) ?_
      refine y_aload_n dX2_tearOpen_26 rfl rfl ?_
      refine y_getr dX2_tearOpen_27 gf_X2_9 hL.2.2.2.1.1 rfl ?_
      refine y_iload_n dX2_tearOpen_30 rfl rfl ?_
      refine y_ialdN dX2_tearOpen_31 hL.2.2.2.1.2.1 rfl (by first | omega | decide) (by decide) ?_
      refine y_iconst (v := 2) dX2_tearOpen_32 (by decide) ?_
      refine y_idiv dX2_tearOpen_33 (by decide) ?_
      refine y_iadd dX2_tearOpen_34 ?_
      refine y_iastN dX2_tearOpen_35 hL.2.2.2.1.2.1 rfl (by first | omega | decide) (by decide) ?_
      refine y_aload_n dX2_tearOpen_36 rfl rfl ?_
      refine y_getr dX2_tearOpen_37 gf_X2_9 hL.2.2.2.1.1 rfl ?_
      refine y_iload_n dX2_tearOpen_40 rfl rfl ?_
      refine y_iconst (v := 0) dX2_tearOpen_41 (by decide) ?_
      refine y_iastN dX2_tearOpen_42 hL.2.2.2.1.2.1 rfl (by first | omega | decide) (by decide) ?_
      refine y_aload_n dX2_tearOpen_43 rfl rfl ?_
      refine y_getr dX2_tearOpen_44 gf_X2_24 hL.2.2.2.1.1 rfl ?_
      refine y_iload_n dX2_tearOpen_47 rfl rfl ?_
      refine y_iconst (v := 1) dX2_tearOpen_48 (by decide) ?_
      refine y_iastN dX2_tearOpen_49 hL.2.2.2.1.2.2.2.2.2 rfl (by first | omega | decide) (by decide) ?_
      refine y_aload_n dX2_tearOpen_50 rfl rfl ?_
      refine y_dup dX2_tearOpen_51 rfl ?_
      refine y_geti dX2_tearOpen_52 gf_X2_27 hL.2.2.2.1.1 rfl ?_
      refine y_iconst (v := 1) dX2_tearOpen_55 (by decide) ?_
      refine y_iadd dX2_tearOpen_56 ?_
      refine y_puti dX2_tearOpen_57 pf_X2_27 hL.2.2.2.1.1 rfl rfl rfl ?_
      refine y_return dX2_tearOpen_60 rfl ?_
      refine sQ_eq rfl ?_ hQ
      unfold openM openG
      first
        | (have hk2 := (nI_leI (a := 24) (b := c + 2) (by decide) (by omega)).mp h7
           rw [if_neg (fun z => absurd z.1 (by omega))])
        | (have hk2 : ¬ 24 ≤ c + 2 := fun z => h7 ((nI_leI (a := 24) (b := c + 2) (by decide) (by omega)).mpr z)
           rw [if_pos ⟨by omega, h16⟩, s_up2])
        | rw [if_neg (fun z => h16 z.2)]
      simp only [s_up_ap, Nat.add_left_cancel_iff, Nat.reduceEqDiff, reduceIte]
/-! a tear, place by place -/
theorem tearF_gas {q c k : Nat} {kind : Int32} {R : Nat → Int32} (hk : k < 24) : tearF q c kind R (41 + 5 * k + 0) = if k = c then 0 else if k = c + 2 ∧ R (41 + 5 * (c + 2) + 4) = 0 then R (41 + 5 * k + 0) + R (41 + 5 * c + 0) / 2 else R (41 + 5 * k + 0) := by
  unfold tearF
  rw [updN (by omega)]
  by_cases e : k = c
  · rw [if_pos e, e, updS]
  · rw [if_neg e, updN (by omega)]
    by_cases e2 : k = c + 2
    · subst e2
      unfold tearG
      rw [tearL_o (p := 41 + 5 * (c + 2) + 4) (by omega) (by omega), tearL_o (p := 41 + 5 * (c + 2) + 0) (by omega) (by omega)]
      by_cases e3 : R (41 + 5 * (c + 2) + 4) = 0
      · rw [if_pos ⟨hk, e3⟩, if_pos ⟨rfl, e3⟩, updS]
      · rw [if_neg (fun z => e3 z.2), if_neg (fun z => e3 z.2), tearL_o (by omega) (by omega)]
    · rw [if_neg (fun z => e2 z.1), tearG_o (by omega), tearL_o (by omega) (by omega)]
theorem tearF_mid {q c k i : Nat} {kind : Int32} {R : Nat → Int32} (hk : k < 24) (h1 : 1 ≤ i) (h3 : i ≤ 3) : tearF q c kind R (41 + 5 * k + i) = R (41 + 5 * k + i) := by
  unfold tearF
  rw [updN (by omega), updN (by omega), tearG_o (by omega), tearL_o (by omega) (by omega)]
theorem tearF_old {q c p : Nat} {kind : Int32} {R : Nat → Int32} (hc : c < 24) (h : 161 ≤ p) (h2 : p < 161 + 7 * q) : tearF q c kind R p = R p := by
  unfold tearF
  rw [updN (by omega), updN (by omega)]
  have e : tearL q c kind R p = R p := by
    unfold tearL
    try dsimp only
    rw [updN (by omega), updN (by omega), updN (by omega), updN (by omega), updN (by omega), updN (by omega), updN (by omega), updN (by omega)]
  unfold tearG
  split
  · rw [updN (by omega)]; exact e
  · exact e
theorem tearF_new {q c i : Nat} {kind : Int32} {R : Nat → Int32} (hc : c < 24) (hi : i < 7) : tearF q c kind R (161 + 7 * q + i) = if i = 0 then kind else if i = 1 then nI c else if i = 2 then R (41 + 5 * c + 0) else if i = 3 then R 38 else R (41 + 5 * c + (i - 3)) := by
  unfold tearF
  rw [updN (by omega), updN (by omega)]
  have e : tearG (R (41 + 5 * c + 0)) c (tearL q c kind R) (161 + 7 * q + i) = tearL q c kind R (161 + 7 * q + i) := by
    unfold tearG
    split
    · rw [updN (by omega)]
    · rfl
  rw [e]
  unfold tearL
  try dsimp only
  rw [updN (show 161 + 7 * q + i ≠ 40 by omega)]
  match i, hi with
  | 0, _ => rw [if_pos rfl, updN (by omega), updN (by omega), updN (by omega), updN (by omega), updN (by omega), updN (by omega)]; exact updS
  | 1, _ => rw [if_neg (by omega), if_pos rfl, updN (by omega), updN (by omega), updN (by omega), updN (by omega), updN (by omega), updS]
  | 2, _ => rw [if_neg (by omega), if_neg (by omega), if_pos rfl, updN (by omega), updN (by omega), updN (by omega), updN (by omega), updS]
  | 3, _ =>
    rw [if_neg (by omega), if_neg (by omega), if_neg (by omega), if_pos rfl, updN (by omega), updN (by omega), updN (by omega), updS]
    rw [updN (by omega), updN (by omega), updN (by omega)]
  | 4, _ =>
    rw [if_neg (by omega), if_neg (by omega), if_neg (by omega), if_neg (by omega), updN (by omega), updN (by omega), updS]
    rw [updN (by omega), updN (by omega), updN (by omega), updN (by omega)]
  | 5, _ =>
    rw [if_neg (by omega), if_neg (by omega), if_neg (by omega), if_neg (by omega), updN (by omega), updS]
    rw [updN (by omega), updN (by omega), updN (by omega), updN (by omega), updN (by omega)]
  | 6, _ =>
    rw [if_neg (by omega), if_neg (by omega), if_neg (by omega), if_neg (by omega), updS]
    rw [updN (by omega), updN (by omega), updN (by omega), updN (by omega), updN (by omega), updN (by omega)]
theorem qOf_tear {q c : Nat} {kind : Int32} {R : Nat → Int32} (hw : wfR R) (hq : qOf R < 24) : qOf (tearF q c kind R) = qOf R + 1 := by
  have h := (wfR_q hw).1
  show (tearF q c kind R 40).toNatClampNeg = _
  rw [tearF_40, h, nI_1, nI_clamp (by omega)]
theorem LR_tear {m : sM} {L c : Nat} {R : Nat → Int32} {kind mark : Int32} (hLR : LR m L R) (hw : wfR R) (hc : c < 24) (h0 : R (41 + 5 * c + 4) = 0) (hmk : mark = mkOf kind (R (41 + 5 * c + 0)) (R (41 + 5 * c + 1)) (R (41 + 5 * c + 2)) (R (41 + 5 * c + 3))) :
    LR (openM L c (noteM L (qOf R) c kind mark m)) L (tearF (qOf R) c kind R) ∧ LF m (openM L c (noteM L (qOf R) c kind mark m)) L := by
  obtain ⟨r1, r2, r3, r4, r5, r6⟩ := hLR
  have hq := wfR_lt hw hc h0
  have hq2 := qOf_tear (q := qOf R) (c := c) (kind := kind) hw hq
  have g8 : ∀ k, noteM L (qOf R) c kind mark m (L + 8) k = m (L + 8) k := fun k => by simp only [noteM, s_up_ap, Nat.add_left_cancel_iff, Nat.reduceEqDiff, reduceIte]
  have g12 : ∀ k, noteM L (qOf R) c kind mark m (L + 12) k = m (L + 12) k := fun k => by simp only [noteM, s_up_ap, Nat.add_left_cancel_iff, Nat.reduceEqDiff, reduceIte]
  have g7 : ∀ k, noteM L (qOf R) c kind mark m (L + 7) k = m (L + 7) k := fun k => by simp only [noteM, s_up_ap, Nat.add_left_cancel_iff, Nat.reduceEqDiff, reduceIte]
  generalize hN : noteM L (qOf R) c kind mark m = N at g8 g12 g7
  have o8 : openM L c N (L + 8) = upd (openG L c N) c 0 := by simp only [openM, s_up_ap, Nat.add_left_cancel_iff, Nat.reduceEqDiff, reduceIte]
  have o12 : openM L c N (L + 12) = upd (N (L + 12)) c 1 := by simp only [openM, s_up_ap, Nat.add_left_cancel_iff, Nat.reduceEqDiff, reduceIte]
  have o7 : openM L c N (L + 7) = upd (N (L + 7)) 5 (N (L + 7) 5 + 1) := by simp only [openM, s_up_ap, Nat.add_left_cancel_iff, Nat.reduceEqDiff, reduceIte]
  have oo : ∀ a, a ≠ L + 8 → a ≠ L + 12 → a ≠ L + 7 → openM L c N a = N a := fun a h1 h2 h3 => by unfold openM; rw [s_upN h3, s_upN h2, s_upN h1]
  have no : ∀ a, (a < L + 14 ∨ L + 19 ≤ a) → N a = m a := fun a h => by rw [← hN]; unfold noteM; rw [s_upN (by omega), s_upN (by omega), s_upN (by omega), s_upN (by omega), s_upN (by omega)]
  refine ⟨⟨fun i hi => ?_, fun k hk => ⟨?_, ?_, ?_, ?_, ?_⟩, ?_, ?_, ?_, fun k hk => ?_⟩, fun a ha => ?_, ?_, ?_⟩
  · rw [oo _ (by omega) (by omega) (by omega), no _ (by omega), r1 i hi, tearF_low (by omega)]
  · rw [o8, tearF_gas hk]
    by_cases e : k = c
    · rw [if_pos e, e, updS]
    · rw [if_neg e, updN e]
      unfold openG
      by_cases e2 : k = c + 2
      · subst e2
        rw [g12, (r2 (c + 2) hk).2.2.2.2]
        by_cases e3 : R (41 + 5 * (c + 2) + 4) = 0
        · rw [if_pos ⟨hk, e3⟩, if_pos ⟨rfl, e3⟩, updS, g8, g8, (r2 (c + 2) hk).1, (r2 c hc).1]
        · rw [if_neg (fun z => e3 z.2), if_neg (fun z => e3 z.2), g8, (r2 (c + 2) hk).1]
      · rw [if_neg (show ¬ (k = c + 2 ∧ R (41 + 5 * (c + 2) + 4) = 0) from fun z => e2 z.1)]
        split
        · rw [updN e2, g8, (r2 k hk).1]
        · rw [g8, (r2 k hk).1]
  · rw [oo _ (by omega) (by omega) (by omega), no _ (by omega), (r2 k hk).2.1, tearF_mid hk (by omega) (by omega)]
  · rw [oo _ (by omega) (by omega) (by omega), no _ (by omega), (r2 k hk).2.2.1, tearF_mid hk (by omega) (by omega)]
  · rw [oo _ (by omega) (by omega) (by omega), no _ (by omega), (r2 k hk).2.2.2.1, tearF_mid hk (by omega) (by omega)]
  · rw [o12]
    by_cases e : k = c
    · rw [e, updS, tearF_t]
    · rw [updN e, g12, (r2 k hk).2.2.2.2, tearF_to hk e]
  · rw [o7, updS, g7, r3, tearF_40]
  · rw [o7, updN (by omega), g7, r4, tearF_low (by omega)]
  · rw [o7, updN (by omega), g7, r5, tearF_low (by omega)]
  · rw [hq2] at hk
    rw [oo _ (by omega) (by omega) (by omega), oo _ (by omega) (by omega) (by omega), oo _ (by omega) (by omega) (by omega), oo _ (by omega) (by omega) (by omega), oo _ (by omega) (by omega) (by omega)]
    have n14 : N (L + 14) = upd (m (L + 14)) (qOf R) kind := by rw [← hN]; simp only [noteM, s_up_ap, Nat.add_left_cancel_iff, Nat.reduceEqDiff, reduceIte]
    have n15 : N (L + 15) = upd (m (L + 15)) (qOf R) (nI c) := by rw [← hN]; simp only [noteM, s_up_ap, Nat.add_left_cancel_iff, Nat.reduceEqDiff, reduceIte]
    have n16 : N (L + 16) = upd (m (L + 16)) (qOf R) (m (L + 8) c) := by rw [← hN]; simp only [noteM, s_up_ap, Nat.add_left_cancel_iff, Nat.reduceEqDiff, reduceIte]
    have n17 : N (L + 17) = upd (m (L + 17)) (qOf R) (m (L + 7) 6) := by rw [← hN]; simp only [noteM, s_up_ap, Nat.add_left_cancel_iff, Nat.reduceEqDiff, reduceIte]
    have n18 : N (L + 18) = upd (m (L + 18)) (qOf R) mark := by rw [← hN]; simp only [noteM, s_up_ap, Nat.add_left_cancel_iff, Nat.reduceEqDiff, reduceIte]
    rw [n14, n15, n16, n17, n18]
    unfold mkF
    by_cases e : k = qOf R
    · subst e
      rw [updS, updS, updS, updS, updS]
      have t0 := tearF_new (q := qOf R) (c := c) (i := 0) (kind := kind) (R := R) hc (by omega)
      rw [if_pos rfl] at t0
      have t1 := tearF_new (q := qOf R) (c := c) (i := 1) (kind := kind) (R := R) hc (by omega)
      have t2 := tearF_new (q := qOf R) (c := c) (i := 2) (kind := kind) (R := R) hc (by omega)
      have t3 := tearF_new (q := qOf R) (c := c) (i := 3) (kind := kind) (R := R) hc (by omega)
      have t4 := tearF_new (q := qOf R) (c := c) (i := 4) (kind := kind) (R := R) hc (by omega)
      have t5 := tearF_new (q := qOf R) (c := c) (i := 5) (kind := kind) (R := R) hc (by omega)
      have t6 := tearF_new (q := qOf R) (c := c) (i := 6) (kind := kind) (R := R) hc (by omega)
      rw [if_neg (by decide), if_pos rfl] at t1
      rw [if_neg (by decide), if_neg (by decide), if_pos rfl] at t2
      rw [if_neg (by decide), if_neg (by decide), if_neg (by decide), if_pos rfl] at t3
      rw [if_neg (by decide), if_neg (by decide), if_neg (by decide), if_neg (by decide)] at t4 t5 t6
      have t0' : tearF (qOf R) c kind R (161 + 7 * qOf R) = kind := t0
      rw [t0', t1, t2, t3, t4, t5, t6, (r2 c hc).1, r4, hmk]
      exact ⟨rfl, rfl, rfl, rfl, rfl⟩
    · have hk2 : k < qOf R := by omega
      rw [updN e, updN e, updN e, updN e, updN e]
      rw [tearF_old hc (by omega) (by omega), tearF_old hc (by omega) (by omega), tearF_old hc (by omega) (by omega), tearF_old hc (by omega) (by omega), tearF_old hc (by omega) (by omega), tearF_old hc (by omega) (by omega), tearF_old hc (by omega) (by omega)]
      exact r6 k hk2
  · rw [oo _ (by omega) (by omega) (by omega), no _ (by omega)]
  · rw [o7, updN (by omega), g7]
  · rw [o7, updN (by omega), g7]

set_option maxHeartbeats 1000000 in
theorem c_X6_tearAs {L : Nat} {xs : Nat → Int32} {d : Nat} {m : sM} {n : sN} {Q : sQ} {L0 c : Nat} {R : Nat → Int32} {x kind mark : Int32} (hL : isLf L0) (hLR : LR m L0 R) (hw : wfR R) (hx : x = nI c) (hc : c < 24) (h0 : R (41 + 5 * c + 4) = 0) (hmk : mark = mkOf kind (R (41 + 5 * c + 0)) (R (41 + 5 * c + 1)) (R (41 + 5 * c + 2)) (R (41 + 5 * c + 3))) (hQ : ∀ m', LR m' L0 (tearF (qOf R) c kind R) → LF m m' L0 → Q none m' n) : sRun (scT L xs) (d + 2) yX6_tearAs cX6_tearAs 4 none [.ref L0, .int x, .int kind, .int mark] m n Q := by
  subst hx
  have hq1 := wfR_q hw
  have hq2 := wfR_lt hw hc h0
  obtain ⟨e1, e2⟩ := LR_tear hLR hw hc h0 hmk
  refine y_run (own := "LoafFall$Loaf") rfl (by decide +kernel) (Nat.le_of_ble_eq_true rfl) rfl ?_
  refine y_aload_n dX6_tearAs_0 rfl rfl ?_
  refine y_getr dX6_tearAs_1 gf_X6_35 hL.1 rfl ?_
  refine y_aload_n dX6_tearAs_4 rfl rfl ?_
  refine y_getr dX6_tearAs_5 gf_X6_28 hL.1 rfl ?_
  refine y_iload_n dX6_tearAs_8 rfl rfl ?_
  refine y_iload_n dX6_tearAs_9 rfl rfl ?_
  refine y_iload_n dX6_tearAs_10 rfl rfl ?_
  refine y_ivV4 dX6_tearAs_11 mv_X6_152 my_X3_note (Or.inl rfl) hL.2.2.2.2.1 ?_
  refine c_X3_note hL (q := qOf R) rfl hc (hLR.2.2.1.trans hq1.1) hq2 ⟨rfl, ?_⟩
  refine y_aload_n dX6_tearAs_14 rfl rfl ?_
  refine y_getr dX6_tearAs_15 gf_X6_28 hL.1 rfl ?_
  refine y_iload_n dX6_tearAs_18 rfl rfl ?_
  refine y_ivV1 dX6_tearAs_19 mv_X6_156 my_X2_tearOpen (Or.inl rfl) hL.2.2.2.1.1 ?_
  refine c_X2_tearOpen hL rfl hc ⟨rfl, ?_⟩
  refine y_return dX6_tearAs_22 rfl ?_
  exact hQ _ e1 e2
