/-! ===== one change of a doing ===== -/
def shl (f : Nat → Int32) (l k : Nat) : Nat → Int32 := fun i => if l ≤ i ∧ i < k then f (i + 1) else f i
def SH (m m' : sM) (a l k : Nat) : Prop := (∀ c, c < a + 1 ∨ a + 4 ≤ c → m' c = m c) ∧ ∀ i, m' (a + 1) i = shl (m (a + 1)) l k i ∧ m' (a + 2) i = shl (m (a + 2)) l k i ∧ m' (a + 3) i = shl (m (a + 3)) l k i
theorem shl_0 {f : Nat → Int32} {l i : Nat} : f i = shl f l l i := by
  unfold shl
  rw [if_neg (by omega)]
theorem shl_S {f g : Nat → Int32} {l k i : Nat} (hl : l ≤ k) (h : ∀ i, g i = shl f l k i) : (if i = k then g (k + 1) else g i) = shl f l (k + 1) i := by
  rw [h, h]
  unfold shl
  by_cases e : i = k
  · rw [if_pos e, if_neg (by omega), if_pos (by omega), e]
  · rw [if_neg e]
    by_cases q : l ≤ i ∧ i < k
    · rw [if_pos q, if_pos (by omega)]
    · rw [if_neg q, if_neg (by omega)]
def leaveR (l c : Nat) (R : Nat → Int32) : Nat → Int32 := fun p => if p = 5 then nI (c - 1) else if 6 + 3 * l ≤ p ∧ p < 6 + 3 * (c - 1) then R (p + 3) else R p
theorem SH_S {m m' : sM} {a l k : Nat} (h : SH m m' a l k) (hl : l ≤ k) (m1 m2 m3 : sM) (e1 : m1 = s_up m' (a + 1) (upd (m' (a + 1)) k (m' (a + 1) (k + 1)))) (e2 : m2 = s_up m1 (a + 2) (upd (m1 (a + 2)) k (m1 (a + 2) (k + 1)))) (e3 : m3 = s_up m2 (a + 3) (upd (m2 (a + 3)) k (m2 (a + 3) (k + 1)))) : SH m m3 a l (k + 1) := by
  have f1 : ∀ c, c ≠ a + 1 → m1 c = m' c := fun c hc => by rw [e1, s_upN hc]
  have f2 : ∀ c, c ≠ a + 2 → m2 c = m1 c := fun c hc => by rw [e2, s_upN hc]
  have f3 : ∀ c, c ≠ a + 3 → m3 c = m2 c := fun c hc => by rw [e3, s_upN hc]
  refine ⟨fun c hc => by rw [f3 _ (by omega), f2 _ (by omega), f1 _ (by omega)]; exact h.1 c hc, fun i => ⟨?_, ?_, ?_⟩⟩
  · rw [f3 _ (by omega), f2 _ (by omega), e1, s_upS]
    exact shl_S hl (fun i => (h.2 i).1)
  · rw [f3 _ (by omega), e2, s_upS, f1 _ (by omega)]
    exact shl_S hl (fun i => (h.2 i).2.1)
  · rw [e3, s_upS, f2 _ (by omega), f1 _ (by omega)]
    exact shl_S hl (fun i => (h.2 i).2.2)
theorem SH_DR {m m' : sM} {a l c : Nat} {R : Nat → Int32} (h : DR m a R) (hc : R 5 = nI c) (hc2 : c ≤ 10) (hl : l < c) (hs : SH m m' a l (c - 1)) : DR (s_up m' a (upd (m' a) 3 (nI (c - 1)))) a (leaveR l c R) := by
  have ec : cOf R = c := by unfold cOf; rw [hc, nI_clamp (by omega)]
  have e5 : leaveR l c R 5 = nI (c - 1) := if_pos rfl
  have ec' : cOf (leaveR l c R) = c - 1 := by unfold cOf; rw [e5, nI_clamp (by omega)]
  refine ⟨fun i hi => ?_, by rw [s_upS, updS, e5]⟩
  rw [ec'] at hi
  obtain ⟨s1, s2, s3⟩ := hs.2 i
  rw [s_upN (by omega), s_upN (by omega), s_upN (by omega), s1, s2, s3]
  unfold shl leaveR
  rw [if_neg (show ¬ 6 + 3 * i + 0 = 5 by omega), if_neg (show ¬ 6 + 3 * i + 1 = 5 by omega), if_neg (show ¬ 6 + 3 * i + 2 = 5 by omega)]
  by_cases q : l ≤ i
  · rw [if_pos (by omega), if_pos (by omega), if_pos (by omega), if_pos (by omega), if_pos (by omega), if_pos (by omega)]
    exact h.1 (i + 1) (by omega)
  · rw [if_neg (by omega), if_neg (by omega), if_neg (by omega), if_neg (by omega), if_neg (by omega), if_neg (by omega)]
    exact h.1 i (by omega)
def lst (R : Nat → Int32) (i : Nat) : Prop := R (6 + 3 * i + 0) = 1 ∨ R (6 + 3 * i + 0) = 2
def mayL (R : Nat → Int32) (c i : Nat) (t : Int32) : Prop := 1 ≤ t ∧ t ≤ 30 ∧ rsum R c - R (6 + 3 * i + 2) + t ≤ 90
def canC (R : Nat → Int32) (c q : Nat) : Prop := q / 10 < c ∧ ((q % 10 = 0 ∧ lst R (q / 10) ∧ 0 < R (6 + 3 * (q / 10) + 1)) ∨ (q % 10 = 1 ∧ lst R (q / 10) ∧ R (6 + 3 * (q / 10) + 1) < 9) ∨ (q % 10 = 2 ∧ lst R (q / 10) ∧ mayL R c (q / 10) (R (6 + 3 * (q / 10) + 2) - 1)) ∨ (q % 10 = 3 ∧ lst R (q / 10) ∧ mayL R c (q / 10) (R (6 + 3 * (q / 10) + 2) + 1)) ∨ (q % 10 = 4 ∧ ¬ lst R (q / 10)))
theorem can0 {R : Nat → Int32} {c q : Nat} (hr : q % 10 = 0) (z : canC R c q) : lst R (q / 10) ∧ 0 < R (6 + 3 * (q / 10) + 1) := by
  obtain ⟨-, z⟩ := z
  rcases z with z | z | z | z | z
  · exact z.2
  all_goals exact absurd z.1 (by omega)
theorem can1 {R : Nat → Int32} {c q : Nat} (hr : q % 10 = 1) (z : canC R c q) : lst R (q / 10) ∧ R (6 + 3 * (q / 10) + 1) < 9 := by
  obtain ⟨-, z⟩ := z
  rcases z with z | z | z | z | z
  · exact absurd z.1 (by omega)
  · exact z.2
  all_goals exact absurd z.1 (by omega)
theorem can2 {R : Nat → Int32} {c q : Nat} (hr : q % 10 = 2) (z : canC R c q) : lst R (q / 10) ∧ mayL R c (q / 10) (R (6 + 3 * (q / 10) + 2) - 1) := by
  obtain ⟨-, z⟩ := z
  rcases z with z | z | z | z | z
  · exact absurd z.1 (by omega)
  · exact absurd z.1 (by omega)
  · exact z.2
  all_goals exact absurd z.1 (by omega)
theorem can3 {R : Nat → Int32} {c q : Nat} (hr : q % 10 = 3) (z : canC R c q) : lst R (q / 10) ∧ mayL R c (q / 10) (R (6 + 3 * (q / 10) + 2) + 1) := by
  obtain ⟨-, z⟩ := z
  rcases z with z | z | z | z | z
  · exact absurd z.1 (by omega)
  · exact absurd z.1 (by omega)
  · exact absurd z.1 (by omega)
  · exact z.2
  · exact absurd z.1 (by omega)
theorem can4 {R : Nat → Int32} {c q : Nat} (hr : q % 10 = 4) (z : canC R c q) : ¬ lst R (q / 10) := by
  obtain ⟨-, z⟩ := z
  rcases z with z | z | z | z | z
  · exact absurd z.1 (by omega)
  · exact absurd z.1 (by omega)
  · exact absurd z.1 (by omega)
  · exact absurd z.1 (by omega)
  · exact z.2
theorem can5 {R : Nat → Int32} {c q : Nat} (hr : 4 < q % 10) (z : canC R c q) : False := by
  obtain ⟨-, z⟩ := z
  rcases z with z | z | z | z | z <;> omega
def changeR (c q : Nat) (R : Nat → Int32) : Nat → Int32 := if q % 10 = 0 then upd R (6 + 3 * (q / 10) + 1) (R (6 + 3 * (q / 10) + 1) - 1) else if q % 10 = 1 then upd R (6 + 3 * (q / 10) + 1) (R (6 + 3 * (q / 10) + 1) + 1) else if q % 10 = 2 then upd R (6 + 3 * (q / 10) + 2) (R (6 + 3 * (q / 10) + 2) - 1) else if q % 10 = 3 then upd R (6 + 3 * (q / 10) + 2) (R (6 + 3 * (q / 10) + 2) + 1) else leaveR (q / 10) c R
set_option maxHeartbeats 1000000 in
theorem c_X1_leaveOut {L : Nat} {xs : Nat → Int32} {d : Nat} {m : sM} {n : sN} {Q : sQ} {G0 c : Nat} {l : Nat} {l0 : Int32} {R : Nat → Int32} (hG : isDg G0) (hg : DR m G0 R) (hc : R 5 = nI c) (hc2 : c ≤ 10) (hl0 : l0 = nI l) (hl : l < c) (hQ : ∀ m', DR m' G0 (leaveR l c R) → GF m m' G0 → Q none m' n) : sRun (scT L xs) (d + 1) yX1_leaveOut cX1_leaveOut 3 none [.ref G0, .int l0] m n Q := by
  subst hl0
  have ec : cOf R = c := by unfold cOf; rw [hc, nI_clamp (by omega)]
  refine y_run (own := "LoafFall$Doing") rfl (by decide +kernel) (Nat.le_of_ble_eq_true rfl) rfl ?_
  refine y_iload_n dX1_leaveOut_0 rfl rfl ?_
  refine y_ist3_2 dX1_leaveOut_1 rfl ?_
  refine cnt2 (P := fun k => ∀ m' : sM, SH m m' G0 l k → sV (scT L xs) d "LoafFall$Doing" cX1_leaveOut 3 none Q 2 [some (.ref G0), some (.int (nI l)), some (.int (nI k))] [] m' n) l (c - 1) ?_ ?_ l (Nat.le_refl _) (by omega) m ⟨fun _ _ => rfl, fun i => ⟨shl_0, shl_0, shl_0⟩⟩
  · intro m' hh
    refine y_iload_n dX1_leaveOut_2 rfl rfl ?_
    refine y_aload_n dX1_leaveOut_3 rfl rfl ?_
    refine y_geti dX1_leaveOut_4 gf_X1_21 hG.1 rfl ?_
    refine y_iconst (v := 1) dX1_leaveOut_7 (by decide) ?_
    refine y_isub dX1_leaveOut_8 ?_
    rw [show m' G0 3 = nI c from by rw [hh.1 _ (by omega)]; exact hg.2.trans hc, show nI c - 1 = nI (c - 1) from pk_sub (a := c) (b := 1) (by omega)]
    refine y_icmp_ge (tgt := 60) dX1_leaveOut_9 (by decide) (fun h9 => ?_) (fun h9 => absurd (nI_le (a := (c - 1)) (b := (c - 1)) (Nat.le_refl _) (by omega)) h9)
    refine y_aload_n dX1_leaveOut_60 rfl rfl ?_
    refine y_dup dX1_leaveOut_61 rfl ?_
    refine y_geti dX1_leaveOut_62 gf_X1_21 hG.1 rfl ?_
    refine y_iconst (v := 1) dX1_leaveOut_65 (by decide) ?_
    refine y_isub dX1_leaveOut_66 ?_
    rw [show m' G0 3 = nI c from by rw [hh.1 _ (by omega)]; exact hg.2.trans hc, show nI c - 1 = nI (c - 1) from pk_sub (a := c) (b := 1) (by omega)]
    refine y_puti dX1_leaveOut_67 pf_X1_21 hG.1 rfl rfl rfl ?_
    refine y_return dX1_leaveOut_70 rfl ?_
    refine hQ _ (SH_DR hg hc hc2 hl hh) ⟨fun a ha => by rw [s_upN (by omega)]; exact hh.1 a (by omega), ?_⟩
    rw [s_upS, updN (by omega), hh.1 _ (by omega)]
  · intro k hk0 hk hP
    intro m' hh
    refine y_iload_n dX1_leaveOut_2 rfl rfl ?_
    refine y_aload_n dX1_leaveOut_3 rfl rfl ?_
    refine y_geti dX1_leaveOut_4 gf_X1_21 hG.1 rfl ?_
    refine y_iconst (v := 1) dX1_leaveOut_7 (by decide) ?_
    refine y_isub dX1_leaveOut_8 ?_
    rw [show m' G0 3 = nI c from by rw [hh.1 _ (by omega)]; exact hg.2.trans hc, show nI c - 1 = nI (c - 1) from pk_sub (a := c) (b := 1) (by omega)]
    refine y_icmp_ge (tgt := 60) dX1_leaveOut_9 (by decide) (fun h9 => absurd h9 (nI_ge (a := k) (b := (c - 1)) hk (by omega))) (fun h9 => ?_)
    refine y_aload_n dX1_leaveOut_12 rfl rfl ?_
    refine y_getr dX1_leaveOut_13 gf_X1_9 hG.1 rfl ?_
    refine y_iload_n dX1_leaveOut_16 rfl rfl ?_
    refine y_aload_n dX1_leaveOut_17 rfl rfl ?_
    refine y_getr dX1_leaveOut_18 gf_X1_9 hG.1 rfl ?_
    refine y_iload_n dX1_leaveOut_21 rfl rfl ?_
    refine y_iconst (v := 1) dX1_leaveOut_22 (by decide) ?_
    refine y_iaddN (a := k) (b := 1) dX1_leaveOut_23 rfl rfl ?_
    refine y_ialdN dX1_leaveOut_24 hG.2.1 rfl (by first | omega | decide) (by decide) ?_
    refine y_iastN dX1_leaveOut_25 hG.2.1 rfl (by first | omega | decide) (by decide) ?_
    refine y_aload_n dX1_leaveOut_26 rfl rfl ?_
    refine y_getr dX1_leaveOut_27 gf_X1_15 hG.1 rfl ?_
    refine y_iload_n dX1_leaveOut_30 rfl rfl ?_
    refine y_aload_n dX1_leaveOut_31 rfl rfl ?_
    refine y_getr dX1_leaveOut_32 gf_X1_15 hG.1 rfl ?_
    refine y_iload_n dX1_leaveOut_35 rfl rfl ?_
    refine y_iconst (v := 1) dX1_leaveOut_36 (by decide) ?_
    refine y_iaddN (a := k) (b := 1) dX1_leaveOut_37 rfl rfl ?_
    refine y_ialdN dX1_leaveOut_38 hG.2.2.1 rfl (by first | omega | decide) (by decide) ?_
    refine y_iastN dX1_leaveOut_39 hG.2.2.1 rfl (by first | omega | decide) (by decide) ?_
    refine y_aload_n dX1_leaveOut_40 rfl rfl ?_
    refine y_getr dX1_leaveOut_41 gf_X1_18 hG.1 rfl ?_
    refine y_iload_n dX1_leaveOut_44 rfl rfl ?_
    refine y_aload_n dX1_leaveOut_45 rfl rfl ?_
    refine y_getr dX1_leaveOut_46 gf_X1_18 hG.1 rfl ?_
    refine y_iload_n dX1_leaveOut_49 rfl rfl ?_
    refine y_iconst (v := 1) dX1_leaveOut_50 (by decide) ?_
    refine y_iaddN (a := k) (b := 1) dX1_leaveOut_51 rfl rfl ?_
    refine y_ialdN dX1_leaveOut_52 hG.2.2.2 rfl (by first | omega | decide) (by decide) ?_
    refine y_iastN dX1_leaveOut_53 hG.2.2.2 rfl (by first | omega | decide) (by decide) ?_
    refine y_iinc3_2 dX1_leaveOut_54 (nI_1 _) rfl ?_
    refine y_goto (tgt := 2) dX1_leaveOut_57 (by decide) ?_
    exact hP _ (SH_S hh hk0 _ _ _ rfl rfl rfl)
set_option maxHeartbeats 1000000 in
theorem c_X1_allows {L : Nat} {xs : Nat → Int32} {d : Nat} {m : sM} {n : sN} {Q : sQ} {G0 c : Nat} {q : Nat} {x0 : Int32} {R : Nat → Int32} (hG : isDg G0) (hg : DR m G0 R) (hc : R 5 = nI c) (hc2 : c ≤ 10) (hx0 : x0 = nI q) (hq : q < 1000) (hQ1 : canC R c q → Q (some (.int 1)) m n) (hQ0 : ¬ canC R c q → Q (some (.int 0)) m n) : sRun (scT L xs) (d + 3) yX1_allows cX1_allows 3 (some .boolean) [.ref G0, .int x0] m n Q := by
  subst hx0
  have ec : cOf R = c := by unfold cOf; rw [hc, nI_clamp (by omega)]
  refine y_run (own := "LoafFall$Doing") rfl (by decide +kernel) (Nat.le_of_ble_eq_true rfl) rfl ?_
  refine y_iload_n dX1_allows_0 rfl rfl ?_
  refine y_bipush (v := 10) dX1_allows_1 (by decide) ?_
  refine y_idivN (a := q) (b := 10) dX1_allows_3 rfl rfl (by omega) (by decide) (by decide) ?_
  refine y_ist3_2 dX1_allows_4 rfl ?_
  refine y_iload_n dX1_allows_5 rfl rfl ?_
  refine y_if_lt (tgt := 17) dX1_allows_6 (by decide) (fun h6 => absurd h6 (nI_pos (n := q) (by omega))) (fun h6 => ?_)
  refine y_iload_n dX1_allows_9 rfl rfl ?_
  refine y_aload_n dX1_allows_10 rfl rfl ?_
  refine y_geti dX1_allows_11 gf_X1_21 hG.1 rfl ?_
  rw [hg.2, hc]
  refine y_icmp_lt (tgt := 19) dX1_allows_14 (by decide) (fun h14 => ?_) (fun h14 => ?_)
  · refine y_iload_n dX1_allows_19 rfl rfl ?_
    refine y_bipush (v := 10) dX1_allows_20 (by decide) ?_
    refine y_iremN (a := q) (b := 10) dX1_allows_22 rfl rfl (by omega) (by decide) (by decide) ?_
    have hi : q / 10 < c := (nI_ltI (by omega) (by omega)).mp h14
    obtain ⟨g1, g2, g3⟩ := hg.1 (q / 10) (by omega)
    have hk : q % 10 = 0 ∨ q % 10 = 1 ∨ q % 10 = 2 ∨ q % 10 = 3 ∨ q % 10 = 4 ∨ 4 < q % 10 := by omega
    rcases hk with hr | hr | hr | hr | hr | hr
    · rw [hr]
      refine y_tabIn (tgt := 56) (off := 33) dX1_allows_23 (by decide) (by decide) rfl (by decide) ?_
      refine y_aload_n dX1_allows_56 rfl rfl ?_
      refine y_iload_n dX1_allows_57 rfl rfl ?_
      refine y_ivI1 dX1_allows_58 mv_X1_48 my_X1_lasts (Or.inl rfl) hG.1 ?_
      refine c_X1_lasts (i := q / 10) hG rfl (by omega) (fun hl => ⟨_, rfl, ?_⟩) (fun hl => ⟨_, rfl, ?_⟩)
      · have hL : lst R (q / 10) := by rw [g1] at hl; exact hl
        refine y_if_eq (tgt := 77) dX1_allows_61 (by decide) (fun h61 => absurd h61 (by decide)) (fun h61 => ?_)
        refine y_aload_n dX1_allows_64 rfl rfl ?_
        refine y_getr dX1_allows_65 gf_X1_15 hG.1 rfl ?_
        refine y_iload_n dX1_allows_68 rfl rfl ?_
        refine y_ialdN dX1_allows_69 hG.2.2.1 rfl (by first | omega | decide) (by decide) ?_
        rw [g2]
        refine y_if_le (tgt := 77) dX1_allows_70 (by decide) (fun h70 => ?_) (fun h70 => ?_)
        · refine y_iconst (v := 0) dX1_allows_77 (by decide) ?_
          refine y_goto (tgt := 189) dX1_allows_78 (by decide) ?_
          refine y_ireturn dX1_allows_189 rfl rfl ?_
          first
            | exact hQ1 ⟨hi, Or.inl ⟨hr, hL, Int32.not_le.mp h70⟩⟩
            | exact hQ0 (fun z => hL (can0 hr z).1)
            | exact hQ0 (fun z => absurd h70 (Int32.not_le.mpr (can0 hr z).2))
        · refine y_iconst (v := 1) dX1_allows_73 (by decide) ?_
          refine y_goto (tgt := 189) dX1_allows_74 (by decide) ?_
          refine y_ireturn dX1_allows_189 rfl rfl ?_
          first
            | exact hQ1 ⟨hi, Or.inl ⟨hr, hL, Int32.not_le.mp h70⟩⟩
            | exact hQ0 (fun z => hL (can0 hr z).1)
            | exact hQ0 (fun z => absurd h70 (Int32.not_le.mpr (can0 hr z).2))
      · have hL : ¬ lst R (q / 10) := by rw [g1] at hl; exact hl
        refine y_if_eq (tgt := 77) dX1_allows_61 (by decide) (fun h61 => ?_) (fun h61 => absurd (by decide) h61)
        refine y_iconst (v := 0) dX1_allows_77 (by decide) ?_
        refine y_goto (tgt := 189) dX1_allows_78 (by decide) ?_
        refine y_ireturn dX1_allows_189 rfl rfl ?_
        first
          | exact hQ1 ⟨hi, Or.inl ⟨hr, hL, Int32.not_le.mp h70⟩⟩
          | exact hQ0 (fun z => hL (can0 hr z).1)
          | exact hQ0 (fun z => absurd h70 (Int32.not_le.mpr (can0 hr z).2))
    · rw [hr]
      refine y_tabIn (tgt := 81) (off := 58) dX1_allows_23 (by decide) (by decide) rfl (by decide) ?_
      refine y_aload_n dX1_allows_81 rfl rfl ?_
      refine y_iload_n dX1_allows_82 rfl rfl ?_
      refine y_ivI1 dX1_allows_83 mv_X1_48 my_X1_lasts (Or.inl rfl) hG.1 ?_
      refine c_X1_lasts (i := q / 10) hG rfl (by omega) (fun hl => ⟨_, rfl, ?_⟩) (fun hl => ⟨_, rfl, ?_⟩)
      · have hL : lst R (q / 10) := by rw [g1] at hl; exact hl
        refine y_if_eq (tgt := 104) dX1_allows_86 (by decide) (fun h86 => absurd h86 (by decide)) (fun h86 => ?_)
        refine y_aload_n dX1_allows_89 rfl rfl ?_
        refine y_getr dX1_allows_90 gf_X1_15 hG.1 rfl ?_
        refine y_iload_n dX1_allows_93 rfl rfl ?_
        refine y_ialdN dX1_allows_94 hG.2.2.1 rfl (by first | omega | decide) (by decide) ?_
        rw [g2]
        refine y_bipush (v := 9) dX1_allows_95 (by decide) ?_
        refine y_icmp_ge (tgt := 104) dX1_allows_97 (by decide) (fun h97 => ?_) (fun h97 => ?_)
        · refine y_iconst (v := 0) dX1_allows_104 (by decide) ?_
          refine y_goto (tgt := 189) dX1_allows_105 (by decide) ?_
          refine y_ireturn dX1_allows_189 rfl rfl ?_
          first
            | exact hQ1 ⟨hi, Or.inr (Or.inl ⟨hr, hL, Int32.not_le.mp h97⟩)⟩
            | exact hQ0 (fun z => hL (can1 hr z).1)
            | exact hQ0 (fun z => absurd h97 (Int32.not_le.mpr (can1 hr z).2))
        · refine y_iconst (v := 1) dX1_allows_100 (by decide) ?_
          refine y_goto (tgt := 189) dX1_allows_101 (by decide) ?_
          refine y_ireturn dX1_allows_189 rfl rfl ?_
          first
            | exact hQ1 ⟨hi, Or.inr (Or.inl ⟨hr, hL, Int32.not_le.mp h97⟩)⟩
            | exact hQ0 (fun z => hL (can1 hr z).1)
            | exact hQ0 (fun z => absurd h97 (Int32.not_le.mpr (can1 hr z).2))
      · have hL : ¬ lst R (q / 10) := by rw [g1] at hl; exact hl
        refine y_if_eq (tgt := 104) dX1_allows_86 (by decide) (fun h86 => ?_) (fun h86 => absurd (by decide) h86)
        refine y_iconst (v := 0) dX1_allows_104 (by decide) ?_
        refine y_goto (tgt := 189) dX1_allows_105 (by decide) ?_
        refine y_ireturn dX1_allows_189 rfl rfl ?_
        first
          | exact hQ1 ⟨hi, Or.inr (Or.inl ⟨hr, hL, Int32.not_le.mp h97⟩)⟩
          | exact hQ0 (fun z => hL (can1 hr z).1)
          | exact hQ0 (fun z => absurd h97 (Int32.not_le.mpr (can1 hr z).2))
    · rw [hr]
      refine y_tabIn (tgt := 108) (off := 85) dX1_allows_23 (by decide) (by decide) rfl (by decide) ?_
      refine y_aload_n dX1_allows_108 rfl rfl ?_
      refine y_iload_n dX1_allows_109 rfl rfl ?_
      refine y_ivI1 dX1_allows_110 mv_X1_48 my_X1_lasts (Or.inl rfl) hG.1 ?_
      refine c_X1_lasts (i := q / 10) hG rfl (by omega) (fun hl => ⟨_, rfl, ?_⟩) (fun hl => ⟨_, rfl, ?_⟩)
      · have hL : lst R (q / 10) := by rw [g1] at hl; exact hl
        refine y_if_eq (tgt := 136) dX1_allows_113 (by decide) (fun h113 => absurd h113 (by decide)) (fun h113 => ?_)
        refine y_aload_n dX1_allows_116 rfl rfl ?_
        refine y_iload_n dX1_allows_117 rfl rfl ?_
        refine y_aload_n dX1_allows_118 rfl rfl ?_
        refine y_getr dX1_allows_119 gf_X1_18 hG.1 rfl ?_
        refine y_iload_n dX1_allows_122 rfl rfl ?_
        refine y_ialdN dX1_allows_123 hG.2.2.2 rfl (by first | omega | decide) (by decide) ?_
        rw [g3]
        refine y_iconst (v := 1) dX1_allows_124 (by decide) ?_
        refine y_isub dX1_allows_125 ?_
        refine y_ivI2 dX1_allows_126 mv_X1_52 my_X1_mayLast (Or.inl rfl) hG.1 ?_
        refine c_X1_mayLast (i := q / 10) hG hg hc hc2 rfl hi (fun hm => ⟨_, rfl, ?_⟩) (fun hm => ⟨_, rfl, ?_⟩)
        · refine y_if_eq (tgt := 136) dX1_allows_129 (by decide) (fun h129 => absurd h129 (by decide)) (fun h129 => ?_)
          refine y_iconst (v := 1) dX1_allows_132 (by decide) ?_
          refine y_goto (tgt := 189) dX1_allows_133 (by decide) ?_
          refine y_ireturn dX1_allows_189 rfl rfl ?_
          first
            | exact hQ1 ⟨hi, Or.inr (Or.inr (Or.inl ⟨hr, hL, hm⟩))⟩
            | exact hQ0 (fun z => hL (can2 hr z).1)
            | exact hQ0 (fun z => hm (can2 hr z).2)
        · refine y_if_eq (tgt := 136) dX1_allows_129 (by decide) (fun h129 => ?_) (fun h129 => absurd (by decide) h129)
          refine y_iconst (v := 0) dX1_allows_136 (by decide) ?_
          refine y_goto (tgt := 189) dX1_allows_137 (by decide) ?_
          refine y_ireturn dX1_allows_189 rfl rfl ?_
          first
            | exact hQ1 ⟨hi, Or.inr (Or.inr (Or.inl ⟨hr, hL, hm⟩))⟩
            | exact hQ0 (fun z => hL (can2 hr z).1)
            | exact hQ0 (fun z => hm (can2 hr z).2)
      · have hL : ¬ lst R (q / 10) := by rw [g1] at hl; exact hl
        refine y_if_eq (tgt := 136) dX1_allows_113 (by decide) (fun h113 => ?_) (fun h113 => absurd (by decide) h113)
        refine y_iconst (v := 0) dX1_allows_136 (by decide) ?_
        refine y_goto (tgt := 189) dX1_allows_137 (by decide) ?_
        refine y_ireturn dX1_allows_189 rfl rfl ?_
        first
          | exact hQ1 ⟨hi, Or.inr (Or.inr (Or.inl ⟨hr, hL, hm⟩))⟩
          | exact hQ0 (fun z => hL (can2 hr z).1)
          | exact hQ0 (fun z => hm (can2 hr z).2)
    · rw [hr]
      refine y_tabIn (tgt := 140) (off := 117) dX1_allows_23 (by decide) (by decide) rfl (by decide) ?_
      refine y_aload_n dX1_allows_140 rfl rfl ?_
      refine y_iload_n dX1_allows_141 rfl rfl ?_
      refine y_ivI1 dX1_allows_142 mv_X1_48 my_X1_lasts (Or.inl rfl) hG.1 ?_
      refine c_X1_lasts (i := q / 10) hG rfl (by omega) (fun hl => ⟨_, rfl, ?_⟩) (fun hl => ⟨_, rfl, ?_⟩)
      · have hL : lst R (q / 10) := by rw [g1] at hl; exact hl
        refine y_if_eq (tgt := 168) dX1_allows_145 (by decide) (fun h145 => absurd h145 (by decide)) (fun h145 => ?_)
        refine y_aload_n dX1_allows_148 rfl rfl ?_
        refine y_iload_n dX1_allows_149 rfl rfl ?_
        refine y_aload_n dX1_allows_150 rfl rfl ?_
        refine y_getr dX1_allows_151 gf_X1_18 hG.1 rfl ?_
        refine y_iload_n dX1_allows_154 rfl rfl ?_
        refine y_ialdN dX1_allows_155 hG.2.2.2 rfl (by first | omega | decide) (by decide) ?_
        rw [g3]
        refine y_iconst (v := 1) dX1_allows_156 (by decide) ?_
        refine y_iadd dX1_allows_157 ?_
        refine y_ivI2 dX1_allows_158 mv_X1_52 my_X1_mayLast (Or.inl rfl) hG.1 ?_
        refine c_X1_mayLast (i := q / 10) hG hg hc hc2 rfl hi (fun hm => ⟨_, rfl, ?_⟩) (fun hm => ⟨_, rfl, ?_⟩)
        · refine y_if_eq (tgt := 168) dX1_allows_161 (by decide) (fun h161 => absurd h161 (by decide)) (fun h161 => ?_)
          refine y_iconst (v := 1) dX1_allows_164 (by decide) ?_
          refine y_goto (tgt := 189) dX1_allows_165 (by decide) ?_
          refine y_ireturn dX1_allows_189 rfl rfl ?_
          first
            | exact hQ1 ⟨hi, Or.inr (Or.inr (Or.inr (Or.inl ⟨hr, hL, hm⟩)))⟩
            | exact hQ0 (fun z => hL (can3 hr z).1)
            | exact hQ0 (fun z => hm (can3 hr z).2)
        · refine y_if_eq (tgt := 168) dX1_allows_161 (by decide) (fun h161 => ?_) (fun h161 => absurd (by decide) h161)
          refine y_iconst (v := 0) dX1_allows_168 (by decide) ?_
          refine y_goto (tgt := 189) dX1_allows_169 (by decide) ?_
          refine y_ireturn dX1_allows_189 rfl rfl ?_
          first
            | exact hQ1 ⟨hi, Or.inr (Or.inr (Or.inr (Or.inl ⟨hr, hL, hm⟩)))⟩
            | exact hQ0 (fun z => hL (can3 hr z).1)
            | exact hQ0 (fun z => hm (can3 hr z).2)
      · have hL : ¬ lst R (q / 10) := by rw [g1] at hl; exact hl
        refine y_if_eq (tgt := 168) dX1_allows_145 (by decide) (fun h145 => ?_) (fun h145 => absurd (by decide) h145)
        refine y_iconst (v := 0) dX1_allows_168 (by decide) ?_
        refine y_goto (tgt := 189) dX1_allows_169 (by decide) ?_
        refine y_ireturn dX1_allows_189 rfl rfl ?_
        first
          | exact hQ1 ⟨hi, Or.inr (Or.inr (Or.inr (Or.inl ⟨hr, hL, hm⟩)))⟩
          | exact hQ0 (fun z => hL (can3 hr z).1)
          | exact hQ0 (fun z => hm (can3 hr z).2)
    · rw [hr]
      refine y_tabIn (tgt := 172) (off := 149) dX1_allows_23 (by decide) (by decide) rfl (by decide) ?_
      refine y_aload_n dX1_allows_172 rfl rfl ?_
      refine y_iload_n dX1_allows_173 rfl rfl ?_
      refine y_ivI1 dX1_allows_174 mv_X1_48 my_X1_lasts (Or.inl rfl) hG.1 ?_
      refine c_X1_lasts (i := q / 10) hG rfl (by omega) (fun hl => ⟨_, rfl, ?_⟩) (fun hl => ⟨_, rfl, ?_⟩)
      · have hL : lst R (q / 10) := by rw [g1] at hl; exact hl
        refine y_if_ne (tgt := 184) dX1_allows_177 (by decide) (fun h177 => ?_) (fun h177 => absurd h177 (by decide))
        refine y_iconst (v := 0) dX1_allows_184 (by decide) ?_
        refine y_goto (tgt := 189) dX1_allows_185 (by decide) ?_
        refine y_ireturn dX1_allows_189 rfl rfl ?_
        first
          | exact hQ1 ⟨hi, Or.inr (Or.inr (Or.inr (Or.inr ⟨hr, hL⟩)))⟩
          | exact hQ0 (fun z => can4 hr z hL)
      · have hL : ¬ lst R (q / 10) := by rw [g1] at hl; exact hl
        refine y_if_ne (tgt := 184) dX1_allows_177 (by decide) (fun h177 => absurd (by decide) h177) (fun h177 => ?_)
        refine y_iconst (v := 1) dX1_allows_180 (by decide) ?_
        refine y_goto (tgt := 189) dX1_allows_181 (by decide) ?_
        refine y_ireturn dX1_allows_189 rfl rfl ?_
        first
          | exact hQ1 ⟨hi, Or.inr (Or.inr (Or.inr (Or.inr ⟨hr, hL⟩)))⟩
          | exact hQ0 (fun z => can4 hr z hL)
    · skip
      refine y_tabOut (tgt := 188) dX1_allows_23 (Or.inr (by rw [nI_toInt (by omega)]; omega)) (by decide) ?_
      refine y_iconst (v := 0) dX1_allows_188 (by decide) ?_
      refine y_ireturn dX1_allows_189 rfl rfl ?_
      first
        | exact hQ0 (fun z => can5 hr z)
  · refine y_iconst (v := 0) dX1_allows_17 (by decide) ?_
    refine y_ireturn dX1_allows_18 rfl rfl ?_
    exact hQ0 (fun z => h14 (nI_lt z.1 (by omega)))
set_option maxHeartbeats 1000000 in
theorem c_X1_changeBy {L : Nat} {xs : Nat → Int32} {d : Nat} {m : sM} {n : sN} {Q : sQ} {G0 c : Nat} {q : Nat} {x0 : Int32} {R : Nat → Int32} (hG : isDg G0) (hg : DR m G0 R) (hc : R 5 = nI c) (hc2 : c ≤ 10) (hx0 : x0 = nI q) (hq : q < 1000) (hQ1 : canC R c q → ∀ m', DR m' G0 (changeR c q R) → GF m m' G0 → Q none m' n) (hQ0 : ¬ canC R c q → Q none m n) : sRun (scT L xs) (d + 4) yX1_changeBy cX1_changeBy 3 none [.ref G0, .int x0] m n Q := by
  subst hx0
  have ec : cOf R = c := by unfold cOf; rw [hc, nI_clamp (by omega)]
  refine y_run (own := "LoafFall$Doing") rfl (by decide +kernel) (Nat.le_of_ble_eq_true rfl) rfl ?_
  refine y_aload_n dX1_changeBy_0 rfl rfl ?_
  refine y_iload_n dX1_changeBy_1 rfl rfl ?_
  refine y_ivI1 dX1_changeBy_2 mv_X1_56 my_X1_allows (Or.inl rfl) hG.1 ?_
  refine c_X1_allows hG hg hc hc2 rfl hq (fun ha => ⟨_, rfl, ?_⟩) (fun ha => ⟨_, rfl, ?_⟩)
  · refine y_if_ne (tgt := 9) dX1_changeBy_5 (by decide) (fun h5 => ?_) (fun h5 => absurd h5 (by decide))
    refine y_iload_n dX1_changeBy_9 rfl rfl ?_
    refine y_bipush (v := 10) dX1_changeBy_10 (by decide) ?_
    refine y_idivN (a := q) (b := 10) dX1_changeBy_12 rfl rfl (by omega) (by decide) (by decide) ?_
    refine y_ist3_2 dX1_changeBy_13 rfl ?_
    refine y_iload_n dX1_changeBy_14 rfl rfl ?_
    refine y_bipush (v := 10) dX1_changeBy_15 (by decide) ?_
    refine y_iremN (a := q) (b := 10) dX1_changeBy_17 rfl rfl (by omega) (by decide) (by decide) ?_
    have hi : q / 10 < c := ha.1
    obtain ⟨g1, g2, g3⟩ := hg.1 (q / 10) (by omega)
    have hQ := hQ1 ha
    unfold changeR at hQ
    have hk : q % 10 = 0 ∨ q % 10 = 1 ∨ q % 10 = 2 ∨ q % 10 = 3 ∨ q % 10 = 4 := by rcases ha.2 with z | z | z | z | z <;> omega
    rcases hk with hr | hr | hr | hr | hr
    · rw [hr]
      rw [if_pos hr] at hQ
      refine y_tabIn (tgt := 48) (off := 30) dX1_changeBy_18 (by decide) (by decide) rfl (by decide) ?_
      refine y_aload_n dX1_changeBy_48 rfl rfl ?_
      refine y_getr dX1_changeBy_49 gf_X1_15 hG.1 rfl ?_
      refine y_iload_n dX1_changeBy_52 rfl rfl ?_
      refine y_dup2 dX1_changeBy_53 rfl rfl ?_
      refine y_ialdN dX1_changeBy_54 hG.2.2.1 rfl (by first | omega | decide) (by decide) ?_
      rw [g2]
      refine y_iconst (v := 1) dX1_changeBy_55 (by decide) ?_
      refine y_isub dX1_changeBy_56 ?_
      refine y_iastN dX1_changeBy_57 hG.2.2.1 rfl (by first | omega | decide) (by decide) ?_
      refine y_goto (tgt := 105) dX1_changeBy_58 (by decide) ?_
      refine y_return dX1_changeBy_105 rfl ?_
      exact hQ _ (DR_w hg (by omega) (by omega)) (GF_up (by omega) (by omega))
    · rw [hr]
      rw [if_neg (show ¬ q % 10 = 0 by omega), if_pos hr] at hQ
      refine y_tabIn (tgt := 61) (off := 43) dX1_changeBy_18 (by decide) (by decide) rfl (by decide) ?_
      refine y_aload_n dX1_changeBy_61 rfl rfl ?_
      refine y_getr dX1_changeBy_62 gf_X1_15 hG.1 rfl ?_
      refine y_iload_n dX1_changeBy_65 rfl rfl ?_
      refine y_dup2 dX1_changeBy_66 rfl rfl ?_
      refine y_ialdN dX1_changeBy_67 hG.2.2.1 rfl (by first | omega | decide) (by decide) ?_
      rw [g2]
      refine y_iconst (v := 1) dX1_changeBy_68 (by decide) ?_
      refine y_iadd dX1_changeBy_69 ?_
      refine y_iastN dX1_changeBy_70 hG.2.2.1 rfl (by first | omega | decide) (by decide) ?_
      refine y_goto (tgt := 105) dX1_changeBy_71 (by decide) ?_
      refine y_return dX1_changeBy_105 rfl ?_
      exact hQ _ (DR_w hg (by omega) (by omega)) (GF_up (by omega) (by omega))
    · rw [hr]
      rw [if_neg (show ¬ q % 10 = 0 by omega), if_neg (show ¬ q % 10 = 1 by omega), if_pos hr] at hQ
      refine y_tabIn (tgt := 74) (off := 56) dX1_changeBy_18 (by decide) (by decide) rfl (by decide) ?_
      refine y_aload_n dX1_changeBy_74 rfl rfl ?_
      refine y_getr dX1_changeBy_75 gf_X1_18 hG.1 rfl ?_
      refine y_iload_n dX1_changeBy_78 rfl rfl ?_
      refine y_dup2 dX1_changeBy_79 rfl rfl ?_
      refine y_ialdN dX1_changeBy_80 hG.2.2.2 rfl (by first | omega | decide) (by decide) ?_
      rw [g3]
      refine y_iconst (v := 1) dX1_changeBy_81 (by decide) ?_
      refine y_isub dX1_changeBy_82 ?_
      refine y_iastN dX1_changeBy_83 hG.2.2.2 rfl (by first | omega | decide) (by decide) ?_
      refine y_goto (tgt := 105) dX1_changeBy_84 (by decide) ?_
      refine y_return dX1_changeBy_105 rfl ?_
      exact hQ _ (DR_t hg (by omega) (by omega)) (GF_up (by omega) (by omega))
    · rw [hr]
      rw [if_neg (show ¬ q % 10 = 0 by omega), if_neg (show ¬ q % 10 = 1 by omega), if_neg (show ¬ q % 10 = 2 by omega), if_pos hr] at hQ
      refine y_tabIn (tgt := 87) (off := 69) dX1_changeBy_18 (by decide) (by decide) rfl (by decide) ?_
      refine y_aload_n dX1_changeBy_87 rfl rfl ?_
      refine y_getr dX1_changeBy_88 gf_X1_18 hG.1 rfl ?_
      refine y_iload_n dX1_changeBy_91 rfl rfl ?_
      refine y_dup2 dX1_changeBy_92 rfl rfl ?_
      refine y_ialdN dX1_changeBy_93 hG.2.2.2 rfl (by first | omega | decide) (by decide) ?_
      rw [g3]
      refine y_iconst (v := 1) dX1_changeBy_94 (by decide) ?_
      refine y_iadd dX1_changeBy_95 ?_
      refine y_iastN dX1_changeBy_96 hG.2.2.2 rfl (by first | omega | decide) (by decide) ?_
      refine y_goto (tgt := 105) dX1_changeBy_97 (by decide) ?_
      refine y_return dX1_changeBy_105 rfl ?_
      exact hQ _ (DR_t hg (by omega) (by omega)) (GF_up (by omega) (by omega))
    · rw [hr]
      rw [if_neg (show ¬ q % 10 = 0 by omega), if_neg (show ¬ q % 10 = 1 by omega), if_neg (show ¬ q % 10 = 2 by omega), if_neg (show ¬ q % 10 = 3 by omega)] at hQ
      refine y_tabOut (tgt := 100) dX1_changeBy_18 (by decide) (by decide) ?_
      refine y_aload_n dX1_changeBy_100 rfl rfl ?_
      refine y_iload_n dX1_changeBy_101 rfl rfl ?_
      refine y_ivV1 dX1_changeBy_102 mv_X1_59 my_X1_leaveOut (Or.inl rfl) hG.1 ?_
      refine c_X1_leaveOut hG hg hc hc2 rfl hi (fun m2 l1 l2 => ⟨rfl, ?_⟩)
      refine y_return dX1_changeBy_105 rfl ?_
      exact hQ _ l1 l2
  · refine y_if_ne (tgt := 9) dX1_changeBy_5 (by decide) (fun h5 => absurd (by decide) h5) (fun h5 => ?_)
    refine y_return dX1_changeBy_8 rfl ?_
    exact hQ0 ha
