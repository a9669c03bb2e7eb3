/-! ===== the reference: one change ===== -/
theorem lst_le {R : Nat → Int32} {i : Nat} (hs : (R (6 + 3 * i + 0) = 3 ∨ R (6 + 3 * i + 0) = 4 ∨ R (6 + 3 * i + 0) = 5) ∨ lastsR R i) (h : ¬ 2 < R (6 + 3 * i + 0)) : lastsR R i := hs.resolve_left (fun z => h (once_n z))
theorem lst_gt {R : Nat → Int32} {i : Nat} (h : 2 < R (6 + 3 * i + 0)) : ¬ lst R i := fun z => by
  rcases z with e | e <;> rw [e] at h <;> exact absurd h (by decide)
theorem upd_same {f : Nat → Int32} {k : Nat} {x : Int32} (h : x = f k) : upd f k x = f := by rw [h, updId]
theorem add0 (x : Int32) : x + 0 = x := Int32.add_zero x
theorem subm (x : Int32) : x + -1 = x - 1 := (Int32.sub_eq_add_neg ..).symm
theorem chg4 {R : Nat → Int32} {c q : Nat} (hr : q % 10 = 4) : changeR c q R = leaveR (q / 10) c R := by
  unfold changeR
  rw [if_neg (by omega), if_neg (by omega), if_neg (by omega), if_neg (by omega)]
theorem okD : ∀ w, w < 10 → ((0 : Int32) ≤ nI w + -1 ∧ nI w + -1 ≤ 9 ↔ 0 < nI w) ∧ ((0 : Int32) ≤ nI w + 1 ∧ nI w + 1 ≤ 9 ↔ nI w < 9) ∧ ((0 : Int32) ≤ nI w + 0 ∧ nI w + 0 ≤ 9) := by decide +kernel
theorem okW {R : Nat → Int32} {i : Nat} (h : lastsR R i) : ((0 : Int32) ≤ R (6 + 3 * i + 1) + -1 ∧ R (6 + 3 * i + 1) + -1 ≤ 9 ↔ 0 < R (6 + 3 * i + 1)) ∧ ((0 : Int32) ≤ R (6 + 3 * i + 1) + 1 ∧ R (6 + 3 * i + 1) + 1 ≤ 9 ↔ R (6 + 3 * i + 1) < 9) ∧ ((0 : Int32) ≤ R (6 + 3 * i + 1) + 0 ∧ R (6 + 3 * i + 1) + 0 ≤ 9) := by
  obtain ⟨w, e, hw⟩ := h.2.1
  rw [e]
  exact okD w (by omega)
theorem okT {R : Nat → Int32} {i : Nat} (h : lastsR R i) : (1 : Int32) ≤ R (6 + 3 * i + 2) + 0 ∧ R (6 + 3 * i + 2) + 0 ≤ 30 := by
  obtain ⟨t, e, h1, h2⟩ := h.2.2
  rw [e, Int32.add_zero]
  exact ⟨nI_le (a := 1) h1 (by omega), nI_le (b := 30) h2 (by omega)⟩
theorem okS {R : Nat → Int32} {i c T : Nat} (hT : rsum R c = nI T) (hT2 : T ≤ 90) : rsum R c - R (6 + 3 * i + 2) + (R (6 + 3 * i + 2) + 0) ≤ 90 := by
  rw [Int32.add_zero, Int32.sub_add_cancel, hT]
  exact nI_le (b := 90) hT2 (by omega)
theorem chg0 {R : Nat → Int32} {c q : Nat} (hr : q % 10 = 0) : changeR c q R = upd (upd R (6 + 3 * (q / 10) + 1) (R (6 + 3 * (q / 10) + 1) + -1)) (6 + 3 * (q / 10) + 2) (R (6 + 3 * (q / 10) + 2) + 0) := by
  unfold changeR
  rw [if_pos hr, subm]
  exact (upd_same (by rw [updN (by omega), add0])).symm
theorem chg1 {R : Nat → Int32} {c q : Nat} (hr : q % 10 = 1) : changeR c q R = upd (upd R (6 + 3 * (q / 10) + 1) (R (6 + 3 * (q / 10) + 1) + 1)) (6 + 3 * (q / 10) + 2) (R (6 + 3 * (q / 10) + 2) + 0) := by
  unfold changeR
  rw [if_neg (by omega), if_pos hr]
  exact (upd_same (by rw [updN (by omega), add0])).symm
theorem chg2 {R : Nat → Int32} {c q : Nat} (hr : q % 10 = 2) : changeR c q R = upd (upd R (6 + 3 * (q / 10) + 1) (R (6 + 3 * (q / 10) + 1) + 0)) (6 + 3 * (q / 10) + 2) (R (6 + 3 * (q / 10) + 2) + -1) := by
  unfold changeR
  rw [if_neg (by omega), if_neg (by omega), if_pos hr, subm, upd_same (add0 _)]
theorem chg3 {R : Nat → Int32} {c q : Nat} (hr : q % 10 = 3) : changeR c q R = upd (upd R (6 + 3 * (q / 10) + 1) (R (6 + 3 * (q / 10) + 1) + 0)) (6 + 3 * (q / 10) + 2) (R (6 + 3 * (q / 10) + 2) + 1) := by
  unfold changeR
  rw [if_neg (by omega), if_neg (by omega), if_neg (by omega), if_pos hr, upd_same (add0 _)]
theorem canI {R : Nat → Int32} {c q : Nat} (hi : q / 10 < c) (hs : lastsR R (q / 10)) : (q % 10 = 0 → 0 < R (6 + 3 * (q / 10) + 1) → canC R c q) ∧ (q % 10 = 1 → R (6 + 3 * (q / 10) + 1) < 9 → canC R c q) ∧ (q % 10 = 2 → mayL R c (q / 10) (R (6 + 3 * (q / 10) + 2) + -1) → canC R c q) ∧ (q % 10 = 3 → mayL R c (q / 10) (R (6 + 3 * (q / 10) + 2) + 1) → canC R c q) :=
  ⟨fun h1 h2 => ⟨hi, Or.inl ⟨h1, hs.1, h2⟩⟩, fun h1 h2 => ⟨hi, Or.inr (Or.inl ⟨h1, hs.1, h2⟩)⟩, fun h1 h2 => ⟨hi, Or.inr (Or.inr (Or.inl ⟨h1, hs.1, by rw [subm] at h2; exact h2⟩))⟩, fun h1 h2 => ⟨hi, Or.inr (Or.inr (Or.inr (Or.inl ⟨h1, hs.1, h2⟩)))⟩⟩
theorem can2' {R : Nat → Int32} {c q : Nat} (hr : q % 10 = 2) (z : canC R c q) : mayL R c (q / 10) (R (6 + 3 * (q / 10) + 2) + -1) := by
  rw [subm]
  exact (can2 hr z).2
set_option maxHeartbeats 1000000 in
theorem c_X12_canChange {L : Nat} {xs : Nat → Int32} {d : Nat} {m : sM} {n : sN} {Q : sQ} {b : Nat} {R h : Nat → Int32} (hb : bAt m b) {q c : Nat} {x0 : Int32} (hx0 : x0 = nI q) (hq : q < 1000) (hc : R 5 = nI c) (hc2 : c ≤ 10) (hst : stOK R) {T : Nat} (hT : rsum R c = nI T) (hT2 : T ≤ 90) (hQ1 : canC R c q → Q (some (.int 1)) (stR m h b (changeR c q R)) n) (hQ0 : ¬ canC R c q → Q (some (.int 0)) (stR m h b R) n) : sRun (scT L xs) (d + 5) yX12_canChange cX12_canChange 8 (some .boolean) [.ref 239, .int x0] (stR m h b R) n Q := by
  subst hx0
  have ec : cOf R = c := by unfold cOf; rw [hc, nI_clamp (by omega)]
  refine y_run (own := "LoafFallModel") rfl (by decide +kernel) (Nat.le_of_ble_eq_true rfl) rfl ?_
  refine y_iload_n dX12_canChange_0 rfl rfl ?_
  refine y_bipush (v := 10) dX12_canChange_1 (by decide) ?_
  refine y_idivN (a := q) (b := 10) dX12_canChange_3 rfl rfl (by omega) (by decide) (by decide) ?_
  refine y_ist8_2 dX12_canChange_4 rfl ?_
  refine y_iload_n dX12_canChange_5 rfl rfl ?_
  refine y_bipush (v := 10) dX12_canChange_6 (by decide) ?_
  refine y_iremN (a := q) (b := 10) dX12_canChange_8 rfl rfl (by omega) (by decide) (by decide) ?_
  refine y_ist8_3 dX12_canChange_9 rfl ?_
  by_cases hi : q / 10 < c
  · have hs := hst (q / 10) (by omega)
    have hk : q % 10 = 0 ∨ q % 10 = 1 ∨ q % 10 = 2 ∨ q % 10 = 3 ∨ q % 10 = 4 ∨ 4 < q % 10 := by omega
    rcases hk with hr | hr | hr | hr | hr | hr
    · rw [hr]
      refine y_iload_n dX12_canChange_10 rfl rfl ?_
      refine y_aload_n dX12_canChange_11 rfl rfl ?_
      refine y_iconst (v := 5) dX12_canChange_12 (by decide) ?_
      refine y_ivI1 dX12_canChange_13 mv_X12_160 my_X12_v (Or.inl rfl) sh_239 ?_
      refine c_X12_v hb (p := 5) rfl (by omega) ⟨_, rfl, ?_⟩
      rw [hc]
      refine y_icmp_ge (tgt := 24) dX12_canChange_16 (by decide) (fun h16 => absurd h16 (nI_ge (a := q / 10) (b := c) hi (by omega))) (fun h16 => ?_)
      refine y_iload_n dX12_canChange_19 rfl rfl ?_
      refine y_iconst (v := 4) dX12_canChange_20 (by decide) ?_
      refine y_icmp_le (tgt := 26) dX12_canChange_21 (by decide) (fun h21 => ?_) (fun h21 => absurd (by decide) h21)
      refine y_aload_n dX12_canChange_26 rfl rfl ?_
      refine y_iload_n dX12_canChange_27 rfl rfl ?_
      refine y_iconst (v := 0) dX12_canChange_28 (by decide) ?_
      refine y_ivI2 dX12_canChange_29 mv_X12_171 my_X12_s (Or.inl rfl) sh_239 ?_
      refine c_X12_s hb (k := q / 10) (j := 0) rfl rfl (by omega) ⟨_, rfl, ?_⟩
      refine y_iconst (v := 2) dX12_canChange_32 (by decide) ?_
      refine y_icmp_gt (tgt := 40) dX12_canChange_33 (by decide) (fun h33 => ?_) (fun h33 => ?_)
      · refine y_iconst (v := 0) dX12_canChange_40 (by decide) ?_
        refine y_ist8_4 dX12_canChange_41 rfl ?_
        refine y_iload_n dX12_canChange_43 rfl rfl ?_
        refine y_iconst (v := 4) dX12_canChange_44 (by decide) ?_
        refine y_icmp_ne (tgt := 69) dX12_canChange_45 (by decide) (fun h45 => ?_) (fun h45 => absurd h45 (by decide))
        refine y_aload_n dX12_canChange_69 rfl rfl ?_
        refine y_iload_n dX12_canChange_70 rfl rfl ?_
        refine y_iconst (v := 1) dX12_canChange_71 (by decide) ?_
        refine y_ivI2 dX12_canChange_72 mv_X12_171 my_X12_s (Or.inl rfl) sh_239 ?_
        refine c_X12_s hb (k := q / 10) (j := 1) rfl rfl (by omega) ⟨_, rfl, ?_⟩
        refine y_iload_n dX12_canChange_75 rfl rfl ?_
        refine y_if_ne (tgt := 83) dX12_canChange_76 (by decide) (fun h76 => absurd (by decide) h76) (fun h76 => ?_)
        refine y_iconst (v := -1) dX12_canChange_79 (by decide) ?_
        refine y_goto (tgt := 93) dX12_canChange_80 (by decide) ?_
        refine y_iadd dX12_canChange_93 ?_
        refine y_ist8_5 dX12_canChange_94 rfl ?_
        refine y_aload_n dX12_canChange_96 rfl rfl ?_
        refine y_iload_n dX12_canChange_97 rfl rfl ?_
        refine y_iconst (v := 2) dX12_canChange_98 (by decide) ?_
        refine y_ivI2 dX12_canChange_99 mv_X12_171 my_X12_s (Or.inl rfl) sh_239 ?_
        refine c_X12_s hb (k := q / 10) (j := 2) rfl rfl (by omega) ⟨_, rfl, ?_⟩
        refine y_iload_n dX12_canChange_102 rfl rfl ?_
        refine y_iconst (v := 2) dX12_canChange_103 (by decide) ?_
        refine y_icmp_ne (tgt := 111) dX12_canChange_104 (by decide) (fun h104 => ?_) (fun h104 => absurd h104 (by decide))
        refine y_iload_n dX12_canChange_111 rfl rfl ?_
        refine y_iconst (v := 3) dX12_canChange_112 (by decide) ?_
        refine y_icmp_ne (tgt := 120) dX12_canChange_113 (by decide) (fun h113 => ?_) (fun h113 => absurd h113 (by decide))
        refine y_iconst (v := 0) dX12_canChange_120 (by decide) ?_
        refine y_iadd dX12_canChange_121 ?_
        refine y_ist8_6 dX12_canChange_122 rfl ?_
        refine y_iload dX12_canChange_124 rfl ?_
        refine y_if_eq (tgt := 174) dX12_canChange_126 (by decide) (fun h126 => ?_) (fun h126 => absurd (by decide) h126)
        refine y_iconst (v := 0) dX12_canChange_174 (by decide) ?_
        refine y_ist8_7 dX12_canChange_175 rfl ?_
        refine y_iload dX12_canChange_177 rfl ?_
        refine y_if_eq (tgt := 210) dX12_canChange_179 (by decide) (fun h179 => ?_) (fun h179 => absurd (by decide) h179)
        refine y_iload dX12_canChange_210 rfl ?_
        refine y_ireturn dX12_canChange_212 rfl rfl ?_
        first
          | (rw [← chg0 hr (c := c)]; exact hQ1 ((canI hi (lst_le hs h33)).1 hr ((okW (lst_le hs h33)).1.mp ⟨a1, a2⟩)))
          | (rw [← chg0 hr (c := c)]; exact hQ1 ((canI hi (lst_le hs h33)).1 hr ((okW (lst_le hs h33)).1.mp ⟨a1, a2⟩)))
          | exact hQ0 (fun z => lst_gt h33 (can0 hr z).1)
          | exact hQ0 (fun z => lst_gt (Int32.not_le.mp h33) (can0 hr z).1)
          | exact hQ0 (fun z => a3 ((okW (lst_le hs h33)).1.mpr (can0 hr z).2))
          | exact absurd (okT (lst_le hs h33)) b3
          | exact absurd h167 (Int32.not_lt.mpr (okS hT hT2))
          | exact absurd (okS hT hT2) h167
      · refine y_iconst (v := 1) dX12_canChange_36 (by decide) ?_
        refine y_goto (tgt := 41) dX12_canChange_37 (by decide) ?_
        refine y_ist8_4 dX12_canChange_41 rfl ?_
        refine y_iload_n dX12_canChange_43 rfl rfl ?_
        refine y_iconst (v := 4) dX12_canChange_44 (by decide) ?_
        refine y_icmp_ne (tgt := 69) dX12_canChange_45 (by decide) (fun h45 => ?_) (fun h45 => absurd h45 (by decide))
        refine y_aload_n dX12_canChange_69 rfl rfl ?_
        refine y_iload_n dX12_canChange_70 rfl rfl ?_
        refine y_iconst (v := 1) dX12_canChange_71 (by decide) ?_
        refine y_ivI2 dX12_canChange_72 mv_X12_171 my_X12_s (Or.inl rfl) sh_239 ?_
        refine c_X12_s hb (k := q / 10) (j := 1) rfl rfl (by omega) ⟨_, rfl, ?_⟩
        refine y_iload_n dX12_canChange_75 rfl rfl ?_
        refine y_if_ne (tgt := 83) dX12_canChange_76 (by decide) (fun h76 => absurd (by decide) h76) (fun h76 => ?_)
        refine y_iconst (v := -1) dX12_canChange_79 (by decide) ?_
        refine y_goto (tgt := 93) dX12_canChange_80 (by decide) ?_
        refine y_iadd dX12_canChange_93 ?_
        refine y_ist8_5 dX12_canChange_94 rfl ?_
        refine y_aload_n dX12_canChange_96 rfl rfl ?_
        refine y_iload_n dX12_canChange_97 rfl rfl ?_
        refine y_iconst (v := 2) dX12_canChange_98 (by decide) ?_
        refine y_ivI2 dX12_canChange_99 mv_X12_171 my_X12_s (Or.inl rfl) sh_239 ?_
        refine c_X12_s hb (k := q / 10) (j := 2) rfl rfl (by omega) ⟨_, rfl, ?_⟩
        refine y_iload_n dX12_canChange_102 rfl rfl ?_
        refine y_iconst (v := 2) dX12_canChange_103 (by decide) ?_
        refine y_icmp_ne (tgt := 111) dX12_canChange_104 (by decide) (fun h104 => ?_) (fun h104 => absurd h104 (by decide))
        refine y_iload_n dX12_canChange_111 rfl rfl ?_
        refine y_iconst (v := 3) dX12_canChange_112 (by decide) ?_
        refine y_icmp_ne (tgt := 120) dX12_canChange_113 (by decide) (fun h113 => ?_) (fun h113 => absurd h113 (by decide))
        refine y_iconst (v := 0) dX12_canChange_120 (by decide) ?_
        refine y_iadd dX12_canChange_121 ?_
        refine y_ist8_6 dX12_canChange_122 rfl ?_
        refine y_iload dX12_canChange_124 rfl ?_
        refine y_if_eq (tgt := 174) dX12_canChange_126 (by decide) (fun h126 => absurd h126 (by decide)) (fun h126 => ?_)
        refine y_iload dX12_canChange_129 rfl ?_
        refine y_iconst (v := 0) dX12_canChange_131 (by decide) ?_
        refine y_bipush (v := 9) dX12_canChange_132 (by decide) ?_
        refine y_isI3 dX12_canChange_134 ms_X12_86 my_X12_in (Or.inl rfl) ?_
        refine c_X12_in (fun a1 a2 => ⟨_, rfl, ?_⟩) (fun a3 => ⟨_, rfl, ?_⟩)
        · refine y_if_eq (tgt := 174) dX12_canChange_137 (by decide) (fun h137 => absurd h137 (by decide)) (fun h137 => ?_)
          refine y_iload dX12_canChange_140 rfl ?_
          refine y_iconst (v := 1) dX12_canChange_142 (by decide) ?_
          refine y_bipush (v := 30) dX12_canChange_143 (by decide) ?_
          refine y_isI3 dX12_canChange_145 ms_X12_86 my_X12_in (Or.inl rfl) ?_
          refine c_X12_in (fun b1 b2 => ⟨_, rfl, ?_⟩) (fun b3 => ⟨_, rfl, ?_⟩)
          · refine y_if_eq (tgt := 174) dX12_canChange_148 (by decide) (fun h148 => absurd h148 (by decide)) (fun h148 => ?_)
            refine y_aload_n dX12_canChange_151 rfl rfl ?_
            refine y_ivI0 dX12_canChange_152 mv_X12_187 my_X12_turnsAll (Or.inl rfl) sh_239 ?_
            refine c_X12_turnsAll hb hc hc2 ⟨_, rfl, ?_⟩
            refine y_aload_n dX12_canChange_155 rfl rfl ?_
            refine y_iload_n dX12_canChange_156 rfl rfl ?_
            refine y_iconst (v := 2) dX12_canChange_157 (by decide) ?_
            refine y_ivI2 dX12_canChange_158 mv_X12_171 my_X12_s (Or.inl rfl) sh_239 ?_
            refine c_X12_s hb (k := q / 10) (j := 2) rfl rfl (by omega) ⟨_, rfl, ?_⟩
            refine y_isub dX12_canChange_161 ?_
            refine y_iload dX12_canChange_162 rfl ?_
            refine y_iadd dX12_canChange_164 ?_
            refine y_bipush (v := 90) dX12_canChange_165 (by decide) ?_
            refine y_icmp_gt (tgt := 174) dX12_canChange_167 (by decide) (fun h167 => ?_) (fun h167 => ?_)
            · refine y_iconst (v := 0) dX12_canChange_174 (by decide) ?_
              refine y_ist8_7 dX12_canChange_175 rfl ?_
              refine y_iload dX12_canChange_177 rfl ?_
              refine y_if_eq (tgt := 210) dX12_canChange_179 (by decide) (fun h179 => ?_) (fun h179 => absurd (by decide) h179)
              refine y_iload dX12_canChange_210 rfl ?_
              refine y_ireturn dX12_canChange_212 rfl rfl ?_
              first
                | (rw [← chg0 hr (c := c)]; exact hQ1 ((canI hi (lst_le hs h33)).1 hr ((okW (lst_le hs h33)).1.mp ⟨a1, a2⟩)))
                | (rw [← chg0 hr (c := c)]; exact hQ1 ((canI hi (lst_le hs h33)).1 hr ((okW (lst_le hs h33)).1.mp ⟨a1, a2⟩)))
                | exact hQ0 (fun z => lst_gt h33 (can0 hr z).1)
                | exact hQ0 (fun z => lst_gt (Int32.not_le.mp h33) (can0 hr z).1)
                | exact hQ0 (fun z => a3 ((okW (lst_le hs h33)).1.mpr (can0 hr z).2))
                | exact absurd (okT (lst_le hs h33)) b3
                | exact absurd h167 (Int32.not_lt.mpr (okS hT hT2))
                | exact absurd (okS hT hT2) h167
            · refine y_iconst (v := 1) dX12_canChange_170 (by decide) ?_
              refine y_goto (tgt := 175) dX12_canChange_171 (by decide) ?_
              refine y_ist8_7 dX12_canChange_175 rfl ?_
              refine y_iload dX12_canChange_177 rfl ?_
              refine y_if_eq (tgt := 210) dX12_canChange_179 (by decide) (fun h179 => absurd h179 (by decide)) (fun h179 => ?_)
              refine y_aload_n dX12_canChange_182 rfl rfl ?_
              refine y_bipush (v := 6) dX12_canChange_183 (by decide) ?_
              refine y_iconst (v := 3) dX12_canChange_185 (by decide) ?_
              refine y_iload_n dX12_canChange_186 rfl rfl ?_
              refine y_imulN (a := 3) (b := q / 10) dX12_canChange_187 rfl rfl ?_
              refine y_iaddN (a := 6) (b := 3 * (q / 10)) dX12_canChange_188 rfl rfl ?_
              refine y_iconst (v := 1) dX12_canChange_189 (by decide) ?_
              refine y_iaddN (a := 6 + (3 * (q / 10))) (b := 1) dX12_canChange_190 rfl rfl ?_
              refine y_iload dX12_canChange_191 rfl ?_
              refine y_ivV2 dX12_canChange_193 mv_X12_163 my_X12_put_ (Or.inl rfl) sh_239 ?_
              refine c_X12_put_ hb (p := 6 + 3 * (q / 10) + 1) rfl (by omega) ⟨rfl, ?_⟩
              refine y_aload_n dX12_canChange_196 rfl rfl ?_
              refine y_bipush (v := 6) dX12_canChange_197 (by decide) ?_
              refine y_iconst (v := 3) dX12_canChange_199 (by decide) ?_
              refine y_iload_n dX12_canChange_200 rfl rfl ?_
              refine y_imulN (a := 3) (b := q / 10) dX12_canChange_201 rfl rfl ?_
              refine y_iaddN (a := 6) (b := 3 * (q / 10)) dX12_canChange_202 rfl rfl ?_
              refine y_iconst (v := 2) dX12_canChange_203 (by decide) ?_
              refine y_iaddN (a := 6 + (3 * (q / 10))) (b := 2) dX12_canChange_204 rfl rfl ?_
              refine y_iload dX12_canChange_205 rfl ?_
              refine y_ivV2 dX12_canChange_207 mv_X12_163 my_X12_put_ (Or.inl rfl) sh_239 ?_
              refine c_X12_put_ hb (p := 6 + 3 * (q / 10) + 2) rfl (by omega) ⟨rfl, ?_⟩
              refine y_iload dX12_canChange_210 rfl ?_
              refine y_ireturn dX12_canChange_212 rfl rfl ?_
              first
                | (rw [← chg0 hr (c := c)]; exact hQ1 ((canI hi (lst_le hs h33)).1 hr ((okW (lst_le hs h33)).1.mp ⟨a1, a2⟩)))
                | (rw [← chg0 hr (c := c)]; exact hQ1 ((canI hi (lst_le hs h33)).1 hr ((okW (lst_le hs h33)).1.mp ⟨a1, a2⟩)))
                | exact hQ0 (fun z => lst_gt h33 (can0 hr z).1)
                | exact hQ0 (fun z => lst_gt (Int32.not_le.mp h33) (can0 hr z).1)
                | exact hQ0 (fun z => a3 ((okW (lst_le hs h33)).1.mpr (can0 hr z).2))
                | exact absurd (okT (lst_le hs h33)) b3
                | exact absurd h167 (Int32.not_lt.mpr (okS hT hT2))
                | exact absurd (okS hT hT2) h167
          · refine y_if_eq (tgt := 174) dX12_canChange_148 (by decide) (fun h148 => ?_) (fun h148 => absurd (by decide) h148)
            refine y_iconst (v := 0) dX12_canChange_174 (by decide) ?_
            refine y_ist8_7 dX12_canChange_175 rfl ?_
            refine y_iload dX12_canChange_177 rfl ?_
            refine y_if_eq (tgt := 210) dX12_canChange_179 (by decide) (fun h179 => ?_) (fun h179 => absurd (by decide) h179)
            refine y_iload dX12_canChange_210 rfl ?_
            refine y_ireturn dX12_canChange_212 rfl rfl ?_
            first
              | (rw [← chg0 hr (c := c)]; exact hQ1 ((canI hi (lst_le hs h33)).1 hr ((okW (lst_le hs h33)).1.mp ⟨a1, a2⟩)))
              | (rw [← chg0 hr (c := c)]; exact hQ1 ((canI hi (lst_le hs h33)).1 hr ((okW (lst_le hs h33)).1.mp ⟨a1, a2⟩)))
              | exact hQ0 (fun z => lst_gt h33 (can0 hr z).1)
              | exact hQ0 (fun z => lst_gt (Int32.not_le.mp h33) (can0 hr z).1)
              | exact hQ0 (fun z => a3 ((okW (lst_le hs h33)).1.mpr (can0 hr z).2))
              | exact absurd (okT (lst_le hs h33)) b3
              | exact absurd h167 (Int32.not_lt.mpr (okS hT hT2))
              | exact absurd (okS hT hT2) h167
        · refine y_if_eq (tgt := 174) dX12_canChange_137 (by decide) (fun h137 => ?_) (fun h137 => absurd (by decide) h137)
          refine y_iconst (v := 0) dX12_canChange_174 (by decide) ?_
          refine y_ist8_7 dX12_canChange_175 rfl ?_
          refine y_iload dX12_canChange_177 rfl ?_
          refine y_if_eq (tgt := 210) dX12_canChange_179 (by decide) (fun h179 => ?_) (fun h179 => absurd (by decide) h179)
          refine y_iload dX12_canChange_210 rfl ?_
          refine y_ireturn dX12_canChange_212 rfl rfl ?_
          first
            | (rw [← chg0 hr (c := c)]; exact hQ1 ((canI hi (lst_le hs h33)).1 hr ((okW (lst_le hs h33)).1.mp ⟨a1, a2⟩)))
            | (rw [← chg0 hr (c := c)]; exact hQ1 ((canI hi (lst_le hs h33)).1 hr ((okW (lst_le hs h33)).1.mp ⟨a1, a2⟩)))
            | exact hQ0 (fun z => lst_gt h33 (can0 hr z).1)
            | exact hQ0 (fun z => lst_gt (Int32.not_le.mp h33) (can0 hr z).1)
            | exact hQ0 (fun z => a3 ((okW (lst_le hs h33)).1.mpr (can0 hr z).2))
            | exact absurd (okT (lst_le hs h33)) b3
            | exact absurd h167 (Int32.not_lt.mpr (okS hT hT2))
            | exact absurd (okS hT hT2) h167
    · rw [hr]
      refine y_iload_n dX12_canChange_10 rfl rfl ?_
      refine y_aload_n dX12_canChange_11 rfl rfl ?_
      refine y_iconst (v := 5) dX12_canChange_12 (by decide) ?_
      refine y_ivI1 dX12_canChange_13 mv_X12_160 my_X12_v (Or.inl rfl) sh_239 ?_
      refine c_X12_v hb (p := 5) rfl (by omega) ⟨_, rfl, ?_⟩
      rw [hc]
      refine y_icmp_ge (tgt := 24) dX12_canChange_16 (by decide) (fun h16 => absurd h16 (nI_ge (a := q / 10) (b := c) hi (by omega))) (fun h16 => ?_)
      refine y_iload_n dX12_canChange_19 rfl rfl ?_
      refine y_iconst (v := 4) dX12_canChange_20 (by decide) ?_
      refine y_icmp_le (tgt := 26) dX12_canChange_21 (by decide) (fun h21 => ?_) (fun h21 => absurd (by decide) h21)
      refine y_aload_n dX12_canChange_26 rfl rfl ?_
      refine y_iload_n dX12_canChange_27 rfl rfl ?_
      refine y_iconst (v := 0) dX12_canChange_28 (by decide) ?_
      refine y_ivI2 dX12_canChange_29 mv_X12_171 my_X12_s (Or.inl rfl) sh_239 ?_
      refine c_X12_s hb (k := q / 10) (j := 0) rfl rfl (by omega) ⟨_, rfl, ?_⟩
      refine y_iconst (v := 2) dX12_canChange_32 (by decide) ?_
      refine y_icmp_gt (tgt := 40) dX12_canChange_33 (by decide) (fun h33 => ?_) (fun h33 => ?_)
      · refine y_iconst (v := 0) dX12_canChange_40 (by decide) ?_
        refine y_ist8_4 dX12_canChange_41 rfl ?_
        refine y_iload_n dX12_canChange_43 rfl rfl ?_
        refine y_iconst (v := 4) dX12_canChange_44 (by decide) ?_
        refine y_icmp_ne (tgt := 69) dX12_canChange_45 (by decide) (fun h45 => ?_) (fun h45 => absurd h45 (by decide))
        refine y_aload_n dX12_canChange_69 rfl rfl ?_
        refine y_iload_n dX12_canChange_70 rfl rfl ?_
        refine y_iconst (v := 1) dX12_canChange_71 (by decide) ?_
        refine y_ivI2 dX12_canChange_72 mv_X12_171 my_X12_s (Or.inl rfl) sh_239 ?_
        refine c_X12_s hb (k := q / 10) (j := 1) rfl rfl (by omega) ⟨_, rfl, ?_⟩
        refine y_iload_n dX12_canChange_75 rfl rfl ?_
        refine y_if_ne (tgt := 83) dX12_canChange_76 (by decide) (fun h76 => ?_) (fun h76 => absurd h76 (by decide))
        refine y_iload_n dX12_canChange_83 rfl rfl ?_
        refine y_iconst (v := 1) dX12_canChange_84 (by decide) ?_
        refine y_icmp_ne (tgt := 92) dX12_canChange_85 (by decide) (fun h85 => absurd (by decide) h85) (fun h85 => ?_)
        refine y_iconst (v := 1) dX12_canChange_88 (by decide) ?_
        refine y_goto (tgt := 93) dX12_canChange_89 (by decide) ?_
        refine y_iadd dX12_canChange_93 ?_
        refine y_ist8_5 dX12_canChange_94 rfl ?_
        refine y_aload_n dX12_canChange_96 rfl rfl ?_
        refine y_iload_n dX12_canChange_97 rfl rfl ?_
        refine y_iconst (v := 2) dX12_canChange_98 (by decide) ?_
        refine y_ivI2 dX12_canChange_99 mv_X12_171 my_X12_s (Or.inl rfl) sh_239 ?_
        refine c_X12_s hb (k := q / 10) (j := 2) rfl rfl (by omega) ⟨_, rfl, ?_⟩
        refine y_iload_n dX12_canChange_102 rfl rfl ?_
        refine y_iconst (v := 2) dX12_canChange_103 (by decide) ?_
        refine y_icmp_ne (tgt := 111) dX12_canChange_104 (by decide) (fun h104 => ?_) (fun h104 => absurd h104 (by decide))
        refine y_iload_n dX12_canChange_111 rfl rfl ?_
        refine y_iconst (v := 3) dX12_canChange_112 (by decide) ?_
        refine y_icmp_ne (tgt := 120) dX12_canChange_113 (by decide) (fun h113 => ?_) (fun h113 => absurd h113 (by decide))
        refine y_iconst (v := 0) dX12_canChange_120 (by decide) ?_
        refine y_iadd dX12_canChange_121 ?_
        refine y_ist8_6 dX12_canChange_122 rfl ?_
        refine y_iload dX12_canChange_124 rfl ?_
        refine y_if_eq (tgt := 174) dX12_canChange_126 (by decide) (fun h126 => ?_) (fun h126 => absurd (by decide) h126)
        refine y_iconst (v := 0) dX12_canChange_174 (by decide) ?_
        refine y_ist8_7 dX12_canChange_175 rfl ?_
        refine y_iload dX12_canChange_177 rfl ?_
        refine y_if_eq (tgt := 210) dX12_canChange_179 (by decide) (fun h179 => ?_) (fun h179 => absurd (by decide) h179)
        refine y_iload dX12_canChange_210 rfl ?_
        refine y_ireturn dX12_canChange_212 rfl rfl ?_
        first
          | (rw [← chg1 hr (c := c)]; exact hQ1 ((canI hi (lst_le hs h33)).2.1 hr ((okW (lst_le hs h33)).2.1.mp ⟨a1, a2⟩)))
          | (rw [← chg1 hr (c := c)]; exact hQ1 ((canI hi (lst_le hs h33)).2.1 hr ((okW (lst_le hs h33)).2.1.mp ⟨a1, a2⟩)))
          | exact hQ0 (fun z => lst_gt h33 (can1 hr z).1)
          | exact hQ0 (fun z => lst_gt (Int32.not_le.mp h33) (can1 hr z).1)
          | exact hQ0 (fun z => a3 ((okW (lst_le hs h33)).2.1.mpr (can1 hr z).2))
          | exact absurd (okT (lst_le hs h33)) b3
          | exact absurd h167 (Int32.not_lt.mpr (okS hT hT2))
          | exact absurd (okS hT hT2) h167
      · refine y_iconst (v := 1) dX12_canChange_36 (by decide) ?_
        refine y_goto (tgt := 41) dX12_canChange_37 (by decide) ?_
        refine y_ist8_4 dX12_canChange_41 rfl ?_
        refine y_iload_n dX12_canChange_43 rfl rfl ?_
        refine y_iconst (v := 4) dX12_canChange_44 (by decide) ?_
        refine y_icmp_ne (tgt := 69) dX12_canChange_45 (by decide) (fun h45 => ?_) (fun h45 => absurd h45 (by decide))
        refine y_aload_n dX12_canChange_69 rfl rfl ?_
        refine y_iload_n dX12_canChange_70 rfl rfl ?_
        refine y_iconst (v := 1) dX12_canChange_71 (by decide) ?_
        refine y_ivI2 dX12_canChange_72 mv_X12_171 my_X12_s (Or.inl rfl) sh_239 ?_
        refine c_X12_s hb (k := q / 10) (j := 1) rfl rfl (by omega) ⟨_, rfl, ?_⟩
        refine y_iload_n dX12_canChange_75 rfl rfl ?_
        refine y_if_ne (tgt := 83) dX12_canChange_76 (by decide) (fun h76 => ?_) (fun h76 => absurd h76 (by decide))
        refine y_iload_n dX12_canChange_83 rfl rfl ?_
        refine y_iconst (v := 1) dX12_canChange_84 (by decide) ?_
        refine y_icmp_ne (tgt := 92) dX12_canChange_85 (by decide) (fun h85 => absurd (by decide) h85) (fun h85 => ?_)
        refine y_iconst (v := 1) dX12_canChange_88 (by decide) ?_
        refine y_goto (tgt := 93) dX12_canChange_89 (by decide) ?_
        refine y_iadd dX12_canChange_93 ?_
        refine y_ist8_5 dX12_canChange_94 rfl ?_
        refine y_aload_n dX12_canChange_96 rfl rfl ?_
        refine y_iload_n dX12_canChange_97 rfl rfl ?_
        refine y_iconst (v := 2) dX12_canChange_98 (by decide) ?_
        refine y_ivI2 dX12_canChange_99 mv_X12_171 my_X12_s (Or.inl rfl) sh_239 ?_
        refine c_X12_s hb (k := q / 10) (j := 2) rfl rfl (by omega) ⟨_, rfl, ?_⟩
        refine y_iload_n dX12_canChange_102 rfl rfl ?_
        refine y_iconst (v := 2) dX12_canChange_103 (by decide) ?_
        refine y_icmp_ne (tgt := 111) dX12_canChange_104 (by decide) (fun h104 => ?_) (fun h104 => absurd h104 (by decide))
        refine y_iload_n dX12_canChange_111 rfl rfl ?_
        refine y_iconst (v := 3) dX12_canChange_112 (by decide) ?_
        refine y_icmp_ne (tgt := 120) dX12_canChange_113 (by decide) (fun h113 => ?_) (fun h113 => absurd h113 (by decide))
        refine y_iconst (v := 0) dX12_canChange_120 (by decide) ?_
        refine y_iadd dX12_canChange_121 ?_
        refine y_ist8_6 dX12_canChange_122 rfl ?_
        refine y_iload dX12_canChange_124 rfl ?_
        refine y_if_eq (tgt := 174) dX12_canChange_126 (by decide) (fun h126 => absurd h126 (by decide)) (fun h126 => ?_)
        refine y_iload dX12_canChange_129 rfl ?_
        refine y_iconst (v := 0) dX12_canChange_131 (by decide) ?_
        refine y_bipush (v := 9) dX12_canChange_132 (by decide) ?_
        refine y_isI3 dX12_canChange_134 ms_X12_86 my_X12_in (Or.inl rfl) ?_
        refine c_X12_in (fun a1 a2 => ⟨_, rfl, ?_⟩) (fun a3 => ⟨_, rfl, ?_⟩)
        · refine y_if_eq (tgt := 174) dX12_canChange_137 (by decide) (fun h137 => absurd h137 (by decide)) (fun h137 => ?_)
          refine y_iload dX12_canChange_140 rfl ?_
          refine y_iconst (v := 1) dX12_canChange_142 (by decide) ?_
          refine y_bipush (v := 30) dX12_canChange_143 (by decide) ?_
          refine y_isI3 dX12_canChange_145 ms_X12_86 my_X12_in (Or.inl rfl) ?_
          refine c_X12_in (fun b1 b2 => ⟨_, rfl, ?_⟩) (fun b3 => ⟨_, rfl, ?_⟩)
          · refine y_if_eq (tgt := 174) dX12_canChange_148 (by decide) (fun h148 => absurd h148 (by decide)) (fun h148 => ?_)
            refine y_aload_n dX12_canChange_151 rfl rfl ?_
            refine y_ivI0 dX12_canChange_152 mv_X12_187 my_X12_turnsAll (Or.inl rfl) sh_239 ?_
            refine c_X12_turnsAll hb hc hc2 ⟨_, rfl, ?_⟩
            refine y_aload_n dX12_canChange_155 rfl rfl ?_
            refine y_iload_n dX12_canChange_156 rfl rfl ?_
            refine y_iconst (v := 2) dX12_canChange_157 (by decide) ?_
            refine y_ivI2 dX12_canChange_158 mv_X12_171 my_X12_s (Or.inl rfl) sh_239 ?_
            refine c_X12_s hb (k := q / 10) (j := 2) rfl rfl (by omega) ⟨_, rfl, ?_⟩
            refine y_isub dX12_canChange_161 ?_
            refine y_iload dX12_canChange_162 rfl ?_
            refine y_iadd dX12_canChange_164 ?_
            refine y_bipush (v := 90) dX12_canChange_165 (by decide) ?_
            refine y_icmp_gt (tgt := 174) dX12_canChange_167 (by decide) (fun h167 => ?_) (fun h167 => ?_)
            · refine y_iconst (v := 0) dX12_canChange_174 (by decide) ?_
              refine y_ist8_7 dX12_canChange_175 rfl ?_
              refine y_iload dX12_canChange_177 rfl ?_
              refine y_if_eq (tgt := 210) dX12_canChange_179 (by decide) (fun h179 => ?_) (fun h179 => absurd (by decide) h179)
              refine y_iload dX12_canChange_210 rfl ?_
              refine y_ireturn dX12_canChange_212 rfl rfl ?_
              first
                | (rw [← chg1 hr (c := c)]; exact hQ1 ((canI hi (lst_le hs h33)).2.1 hr ((okW (lst_le hs h33)).2.1.mp ⟨a1, a2⟩)))
                | (rw [← chg1 hr (c := c)]; exact hQ1 ((canI hi (lst_le hs h33)).2.1 hr ((okW (lst_le hs h33)).2.1.mp ⟨a1, a2⟩)))
                | exact hQ0 (fun z => lst_gt h33 (can1 hr z).1)
                | exact hQ0 (fun z => lst_gt (Int32.not_le.mp h33) (can1 hr z).1)
                | exact hQ0 (fun z => a3 ((okW (lst_le hs h33)).2.1.mpr (can1 hr z).2))
                | exact absurd (okT (lst_le hs h33)) b3
                | exact absurd h167 (Int32.not_lt.mpr (okS hT hT2))
                | exact absurd (okS hT hT2) h167
            · refine y_iconst (v := 1) dX12_canChange_170 (by decide) ?_
              refine y_goto (tgt := 175) dX12_canChange_171 (by decide) ?_
              refine y_ist8_7 dX12_canChange_175 rfl ?_
              refine y_iload dX12_canChange_177 rfl ?_
              refine y_if_eq (tgt := 210) dX12_canChange_179 (by decide) (fun h179 => absurd h179 (by decide)) (fun h179 => ?_)
              refine y_aload_n dX12_canChange_182 rfl rfl ?_
              refine y_bipush (v := 6) dX12_canChange_183 (by decide) ?_
              refine y_iconst (v := 3) dX12_canChange_185 (by decide) ?_
              refine y_iload_n dX12_canChange_186 rfl rfl ?_
              refine y_imulN (a := 3) (b := q / 10) dX12_canChange_187 rfl rfl ?_
              refine y_iaddN (a := 6) (b := 3 * (q / 10)) dX12_canChange_188 rfl rfl ?_
              refine y_iconst (v := 1) dX12_canChange_189 (by decide) ?_
              refine y_iaddN (a := 6 + (3 * (q / 10))) (b := 1) dX12_canChange_190 rfl rfl ?_
              refine y_iload dX12_canChange_191 rfl ?_
              refine y_ivV2 dX12_canChange_193 mv_X12_163 my_X12_put_ (Or.inl rfl) sh_239 ?_
              refine c_X12_put_ hb (p := 6 + 3 * (q / 10) + 1) rfl (by omega) ⟨rfl, ?_⟩
              refine y_aload_n dX12_canChange_196 rfl rfl ?_
              refine y_bipush (v := 6) dX12_canChange_197 (by decide) ?_
              refine y_iconst (v := 3) dX12_canChange_199 (by decide) ?_
              refine y_iload_n dX12_canChange_200 rfl rfl ?_
              refine y_imulN (a := 3) (b := q / 10) dX12_canChange_201 rfl rfl ?_
              refine y_iaddN (a := 6) (b := 3 * (q / 10)) dX12_canChange_202 rfl rfl ?_
              refine y_iconst (v := 2) dX12_canChange_203 (by decide) ?_
              refine y_iaddN (a := 6 + (3 * (q / 10))) (b := 2) dX12_canChange_204 rfl rfl ?_
              refine y_iload dX12_canChange_205 rfl ?_
              refine y_ivV2 dX12_canChange_207 mv_X12_163 my_X12_put_ (Or.inl rfl) sh_239 ?_
              refine c_X12_put_ hb (p := 6 + 3 * (q / 10) + 2) rfl (by omega) ⟨rfl, ?_⟩
              refine y_iload dX12_canChange_210 rfl ?_
              refine y_ireturn dX12_canChange_212 rfl rfl ?_
              first
                | (rw [← chg1 hr (c := c)]; exact hQ1 ((canI hi (lst_le hs h33)).2.1 hr ((okW (lst_le hs h33)).2.1.mp ⟨a1, a2⟩)))
                | (rw [← chg1 hr (c := c)]; exact hQ1 ((canI hi (lst_le hs h33)).2.1 hr ((okW (lst_le hs h33)).2.1.mp ⟨a1, a2⟩)))
                | exact hQ0 (fun z => lst_gt h33 (can1 hr z).1)
                | exact hQ0 (fun z => lst_gt (Int32.not_le.mp h33) (can1 hr z).1)
                | exact hQ0 (fun z => a3 ((okW (lst_le hs h33)).2.1.mpr (can1 hr z).2))
                | exact absurd (okT (lst_le hs h33)) b3
                | exact absurd h167 (Int32.not_lt.mpr (okS hT hT2))
                | exact absurd (okS hT hT2) h167
          · refine y_if_eq (tgt := 174) dX12_canChange_148 (by decide) (fun h148 => ?_) (fun h148 => absurd (by decide) h148)
            refine y_iconst (v := 0) dX12_canChange_174 (by decide) ?_
            refine y_ist8_7 dX12_canChange_175 rfl ?_
            refine y_iload dX12_canChange_177 rfl ?_
            refine y_if_eq (tgt := 210) dX12_canChange_179 (by decide) (fun h179 => ?_) (fun h179 => absurd (by decide) h179)
            refine y_iload dX12_canChange_210 rfl ?_
            refine y_ireturn dX12_canChange_212 rfl rfl ?_
            first
              | (rw [← chg1 hr (c := c)]; exact hQ1 ((canI hi (lst_le hs h33)).2.1 hr ((okW (lst_le hs h33)).2.1.mp ⟨a1, a2⟩)))
              | (rw [← chg1 hr (c := c)]; exact hQ1 ((canI hi (lst_le hs h33)).2.1 hr ((okW (lst_le hs h33)).2.1.mp ⟨a1, a2⟩)))
              | exact hQ0 (fun z => lst_gt h33 (can1 hr z).1)
              | exact hQ0 (fun z => lst_gt (Int32.not_le.mp h33) (can1 hr z).1)
              | exact hQ0 (fun z => a3 ((okW (lst_le hs h33)).2.1.mpr (can1 hr z).2))
              | exact absurd (okT (lst_le hs h33)) b3
              | exact absurd h167 (Int32.not_lt.mpr (okS hT hT2))
              | exact absurd (okS hT hT2) h167
        · refine y_if_eq (tgt := 174) dX12_canChange_137 (by decide) (fun h137 => ?_) (fun h137 => absurd (by decide) h137)
          refine y_iconst (v := 0) dX12_canChange_174 (by decide) ?_
          refine y_ist8_7 dX12_canChange_175 rfl ?_
          refine y_iload dX12_canChange_177 rfl ?_
          refine y_if_eq (tgt := 210) dX12_canChange_179 (by decide) (fun h179 => ?_) (fun h179 => absurd (by decide) h179)
          refine y_iload dX12_canChange_210 rfl ?_
          refine y_ireturn dX12_canChange_212 rfl rfl ?_
          first
            | (rw [← chg1 hr (c := c)]; exact hQ1 ((canI hi (lst_le hs h33)).2.1 hr ((okW (lst_le hs h33)).2.1.mp ⟨a1, a2⟩)))
            | (rw [← chg1 hr (c := c)]; exact hQ1 ((canI hi (lst_le hs h33)).2.1 hr ((okW (lst_le hs h33)).2.1.mp ⟨a1, a2⟩)))
            | exact hQ0 (fun z => lst_gt h33 (can1 hr z).1)
            | exact hQ0 (fun z => lst_gt (Int32.not_le.mp h33) (can1 hr z).1)
            | exact hQ0 (fun z => a3 ((okW (lst_le hs h33)).2.1.mpr (can1 hr z).2))
            | exact absurd (okT (lst_le hs h33)) b3
            | exact absurd h167 (Int32.not_lt.mpr (okS hT hT2))
            | exact absurd (okS hT hT2) h167
    · rw [hr]
      refine y_iload_n dX12_canChange_10 rfl rfl ?_
      refine y_aload_n dX12_canChange_11 rfl rfl ?_
      refine y_iconst (v := 5) dX12_canChange_12 (by decide) ?_
      refine y_ivI1 dX12_canChange_13 mv_X12_160 my_X12_v (Or.inl rfl) sh_239 ?_
      refine c_X12_v hb (p := 5) rfl (by omega) ⟨_, rfl, ?_⟩
      rw [hc]
      refine y_icmp_ge (tgt := 24) dX12_canChange_16 (by decide) (fun h16 => absurd h16 (nI_ge (a := q / 10) (b := c) hi (by omega))) (fun h16 => ?_)
      refine y_iload_n dX12_canChange_19 rfl rfl ?_
      refine y_iconst (v := 4) dX12_canChange_20 (by decide) ?_
      refine y_icmp_le (tgt := 26) dX12_canChange_21 (by decide) (fun h21 => ?_) (fun h21 => absurd (by decide) h21)
      refine y_aload_n dX12_canChange_26 rfl rfl ?_
      refine y_iload_n dX12_canChange_27 rfl rfl ?_
      refine y_iconst (v := 0) dX12_canChange_28 (by decide) ?_
      refine y_ivI2 dX12_canChange_29 mv_X12_171 my_X12_s (Or.inl rfl) sh_239 ?_
      refine c_X12_s hb (k := q / 10) (j := 0) rfl rfl (by omega) ⟨_, rfl, ?_⟩
      refine y_iconst (v := 2) dX12_canChange_32 (by decide) ?_
      refine y_icmp_gt (tgt := 40) dX12_canChange_33 (by decide) (fun h33 => ?_) (fun h33 => ?_)
      · refine y_iconst (v := 0) dX12_canChange_40 (by decide) ?_
        refine y_ist8_4 dX12_canChange_41 rfl ?_
        refine y_iload_n dX12_canChange_43 rfl rfl ?_
        refine y_iconst (v := 4) dX12_canChange_44 (by decide) ?_
        refine y_icmp_ne (tgt := 69) dX12_canChange_45 (by decide) (fun h45 => ?_) (fun h45 => absurd h45 (by decide))
        refine y_aload_n dX12_canChange_69 rfl rfl ?_
        refine y_iload_n dX12_canChange_70 rfl rfl ?_
        refine y_iconst (v := 1) dX12_canChange_71 (by decide) ?_
        refine y_ivI2 dX12_canChange_72 mv_X12_171 my_X12_s (Or.inl rfl) sh_239 ?_
        refine c_X12_s hb (k := q / 10) (j := 1) rfl rfl (by omega) ⟨_, rfl, ?_⟩
        refine y_iload_n dX12_canChange_75 rfl rfl ?_
        refine y_if_ne (tgt := 83) dX12_canChange_76 (by decide) (fun h76 => ?_) (fun h76 => absurd h76 (by decide))
        refine y_iload_n dX12_canChange_83 rfl rfl ?_
        refine y_iconst (v := 1) dX12_canChange_84 (by decide) ?_
        refine y_icmp_ne (tgt := 92) dX12_canChange_85 (by decide) (fun h85 => ?_) (fun h85 => absurd h85 (by decide))
        refine y_iconst (v := 0) dX12_canChange_92 (by decide) ?_
        refine y_iadd dX12_canChange_93 ?_
        refine y_ist8_5 dX12_canChange_94 rfl ?_
        refine y_aload_n dX12_canChange_96 rfl rfl ?_
        refine y_iload_n dX12_canChange_97 rfl rfl ?_
        refine y_iconst (v := 2) dX12_canChange_98 (by decide) ?_
        refine y_ivI2 dX12_canChange_99 mv_X12_171 my_X12_s (Or.inl rfl) sh_239 ?_
        refine c_X12_s hb (k := q / 10) (j := 2) rfl rfl (by omega) ⟨_, rfl, ?_⟩
        refine y_iload_n dX12_canChange_102 rfl rfl ?_
        refine y_iconst (v := 2) dX12_canChange_103 (by decide) ?_
        refine y_icmp_ne (tgt := 111) dX12_canChange_104 (by decide) (fun h104 => absurd (by decide) h104) (fun h104 => ?_)
        refine y_iconst (v := -1) dX12_canChange_107 (by decide) ?_
        refine y_goto (tgt := 121) dX12_canChange_108 (by decide) ?_
        refine y_iadd dX12_canChange_121 ?_
        refine y_ist8_6 dX12_canChange_122 rfl ?_
        refine y_iload dX12_canChange_124 rfl ?_
        refine y_if_eq (tgt := 174) dX12_canChange_126 (by decide) (fun h126 => ?_) (fun h126 => absurd (by decide) h126)
        refine y_iconst (v := 0) dX12_canChange_174 (by decide) ?_
        refine y_ist8_7 dX12_canChange_175 rfl ?_
        refine y_iload dX12_canChange_177 rfl ?_
        refine y_if_eq (tgt := 210) dX12_canChange_179 (by decide) (fun h179 => ?_) (fun h179 => absurd (by decide) h179)
        refine y_iload dX12_canChange_210 rfl ?_
        refine y_ireturn dX12_canChange_212 rfl rfl ?_
        first
          | (rw [← chg2 hr (c := c)]; exact hQ1 ((canI hi (lst_le hs h33)).2.2.1 hr ⟨b1, b2, (Int32.not_lt.mp h167)⟩))
          | (rw [← chg2 hr (c := c)]; exact hQ1 ((canI hi (lst_le hs h33)).2.2.1 hr ⟨b1, b2, h167⟩))
          | exact hQ0 (fun z => lst_gt h33 (can2 hr z).1)
          | exact hQ0 (fun z => lst_gt (Int32.not_le.mp h33) (can2 hr z).1)
          | exact absurd (okW (lst_le hs h33)).2.2 a3
          | exact hQ0 (fun z => b3 ⟨(can2' hr z).1, (can2' hr z).2.1⟩)
          | exact hQ0 (fun z => absurd h167 (Int32.not_lt.mpr (can2' hr z).2.2))
          | exact hQ0 (fun z => h167 (can2' hr z).2.2)
      · refine y_iconst (v := 1) dX12_canChange_36 (by decide) ?_
        refine y_goto (tgt := 41) dX12_canChange_37 (by decide) ?_
        refine y_ist8_4 dX12_canChange_41 rfl ?_
        refine y_iload_n dX12_canChange_43 rfl rfl ?_
        refine y_iconst (v := 4) dX12_canChange_44 (by decide) ?_
        refine y_icmp_ne (tgt := 69) dX12_canChange_45 (by decide) (fun h45 => ?_) (fun h45 => absurd h45 (by decide))
        refine y_aload_n dX12_canChange_69 rfl rfl ?_
        refine y_iload_n dX12_canChange_70 rfl rfl ?_
        refine y_iconst (v := 1) dX12_canChange_71 (by decide) ?_
        refine y_ivI2 dX12_canChange_72 mv_X12_171 my_X12_s (Or.inl rfl) sh_239 ?_
        refine c_X12_s hb (k := q / 10) (j := 1) rfl rfl (by omega) ⟨_, rfl, ?_⟩
        refine y_iload_n dX12_canChange_75 rfl rfl ?_
        refine y_if_ne (tgt := 83) dX12_canChange_76 (by decide) (fun h76 => ?_) (fun h76 => absurd h76 (by decide))
        refine y_iload_n dX12_canChange_83 rfl rfl ?_
        refine y_iconst (v := 1) dX12_canChange_84 (by decide) ?_
        refine y_icmp_ne (tgt := 92) dX12_canChange_85 (by decide) (fun h85 => ?_) (fun h85 => absurd h85 (by decide))
        refine y_iconst (v := 0) dX12_canChange_92 (by decide) ?_
        refine y_iadd dX12_canChange_93 ?_
        refine y_ist8_5 dX12_canChange_94 rfl ?_
        refine y_aload_n dX12_canChange_96 rfl rfl ?_
        refine y_iload_n dX12_canChange_97 rfl rfl ?_
        refine y_iconst (v := 2) dX12_canChange_98 (by decide) ?_
        refine y_ivI2 dX12_canChange_99 mv_X12_171 my_X12_s (Or.inl rfl) sh_239 ?_
        refine c_X12_s hb (k := q / 10) (j := 2) rfl rfl (by omega) ⟨_, rfl, ?_⟩
        refine y_iload_n dX12_canChange_102 rfl rfl ?_
        refine y_iconst (v := 2) dX12_canChange_103 (by decide) ?_
        refine y_icmp_ne (tgt := 111) dX12_canChange_104 (by decide) (fun h104 => absurd (by decide) h104) (fun h104 => ?_)
        refine y_iconst (v := -1) dX12_canChange_107 (by decide) ?_
        refine y_goto (tgt := 121) dX12_canChange_108 (by decide) ?_
        refine y_iadd dX12_canChange_121 ?_
        refine y_ist8_6 dX12_canChange_122 rfl ?_
        refine y_iload dX12_canChange_124 rfl ?_
        refine y_if_eq (tgt := 174) dX12_canChange_126 (by decide) (fun h126 => absurd h126 (by decide)) (fun h126 => ?_)
        refine y_iload dX12_canChange_129 rfl ?_
        refine y_iconst (v := 0) dX12_canChange_131 (by decide) ?_
        refine y_bipush (v := 9) dX12_canChange_132 (by decide) ?_
        refine y_isI3 dX12_canChange_134 ms_X12_86 my_X12_in (Or.inl rfl) ?_
        refine c_X12_in (fun a1 a2 => ⟨_, rfl, ?_⟩) (fun a3 => ⟨_, rfl, ?_⟩)
        · refine y_if_eq (tgt := 174) dX12_canChange_137 (by decide) (fun h137 => absurd h137 (by decide)) (fun h137 => ?_)
          refine y_iload dX12_canChange_140 rfl ?_
          refine y_iconst (v := 1) dX12_canChange_142 (by decide) ?_
          refine y_bipush (v := 30) dX12_canChange_143 (by decide) ?_
          refine y_isI3 dX12_canChange_145 ms_X12_86 my_X12_in (Or.inl rfl) ?_
          refine c_X12_in (fun b1 b2 => ⟨_, rfl, ?_⟩) (fun b3 => ⟨_, rfl, ?_⟩)
          · refine y_if_eq (tgt := 174) dX12_canChange_148 (by decide) (fun h148 => absurd h148 (by decide)) (fun h148 => ?_)
            refine y_aload_n dX12_canChange_151 rfl rfl ?_
            refine y_ivI0 dX12_canChange_152 mv_X12_187 my_X12_turnsAll (Or.inl rfl) sh_239 ?_
            refine c_X12_turnsAll hb hc hc2 ⟨_, rfl, ?_⟩
            refine y_aload_n dX12_canChange_155 rfl rfl ?_
            refine y_iload_n dX12_canChange_156 rfl rfl ?_
            refine y_iconst (v := 2) dX12_canChange_157 (by decide) ?_
            refine y_ivI2 dX12_canChange_158 mv_X12_171 my_X12_s (Or.inl rfl) sh_239 ?_
            refine c_X12_s hb (k := q / 10) (j := 2) rfl rfl (by omega) ⟨_, rfl, ?_⟩
            refine y_isub dX12_canChange_161 ?_
            refine y_iload dX12_canChange_162 rfl ?_
            refine y_iadd dX12_canChange_164 ?_
            refine y_bipush (v := 90) dX12_canChange_165 (by decide) ?_
            refine y_icmp_gt (tgt := 174) dX12_canChange_167 (by decide) (fun h167 => ?_) (fun h167 => ?_)
            · refine y_iconst (v := 0) dX12_canChange_174 (by decide) ?_
              refine y_ist8_7 dX12_canChange_175 rfl ?_
              refine y_iload dX12_canChange_177 rfl ?_
              refine y_if_eq (tgt := 210) dX12_canChange_179 (by decide) (fun h179 => ?_) (fun h179 => absurd (by decide) h179)
              refine y_iload dX12_canChange_210 rfl ?_
              refine y_ireturn dX12_canChange_212 rfl rfl ?_
              first
                | (rw [← chg2 hr (c := c)]; exact hQ1 ((canI hi (lst_le hs h33)).2.2.1 hr ⟨b1, b2, (Int32.not_lt.mp h167)⟩))
                | (rw [← chg2 hr (c := c)]; exact hQ1 ((canI hi (lst_le hs h33)).2.2.1 hr ⟨b1, b2, h167⟩))
                | exact hQ0 (fun z => lst_gt h33 (can2 hr z).1)
                | exact hQ0 (fun z => lst_gt (Int32.not_le.mp h33) (can2 hr z).1)
                | exact absurd (okW (lst_le hs h33)).2.2 a3
                | exact hQ0 (fun z => b3 ⟨(can2' hr z).1, (can2' hr z).2.1⟩)
                | exact hQ0 (fun z => absurd h167 (Int32.not_lt.mpr (can2' hr z).2.2))
                | exact hQ0 (fun z => h167 (can2' hr z).2.2)
            · refine y_iconst (v := 1) dX12_canChange_170 (by decide) ?_
              refine y_goto (tgt := 175) dX12_canChange_171 (by decide) ?_
              refine y_ist8_7 dX12_canChange_175 rfl ?_
              refine y_iload dX12_canChange_177 rfl ?_
              refine y_if_eq (tgt := 210) dX12_canChange_179 (by decide) (fun h179 => absurd h179 (by decide)) (fun h179 => ?_)
              refine y_aload_n dX12_canChange_182 rfl rfl ?_
              refine y_bipush (v := 6) dX12_canChange_183 (by decide) ?_
              refine y_iconst (v := 3) dX12_canChange_185 (by decide) ?_
              refine y_iload_n dX12_canChange_186 rfl rfl ?_
              refine y_imulN (a := 3) (b := q / 10) dX12_canChange_187 rfl rfl ?_
              refine y_iaddN (a := 6) (b := 3 * (q / 10)) dX12_canChange_188 rfl rfl ?_
              refine y_iconst (v := 1) dX12_canChange_189 (by decide) ?_
              refine y_iaddN (a := 6 + (3 * (q / 10))) (b := 1) dX12_canChange_190 rfl rfl ?_
              refine y_iload dX12_canChange_191 rfl ?_
              refine y_ivV2 dX12_canChange_193 mv_X12_163 my_X12_put_ (Or.inl rfl) sh_239 ?_
              refine c_X12_put_ hb (p := 6 + 3 * (q / 10) + 1) rfl (by omega) ⟨rfl, ?_⟩
              refine y_aload_n dX12_canChange_196 rfl rfl ?_
              refine y_bipush (v := 6) dX12_canChange_197 (by decide) ?_
              refine y_iconst (v := 3) dX12_canChange_199 (by decide) ?_
              refine y_iload_n dX12_canChange_200 rfl rfl ?_
              refine y_imulN (a := 3) (b := q / 10) dX12_canChange_201 rfl rfl ?_
              refine y_iaddN (a := 6) (b := 3 * (q / 10)) dX12_canChange_202 rfl rfl ?_
              refine y_iconst (v := 2) dX12_canChange_203 (by decide) ?_
              refine y_iaddN (a := 6 + (3 * (q / 10))) (b := 2) dX12_canChange_204 rfl rfl ?_
              refine y_iload dX12_canChange_205 rfl ?_
              refine y_ivV2 dX12_canChange_207 mv_X12_163 my_X12_put_ (Or.inl rfl) sh_239 ?_
              refine c_X12_put_ hb (p := 6 + 3 * (q / 10) + 2) rfl (by omega) ⟨rfl, ?_⟩
              refine y_iload dX12_canChange_210 rfl ?_
              refine y_ireturn dX12_canChange_212 rfl rfl ?_
              first
                | (rw [← chg2 hr (c := c)]; exact hQ1 ((canI hi (lst_le hs h33)).2.2.1 hr ⟨b1, b2, (Int32.not_lt.mp h167)⟩))
                | (rw [← chg2 hr (c := c)]; exact hQ1 ((canI hi (lst_le hs h33)).2.2.1 hr ⟨b1, b2, h167⟩))
                | exact hQ0 (fun z => lst_gt h33 (can2 hr z).1)
                | exact hQ0 (fun z => lst_gt (Int32.not_le.mp h33) (can2 hr z).1)
                | exact absurd (okW (lst_le hs h33)).2.2 a3
                | exact hQ0 (fun z => b3 ⟨(can2' hr z).1, (can2' hr z).2.1⟩)
                | exact hQ0 (fun z => absurd h167 (Int32.not_lt.mpr (can2' hr z).2.2))
                | exact hQ0 (fun z => h167 (can2' hr z).2.2)
          · refine y_if_eq (tgt := 174) dX12_canChange_148 (by decide) (fun h148 => ?_) (fun h148 => absurd (by decide) h148)
            refine y_iconst (v := 0) dX12_canChange_174 (by decide) ?_
            refine y_ist8_7 dX12_canChange_175 rfl ?_
            refine y_iload dX12_canChange_177 rfl ?_
            refine y_if_eq (tgt := 210) dX12_canChange_179 (by decide) (fun h179 => ?_) (fun h179 => absurd (by decide) h179)
            refine y_iload dX12_canChange_210 rfl ?_
            refine y_ireturn dX12_canChange_212 rfl rfl ?_
            first
              | (rw [← chg2 hr (c := c)]; exact hQ1 ((canI hi (lst_le hs h33)).2.2.1 hr ⟨b1, b2, (Int32.not_lt.mp h167)⟩))
              | (rw [← chg2 hr (c := c)]; exact hQ1 ((canI hi (lst_le hs h33)).2.2.1 hr ⟨b1, b2, h167⟩))
              | exact hQ0 (fun z => lst_gt h33 (can2 hr z).1)
              | exact hQ0 (fun z => lst_gt (Int32.not_le.mp h33) (can2 hr z).1)
              | exact absurd (okW (lst_le hs h33)).2.2 a3
              | exact hQ0 (fun z => b3 ⟨(can2' hr z).1, (can2' hr z).2.1⟩)
              | exact hQ0 (fun z => absurd h167 (Int32.not_lt.mpr (can2' hr z).2.2))
              | exact hQ0 (fun z => h167 (can2' hr z).2.2)
        · refine y_if_eq (tgt := 174) dX12_canChange_137 (by decide) (fun h137 => ?_) (fun h137 => absurd (by decide) h137)
          refine y_iconst (v := 0) dX12_canChange_174 (by decide) ?_
          refine y_ist8_7 dX12_canChange_175 rfl ?_
          refine y_iload dX12_canChange_177 rfl ?_
          refine y_if_eq (tgt := 210) dX12_canChange_179 (by decide) (fun h179 => ?_) (fun h179 => absurd (by decide) h179)
          refine y_iload dX12_canChange_210 rfl ?_
          refine y_ireturn dX12_canChange_212 rfl rfl ?_
          first
            | (rw [← chg2 hr (c := c)]; exact hQ1 ((canI hi (lst_le hs h33)).2.2.1 hr ⟨b1, b2, (Int32.not_lt.mp h167)⟩))
            | (rw [← chg2 hr (c := c)]; exact hQ1 ((canI hi (lst_le hs h33)).2.2.1 hr ⟨b1, b2, h167⟩))
            | exact hQ0 (fun z => lst_gt h33 (can2 hr z).1)
            | exact hQ0 (fun z => lst_gt (Int32.not_le.mp h33) (can2 hr z).1)
            | exact absurd (okW (lst_le hs h33)).2.2 a3
            | exact hQ0 (fun z => b3 ⟨(can2' hr z).1, (can2' hr z).2.1⟩)
            | exact hQ0 (fun z => absurd h167 (Int32.not_lt.mpr (can2' hr z).2.2))
            | exact hQ0 (fun z => h167 (can2' hr z).2.2)
    · rw [hr]
      refine y_iload_n dX12_canChange_10 rfl rfl ?_
      refine y_aload_n dX12_canChange_11 rfl rfl ?_
      refine y_iconst (v := 5) dX12_canChange_12 (by decide) ?_
      refine y_ivI1 dX12_canChange_13 mv_X12_160 my_X12_v (Or.inl rfl) sh_239 ?_
      refine c_X12_v hb (p := 5) rfl (by omega) ⟨_, rfl, ?_⟩
      rw [hc]
      refine y_icmp_ge (tgt := 24) dX12_canChange_16 (by decide) (fun h16 => absurd h16 (nI_ge (a := q / 10) (b := c) hi (by omega))) (fun h16 => ?_)
      refine y_iload_n dX12_canChange_19 rfl rfl ?_
      refine y_iconst (v := 4) dX12_canChange_20 (by decide) ?_
      refine y_icmp_le (tgt := 26) dX12_canChange_21 (by decide) (fun h21 => ?_) (fun h21 => absurd (by decide) h21)
      refine y_aload_n dX12_canChange_26 rfl rfl ?_
      refine y_iload_n dX12_canChange_27 rfl rfl ?_
      refine y_iconst (v := 0) dX12_canChange_28 (by decide) ?_
      refine y_ivI2 dX12_canChange_29 mv_X12_171 my_X12_s (Or.inl rfl) sh_239 ?_
      refine c_X12_s hb (k := q / 10) (j := 0) rfl rfl (by omega) ⟨_, rfl, ?_⟩
      refine y_iconst (v := 2) dX12_canChange_32 (by decide) ?_
      refine y_icmp_gt (tgt := 40) dX12_canChange_33 (by decide) (fun h33 => ?_) (fun h33 => ?_)
      · refine y_iconst (v := 0) dX12_canChange_40 (by decide) ?_
        refine y_ist8_4 dX12_canChange_41 rfl ?_
        refine y_iload_n dX12_canChange_43 rfl rfl ?_
        refine y_iconst (v := 4) dX12_canChange_44 (by decide) ?_
        refine y_icmp_ne (tgt := 69) dX12_canChange_45 (by decide) (fun h45 => ?_) (fun h45 => absurd h45 (by decide))
        refine y_aload_n dX12_canChange_69 rfl rfl ?_
        refine y_iload_n dX12_canChange_70 rfl rfl ?_
        refine y_iconst (v := 1) dX12_canChange_71 (by decide) ?_
        refine y_ivI2 dX12_canChange_72 mv_X12_171 my_X12_s (Or.inl rfl) sh_239 ?_
        refine c_X12_s hb (k := q / 10) (j := 1) rfl rfl (by omega) ⟨_, rfl, ?_⟩
        refine y_iload_n dX12_canChange_75 rfl rfl ?_
        refine y_if_ne (tgt := 83) dX12_canChange_76 (by decide) (fun h76 => ?_) (fun h76 => absurd h76 (by decide))
        refine y_iload_n dX12_canChange_83 rfl rfl ?_
        refine y_iconst (v := 1) dX12_canChange_84 (by decide) ?_
        refine y_icmp_ne (tgt := 92) dX12_canChange_85 (by decide) (fun h85 => ?_) (fun h85 => absurd h85 (by decide))
        refine y_iconst (v := 0) dX12_canChange_92 (by decide) ?_
        refine y_iadd dX12_canChange_93 ?_
        refine y_ist8_5 dX12_canChange_94 rfl ?_
        refine y_aload_n dX12_canChange_96 rfl rfl ?_
        refine y_iload_n dX12_canChange_97 rfl rfl ?_
        refine y_iconst (v := 2) dX12_canChange_98 (by decide) ?_
        refine y_ivI2 dX12_canChange_99 mv_X12_171 my_X12_s (Or.inl rfl) sh_239 ?_
        refine c_X12_s hb (k := q / 10) (j := 2) rfl rfl (by omega) ⟨_, rfl, ?_⟩
        refine y_iload_n dX12_canChange_102 rfl rfl ?_
        refine y_iconst (v := 2) dX12_canChange_103 (by decide) ?_
        refine y_icmp_ne (tgt := 111) dX12_canChange_104 (by decide) (fun h104 => ?_) (fun h104 => absurd h104 (by decide))
        refine y_iload_n dX12_canChange_111 rfl rfl ?_
        refine y_iconst (v := 3) dX12_canChange_112 (by decide) ?_
        refine y_icmp_ne (tgt := 120) dX12_canChange_113 (by decide) (fun h113 => absurd (by decide) h113) (fun h113 => ?_)
        refine y_iconst (v := 1) dX12_canChange_116 (by decide) ?_
        refine y_goto (tgt := 121) dX12_canChange_117 (by decide) ?_
        refine y_iadd dX12_canChange_121 ?_
        refine y_ist8_6 dX12_canChange_122 rfl ?_
        refine y_iload dX12_canChange_124 rfl ?_
        refine y_if_eq (tgt := 174) dX12_canChange_126 (by decide) (fun h126 => ?_) (fun h126 => absurd (by decide) h126)
        refine y_iconst (v := 0) dX12_canChange_174 (by decide) ?_
        refine y_ist8_7 dX12_canChange_175 rfl ?_
        refine y_iload dX12_canChange_177 rfl ?_
        refine y_if_eq (tgt := 210) dX12_canChange_179 (by decide) (fun h179 => ?_) (fun h179 => absurd (by decide) h179)
        refine y_iload dX12_canChange_210 rfl ?_
        refine y_ireturn dX12_canChange_212 rfl rfl ?_
        first
          | (rw [← chg3 hr (c := c)]; exact hQ1 ((canI hi (lst_le hs h33)).2.2.2 hr ⟨b1, b2, (Int32.not_lt.mp h167)⟩))
          | (rw [← chg3 hr (c := c)]; exact hQ1 ((canI hi (lst_le hs h33)).2.2.2 hr ⟨b1, b2, h167⟩))
          | exact hQ0 (fun z => lst_gt h33 (can3 hr z).1)
          | exact hQ0 (fun z => lst_gt (Int32.not_le.mp h33) (can3 hr z).1)
          | exact absurd (okW (lst_le hs h33)).2.2 a3
          | exact hQ0 (fun z => b3 ⟨(can3 hr z).2.1, (can3 hr z).2.2.1⟩)
          | exact hQ0 (fun z => absurd h167 (Int32.not_lt.mpr (can3 hr z).2.2.2))
          | exact hQ0 (fun z => h167 (can3 hr z).2.2.2)
      · refine y_iconst (v := 1) dX12_canChange_36 (by decide) ?_
        refine y_goto (tgt := 41) dX12_canChange_37 (by decide) ?_
        refine y_ist8_4 dX12_canChange_41 rfl ?_
        refine y_iload_n dX12_canChange_43 rfl rfl ?_
        refine y_iconst (v := 4) dX12_canChange_44 (by decide) ?_
        refine y_icmp_ne (tgt := 69) dX12_canChange_45 (by decide) (fun h45 => ?_) (fun h45 => absurd h45 (by decide))
        refine y_aload_n dX12_canChange_69 rfl rfl ?_
        refine y_iload_n dX12_canChange_70 rfl rfl ?_
        refine y_iconst (v := 1) dX12_canChange_71 (by decide) ?_
        refine y_ivI2 dX12_canChange_72 mv_X12_171 my_X12_s (Or.inl rfl) sh_239 ?_
        refine c_X12_s hb (k := q / 10) (j := 1) rfl rfl (by omega) ⟨_, rfl, ?_⟩
        refine y_iload_n dX12_canChange_75 rfl rfl ?_
        refine y_if_ne (tgt := 83) dX12_canChange_76 (by decide) (fun h76 => ?_) (fun h76 => absurd h76 (by decide))
        refine y_iload_n dX12_canChange_83 rfl rfl ?_
        refine y_iconst (v := 1) dX12_canChange_84 (by decide) ?_
        refine y_icmp_ne (tgt := 92) dX12_canChange_85 (by decide) (fun h85 => ?_) (fun h85 => absurd h85 (by decide))
        refine y_iconst (v := 0) dX12_canChange_92 (by decide) ?_
        refine y_iadd dX12_canChange_93 ?_
        refine y_ist8_5 dX12_canChange_94 rfl ?_
        refine y_aload_n dX12_canChange_96 rfl rfl ?_
        refine y_iload_n dX12_canChange_97 rfl rfl ?_
        refine y_iconst (v := 2) dX12_canChange_98 (by decide) ?_
        refine y_ivI2 dX12_canChange_99 mv_X12_171 my_X12_s (Or.inl rfl) sh_239 ?_
        refine c_X12_s hb (k := q / 10) (j := 2) rfl rfl (by omega) ⟨_, rfl, ?_⟩
        refine y_iload_n dX12_canChange_102 rfl rfl ?_
        refine y_iconst (v := 2) dX12_canChange_103 (by decide) ?_
        refine y_icmp_ne (tgt := 111) dX12_canChange_104 (by decide) (fun h104 => ?_) (fun h104 => absurd h104 (by decide))
        refine y_iload_n dX12_canChange_111 rfl rfl ?_
        refine y_iconst (v := 3) dX12_canChange_112 (by decide) ?_
        refine y_icmp_ne (tgt := 120) dX12_canChange_113 (by decide) (fun h113 => absurd (by decide) h113) (fun h113 => ?_)
        refine y_iconst (v := 1) dX12_canChange_116 (by decide) ?_
        refine y_goto (tgt := 121) dX12_canChange_117 (by decide) ?_
        refine y_iadd dX12_canChange_121 ?_
        refine y_ist8_6 dX12_canChange_122 rfl ?_
        refine y_iload dX12_canChange_124 rfl ?_
        refine y_if_eq (tgt := 174) dX12_canChange_126 (by decide) (fun h126 => absurd h126 (by decide)) (fun h126 => ?_)
        refine y_iload dX12_canChange_129 rfl ?_
        refine y_iconst (v := 0) dX12_canChange_131 (by decide) ?_
        refine y_bipush (v := 9) dX12_canChange_132 (by decide) ?_
        refine y_isI3 dX12_canChange_134 ms_X12_86 my_X12_in (Or.inl rfl) ?_
        refine c_X12_in (fun a1 a2 => ⟨_, rfl, ?_⟩) (fun a3 => ⟨_, rfl, ?_⟩)
        · refine y_if_eq (tgt := 174) dX12_canChange_137 (by decide) (fun h137 => absurd h137 (by decide)) (fun h137 => ?_)
          refine y_iload dX12_canChange_140 rfl ?_
          refine y_iconst (v := 1) dX12_canChange_142 (by decide) ?_
          refine y_bipush (v := 30) dX12_canChange_143 (by decide) ?_
          refine y_isI3 dX12_canChange_145 ms_X12_86 my_X12_in (Or.inl rfl) ?_
          refine c_X12_in (fun b1 b2 => ⟨_, rfl, ?_⟩) (fun b3 => ⟨_, rfl, ?_⟩)
          · refine y_if_eq (tgt := 174) dX12_canChange_148 (by decide) (fun h148 => absurd h148 (by decide)) (fun h148 => ?_)
            refine y_aload_n dX12_canChange_151 rfl rfl ?_
            refine y_ivI0 dX12_canChange_152 mv_X12_187 my_X12_turnsAll (Or.inl rfl) sh_239 ?_
            refine c_X12_turnsAll hb hc hc2 ⟨_, rfl, ?_⟩
            refine y_aload_n dX12_canChange_155 rfl rfl ?_
            refine y_iload_n dX12_canChange_156 rfl rfl ?_
            refine y_iconst (v := 2) dX12_canChange_157 (by decide) ?_
            refine y_ivI2 dX12_canChange_158 mv_X12_171 my_X12_s (Or.inl rfl) sh_239 ?_
            refine c_X12_s hb (k := q / 10) (j := 2) rfl rfl (by omega) ⟨_, rfl, ?_⟩
            refine y_isub dX12_canChange_161 ?_
            refine y_iload dX12_canChange_162 rfl ?_
            refine y_iadd dX12_canChange_164 ?_
            refine y_bipush (v := 90) dX12_canChange_165 (by decide) ?_
            refine y_icmp_gt (tgt := 174) dX12_canChange_167 (by decide) (fun h167 => ?_) (fun h167 => ?_)
            · refine y_iconst (v := 0) dX12_canChange_174 (by decide) ?_
              refine y_ist8_7 dX12_canChange_175 rfl ?_
              refine y_iload dX12_canChange_177 rfl ?_
              refine y_if_eq (tgt := 210) dX12_canChange_179 (by decide) (fun h179 => ?_) (fun h179 => absurd (by decide) h179)
              refine y_iload dX12_canChange_210 rfl ?_
              refine y_ireturn dX12_canChange_212 rfl rfl ?_
              first
                | (rw [← chg3 hr (c := c)]; exact hQ1 ((canI hi (lst_le hs h33)).2.2.2 hr ⟨b1, b2, (Int32.not_lt.mp h167)⟩))
                | (rw [← chg3 hr (c := c)]; exact hQ1 ((canI hi (lst_le hs h33)).2.2.2 hr ⟨b1, b2, h167⟩))
                | exact hQ0 (fun z => lst_gt h33 (can3 hr z).1)
                | exact hQ0 (fun z => lst_gt (Int32.not_le.mp h33) (can3 hr z).1)
                | exact absurd (okW (lst_le hs h33)).2.2 a3
                | exact hQ0 (fun z => b3 ⟨(can3 hr z).2.1, (can3 hr z).2.2.1⟩)
                | exact hQ0 (fun z => absurd h167 (Int32.not_lt.mpr (can3 hr z).2.2.2))
                | exact hQ0 (fun z => h167 (can3 hr z).2.2.2)
            · refine y_iconst (v := 1) dX12_canChange_170 (by decide) ?_
              refine y_goto (tgt := 175) dX12_canChange_171 (by decide) ?_
              refine y_ist8_7 dX12_canChange_175 rfl ?_
              refine y_iload dX12_canChange_177 rfl ?_
              refine y_if_eq (tgt := 210) dX12_canChange_179 (by decide) (fun h179 => absurd h179 (by decide)) (fun h179 => ?_)
              refine y_aload_n dX12_canChange_182 rfl rfl ?_
              refine y_bipush (v := 6) dX12_canChange_183 (by decide) ?_
              refine y_iconst (v := 3) dX12_canChange_185 (by decide) ?_
              refine y_iload_n dX12_canChange_186 rfl rfl ?_
              refine y_imulN (a := 3) (b := q / 10) dX12_canChange_187 rfl rfl ?_
              refine y_iaddN (a := 6) (b := 3 * (q / 10)) dX12_canChange_188 rfl rfl ?_
              refine y_iconst (v := 1) dX12_canChange_189 (by decide) ?_
              refine y_iaddN (a := 6 + (3 * (q / 10))) (b := 1) dX12_canChange_190 rfl rfl ?_
              refine y_iload dX12_canChange_191 rfl ?_
              refine y_ivV2 dX12_canChange_193 mv_X12_163 my_X12_put_ (Or.inl rfl) sh_239 ?_
              refine c_X12_put_ hb (p := 6 + 3 * (q / 10) + 1) rfl (by omega) ⟨rfl, ?_⟩
              refine y_aload_n dX12_canChange_196 rfl rfl ?_
              refine y_bipush (v := 6) dX12_canChange_197 (by decide) ?_
              refine y_iconst (v := 3) dX12_canChange_199 (by decide) ?_
              refine y_iload_n dX12_canChange_200 rfl rfl ?_
              refine y_imulN (a := 3) (b := q / 10) dX12_canChange_201 rfl rfl ?_
              refine y_iaddN (a := 6) (b := 3 * (q / 10)) dX12_canChange_202 rfl rfl ?_
              refine y_iconst (v := 2) dX12_canChange_203 (by decide) ?_
              refine y_iaddN (a := 6 + (3 * (q / 10))) (b := 2) dX12_canChange_204 rfl rfl ?_
              refine y_iload dX12_canChange_205 rfl ?_
              refine y_ivV2 dX12_canChange_207 mv_X12_163 my_X12_put_ (Or.inl rfl) sh_239 ?_
              refine c_X12_put_ hb (p := 6 + 3 * (q / 10) + 2) rfl (by omega) ⟨rfl, ?_⟩
              refine y_iload dX12_canChange_210 rfl ?_
              refine y_ireturn dX12_canChange_212 rfl rfl ?_
              first
                | (rw [← chg3 hr (c := c)]; exact hQ1 ((canI hi (lst_le hs h33)).2.2.2 hr ⟨b1, b2, (Int32.not_lt.mp h167)⟩))
                | (rw [← chg3 hr (c := c)]; exact hQ1 ((canI hi (lst_le hs h33)).2.2.2 hr ⟨b1, b2, h167⟩))
                | exact hQ0 (fun z => lst_gt h33 (can3 hr z).1)
                | exact hQ0 (fun z => lst_gt (Int32.not_le.mp h33) (can3 hr z).1)
                | exact absurd (okW (lst_le hs h33)).2.2 a3
                | exact hQ0 (fun z => b3 ⟨(can3 hr z).2.1, (can3 hr z).2.2.1⟩)
                | exact hQ0 (fun z => absurd h167 (Int32.not_lt.mpr (can3 hr z).2.2.2))
                | exact hQ0 (fun z => h167 (can3 hr z).2.2.2)
          · refine y_if_eq (tgt := 174) dX12_canChange_148 (by decide) (fun h148 => ?_) (fun h148 => absurd (by decide) h148)
            refine y_iconst (v := 0) dX12_canChange_174 (by decide) ?_
            refine y_ist8_7 dX12_canChange_175 rfl ?_
            refine y_iload dX12_canChange_177 rfl ?_
            refine y_if_eq (tgt := 210) dX12_canChange_179 (by decide) (fun h179 => ?_) (fun h179 => absurd (by decide) h179)
            refine y_iload dX12_canChange_210 rfl ?_
            refine y_ireturn dX12_canChange_212 rfl rfl ?_
            first
              | (rw [← chg3 hr (c := c)]; exact hQ1 ((canI hi (lst_le hs h33)).2.2.2 hr ⟨b1, b2, (Int32.not_lt.mp h167)⟩))
              | (rw [← chg3 hr (c := c)]; exact hQ1 ((canI hi (lst_le hs h33)).2.2.2 hr ⟨b1, b2, h167⟩))
              | exact hQ0 (fun z => lst_gt h33 (can3 hr z).1)
              | exact hQ0 (fun z => lst_gt (Int32.not_le.mp h33) (can3 hr z).1)
              | exact absurd (okW (lst_le hs h33)).2.2 a3
              | exact hQ0 (fun z => b3 ⟨(can3 hr z).2.1, (can3 hr z).2.2.1⟩)
              | exact hQ0 (fun z => absurd h167 (Int32.not_lt.mpr (can3 hr z).2.2.2))
              | exact hQ0 (fun z => h167 (can3 hr z).2.2.2)
        · refine y_if_eq (tgt := 174) dX12_canChange_137 (by decide) (fun h137 => ?_) (fun h137 => absurd (by decide) h137)
          refine y_iconst (v := 0) dX12_canChange_174 (by decide) ?_
          refine y_ist8_7 dX12_canChange_175 rfl ?_
          refine y_iload dX12_canChange_177 rfl ?_
          refine y_if_eq (tgt := 210) dX12_canChange_179 (by decide) (fun h179 => ?_) (fun h179 => absurd (by decide) h179)
          refine y_iload dX12_canChange_210 rfl ?_
          refine y_ireturn dX12_canChange_212 rfl rfl ?_
          first
            | (rw [← chg3 hr (c := c)]; exact hQ1 ((canI hi (lst_le hs h33)).2.2.2 hr ⟨b1, b2, (Int32.not_lt.mp h167)⟩))
            | (rw [← chg3 hr (c := c)]; exact hQ1 ((canI hi (lst_le hs h33)).2.2.2 hr ⟨b1, b2, h167⟩))
            | exact hQ0 (fun z => lst_gt h33 (can3 hr z).1)
            | exact hQ0 (fun z => lst_gt (Int32.not_le.mp h33) (can3 hr z).1)
            | exact absurd (okW (lst_le hs h33)).2.2 a3
            | exact hQ0 (fun z => b3 ⟨(can3 hr z).2.1, (can3 hr z).2.2.1⟩)
            | exact hQ0 (fun z => absurd h167 (Int32.not_lt.mpr (can3 hr z).2.2.2))
            | exact hQ0 (fun z => h167 (can3 hr z).2.2.2)
    · rw [hr]
      refine y_iload_n dX12_canChange_10 rfl rfl ?_
      refine y_aload_n dX12_canChange_11 rfl rfl ?_
      refine y_iconst (v := 5) dX12_canChange_12 (by decide) ?_
      refine y_ivI1 dX12_canChange_13 mv_X12_160 my_X12_v (Or.inl rfl) sh_239 ?_
      refine c_X12_v hb (p := 5) rfl (by omega) ⟨_, rfl, ?_⟩
      rw [hc]
      refine y_icmp_ge (tgt := 24) dX12_canChange_16 (by decide) (fun h16 => absurd h16 (nI_ge (a := q / 10) (b := c) hi (by omega))) (fun h16 => ?_)
      refine y_iload_n dX12_canChange_19 rfl rfl ?_
      refine y_iconst (v := 4) dX12_canChange_20 (by decide) ?_
      refine y_icmp_le (tgt := 26) dX12_canChange_21 (by decide) (fun h21 => ?_) (fun h21 => absurd (by decide) h21)
      refine y_aload_n dX12_canChange_26 rfl rfl ?_
      refine y_iload_n dX12_canChange_27 rfl rfl ?_
      refine y_iconst (v := 0) dX12_canChange_28 (by decide) ?_
      refine y_ivI2 dX12_canChange_29 mv_X12_171 my_X12_s (Or.inl rfl) sh_239 ?_
      refine c_X12_s hb (k := q / 10) (j := 0) rfl rfl (by omega) ⟨_, rfl, ?_⟩
      refine y_iconst (v := 2) dX12_canChange_32 (by decide) ?_
      refine y_icmp_gt (tgt := 40) dX12_canChange_33 (by decide) (fun h33 => ?_) (fun h33 => ?_)
      · refine y_iconst (v := 0) dX12_canChange_40 (by decide) ?_
        refine y_ist8_4 dX12_canChange_41 rfl ?_
        refine y_iload_n dX12_canChange_43 rfl rfl ?_
        refine y_iconst (v := 4) dX12_canChange_44 (by decide) ?_
        refine y_icmp_ne (tgt := 69) dX12_canChange_45 (by decide) (fun h45 => absurd (by decide) h45) (fun h45 => ?_)
        refine y_iload dX12_canChange_48 rfl ?_
        refine y_if_ne (tgt := 58) dX12_canChange_50 (by decide) (fun h50 => absurd (by decide) h50) (fun h50 => ?_)
        refine y_aload_n dX12_canChange_53 rfl rfl ?_
        refine y_iload_n dX12_canChange_54 rfl rfl ?_
        refine y_ivV1 dX12_canChange_55 mv_X12_286 my_X12_leaveOut (Or.inl rfl) sh_239 ?_
        refine c_X12_leaveOut hb rfl hi hc hc2 ⟨rfl, ?_⟩
        refine y_iload dX12_canChange_58 rfl ?_
        refine y_if_ne (tgt := 67) dX12_canChange_60 (by decide) (fun h60 => absurd (by decide) h60) (fun h60 => ?_)
        refine y_iconst (v := 1) dX12_canChange_63 (by decide) ?_
        refine y_goto (tgt := 68) dX12_canChange_64 (by decide) ?_
        refine y_ireturn dX12_canChange_68 rfl rfl ?_
        first
          | exact hQ0 (fun z => can4 hr z (lst_le hs h33).1)
          | exact hQ0 (fun z => can4 hr z (lst_le hs (Int32.not_lt.mpr h33)).1)
          | (have hQ := hQ1 ⟨hi, Or.inr (Or.inr (Or.inr (Or.inr ⟨hr, lst_gt h33⟩)))⟩
             rw [chg4 hr] at hQ
             exact hQ)
      · refine y_iconst (v := 1) dX12_canChange_36 (by decide) ?_
        refine y_goto (tgt := 41) dX12_canChange_37 (by decide) ?_
        refine y_ist8_4 dX12_canChange_41 rfl ?_
        refine y_iload_n dX12_canChange_43 rfl rfl ?_
        refine y_iconst (v := 4) dX12_canChange_44 (by decide) ?_
        refine y_icmp_ne (tgt := 69) dX12_canChange_45 (by decide) (fun h45 => absurd (by decide) h45) (fun h45 => ?_)
        refine y_iload dX12_canChange_48 rfl ?_
        refine y_if_ne (tgt := 58) dX12_canChange_50 (by decide) (fun h50 => ?_) (fun h50 => absurd h50 (by decide))
        refine y_iload dX12_canChange_58 rfl ?_
        refine y_if_ne (tgt := 67) dX12_canChange_60 (by decide) (fun h60 => ?_) (fun h60 => absurd h60 (by decide))
        refine y_iconst (v := 0) dX12_canChange_67 (by decide) ?_
        refine y_ireturn dX12_canChange_68 rfl rfl ?_
        first
          | exact hQ0 (fun z => can4 hr z (lst_le hs h33).1)
          | exact hQ0 (fun z => can4 hr z (lst_le hs (Int32.not_lt.mpr h33)).1)
          | (have hQ := hQ1 ⟨hi, Or.inr (Or.inr (Or.inr (Or.inr ⟨hr, lst_gt h33⟩)))⟩
             rw [chg4 hr] at hQ
             exact hQ)
    · skip
      refine y_iload_n dX12_canChange_10 rfl rfl ?_
      refine y_aload_n dX12_canChange_11 rfl rfl ?_
      refine y_iconst (v := 5) dX12_canChange_12 (by decide) ?_
      refine y_ivI1 dX12_canChange_13 mv_X12_160 my_X12_v (Or.inl rfl) sh_239 ?_
      refine c_X12_v hb (p := 5) rfl (by omega) ⟨_, rfl, ?_⟩
      rw [hc]
      refine y_icmp_ge (tgt := 24) dX12_canChange_16 (by decide) (fun h16 => absurd h16 (nI_ge (a := q / 10) (b := c) hi (by omega))) (fun h16 => ?_)
      refine y_iload_n dX12_canChange_19 rfl rfl ?_
      refine y_iconst (v := 4) dX12_canChange_20 (by decide) ?_
      refine y_icmp_le (tgt := 26) dX12_canChange_21 (by decide) (fun h21 => absurd h21 (nI_ge (a := 4) (b := q % 10) hr (by omega))) (fun h21 => ?_)
      refine y_iconst (v := 0) dX12_canChange_24 (by decide) ?_
      refine y_ireturn dX12_canChange_25 rfl rfl ?_
      exact hQ0 (fun z => can5 hr z)
  · have hn : ¬ canC R c q := fun z => hi z.1
    refine y_iload_n dX12_canChange_10 rfl rfl ?_
    refine y_aload_n dX12_canChange_11 rfl rfl ?_
    refine y_iconst (v := 5) dX12_canChange_12 (by decide) ?_
    refine y_ivI1 dX12_canChange_13 mv_X12_160 my_X12_v (Or.inl rfl) sh_239 ?_
    refine c_X12_v hb (p := 5) rfl (by omega) ⟨_, rfl, ?_⟩
    rw [hc]
    refine y_icmp_ge (tgt := 24) dX12_canChange_16 (by decide) (fun h16 => ?_) (fun h16 => absurd (nI_le (a := c) (b := q / 10) (by omega) (by omega)) h16)
    refine y_iconst (v := 0) dX12_canChange_24 (by decide) ?_
    refine y_ireturn dX12_canChange_25 rfl rfl ?_
    exact hQ0 hn
