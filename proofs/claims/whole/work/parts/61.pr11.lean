/-! ===== digest of the reference ===== -/
theorem lfR_fw {m m' : sM} (h : fw m m') {j : Nat} : lfR m' j = lfR m j := lfR_m (h.1 254 (by omega))
theorem flD_fw {m m' : sM} (h : fw m m') {g : Int64} : ∀ k, flD m' g k = flD m g k := by
  intro k
  induction k with
  | zero => rfl
  | succ k ih => rw [flD, flD, ih, h.1 246 (by omega), h.1 247 (by omega)]
theorem dgD_fw {m m' : sM} (h : fw m m') {g : Int64} : ∀ k, dgD m' g k = dgD m g k := by
  intro k
  induction k with
  | zero => rfl
  | succ k ih => rw [dgD, dgD, ih, h.1 248 (by omega), h.1 250 (by omega), dgR_m (h.1 249 (by omega)) (h.1 250 (by omega))]
theorem lfD_fw {m m' : sM} (h : fw m m') {g : Int64} : lfD m' g = lfD m g := by
  unfold lfD
  rw [h.1 253 (by omega), lfR_fw h]
set_option maxHeartbeats 1000000 in
theorem c_X12_mix {L : Nat} {xs : Nat → Int32} {d : Nat} {m : sM} {n : sN} {Q : sQ} {g v : Int64} (hQ : Q none m (hN n (mx g v))) : sRun (scT L xs) (d + 1) yX12_mix cX12_mix 3 none [.ref 239, .long v] m (hN n g) Q := by
  refine y_run (own := "LoafFallModel") rfl (by decide +kernel) (Nat.le_of_ble_eq_true rfl) rfl ?_
  refine y_aload_n dX12_mix_0 rfl rfl ?_
  refine y_ldc2 dX12_mix_1 tw_1588 ?_
  refine y_aload_n dX12_mix_4 rfl rfl ?_
  refine y_getl dX12_mix_5 gf_X12_330 sh_239 rfl ?_
  rw [hN_g]
  refine y_lmul dX12_mix_8 ?_
  refine y_lload_n dX12_mix_9 rfl rfl ?_
  refine y_ladd dX12_mix_10 ?_
  refine y_putl dX12_mix_11 pf_X12_330 sh_239 rfl ?_
  refine y_return dX12_mix_14 rfl ?_
  rw [show s_upL (hN n g) 239 32 (31 * g + v) = hN n (mx g v) from hN_2]
  exact hQ
/-- what the books of the reference are at the digest -/
def BKS (m : sM) : Prop := (∀ k, k < 4 → m 246 k = 0 ∨ m 246 k = 1) ∧ ∀ k, k < 4 → m 248 k = 0 ∨ (m 248 k = 1 ∧ m 249 k = nI (cOf (dgR m k)) ∧ cOf (dgR m k) ≤ 10)
theorem Rel.bks {m : sM} {n : sN} (h : Rel m n) : BKS m := by
  refine ⟨fun k hk => ?_, fun k hk => ?_⟩
  · rcases h.f k hk with ⟨a, -⟩ | ⟨a, -⟩
    · exact Or.inl a
    · exact Or.inr a
  · rcases h.d k hk with ⟨a, -⟩ | ⟨a, -, -, c⟩
    · exact Or.inl a
    · exact Or.inr ⟨a, by rw [← dg_5 (m := m)]; exact c.1, c.2.1⟩
set_option maxHeartbeats 1000000 in
theorem c_X12_mixBooks {L : Nat} {xs : Nat → Int32} {d : Nat} {m : sM} {n : sN} {Q : sQ} {g : Int64} (hB : BKS m) (hQ : Q none m (hN n (dgD m (flD m g 4) 4))) : sRun (scT L xs) (d + 2) yX12_mixBooks cX12_mixBooks 3 none [.ref 239] m (hN n g) Q := by
  refine y_run (own := "LoafFallModel") rfl (by decide +kernel) (Nat.le_of_ble_eq_true rfl) rfl ?_
  refine y_iconst (v := 0) dX12_mixBooks_0 (by decide) ?_
  refine y_ist3_1 dX12_mixBooks_1 rfl ?_
  refine cnt (P := fun k => ∀ a2 : Option Value, sV (scT L xs) (d + 1) "LoafFallModel" cX12_mixBooks 3 none Q 2 [some (.ref 239), some (.int (nI k)), a2] [] m (hN n (flD m g k))) 4 ?_ ?_ 0 (by omega) none
  · intro a2
    refine y_iload_n dX12_mixBooks_2 rfl rfl ?_
    refine y_iconst (v := 4) dX12_mixBooks_3 (by decide) ?_
    refine y_icmp_ge (tgt := 66) dX12_mixBooks_4 (by decide) (fun h4 => ?_) (fun h4 => absurd (nI_le (a := 4) (b := 4) (Nat.le_refl _) (by decide)) h4)
    refine y_iconst (v := 0) dX12_mixBooks_66 (by decide) ?_
    refine y_ist3_1 dX12_mixBooks_67 rfl ?_
    refine cnt (P := fun k => ∀ a2 : Option Value, sV (scT L xs) (d + 1) "LoafFallModel" cX12_mixBooks 3 none Q 68 [some (.ref 239), some (.int (nI k)), a2] [] m (hN n (dgD m (flD m g 4) k))) 4 ?_ ?_ 0 (by omega) _
    · intro a2
      refine y_iload_n dX12_mixBooks_68 rfl rfl ?_
      refine y_iconst (v := 4) dX12_mixBooks_69 (by decide) ?_
      refine y_icmp_ge (tgt := 151) dX12_mixBooks_70 (by decide) (fun h70 => ?_) (fun h70 => absurd (nI_le (a := 4) (b := 4) (Nat.le_refl _) (by decide)) h70)
      refine y_return dX12_mixBooks_151 rfl ?_
      exact hQ
    · intro k hk hP
      intro a2
      have hk4 := hk
      refine y_iload_n dX12_mixBooks_68 rfl rfl ?_
      refine y_iconst (v := 4) dX12_mixBooks_69 (by decide) ?_
      refine y_icmp_ge (tgt := 151) dX12_mixBooks_70 (by decide) (fun h70 => absurd h70 (nI_ge (a := k) (b := 4) hk (by decide))) (fun h70 => ?_)
      rcases hB.2 k hk4 with f1 | ⟨f1, f2, f3⟩
      · refine y_aload_n dX12_mixBooks_73 rfl rfl ?_
        refine y_getr dX12_mixBooks_74 gf_X12_36 sh_239 rfl ?_
        refine y_iload_n dX12_mixBooks_77 rfl rfl ?_
        refine y_zaldN dX12_mixBooks_78 sh_248 rfl (by first | omega | decide) (by decide) ?_
        refine y_if_ne (tgt := 89) dX12_mixBooks_79 (by decide) (fun h79 => absurd f1 h79) (fun h79 => ?_)
        refine y_aload_n dX12_mixBooks_82 rfl rfl ?_
        refine y_ldc2 dX12_mixBooks_83 tw_1593 ?_
        refine y_ivV1 dX12_mixBooks_86 mv_X12_335 my_X12_mix (Or.inl rfl) sh_239 ?_
        refine c_X12_mix ⟨rfl, ?_⟩
        refine y_iconst (v := 0) dX12_mixBooks_89 (by decide) ?_
        refine y_ist3_2 dX12_mixBooks_90 rfl ?_
        refine y_iload_n dX12_mixBooks_91 rfl rfl ?_
        refine y_aload_n dX12_mixBooks_92 rfl rfl ?_
        refine y_getr dX12_mixBooks_93 gf_X12_39 sh_239 rfl ?_
        refine y_iload_n dX12_mixBooks_96 rfl rfl ?_
        refine y_ialdN dX12_mixBooks_97 sh_249 rfl (by first | omega | decide) (by decide) ?_
        refine y_icmp_ge (tgt := 145) dX12_mixBooks_98 (by decide) (fun h98 => ?_) (fun h98 => ?_)
        · refine y_iinc3_1 dX12_mixBooks_145 (nI_1 _) rfl ?_
          refine y_goto (tgt := 68) dX12_mixBooks_148 (by decide) ?_
          have := hP (some (.int (nI 0)))
          rw [dgD_p f1] at this
          exact this
        · refine y_aload_n dX12_mixBooks_101 rfl rfl ?_
          refine y_getr dX12_mixBooks_102 gf_X12_36 sh_239 rfl ?_
          refine y_iload_n dX12_mixBooks_105 rfl rfl ?_
          refine y_zaldN dX12_mixBooks_106 sh_248 rfl (by first | omega | decide) (by decide) ?_
          refine y_if_eq (tgt := 145) dX12_mixBooks_107 (by decide) (fun h107 => ?_) (fun h107 => absurd f1 h107)
          refine y_iinc3_1 dX12_mixBooks_145 (nI_1 _) rfl ?_
          refine y_goto (tgt := 68) dX12_mixBooks_148 (by decide) ?_
          have := hP (some (.int (nI 0)))
          rw [dgD_p f1] at this
          exact this
      · obtain ⟨c, hc⟩ : ∃ c, c = cOf (dgR m k) := ⟨_, rfl⟩
        rw [← hc] at f2 f3
        refine y_aload_n dX12_mixBooks_73 rfl rfl ?_
        refine y_getr dX12_mixBooks_74 gf_X12_36 sh_239 rfl ?_
        refine y_iload_n dX12_mixBooks_77 rfl rfl ?_
        refine y_zaldN dX12_mixBooks_78 sh_248 rfl (by first | omega | decide) (by decide) ?_
        refine y_if_ne (tgt := 89) dX12_mixBooks_79 (by decide) (fun h79 => ?_) (fun h79 => absurd h79 (by rw [f1]; decide))
        refine y_iconst (v := 0) dX12_mixBooks_89 (by decide) ?_
        refine y_ist3_2 dX12_mixBooks_90 rfl ?_
        refine cnt (P := fun j => sV (scT L xs) (d + 1) "LoafFallModel" cX12_mixBooks 3 none Q 91 [some (.ref 239), some (.int (nI k)), some (.int (nI j))] [] m (hN n (mx2 (fun i => m 250 (30 * k + 3 * i)) (fun i => 100 * m 250 (30 * k + 3 * i + 1) + m 250 (30 * k + 3 * i + 2)) (dgD m (flD m g 4) k) j))) c ?_ ?_ 0 (by omega)
        · refine y_iload_n dX12_mixBooks_91 rfl rfl ?_
          refine y_aload_n dX12_mixBooks_92 rfl rfl ?_
          refine y_getr dX12_mixBooks_93 gf_X12_39 sh_239 rfl ?_
          refine y_iload_n dX12_mixBooks_96 rfl rfl ?_
          refine y_ialdN dX12_mixBooks_97 sh_249 rfl (by first | omega | decide) (by decide) ?_
          rw [f2]
          refine y_icmp_ge (tgt := 145) dX12_mixBooks_98 (by decide) (fun h98 => ?_) (fun h98 => absurd (nI_le (a := c) (b := c) (Nat.le_refl _) (by omega)) h98)
          refine y_iinc3_1 dX12_mixBooks_145 (nI_1 _) rfl ?_
          refine y_goto (tgt := 68) dX12_mixBooks_148 (by decide) ?_
          have := hP (some (.int (nI c)))
          rw [dgD_n f1, ← hc] at this
          exact this
        · intro j hk hP
          refine y_iload_n dX12_mixBooks_91 rfl rfl ?_
          refine y_aload_n dX12_mixBooks_92 rfl rfl ?_
          refine y_getr dX12_mixBooks_93 gf_X12_39 sh_239 rfl ?_
          refine y_iload_n dX12_mixBooks_96 rfl rfl ?_
          refine y_ialdN dX12_mixBooks_97 sh_249 rfl (by first | omega | decide) (by decide) ?_
          rw [f2]
          refine y_icmp_ge (tgt := 145) dX12_mixBooks_98 (by decide) (fun h98 => absurd h98 (nI_ge (a := j) (b := c) hk (by omega))) (fun h98 => ?_)
          refine y_aload_n dX12_mixBooks_101 rfl rfl ?_
          refine y_getr dX12_mixBooks_102 gf_X12_36 sh_239 rfl ?_
          refine y_iload_n dX12_mixBooks_105 rfl rfl ?_
          refine y_zaldN dX12_mixBooks_106 sh_248 rfl (by first | omega | decide) (by decide) ?_
          refine y_if_eq (tgt := 145) dX12_mixBooks_107 (by decide) (fun h107 => absurd h107 (by rw [f1]; decide)) (fun h107 => ?_)
          refine y_aload_n dX12_mixBooks_110 rfl rfl ?_
          refine y_aload_n dX12_mixBooks_111 rfl rfl ?_
          refine y_getr dX12_mixBooks_112 gf_X12_42 sh_239 rfl ?_
          refine y_bipush (v := 30) dX12_mixBooks_115 (by decide) ?_
          refine y_iload_n dX12_mixBooks_117 rfl rfl ?_
          refine y_imulN (a := 30) (b := k) dX12_mixBooks_118 rfl rfl ?_
          refine y_iconst (v := 3) dX12_mixBooks_119 (by decide) ?_
          refine y_iload_n dX12_mixBooks_120 rfl rfl ?_
          refine y_imulN (a := 3) (b := j) dX12_mixBooks_121 rfl rfl ?_
          refine y_iaddN (a := 30 * k) (b := 3 * j) dX12_mixBooks_122 rfl rfl ?_
          refine y_ialdN dX12_mixBooks_123 sh_250 rfl (by first | omega | decide) (by decide) ?_
          refine y_i2l dX12_mixBooks_124 ?_
          refine y_ivV1 dX12_mixBooks_125 mv_X12_335 my_X12_mix (Or.inl rfl) sh_239 ?_
          refine c_X12_mix ⟨rfl, ?_⟩
          refine y_aload_n dX12_mixBooks_128 rfl rfl ?_
          refine y_aload_n dX12_mixBooks_129 rfl rfl ?_
          refine y_iload_n dX12_mixBooks_130 rfl rfl ?_
          refine y_iload_n dX12_mixBooks_131 rfl rfl ?_
          refine y_ivI2 dX12_mixBooks_132 mv_X12_154 my_X12_stepTells (Or.inl rfl) sh_239 ?_
          refine c_X12_stepTells (k := k) (i := j) rfl (by omega) rfl (by omega) ⟨_, rfl, ?_⟩
          refine y_i2l dX12_mixBooks_135 ?_
          refine y_ivV1 dX12_mixBooks_136 mv_X12_335 my_X12_mix (Or.inl rfl) sh_239 ?_
          refine c_X12_mix ⟨rfl, ?_⟩
          refine y_iinc3_2 dX12_mixBooks_139 (nI_1 _) rfl ?_
          refine y_goto (tgt := 91) dX12_mixBooks_142 (by decide) ?_
          exact hP
  · intro k hk hP
    intro a2
    have hk4 := hk
    refine y_iload_n dX12_mixBooks_2 rfl rfl ?_
    refine y_iconst (v := 4) dX12_mixBooks_3 (by decide) ?_
    refine y_icmp_ge (tgt := 66) dX12_mixBooks_4 (by decide) (fun h4 => absurd h4 (nI_ge (a := k) (b := 4) hk (by decide))) (fun h4 => ?_)
    rcases hB.1 k hk4 with f1 | f1
    · refine y_aload_n dX12_mixBooks_7 rfl rfl ?_
      refine y_getr dX12_mixBooks_8 gf_X12_29 sh_239 rfl ?_
      refine y_iload_n dX12_mixBooks_11 rfl rfl ?_
      refine y_zaldN dX12_mixBooks_12 sh_246 rfl (by first | omega | decide) (by decide) ?_
      refine y_if_ne (tgt := 23) dX12_mixBooks_13 (by decide) (fun h13 => absurd f1 h13) (fun h13 => ?_)
      refine y_aload_n dX12_mixBooks_16 rfl rfl ?_
      refine y_ldc2 dX12_mixBooks_17 tw_1593 ?_
      refine y_ivV1 dX12_mixBooks_20 mv_X12_335 my_X12_mix (Or.inl rfl) sh_239 ?_
      refine c_X12_mix ⟨rfl, ?_⟩
      refine y_iconst (v := 0) dX12_mixBooks_23 (by decide) ?_
      refine y_ist3_2 dX12_mixBooks_24 rfl ?_
      refine y_iload_n dX12_mixBooks_25 rfl rfl ?_
      refine y_iconst (v := 5) dX12_mixBooks_26 (by decide) ?_
      refine y_icmp_ge (tgt := 60) dX12_mixBooks_27 (by decide) (fun h27 => absurd h27 (by decide)) (fun h27 => ?_)
      refine y_aload_n dX12_mixBooks_30 rfl rfl ?_
      refine y_getr dX12_mixBooks_31 gf_X12_29 sh_239 rfl ?_
      refine y_iload_n dX12_mixBooks_34 rfl rfl ?_
      refine y_zaldN dX12_mixBooks_35 sh_246 rfl (by first | omega | decide) (by decide) ?_
      refine y_if_eq (tgt := 60) dX12_mixBooks_36 (by decide) (fun h36 => ?_) (fun h36 => absurd f1 h36)
      refine y_iinc3_1 dX12_mixBooks_60 (nI_1 _) rfl ?_
      refine y_goto (tgt := 2) dX12_mixBooks_63 (by decide) ?_
      have := hP (some (.int (nI 0)))
      rw [flD_p f1] at this
      exact this
    · refine y_aload_n dX12_mixBooks_7 rfl rfl ?_
      refine y_getr dX12_mixBooks_8 gf_X12_29 sh_239 rfl ?_
      refine y_iload_n dX12_mixBooks_11 rfl rfl ?_
      refine y_zaldN dX12_mixBooks_12 sh_246 rfl (by first | omega | decide) (by decide) ?_
      refine y_if_ne (tgt := 23) dX12_mixBooks_13 (by decide) (fun h13 => ?_) (fun h13 => absurd h13 (by rw [f1]; decide))
      refine y_iconst (v := 0) dX12_mixBooks_23 (by decide) ?_
      refine y_ist3_2 dX12_mixBooks_24 rfl ?_
      refine cnt (P := fun j => sV (scT L xs) (d + 1) "LoafFallModel" cX12_mixBooks 3 none Q 25 [some (.ref 239), some (.int (nI k)), some (.int (nI j))] [] m (hN n (mxs (fun i => m 247 (5 * k + i)) (flD m g k) j))) 5 ?_ ?_ 0 (by omega)
      · refine y_iload_n dX12_mixBooks_25 rfl rfl ?_
        refine y_iconst (v := 5) dX12_mixBooks_26 (by decide) ?_
        refine y_icmp_ge (tgt := 60) dX12_mixBooks_27 (by decide) (fun h27 => ?_) (fun h27 => absurd (nI_le (a := 5) (b := 5) (Nat.le_refl _) (by decide)) h27)
        refine y_iinc3_1 dX12_mixBooks_60 (nI_1 _) rfl ?_
        refine y_goto (tgt := 2) dX12_mixBooks_63 (by decide) ?_
        have := hP (some (.int (nI 5)))
        rw [flD_n f1] at this
        exact this
      · intro j hk hP
        refine y_iload_n dX12_mixBooks_25 rfl rfl ?_
        refine y_iconst (v := 5) dX12_mixBooks_26 (by decide) ?_
        refine y_icmp_ge (tgt := 60) dX12_mixBooks_27 (by decide) (fun h27 => absurd h27 (nI_ge (a := j) (b := 5) hk (by decide))) (fun h27 => ?_)
        refine y_aload_n dX12_mixBooks_30 rfl rfl ?_
        refine y_getr dX12_mixBooks_31 gf_X12_29 sh_239 rfl ?_
        refine y_iload_n dX12_mixBooks_34 rfl rfl ?_
        refine y_zaldN dX12_mixBooks_35 sh_246 rfl (by first | omega | decide) (by decide) ?_
        refine y_if_eq (tgt := 60) dX12_mixBooks_36 (by decide) (fun h36 => absurd h36 (by rw [f1]; decide)) (fun h36 => ?_)
        refine y_aload_n dX12_mixBooks_39 rfl rfl ?_
        refine y_aload_n dX12_mixBooks_40 rfl rfl ?_
        refine y_getr dX12_mixBooks_41 gf_X12_33 sh_239 rfl ?_
        refine y_iconst (v := 5) dX12_mixBooks_44 (by decide) ?_
        refine y_iload_n dX12_mixBooks_45 rfl rfl ?_
        refine y_imulN (a := 5) (b := k) dX12_mixBooks_46 rfl rfl ?_
        refine y_iload_n dX12_mixBooks_47 rfl rfl ?_
        refine y_iaddN (a := 5 * k) (b := j) dX12_mixBooks_48 rfl rfl ?_
        refine y_ialdN dX12_mixBooks_49 sh_247 rfl (by first | omega | decide) (by decide) ?_
        refine y_i2l dX12_mixBooks_50 ?_
        refine y_ivV1 dX12_mixBooks_51 mv_X12_335 my_X12_mix (Or.inl rfl) sh_239 ?_
        refine c_X12_mix ⟨rfl, ?_⟩
        refine y_iinc3_2 dX12_mixBooks_54 (nI_1 _) rfl ?_
        refine y_goto (tgt := 25) dX12_mixBooks_57 (by decide) ?_
        exact hP
set_option maxHeartbeats 1000000 in
theorem c_X12_mixLoaf {L : Nat} {xs : Nat → Int32} {d : Nat} {m : sM} {n : sN} {Q : sQ} {g : Int64} {s : Nat} (hl : m 253 0 = 0 ∨ (m 253 0 = 1 ∧ sR (lfR m 0))) (hs : m 239 28 = nI s) (hs2 : s ≤ 12) (hQ : Q none (wkM m (329 * 0)) (hN n (mxs (m 259) (lfD m g) (2 * s)))) : sRun (scT L xs) (d + 3) yX12_mixLoaf cX12_mixLoaf 3 none [.ref 239] m (hN n g) Q := by
  refine y_run (own := "LoafFallModel") rfl (by decide +kernel) (Nat.le_of_ble_eq_true rfl) rfl ?_
  refine y_aload_n dX12_mixLoaf_0 rfl rfl ?_
  refine y_iconst (v := 0) dX12_mixLoaf_1 (by decide) ?_
  refine y_ivV1 dX12_mixLoaf_2 mv_X12_174 my_X12_look (Or.inl rfl) sh_239 ?_
  refine c_X12_look (j := 0) rfl ⟨rfl, ?_⟩
  have hs' : wkM m (329 * 0) 239 28 = nI s := by rw [wk_j (by omega)]; exact hs
  have sl : ∀ a2 : Option Value, ∀ a1 : Option Value, a_isL a1 = false → sV (scT L xs) (d + 2) "LoafFallModel" cX12_mixLoaf 3 none Q 93 [some (.ref 239), a1, a2] [] (wkM m (329 * 0)) (hN n (lfD m g)) := by
    intro a2 a1 ha
    refine y_iconst (v := 0) dX12_mixLoaf_93 (by decide) ?_
    refine y_ist3_1 dX12_mixLoaf_94 rfl ?_
    refine cnt (P := fun k => sV (scT L xs) (d + 2) "LoafFallModel" cX12_mixLoaf 3 none Q 95 [some (.ref 239), some (.int (nI k)), a2] [] (wkM m (329 * 0)) (hN n (mxs (m 259) (lfD m g) k))) (2 * s) ?_ ?_ 0 (by omega)
    · refine y_iload_n dX12_mixLoaf_95 rfl rfl ?_
      refine y_iconst (v := 2) dX12_mixLoaf_96 (by decide) ?_
      refine y_aload_n dX12_mixLoaf_97 rfl rfl ?_
      refine y_geti dX12_mixLoaf_98 gf_X12_310 sh_239 rfl ?_
      rw [hs']
      refine y_imulN (a := 2) (b := s) dX12_mixLoaf_101 rfl rfl ?_
      refine y_icmp_ge (tgt := 122) dX12_mixLoaf_102 (by decide) (fun h102 => ?_) (fun h102 => absurd (nI_le (a := (2 * s)) (b := (2 * s)) (Nat.le_refl _) (by omega)) h102)
      refine y_return dX12_mixLoaf_122 rfl ?_
      exact hQ
    · intro k hk hP
      refine y_iload_n dX12_mixLoaf_95 rfl rfl ?_
      refine y_iconst (v := 2) dX12_mixLoaf_96 (by decide) ?_
      refine y_aload_n dX12_mixLoaf_97 rfl rfl ?_
      refine y_geti dX12_mixLoaf_98 gf_X12_310 sh_239 rfl ?_
      rw [hs']
      refine y_imulN (a := 2) (b := s) dX12_mixLoaf_101 rfl rfl ?_
      refine y_icmp_ge (tgt := 122) dX12_mixLoaf_102 (by decide) (fun h102 => absurd h102 (nI_ge (a := k) (b := (2 * s)) hk (by omega))) (fun h102 => ?_)
      refine y_aload_n dX12_mixLoaf_105 rfl rfl ?_
      refine y_aload_n dX12_mixLoaf_106 rfl rfl ?_
      refine y_getr dX12_mixLoaf_107 gf_X12_69 sh_239 rfl ?_
      refine y_iload_n dX12_mixLoaf_110 rfl rfl ?_
      refine y_ialdN dX12_mixLoaf_111 sh_259 rfl (by first | omega | decide) (by decide) ?_
      rw [wk_o (show 259 ≠ 239 by omega)]
      refine y_i2l dX12_mixLoaf_112 ?_
      refine y_ivV1 dX12_mixLoaf_113 mv_X12_335 my_X12_mix (Or.inl rfl) sh_239 ?_
      refine c_X12_mix ⟨rfl, ?_⟩
      refine y_iinc3_1 dX12_mixLoaf_116 (nI_1 _) rfl ?_
      refine y_goto (tgt := 95) dX12_mixLoaf_119 (by decide) ?_
      exact hP
  rcases hl with l1 | ⟨l1, l4⟩
  · refine y_aload_n dX12_mixLoaf_5 rfl rfl ?_
    refine y_getr dX12_mixLoaf_6 gf_X12_51 sh_239 rfl ?_
    refine y_iconst (v := 0) dX12_mixLoaf_9 (by decide) ?_
    refine y_zaldN dX12_mixLoaf_10 sh_253 rfl (by first | omega | decide) (by decide) ?_
    refine y_if_eq (tgt := 86) dX12_mixLoaf_11 (by decide) (fun h11 => ?_) (fun h11 => absurd (by rw [wk_o (by omega)]; exact l1) h11)
    refine y_aload_n dX12_mixLoaf_86 rfl rfl ?_
    refine y_ldc2 dX12_mixLoaf_87 tw_1593 ?_
    refine y_ivV1 dX12_mixLoaf_90 mv_X12_335 my_X12_mix (Or.inl rfl) sh_239 ?_
    refine c_X12_mix ⟨rfl, ?_⟩
    have := sl none none rfl
    rw [show lfD m g = mx g (-1) from if_pos l1] at this
    exact this
  · rw [show lfD m g = faD (lfR m 0) (mxs (fun k => lfR m 0 (41 + k)) g 120) (qOf (lfR m 0)) from if_neg (by rw [l1]; decide)] at sl
    obtain ⟨q1, q2⟩ := q40 l4
    refine y_aload_n dX12_mixLoaf_5 rfl rfl ?_
    refine y_getr dX12_mixLoaf_6 gf_X12_51 sh_239 rfl ?_
    refine y_iconst (v := 0) dX12_mixLoaf_9 (by decide) ?_
    refine y_zaldN dX12_mixLoaf_10 sh_253 rfl (by first | omega | decide) (by decide) ?_
    refine y_if_eq (tgt := 86) dX12_mixLoaf_11 (by decide) (fun h11 => absurd h11 (by rw [wk_o (by omega), l1]; decide)) (fun h11 => ?_)
    refine y_iconst (v := 0) dX12_mixLoaf_14 (by decide) ?_
    refine y_ist3_1 dX12_mixLoaf_15 rfl ?_
    refine cnt (P := fun k => sV (scT L xs) (d + 2) "LoafFallModel" cX12_mixLoaf 3 none Q 16 [some (.ref 239), some (.int (nI k)), none] [] (wkM m (329 * 0)) (hN n (mxs (fun k => lfR m 0 (41 + k)) g k))) 120 ?_ ?_ 0 (by omega)
    · refine y_iload_n dX12_mixLoaf_16 rfl rfl ?_
      refine y_bipush (v := 120) dX12_mixLoaf_17 (by decide) ?_
      refine y_icmp_ge (tgt := 41) dX12_mixLoaf_19 (by decide) (fun h19 => ?_) (fun h19 => absurd (nI_le (a := 120) (b := 120) (Nat.le_refl _) (by decide)) h19)
      refine y_iconst (v := 0) dX12_mixLoaf_41 (by decide) ?_
      refine y_ist3_1 dX12_mixLoaf_42 rfl ?_
      refine cnt (P := fun k => ∀ a2 : Option Value, sV (scT L xs) (d + 2) "LoafFallModel" cX12_mixLoaf 3 none Q 43 [some (.ref 239), some (.int (nI k)), a2] [] (wkM m (329 * 0)) (hN n (faD (lfR m 0) (mxs (fun k => lfR m 0 (41 + k)) g 120) k))) (qOf (lfR m 0)) ?_ ?_ 0 (by omega) _
      · intro a2
        refine y_iload_n dX12_mixLoaf_43 rfl rfl ?_
        refine y_aload_n dX12_mixLoaf_44 rfl rfl ?_
        refine y_bipush (v := 40) dX12_mixLoaf_45 (by decide) ?_
        refine y_ivI1 dX12_mixLoaf_47 mv_X12_160 my_X12_v (Or.inl rfl) sh_239 ?_
        refine e_v (b := 329 * 0) (p := 40) (wk_b (by omega)) rfl (by omega) ⟨_, rfl, ?_⟩
        rw [wk_o (show 254 ≠ 239 by omega), show m 254 (329 * 0 + 40) = nI (qOf (lfR m 0)) from q1]
        refine y_icmp_ge (tgt := 83) dX12_mixLoaf_50 (by decide) (fun h50 => ?_) (fun h50 => absurd (nI_le (a := (qOf (lfR m 0))) (b := (qOf (lfR m 0))) (Nat.le_refl _) (by omega)) h50)
        refine y_goto (tgt := 93) dX12_mixLoaf_83 (by decide) ?_
        exact sl _ _ rfl
      · intro k hk hP
        intro a2
        refine y_iload_n dX12_mixLoaf_43 rfl rfl ?_
        refine y_aload_n dX12_mixLoaf_44 rfl rfl ?_
        refine y_bipush (v := 40) dX12_mixLoaf_45 (by decide) ?_
        refine y_ivI1 dX12_mixLoaf_47 mv_X12_160 my_X12_v (Or.inl rfl) sh_239 ?_
        refine e_v (b := 329 * 0) (p := 40) (wk_b (by omega)) rfl (by omega) ⟨_, rfl, ?_⟩
        rw [wk_o (show 254 ≠ 239 by omega), show m 254 (329 * 0 + 40) = nI (qOf (lfR m 0)) from q1]
        refine y_icmp_ge (tgt := 83) dX12_mixLoaf_50 (by decide) (fun h50 => absurd h50 (nI_ge (a := k) (b := (qOf (lfR m 0))) hk (by omega))) (fun h50 => ?_)
        refine y_iconst (v := 0) dX12_mixLoaf_53 (by decide) ?_
        refine y_ist3_2 dX12_mixLoaf_54 rfl ?_
        refine cnt (P := fun j => sV (scT L xs) (d + 2) "LoafFallModel" cX12_mixLoaf 3 none Q 55 [some (.ref 239), some (.int (nI k)), some (.int (nI j))] [] (wkM m (329 * 0)) (hN n (mxs (fun q => lfR m 0 (161 + 7 * k + q)) (faD (lfR m 0) (mxs (fun k => lfR m 0 (41 + k)) g 120) k) j))) 4 ?_ ?_ 0 (by omega)
        · refine y_iload_n dX12_mixLoaf_55 rfl rfl ?_
          refine y_iconst (v := 4) dX12_mixLoaf_56 (by decide) ?_
          refine y_icmp_ge (tgt := 77) dX12_mixLoaf_57 (by decide) (fun h57 => ?_) (fun h57 => absurd (nI_le (a := 4) (b := 4) (Nat.le_refl _) (by decide)) h57)
          refine y_iinc3_1 dX12_mixLoaf_77 (nI_1 _) rfl ?_
          refine y_goto (tgt := 43) dX12_mixLoaf_80 (by decide) ?_
          exact hP (some (.int (nI 4)))
        · intro j hk hP
          refine y_iload_n dX12_mixLoaf_55 rfl rfl ?_
          refine y_iconst (v := 4) dX12_mixLoaf_56 (by decide) ?_
          refine y_icmp_ge (tgt := 77) dX12_mixLoaf_57 (by decide) (fun h57 => absurd h57 (nI_ge (a := j) (b := 4) hk (by decide))) (fun h57 => ?_)
          refine y_aload_n dX12_mixLoaf_60 rfl rfl ?_
          refine y_aload_n dX12_mixLoaf_61 rfl rfl ?_
          refine y_iload_n dX12_mixLoaf_62 rfl rfl ?_
          refine y_iload_n dX12_mixLoaf_63 rfl rfl ?_
          refine y_ivI2 dX12_mixLoaf_64 mv_X12_235 my_X12_f (Or.inl rfl) sh_239 ?_
          refine e_f (b := 329 * 0) (k := k) (j := j) (wk_b (by omega)) rfl rfl (by omega) ⟨_, rfl, ?_⟩
          rw [wk_o (show 254 ≠ 239 by omega)]
          refine y_i2l dX12_mixLoaf_67 ?_
          refine y_ivV1 dX12_mixLoaf_68 mv_X12_335 my_X12_mix (Or.inl rfl) sh_239 ?_
          refine c_X12_mix ⟨rfl, ?_⟩
          refine y_iinc3_2 dX12_mixLoaf_71 (nI_1 _) rfl ?_
          refine y_goto (tgt := 55) dX12_mixLoaf_74 (by decide) ?_
          exact hP
    · intro k hk hP
      refine y_iload_n dX12_mixLoaf_16 rfl rfl ?_
      refine y_bipush (v := 120) dX12_mixLoaf_17 (by decide) ?_
      refine y_icmp_ge (tgt := 41) dX12_mixLoaf_19 (by decide) (fun h19 => absurd h19 (nI_ge (a := k) (b := 120) hk (by decide))) (fun h19 => ?_)
      refine y_aload_n dX12_mixLoaf_22 rfl rfl ?_
      refine y_aload_n dX12_mixLoaf_23 rfl rfl ?_
      refine y_bipush (v := 41) dX12_mixLoaf_24 (by decide) ?_
      refine y_iload_n dX12_mixLoaf_26 rfl rfl ?_
      refine y_iaddN (a := 41) (b := k) dX12_mixLoaf_27 rfl rfl ?_
      refine y_ivI1 dX12_mixLoaf_28 mv_X12_160 my_X12_v (Or.inl rfl) sh_239 ?_
      refine e_v (b := 329 * 0) (p := 41 + k) (wk_b (by omega)) rfl (by omega) ⟨_, rfl, ?_⟩
      rw [wk_o (show 254 ≠ 239 by omega)]
      refine y_i2l dX12_mixLoaf_31 ?_
      refine y_ivV1 dX12_mixLoaf_32 mv_X12_335 my_X12_mix (Or.inl rfl) sh_239 ?_
      refine c_X12_mix ⟨rfl, ?_⟩
      refine y_iinc3_1 dX12_mixLoaf_35 (nI_1 _) rfl ?_
      refine y_goto (tgt := 16) dX12_mixLoaf_38 (by decide) ?_
      exact hP
set_option maxHeartbeats 1000000 in
theorem c_X12_byteAt {L : Nat} {xs : Nat → Int32} {d : Nat} {m : sM} {n : sN} {Q : sQ} {t i s : Nat} {x z : Int32} (hx : x = nI t) (ht : t < 4) (hz : z = nI i) (hi : i < 1000) (hs : m 244 t = nI s) (hs2 : s ≤ 80) (hQ : Q (some (.int (if i < s then m 245 (80 * t + i) else 0))) m n) : sRun (scT L xs) (d + 1) yX12_byteAt cX12_byteAt 3 (some .int) [.ref 239, .int x, .int z] m n Q := by
  subst hx hz
  refine y_run (own := "LoafFallModel") rfl (by decide +kernel) (Nat.le_of_ble_eq_true rfl) rfl ?_
  refine y_iload_n dX12_byteAt_0 rfl rfl ?_
  refine y_aload_n dX12_byteAt_1 rfl rfl ?_
  refine y_getr dX12_byteAt_2 gf_X12_22 sh_239 rfl ?_
  refine y_iload_n dX12_byteAt_5 rfl rfl ?_
  refine y_ialdN dX12_byteAt_6 sh_244 rfl (by first | omega | decide) (by decide) ?_
  rw [hs]
  refine y_icmp_ge (tgt := 24) dX12_byteAt_7 (by decide) (fun h7 => ?_) (fun h7 => ?_)
  · rw [if_neg (fun q => absurd h7 (nI_ge q (by omega)))] at hQ
    refine y_iconst (v := 0) dX12_byteAt_24 (by decide) ?_
    refine y_ireturn dX12_byteAt_25 rfl rfl ?_
    exact hQ
  · have hlt : i < s := (nI_ltI (by omega) (by omega)).mp (Int32.not_le.mp h7)
    rw [if_pos hlt] at hQ
    refine y_aload_n dX12_byteAt_10 rfl rfl ?_
    refine y_getr dX12_byteAt_11 gf_X12_25 sh_239 rfl ?_
    refine y_bipush (v := 80) dX12_byteAt_14 (by decide) ?_
    refine y_iload_n dX12_byteAt_16 rfl rfl ?_
    refine y_imulN (a := 80) (b := t) dX12_byteAt_17 rfl rfl ?_
    refine y_iload_n dX12_byteAt_18 rfl rfl ?_
    refine y_iaddN (a := 80 * t) (b := i) dX12_byteAt_19 rfl rfl ?_
    refine y_baldN dX12_byteAt_20 sh_245 rfl (by first | omega | decide) (by decide) ?_
    refine y_goto (tgt := 25) dX12_byteAt_21 (by decide) ?_
    refine y_ireturn dX12_byteAt_25 rfl rfl ?_
    exact hQ
def SZS (m : sM) : Prop := (∀ r, r < 6 → m 241 r = -1 ∨ ∃ s : Nat, s ≤ 40 ∧ m 241 r = nI s) ∧ ∀ r, r < 4 → m 244 r = -1 ∨ ∃ s : Nat, s ≤ 80 ∧ m 244 r = nI s
theorem Rel.szs {m : sM} {n : sN} (h : Rel m n) : SZS m := by
  refine ⟨fun r hr => ?_, fun r hr => ?_⟩
  · rcases h.w r hr with ⟨a, -⟩ | ⟨s, a, b, -⟩
    · exact Or.inl a
    · exact Or.inr ⟨s, a, b⟩
  · rcases h.t r hr with ⟨a, -⟩ | ⟨s, a, b, -⟩
    · exact Or.inl a
    · exact Or.inr ⟨s, a, b⟩
set_option maxHeartbeats 1000000 in
theorem c_X12_digest {L : Nat} {xs : Nat → Int32} {d : Nat} {m : sM} {n : sN} {Q : sQ} {s : Nat} (hl : m 253 0 = 0 ∨ (m 253 0 = 1 ∧ sR (lfR m 0))) (hs : m 239 28 = nI s) (hs2 : s ≤ 12) (hB : BKS m) (hZ : SZS m) (hQ : ∀ m1, fw m m1 → Q (some (.long (DG m))) m1 (hN n (DG m))) : sRun (scT L xs) (d + 4) yX12_digest cX12_digest 3 (some .long) [.ref 239] m n Q := by
  unfold DG slN at hQ
  rw [hs, nI_clamp (by omega)] at hQ
  refine y_run (own := "LoafFallModel") rfl (by decide +kernel) (Nat.le_of_ble_eq_true rfl) rfl ?_
  refine y_aload_n dX12_digest_0 rfl rfl ?_
  refine y_ldc2 dX12_digest_1 tw_1583 ?_
  refine y_putl dX12_digest_4 pf_X12_330 sh_239 rfl ?_
  refine y_iconst (v := 0) dX12_digest_7 (by decide) ?_
  refine y_ist3_1 dX12_digest_8 rfl ?_
  change sV (scT L xs) (d + 3) "LoafFallModel" cX12_digest 3 (some .long) Q 9 [some (.ref 239), some (.int 0), none] [] m (hN n 17)
  refine cnt (P := fun k => ∀ m1, fw m m1 → sV (scT L xs) (d + 3) "LoafFallModel" cX12_digest 3 (some .long) Q 9 [some (.ref 239), some (.int (nI k)), none] [] m1 (hN n (mxs (CNT m) 17 k))) 9 ?_ ?_ 0 (by omega) m fw.rf
  · intro m1 fm
    refine y_iload_n dX12_digest_9 rfl rfl ?_
    refine y_bipush (v := 9) dX12_digest_10 (by decide) ?_
    refine y_icmp_ge (tgt := 31) dX12_digest_12 (by decide) (fun h12 => ?_) (fun h12 => absurd (nI_le (a := 9) (b := 9) (Nat.le_refl _) (by decide)) h12)
    refine y_aload_n dX12_digest_31 rfl rfl ?_
    refine y_ivV0 dX12_digest_32 mv_X12_341 my_X12_mixBooks (Or.inl rfl) sh_239 ?_
    refine c_X12_mixBooks (⟨by rw [fm.1 246 (by omega)]; exact hB.1, by rw [fm.1 248 (by omega), fm.1 249 (by omega)]; exact fun k hk => by rw [dgR_m (fm.1 249 (by omega)) (fm.1 250 (by omega))]; exact hB.2 k hk⟩ : BKS m1) ⟨rfl, ?_⟩
    rw [dgD_fw fm, flD_fw fm]
    refine y_aload_n dX12_digest_35 rfl rfl ?_
    refine y_ivV0 dX12_digest_36 mv_X12_344 my_X12_mixLoaf (Or.inl rfl) sh_239 ?_
    refine c_X12_mixLoaf (s := s) (by rw [fm.1 253 (by omega), lfR_fw fm]; exact hl) (by rw [fm.2 28 (by omega)]; exact hs) hs2 ⟨rfl, ?_⟩
    rw [lfD_fw fm, fm.1 259 (by omega)]
    have f1 : fw m m1 := fm
    have f2 : fw m (wkM m1 (329 * 0)) := fm.tr fw.wk
    generalize wkM m1 (329 * 0) = m2 at f2 ⊢
    have e241 : m2 241 = m 241 := f2.1 241 (by omega)
    have e242 : m2 242 = m 242 := f2.1 242 (by omega)
    have e244 : m2 244 = m 244 := f2.1 244 (by omega)
    have e245 : m2 245 = m 245 := f2.1 245 (by omega)
    generalize mxs (m 259) (lfD m (dgD m (flD m (mxs (CNT m) 17 9) 4) 4)) (2 * s) = g0 at hQ ⊢
    refine y_iconst (v := 0) dX12_digest_39 (by decide) ?_
    refine y_ist3_1 dX12_digest_40 rfl ?_
    refine cnt (P := fun k => ∀ a2 : Option Value, sV (scT L xs) (d + 3) "LoafFallModel" cX12_digest 3 (some .long) Q 41 [some (.ref 239), some (.int (nI k)), a2] [] m2 (hN n (rwD m 241 242 40 g0 k))) 6 ?_ ?_ 0 (by omega) _
    · intro a2
      refine y_iload_n dX12_digest_41 rfl rfl ?_
      refine y_bipush (v := 6) dX12_digest_42 (by decide) ?_
      refine y_icmp_ge (tgt := 93) dX12_digest_44 (by decide) (fun h44 => ?_) (fun h44 => absurd (nI_le (a := 6) (b := 6) (Nat.le_refl _) (by decide)) h44)
      generalize rwD m 241 242 40 g0 6 = g1 at hQ ⊢
      refine y_iconst (v := 0) dX12_digest_93 (by decide) ?_
      refine y_ist3_1 dX12_digest_94 rfl ?_
      refine cnt (P := fun k => ∀ a2 : Option Value, sV (scT L xs) (d + 3) "LoafFallModel" cX12_digest 3 (some .long) Q 95 [some (.ref 239), some (.int (nI k)), a2] [] m2 (hN n (rwD m 244 245 80 g1 k))) 4 ?_ ?_ 0 (by omega) _
      · intro a2
        refine y_iload_n dX12_digest_95 rfl rfl ?_
        refine y_iconst (v := 4) dX12_digest_96 (by decide) ?_
        refine y_icmp_ge (tgt := 146) dX12_digest_97 (by decide) (fun h97 => ?_) (fun h97 => absurd (nI_le (a := 4) (b := 4) (Nat.le_refl _) (by decide)) h97)
        refine y_aload_n dX12_digest_146 rfl rfl ?_
        refine y_getl dX12_digest_147 gf_X12_330 sh_239 rfl ?_
        rw [hN_g]
        refine y_lreturn dX12_digest_150 rfl ?_
        exact hQ m2 f2
      · intro k hk hP
        intro a2
        have hk4 := hk
        refine y_iload_n dX12_digest_95 rfl rfl ?_
        refine y_iconst (v := 4) dX12_digest_96 (by decide) ?_
        refine y_icmp_ge (tgt := 146) dX12_digest_97 (by decide) (fun h97 => absurd h97 (nI_ge (a := k) (b := 4) hk (by decide))) (fun h97 => ?_)
        refine y_aload_n dX12_digest_100 rfl rfl ?_
        refine y_aload_n dX12_digest_101 rfl rfl ?_
        refine y_getr dX12_digest_102 gf_X12_22 sh_239 rfl ?_
        refine y_iload_n dX12_digest_105 rfl rfl ?_
        refine y_ialdN dX12_digest_106 sh_244 rfl (by first | omega | decide) (by decide) ?_
        rw [e244]
        refine y_i2l dX12_digest_107 ?_
        refine y_ivV1 dX12_digest_108 mv_X12_335 my_X12_mix (Or.inl rfl) sh_239 ?_
        refine c_X12_mix ⟨rfl, ?_⟩
        refine y_iconst (v := 0) dX12_digest_111 (by decide) ?_
        refine y_ist3_2 dX12_digest_112 rfl ?_
        rcases hZ.2 k hk4 with z1 | ⟨u, hu, z1⟩
        · have := hP (some (.int (nI 0)))
          rw [rwD, z1, clampm1] at this
          refine y_iload_n dX12_digest_113 rfl rfl ?_
          refine y_aload_n dX12_digest_114 rfl rfl ?_
          refine y_getr dX12_digest_115 gf_X12_22 sh_239 rfl ?_
          refine y_iload_n dX12_digest_118 rfl rfl ?_
          refine y_ialdN dX12_digest_119 sh_244 rfl (by first | omega | decide) (by decide) ?_
          refine y_icmp_ge (tgt := 140) dX12_digest_120 (by decide) (fun h120 => ?_) (fun h120 => absurd (by rw [e244, z1]; decide) h120)
          refine y_iinc3_1 dX12_digest_140 (nI_1 _) rfl ?_
          refine y_goto (tgt := 95) dX12_digest_143 (by decide) ?_
          rw [z1]
          exact this
        · have := hP (some (.int (nI u)))
          rw [rwD, show (m 244 k).toNatClampNeg = u from by rw [z1, nI_clamp (by omega)]] at this
          refine cnt (P := fun j => sV (scT L xs) (d + 3) "LoafFallModel" cX12_digest 3 (some .long) Q 113 [some (.ref 239), some (.int (nI k)), some (.int (nI j))] [] m2 (hN n (mxs (fun i => m 245 (80 * k + i)) (mx (rwD m 244 245 80 g1 k) (m 244 k).toInt64) j))) u ?_ ?_ 0 (by omega)
          · refine y_iload_n dX12_digest_113 rfl rfl ?_
            refine y_aload_n dX12_digest_114 rfl rfl ?_
            refine y_getr dX12_digest_115 gf_X12_22 sh_239 rfl ?_
            refine y_iload_n dX12_digest_118 rfl rfl ?_
            refine y_ialdN dX12_digest_119 sh_244 rfl (by first | omega | decide) (by decide) ?_
            rw [show m2 244 k = nI u from by rw [e244]; exact z1]
            refine y_icmp_ge (tgt := 140) dX12_digest_120 (by decide) (fun h120 => ?_) (fun h120 => absurd (nI_le (a := u) (b := u) (Nat.le_refl _) (by omega)) h120)
            refine y_iinc3_1 dX12_digest_140 (nI_1 _) rfl ?_
            refine y_goto (tgt := 95) dX12_digest_143 (by decide) ?_
            exact this
          · intro j hk hP
            refine y_iload_n dX12_digest_113 rfl rfl ?_
            refine y_aload_n dX12_digest_114 rfl rfl ?_
            refine y_getr dX12_digest_115 gf_X12_22 sh_239 rfl ?_
            refine y_iload_n dX12_digest_118 rfl rfl ?_
            refine y_ialdN dX12_digest_119 sh_244 rfl (by first | omega | decide) (by decide) ?_
            rw [show m2 244 k = nI u from by rw [e244]; exact z1]
            refine y_icmp_ge (tgt := 140) dX12_digest_120 (by decide) (fun h120 => absurd h120 (nI_ge (a := j) (b := u) hk (by omega))) (fun h120 => ?_)
            refine y_aload_n dX12_digest_123 rfl rfl ?_
            refine y_aload_n dX12_digest_124 rfl rfl ?_
            refine y_iload_n dX12_digest_125 rfl rfl ?_
            refine y_iload_n dX12_digest_126 rfl rfl ?_
            refine y_ivI2 dX12_digest_127 mv_X12_117 my_X12_byteAt (Or.inl rfl) sh_239 ?_
            refine c_X12_byteAt (t := k) (i := j) rfl (by omega) rfl (by omega) (by rw [e244]; exact z1) hu ⟨_, rfl, ?_⟩
            rw [if_pos hk, e245]
            refine y_i2l dX12_digest_130 ?_
            refine y_ivV1 dX12_digest_131 mv_X12_335 my_X12_mix (Or.inl rfl) sh_239 ?_
            refine c_X12_mix ⟨rfl, ?_⟩
            refine y_iinc3_2 dX12_digest_134 (nI_1 _) rfl ?_
            refine y_goto (tgt := 113) dX12_digest_137 (by decide) ?_
            exact hP
    · intro k hk hP
      intro a2
      have hk4 := hk
      refine y_iload_n dX12_digest_41 rfl rfl ?_
      refine y_bipush (v := 6) dX12_digest_42 (by decide) ?_
      refine y_icmp_ge (tgt := 93) dX12_digest_44 (by decide) (fun h44 => absurd h44 (nI_ge (a := k) (b := 6) hk (by decide))) (fun h44 => ?_)
      refine y_aload_n dX12_digest_47 rfl rfl ?_
      refine y_aload_n dX12_digest_48 rfl rfl ?_
      refine y_getr dX12_digest_49 gf_X12_13 sh_239 rfl ?_
      refine y_iload_n dX12_digest_52 rfl rfl ?_
      refine y_ialdN dX12_digest_53 sh_241 rfl (by first | omega | decide) (by decide) ?_
      rw [e241]
      refine y_i2l dX12_digest_54 ?_
      refine y_ivV1 dX12_digest_55 mv_X12_335 my_X12_mix (Or.inl rfl) sh_239 ?_
      refine c_X12_mix ⟨rfl, ?_⟩
      refine y_iconst (v := 0) dX12_digest_58 (by decide) ?_
      refine y_ist3_2 dX12_digest_59 rfl ?_
      rcases hZ.1 k hk4 with z1 | ⟨u, hu, z1⟩
      · have := hP (some (.int (nI 0)))
        rw [rwD, z1, clampm1] at this
        refine y_iload_n dX12_digest_60 rfl rfl ?_
        refine y_aload_n dX12_digest_61 rfl rfl ?_
        refine y_getr dX12_digest_62 gf_X12_13 sh_239 rfl ?_
        refine y_iload_n dX12_digest_65 rfl rfl ?_
        refine y_ialdN dX12_digest_66 sh_241 rfl (by first | omega | decide) (by decide) ?_
        refine y_icmp_ge (tgt := 87) dX12_digest_67 (by decide) (fun h67 => ?_) (fun h67 => absurd (by rw [e241, z1]; decide) h67)
        refine y_iinc3_1 dX12_digest_87 (nI_1 _) rfl ?_
        refine y_goto (tgt := 41) dX12_digest_90 (by decide) ?_
        rw [z1]
        exact this
      · have := hP (some (.int (nI u)))
        rw [rwD, show (m 241 k).toNatClampNeg = u from by rw [z1, nI_clamp (by omega)]] at this
        refine cnt (P := fun j => sV (scT L xs) (d + 3) "LoafFallModel" cX12_digest 3 (some .long) Q 60 [some (.ref 239), some (.int (nI k)), some (.int (nI j))] [] m2 (hN n (mxs (fun i => m 242 (40 * k + i)) (mx (rwD m 241 242 40 g0 k) (m 241 k).toInt64) j))) u ?_ ?_ 0 (by omega)
        · refine y_iload_n dX12_digest_60 rfl rfl ?_
          refine y_aload_n dX12_digest_61 rfl rfl ?_
          refine y_getr dX12_digest_62 gf_X12_13 sh_239 rfl ?_
          refine y_iload_n dX12_digest_65 rfl rfl ?_
          refine y_ialdN dX12_digest_66 sh_241 rfl (by first | omega | decide) (by decide) ?_
          rw [show m2 241 k = nI u from by rw [e241]; exact z1]
          refine y_icmp_ge (tgt := 87) dX12_digest_67 (by decide) (fun h67 => ?_) (fun h67 => absurd (nI_le (a := u) (b := u) (Nat.le_refl _) (by omega)) h67)
          refine y_iinc3_1 dX12_digest_87 (nI_1 _) rfl ?_
          refine y_goto (tgt := 41) dX12_digest_90 (by decide) ?_
          exact this
        · intro j hk hP
          refine y_iload_n dX12_digest_60 rfl rfl ?_
          refine y_aload_n dX12_digest_61 rfl rfl ?_
          refine y_getr dX12_digest_62 gf_X12_13 sh_239 rfl ?_
          refine y_iload_n dX12_digest_65 rfl rfl ?_
          refine y_ialdN dX12_digest_66 sh_241 rfl (by first | omega | decide) (by decide) ?_
          rw [show m2 241 k = nI u from by rw [e241]; exact z1]
          refine y_icmp_ge (tgt := 87) dX12_digest_67 (by decide) (fun h67 => absurd h67 (nI_ge (a := j) (b := u) hk (by omega))) (fun h67 => ?_)
          refine y_aload_n dX12_digest_70 rfl rfl ?_
          refine y_aload_n dX12_digest_71 rfl rfl ?_
          refine y_iload_n dX12_digest_72 rfl rfl ?_
          refine y_iload_n dX12_digest_73 rfl rfl ?_
          refine y_ivI2 dX12_digest_74 mv_X12_104 my_X12_rowAt (Or.inl rfl) sh_239 ?_
          refine c_X12_rowAt (r := k) (i := j) rfl (by omega) rfl (by omega) ⟨_, rfl, ?_⟩
          rw [e242]
          refine y_i2l dX12_digest_77 ?_
          refine y_ivV1 dX12_digest_78 mv_X12_335 my_X12_mix (Or.inl rfl) sh_239 ?_
          refine c_X12_mix ⟨rfl, ?_⟩
          refine y_iinc3_2 dX12_digest_81 (nI_1 _) rfl ?_
          refine y_goto (tgt := 60) dX12_digest_84 (by decide) ?_
          exact hP
  · intro k hk hP
    intro m1 fm
    refine y_iload_n dX12_digest_9 rfl rfl ?_
    refine y_bipush (v := 9) dX12_digest_10 (by decide) ?_
    refine y_icmp_ge (tgt := 31) dX12_digest_12 (by decide) (fun h12 => absurd h12 (nI_ge (a := k) (b := 9) hk (by decide))) (fun h12 => ?_)
    refine y_aload_n dX12_digest_15 rfl rfl ?_
    refine y_aload_n dX12_digest_16 rfl rfl ?_
    refine y_iload_n dX12_digest_17 rfl rfl ?_
    refine y_ivI1 dX12_digest_18 mv_X12_325 my_X12_counted (Or.inl rfl) sh_239 ?_
    refine c_X12_counted (q := k) rfl hk (by rw [fm.1 253 (by omega), lfR_fw fm]; exact hl) ⟨_, rfl, ?_⟩
    rw [CNT_fw fm]
    refine y_i2l dX12_digest_21 ?_
    refine y_ivV1 dX12_digest_22 mv_X12_335 my_X12_mix (Or.inl rfl) sh_239 ?_
    refine c_X12_mix ⟨rfl, ?_⟩
    refine y_iinc3_1 dX12_digest_25 (nI_1 _) rfl ?_
    refine y_goto (tgt := 9) dX12_digest_28 (by decide) ?_
    exact hP _ (fm.tr fw.wk)
set_option maxHeartbeats 2000000 in
theorem p_digest {L : Nat} {xs : Nat → Int32} {d : Nat} {m : sM} {n : sN} (h : Rel m n) : PL L xs (d + 11) yX11_digest cX11_digest 4 yX12_digest cX12_digest 3 [] m n := by
  unfold PL
  obtain ⟨s, hs, s1, s2, s3⟩ := h.s
  refine c_X11_digest h ⟨_, rfl, ?_⟩
  exact c_X12_digest h.hl s2 hs h.bks h.szs (fun m1 f => ⟨rfl, Rel_hN (Rel_scr h frC.rf h.bk f.fr)⟩)
