/-! ===== reading a doing, the reference ===== -/
/-- the reference has read these steps -/
def DM (M : sM) (R : Nat → Int32) : Prop := M 239 17 = nI (cOf R) ∧ M 239 18 = rsum R (cOf R) ∧ ∀ i, i < cOf R → ∀ j, j < 3 → M 252 (3 * i + j) = R (6 + 3 * i + j)
theorem add_rs {R : Nat → Int32} {kd u v : Int32} : ∀ k, k ≤ cOf R → rsum (addR R kd u v) k = rsum R k := by
  intro k
  induction k with
  | zero => intro _; rfl
  | succ k ih =>
    intro hk
    rw [rsum, rsum, ih (by omega), add_at (by omega), if_neg (by omega)]
theorem DM_add {M M' : sM} {R : Nat → Int32} {kd u v : Int32} (h : DM M R) (hc : cOf R < 10) (e1 : M' 239 17 = nI (cOf R + 1)) (e2 : M' 239 18 = rsum R (cOf R) + v) (e3 : ∀ p, p < 3 * cOf R → M' 252 p = M 252 p) (e4 : M' 252 (3 * cOf R) = kd) (e5 : M' 252 (3 * cOf R + 1) = u) (e6 : M' 252 (3 * cOf R + 2) = v) : DM M' (addR R kd u v) := by
  refine ⟨by rw [add_c hc]; exact e1, ?_, fun i hi j hj => ?_⟩
  · rw [add_c hc, rsum, add_rs _ (Nat.le_refl _), add_at (by omega), if_pos rfl, if_neg (by omega), if_neg (by omega)]; exact e2
  · rw [add_c hc] at hi
    rw [add_at hj]
    by_cases e : i = cOf R
    · rw [if_pos e, e]
      have : j = 0 ∨ j = 1 ∨ j = 2 := by omega
      rcases this with rfl | rfl | rfl
      · rw [if_pos rfl]; exact e4
      · rw [if_neg (by omega), if_pos rfl]; exact e5
      · rw [if_neg (by omega), if_neg (by omega)]; exact e6
    · rw [if_neg e, e3 _ (by omega)]; exact h.2.2 i (by omega) j hj
theorem num_0 {c : Nat → Int32} {q : Nat} : numC c q 0 = 0 := rfl
set_option maxHeartbeats 1000000 in
theorem c_X12_sign {L : Nat} {xs : Nat → Int32} {d : Nat} {m : sM} {n : sN} {Q : sQ} {t s q : Nat} {c : Nat → Int32} {x z : Int32} (ht : tX m t s c) (hx : x = nI t) (hq : m 239 15 = nI q) (hq2 : q < 200) (z0 : ¬ (0 : Int32) = z) (z1 : ¬ (1000 : Int32) = z) (hQ1 : c q = z → ∀ M', fq m M' → M' 252 = m 252 → M' 239 15 = nI (q + 1) → M' 239 17 = m 239 17 → M' 239 18 = m 239 18 → Q (some (.int 1)) M' n) (hQ0 : ¬ c q = z → ∀ M', fq m M' → M' 252 = m 252 → M' 239 15 = nI (q) → M' 239 17 = m 239 17 → M' 239 18 = m 239 18 → Q (some (.int 0)) M' n) : sRun (scT L xs) (d + 2) yX12_sign cX12_sign 4 (some .boolean) [.ref 239, .int x, .int z] m n Q := by
  subst hx
  refine y_run (own := "LoafFallModel") rfl (by decide +kernel) (Nat.le_of_ble_eq_true rfl) rfl ?_
  refine y_aload_n dX12_sign_0 rfl rfl ?_
  refine y_iload_n dX12_sign_1 rfl rfl ?_
  refine y_aload_n dX12_sign_2 rfl rfl ?_
  refine y_geti dX12_sign_3 gf_X12_114 sh_239 rfl ?_
  rw [hq]
  refine y_ivI2 dX12_sign_6 mv_X12_117 my_X12_byteAt (Or.inl rfl) sh_239 ?_
  refine c_byteAt (i := q) ht rfl rfl (by omega) ⟨_, rfl, ?_⟩
  refine y_iload_n dX12_sign_9 rfl rfl ?_
  refine y_icmp_ne (tgt := 17) dX12_sign_10 (by decide) (fun h10 => ?_) (fun h10 => ?_)
  · refine y_iconst (v := 0) dX12_sign_17 (by decide) ?_
    refine y_ist4_3 dX12_sign_18 rfl ?_
    refine y_aload_n dX12_sign_19 rfl rfl ?_
    refine y_dup dX12_sign_20 rfl ?_
    refine y_geti dX12_sign_21 gf_X12_114 sh_239 rfl ?_
    rw [hq]
    refine y_iload_n dX12_sign_24 rfl rfl ?_
    refine y_if_eq (tgt := 32) dX12_sign_25 (by decide) (fun h25 => ?_) (fun h25 => absurd (by decide) h25)
    refine y_iconst (v := 0) dX12_sign_32 (by decide) ?_
    refine y_iaddN (a := q) (b := 0) dX12_sign_33 rfl rfl ?_
    refine y_puti dX12_sign_34 pf_X12_114 sh_239 rfl rfl rfl ?_
    refine y_iload_n dX12_sign_37 rfl rfl ?_
    refine y_ireturn dX12_sign_38 rfl rfl ?_
    first
      | exact hQ1 ((bt_eq ht.2.2.2.2 z0 z1).mp h10) _ (fq.up9 (by omega) (by omega)) (by rw [s_upN (by omega)]) (by rw [s_upS]; exact updS) (by rw [s_upS, updN (by omega)]) (by rw [s_upS, updN (by omega)])
      | exact hQ0 (fun e => h10 ((bt_eq ht.2.2.2.2 z0 z1).mpr e)) _ (fq.up9 (by omega) (by omega)) (by rw [s_upN (by omega)]) (by rw [s_upS]; exact updS) (by rw [s_upS, updN (by omega)]) (by rw [s_upS, updN (by omega)])
  · refine y_iconst (v := 1) dX12_sign_13 (by decide) ?_
    refine y_goto (tgt := 18) dX12_sign_14 (by decide) ?_
    refine y_ist4_3 dX12_sign_18 rfl ?_
    refine y_aload_n dX12_sign_19 rfl rfl ?_
    refine y_dup dX12_sign_20 rfl ?_
    refine y_geti dX12_sign_21 gf_X12_114 sh_239 rfl ?_
    rw [hq]
    refine y_iload_n dX12_sign_24 rfl rfl ?_
    refine y_if_eq (tgt := 32) dX12_sign_25 (by decide) (fun h25 => absurd h25 (by decide)) (fun h25 => ?_)
    refine y_iconst (v := 1) dX12_sign_28 (by decide) ?_
    refine y_goto (tgt := 33) dX12_sign_29 (by decide) ?_
    refine y_iaddN (a := q) (b := 1) dX12_sign_33 rfl rfl ?_
    refine y_puti dX12_sign_34 pf_X12_114 sh_239 rfl rfl rfl ?_
    refine y_iload_n dX12_sign_37 rfl rfl ?_
    refine y_ireturn dX12_sign_38 rfl rfl ?_
    first
      | exact hQ1 ((bt_eq ht.2.2.2.2 z0 z1).mp h10) _ (fq.up9 (by omega) (by omega)) (by rw [s_upN (by omega)]) (by rw [s_upS]; exact updS) (by rw [s_upS, updN (by omega)]) (by rw [s_upS, updN (by omega)])
      | exact hQ0 (fun e => h10 ((bt_eq ht.2.2.2.2 z0 z1).mpr e)) _ (fq.up9 (by omega) (by omega)) (by rw [s_upN (by omega)]) (by rw [s_upS]; exact updS) (by rw [s_upS, updN (by omega)]) (by rw [s_upS, updN (by omega)])
set_option maxHeartbeats 1000000 in
theorem c_X12_readsStep {L : Nat} {xs : Nat → Int32} {d : Nat} {m : sM} {n : sN} {Q : sQ} {t s p : Nat} {R c : Nat → Int32} {x : Int32} (ht : tX m t s c) (hx : x = nI t) (hp : m 239 15 = nI p) (hp2 : p < s) (hg : DM m R) (hr2 : cOf R ≤ 10) (hQ1 : (ixS (c p) = 5 ∨ cOf R = 10) → Q (some (.int 0)) m n) (hQ5 : ¬ (ixS (c p) = 5 ∨ cOf R = 10) → 2 ≤ ixS (c p) → ∀ M', fq m M' → M' 239 15 = nI (p + 1) → DM M' (addR R (nI (1 + ixS (c p))) 0 0) → Q (some (.int 1)) M' n) (hQ2 : ¬ (ixS (c p) = 5 ∨ cOf R = 10) → ¬ 2 ≤ ixS (c p) → ¬ isFig (c (p + 1)) → ∀ M', fq m M' → M' 239 15 = nI (p + 1) → Q (some (.int 0)) M' n) (hQ3 : ¬ (ixS (c p) = 5 ∨ cOf R = 10) → ¬ 2 ≤ ixS (c p) → isFig (c (p + 1)) → ¬ c (p + 2) = 58 → ∀ M', fq m M' → M' 239 15 = nI (p + 2) → Q (some (.int 0)) M' n) (hQ4 : ¬ (ixS (c p) = 5 ∨ cOf R = 10) → ¬ 2 ≤ ixS (c p) → isFig (c (p + 1)) → c (p + 2) = 58 → badT R (numC c (p + 3) (fgs c (p + 3))) → ∀ M', fq m M' → M' 239 15 = nI (p + 3 + fgs c (p + 3)) → Q (some (.int 0)) M' n) (hQ6 : ¬ (ixS (c p) = 5 ∨ cOf R = 10) → ¬ 2 ≤ ixS (c p) → isFig (c (p + 1)) → c (p + 2) = 58 → ¬ badT R (numC c (p + 3) (fgs c (p + 3))) → ∀ M', fq m M' → M' 239 15 = nI (p + 3 + fgs c (p + 3)) → DM M' (addR R (nI (1 + ixS (c p))) (c (p + 1) - 48) (numC c (p + 3) (fgs c (p + 3)))) → Q (some (.int 1)) M' n) : sRun (scT L xs) (d + 3) yX12_readsStep cX12_readsStep 5 (some .boolean) [.ref 239, .int x] m n Q := by
  subst hx
  have s80 := ht.2.1
  have t4 := ht.1
  have g17 := hg.1
  have g18 := hg.2.1
  refine y_run (own := "LoafFallModel") rfl (by decide +kernel) (Nat.le_of_ble_eq_true rfl) rfl ?_
  have hT : ∀ M1 q kd u v, cOf R < 10 → fq m M1 → M1 252 = m 252 → M1 239 15 = nI q → M1 239 17 = m 239 17 → M1 239 18 = m 239 18 → (∀ M', fq m M' → M' 239 15 = nI q → DM M' (addR R kd u v) → Q (some (.int 1)) M' n) → sV (scT L xs) (d + 2) "LoafFallModel" cX12_readsStep 5 (some .boolean) Q 128 [some (.ref 239), some (.int (nI t)), some (.int kd), some (.int u), some (.int v)] [] M1 n := by
    intro M1 q kd u v hc e1 e2 e3 e4 e5 hq
    refine y_aload_n dX12_readsStep_128 rfl rfl ?_
    refine y_getr dX12_readsStep_129 gf_X12_48 sh_239 rfl ?_
    refine y_iconst (v := 3) dX12_readsStep_132 (by decide) ?_
    refine y_aload_n dX12_readsStep_133 rfl rfl ?_
    refine y_geti dX12_readsStep_134 gf_X12_123 sh_239 rfl ?_
    rw [e4, g17]
    refine y_imulN (a := 3) (b := (cOf R)) dX12_readsStep_137 rfl rfl ?_
    refine y_iload_n dX12_readsStep_138 rfl rfl ?_
    refine y_iastN dX12_readsStep_139 sh_252 rfl (by first | omega | decide) (by decide) ?_
    refine y_aload_n dX12_readsStep_140 rfl rfl ?_
    refine y_getr dX12_readsStep_141 gf_X12_48 sh_239 rfl ?_
    refine y_iconst (v := 3) dX12_readsStep_144 (by decide) ?_
    refine y_aload_n dX12_readsStep_145 rfl rfl ?_
    refine y_geti dX12_readsStep_146 gf_X12_123 sh_239 rfl ?_
    rw [s_upN (show 239 ≠ 252 by omega), e4, g17]
    refine y_imulN (a := 3) (b := (cOf R)) dX12_readsStep_149 rfl rfl ?_
    refine y_iconst (v := 1) dX12_readsStep_150 (by decide) ?_
    refine y_iaddN (a := 3 * ((cOf R))) (b := 1) dX12_readsStep_151 rfl rfl ?_
    refine y_iload_n dX12_readsStep_152 rfl rfl ?_
    refine y_iastN dX12_readsStep_153 sh_252 rfl (by first | omega | decide) (by decide) ?_
    refine y_aload_n dX12_readsStep_154 rfl rfl ?_
    refine y_getr dX12_readsStep_155 gf_X12_48 sh_239 rfl ?_
    refine y_iconst (v := 3) dX12_readsStep_158 (by decide) ?_
    refine y_aload_n dX12_readsStep_159 rfl rfl ?_
    refine y_geti dX12_readsStep_160 gf_X12_123 sh_239 rfl ?_
    rw [s_upN (show 239 ≠ 252 by omega), s_upN (show 239 ≠ 252 by omega), e4, g17]
    refine y_imulN (a := 3) (b := (cOf R)) dX12_readsStep_163 rfl rfl ?_
    refine y_iconst (v := 2) dX12_readsStep_164 (by decide) ?_
    refine y_iaddN (a := 3 * ((cOf R))) (b := 2) dX12_readsStep_165 rfl rfl ?_
    refine y_iload dX12_readsStep_166 rfl ?_
    refine y_iastN dX12_readsStep_168 sh_252 rfl (by first | omega | decide) (by decide) ?_
    refine y_aload_n dX12_readsStep_169 rfl rfl ?_
    refine y_dup dX12_readsStep_170 rfl ?_
    refine y_geti dX12_readsStep_171 gf_X12_139 sh_239 rfl ?_
    refine y_iload dX12_readsStep_174 rfl ?_
    refine y_iadd dX12_readsStep_176 ?_
    refine y_puti dX12_readsStep_177 pf_X12_139 sh_239 rfl rfl rfl ?_
    refine y_aload_n dX12_readsStep_180 rfl rfl ?_
    refine y_dup dX12_readsStep_181 rfl ?_
    refine y_geti dX12_readsStep_182 gf_X12_123 sh_239 rfl ?_
    rw [s_upS, updN (show 17 ≠ 18 by omega), s_upN (show 239 ≠ 252 by omega), s_upN (show 239 ≠ 252 by omega), s_upN (show 239 ≠ 252 by omega), e4, g17]
    refine y_iconst (v := 1) dX12_readsStep_185 (by decide) ?_
    refine y_iaddN (a := (cOf R)) (b := 1) dX12_readsStep_186 rfl rfl ?_
    refine y_puti dX12_readsStep_187 pf_X12_123 sh_239 rfl rfl rfl ?_
    refine y_iconst (v := 1) dX12_readsStep_190 (by decide) ?_
    refine y_ireturn dX12_readsStep_191 rfl rfl ?_
    refine hq _ (e1.tr ((fq.up1 (Or.inr rfl)).tr ((fq.up1 (Or.inr rfl)).tr ((fq.up1 (Or.inr rfl)).tr ((fq.up9 (by omega) (by omega)).tr (fq.up9 (by omega) (by omega))))))) ?_ (DM_add hg hc ?_ ?_ (fun p hp => ?_) ?_ ?_ ?_)
    · rw [s_upS, updN (by omega), s_upS, updN (by omega)]; exact e3
    · rw [s_upS, updS]
    · rw [s_upS, updN (by omega), s_upS, updS, e5, g18]
    · rw [s_upN (by omega), s_upN (by omega), s_upS, updN (by omega), s_upS, updN (by omega), s_upS, updN (by omega), e2]
    · rw [s_upN (by omega), s_upN (by omega), s_upS, updN (by omega), s_upS, updN (by omega), s_upS, updS]
    · rw [s_upN (by omega), s_upN (by omega), s_upS, updN (by omega), s_upS, updS]
    · rw [s_upN (by omega), s_upN (by omega), s_upS, updS]
  refine y_aload_n dX12_readsStep_0 rfl rfl ?_
  refine y_iload_n dX12_readsStep_1 rfl rfl ?_
  refine y_aload_n dX12_readsStep_2 rfl rfl ?_
  refine y_geti dX12_readsStep_3 gf_X12_114 sh_239 rfl ?_
  rw [hp]
  refine y_ivI2 dX12_readsStep_6 mv_X12_117 my_X12_byteAt (Or.inl rfl) sh_239 ?_
  refine c_byteAt (i := p) ht rfl rfl (by omega) ⟨_, rfl, ?_⟩
  rw [bt_in (by omega)]
  refine y_isI1 dX12_readsStep_9 ms_X12_132 my_X12_stepOf (Or.inl rfl) ?_
  refine c_X12_stepOf (fun a5 => ⟨_, rfl, ?_⟩) (fun a5 => ⟨_, rfl, ?_⟩)
  · obtain ⟨a, ha⟩ : ∃ a, a = ixS (c p) := ⟨_, rfl⟩
    rw [← ha] at a5 hQ1 hQ2 hQ3 hQ4 hQ5 hQ6 ⊢
    refine y_ist5_2 dX12_readsStep_12 rfl ?_
    refine y_iload_n dX12_readsStep_13 rfl rfl ?_
    refine y_bipush (v := -9) dX12_readsStep_14 (by decide) ?_
    refine y_icmp_eq (tgt := 28) dX12_readsStep_16 (by decide) (fun h16 => absurd h16 (nI_n9' (by omega))) (fun h16 => ?_)
    refine y_aload_n dX12_readsStep_19 rfl rfl ?_
    refine y_geti dX12_readsStep_20 gf_X12_123 sh_239 rfl ?_
    rw [g17]
    refine y_bipush (v := 10) dX12_readsStep_23 (by decide) ?_
    refine y_icmp_ne (tgt := 30) dX12_readsStep_25 (by decide) (fun h25 => ?_) (fun h25 => ?_)
    · have h10 : cOf R < 10 := by
        have : ¬ cOf R = 10 := fun e => h25 (by rw [e]; rfl)
        omega
      have hn : ¬ (a = 5 ∨ cOf R = 10) := by omega
      refine y_aload_n dX12_readsStep_30 rfl rfl ?_
      refine y_dup dX12_readsStep_31 rfl ?_
      refine y_geti dX12_readsStep_32 gf_X12_114 sh_239 rfl ?_
      rw [hp]
      refine y_iconst (v := 1) dX12_readsStep_35 (by decide) ?_
      refine y_iaddN (a := p) (b := 1) dX12_readsStep_36 rfl rfl ?_
      refine y_puti dX12_readsStep_37 pf_X12_114 sh_239 rfl rfl rfl ?_
      generalize hm1 : s_up m 239 (upd (m 239) 15 (nI (p + 1))) = M1
      have e1 : fq m M1 := by rw [← hm1]; exact fq.up9 (by omega) (by omega)
      have e2 : M1 239 15 = nI (p + 1) := by rw [← hm1, s_upS, updS]
      have e3 : M1 239 17 = m 239 17 := by rw [← hm1, s_upS, updN (by omega)]
      have e4 : M1 239 18 = m 239 18 := by rw [← hm1, s_upS, updN (by omega)]
      have e5 : M1 252 = m 252 := by rw [← hm1, s_upN (by omega)]
      refine y_iconst (v := 0) dX12_readsStep_40 (by decide) ?_
      refine y_ist5_3 dX12_readsStep_41 rfl ?_
      refine y_iconst (v := 0) dX12_readsStep_42 (by decide) ?_
      refine y_ist5_4 dX12_readsStep_43 rfl ?_
      refine y_iload_n dX12_readsStep_45 rfl rfl ?_
      refine y_iconst (v := 2) dX12_readsStep_46 (by decide) ?_
      refine y_icmp_gt (tgt := 128) dX12_readsStep_47 (by decide) (fun h47 => ?_) (fun h47 => ?_)
      · first
          | (rw [i5]
             exact hT M4 _ _ _ _ h10 (k1.tr (j1.tr i1)) (i3.trans (j2.trans k5)) i4 (i6.trans (j4.trans k3)) (i7.trans (j5.trans k4)) (hQ6 hn l2 fk cq (fun z => z.elim (fun e => zf (Or.inr (Or.inl e))) (fun z => z.elim (fun e => zf (Or.inr (Or.inr e))) (fun e => absurd h117 (Int32.not_le.mpr e))))))
          | exact hT M1 _ _ _ _ h10 e1 e5 e2 e3 e4 (hQ5 hn ((by
              have := (nI_ltI (a := 2) (b := 1 + a) (by decide) (by omega)).mp h47
              omega)))
      · have l2 : ¬ 2 ≤ a := fun z => h47 (nI_lt (a := 2) (b := 1 + a) (by omega) (by omega))
        refine y_aload_n dX12_readsStep_50 rfl rfl ?_
        refine y_iload_n dX12_readsStep_51 rfl rfl ?_
        refine y_aload_n dX12_readsStep_52 rfl rfl ?_
        refine y_geti dX12_readsStep_53 gf_X12_114 sh_239 rfl ?_
        rw [e2]
        refine y_ivI2 dX12_readsStep_56 mv_X12_117 my_X12_byteAt (Or.inl rfl) sh_239 ?_
        refine c_byteAt (i := p + 1) (ht.m e1) rfl rfl (by omega) ⟨_, rfl, ?_⟩
        refine y_bipush (v := 48) dX12_readsStep_59 (by decide) ?_
        refine y_isub dX12_readsStep_61 ?_
        refine y_ist5_3 dX12_readsStep_62 rfl ?_
        refine y_iload_n dX12_readsStep_63 rfl rfl ?_
        refine y_iconst (v := 0) dX12_readsStep_64 (by decide) ?_
        refine y_bipush (v := 9) dX12_readsStep_65 (by decide) ?_
        refine y_isI3 dX12_readsStep_67 ms_X12_86 my_X12_in (Or.inl rfl) ?_
        refine c_X12_in (fun b1 b2 => ⟨_, rfl, ?_⟩) (fun b1 => ⟨_, rfl, ?_⟩)
        · have fk := (bt_fig ht.2.2.2.2).mp (fig_9.mp ⟨b1, b2⟩)
          have hlt : p + 1 < s := Classical.byContradiction (fun z => by rw [ht.2.2.2.2 _ (by omega)] at fk; exact absurd fk.2 (by decide))
          rw [bt_in hlt]
          refine y_if_ne (tgt := 75) dX12_readsStep_70 (by decide) (fun h70 => ?_) (fun h70 => absurd h70 (by decide))
          refine y_aload_n dX12_readsStep_75 rfl rfl ?_
          refine y_dup dX12_readsStep_76 rfl ?_
          refine y_geti dX12_readsStep_77 gf_X12_114 sh_239 rfl ?_
          rw [e2]
          refine y_iconst (v := 1) dX12_readsStep_80 (by decide) ?_
          refine y_iaddN (a := (p + 1)) (b := 1) dX12_readsStep_81 rfl rfl ?_
          refine y_puti dX12_readsStep_82 pf_X12_114 sh_239 rfl rfl rfl ?_
          generalize hm2 : s_up M1 239 (upd (M1 239) 15 (nI (p + 1 + 1))) = M2
          have k1 : fq m M2 := by rw [← hm2]; exact e1.tr (fq.up9 (by omega) (by omega))
          have k2 : M2 239 15 = nI (p + 2) := by rw [← hm2, s_upS, updS]
          have k3 : M2 239 17 = m 239 17 := by rw [← hm2, s_upS, updN (by omega)]; exact e3
          have k4 : M2 239 18 = m 239 18 := by rw [← hm2, s_upS, updN (by omega)]; exact e4
          have k5 : M2 252 = m 252 := by rw [← hm2, s_upN (by omega)]; exact e5
          refine y_aload_n dX12_readsStep_85 rfl rfl ?_
          refine y_iload_n dX12_readsStep_86 rfl rfl ?_
          refine y_bipush (v := 58) dX12_readsStep_87 (by decide) ?_
          refine y_ivI2 dX12_readsStep_89 mv_X12_135 my_X12_sign (Or.inl rfl) sh_239 ?_
          refine c_X12_sign (q := p + 2) (ht.m k1) rfl k2 (by omega) (by decide) (by decide) (fun cq M3 j1 j2 j3 j4 j5 => ⟨_, rfl, ?_⟩) (fun cq M3 j1 j2 j3 j4 j5 => ⟨_, rfl, ?_⟩)
          · refine y_if_eq (tgt := 120) dX12_readsStep_92 (by decide) (fun h92 => absurd h92 (by decide)) (fun h92 => ?_)
            refine y_aload_n dX12_readsStep_95 rfl rfl ?_
            refine y_iload_n dX12_readsStep_96 rfl rfl ?_
            refine y_iconst (v := 1) dX12_readsStep_97 (by decide) ?_
            refine y_bipush (v := 30) dX12_readsStep_98 (by decide) ?_
            refine y_ivI3 dX12_readsStep_100 mv_X12_129 my_X12_number (Or.inl rfl) sh_239 ?_
            refine c_X12_number (q := p + 3) (c := c) (t := t) (s := s) (ht.m (k1.tr j1)) rfl j3 (by omega) (fun zf M4 i1 i2 i3 i4 i5 i6 i7 => ⟨_, rfl, ?_⟩) (fun zf M4 i1 i2 i3 i4 i5 i6 i7 => ⟨_, rfl, ?_⟩)
            · refine y_if_eq (tgt := 120) dX12_readsStep_103 (by decide) (fun h103 => absurd h103 (by decide)) (fun h103 => ?_)
              refine y_aload_n dX12_readsStep_106 rfl rfl ?_
              refine y_geti dX12_readsStep_107 gf_X12_139 sh_239 rfl ?_
              rw [i7, j5, k4, g18]
              refine y_aload_n dX12_readsStep_110 rfl rfl ?_
              refine y_geti dX12_readsStep_111 gf_X12_120 sh_239 rfl ?_
              refine y_iadd dX12_readsStep_114 ?_
              rw [i5]
              refine y_bipush (v := 90) dX12_readsStep_115 (by decide) ?_
              refine y_icmp_le (tgt := 122) dX12_readsStep_117 (by decide) (fun h117 => ?_) (fun h117 => ?_)
              · refine y_aload_n dX12_readsStep_122 rfl rfl ?_
                refine y_geti dX12_readsStep_123 gf_X12_120 sh_239 rfl ?_
                refine y_ist5_4 dX12_readsStep_126 rfl ?_
                first
                  | (rw [i5]
                     exact hT M4 _ _ _ _ h10 (k1.tr (j1.tr i1)) (i3.trans (j2.trans k5)) i4 (i6.trans (j4.trans k3)) (i7.trans (j5.trans k4)) (hQ6 hn l2 fk cq (fun z => z.elim (fun e => zf (Or.inr (Or.inl e))) (fun z => z.elim (fun e => zf (Or.inr (Or.inr e))) (fun e => absurd h117 (Int32.not_le.mpr e))))))
                  | exact hT M1 _ _ _ _ h10 e1 e5 e2 e3 e4 (hQ5 hn ((by
                      have := (nI_ltI (a := 2) (b := 1 + a) (by decide) (by omega)).mp h47
                      omega)))
              · refine y_iconst (v := 0) dX12_readsStep_120 (by decide) ?_
                refine y_ireturn dX12_readsStep_121 rfl rfl ?_
                first
                  | exact hQ4 hn l2 fk cq (Or.inr (Or.inr (Int32.not_le.mp h117))) M4 (k1.tr (j1.tr i1)) i4
                  | exact hQ4 hn l2 fk cq (zf.elim (fun e => Or.inl (by rw [e, num_0]; decide)) (fun z => z.elim Or.inl (fun e => Or.inr (Or.inl e)))) M4 (k1.tr (j1.tr i1)) i4
                  | exact hQ3 hn l2 fk cq M3 (k1.tr j1) j3
            · refine y_if_eq (tgt := 120) dX12_readsStep_103 (by decide) (fun h103 => ?_) (fun h103 => absurd (by decide) h103)
              refine y_iconst (v := 0) dX12_readsStep_120 (by decide) ?_
              refine y_ireturn dX12_readsStep_121 rfl rfl ?_
              first
                | exact hQ4 hn l2 fk cq (Or.inr (Or.inr (Int32.not_le.mp h117))) M4 (k1.tr (j1.tr i1)) i4
                | exact hQ4 hn l2 fk cq (zf.elim (fun e => Or.inl (by rw [e, num_0]; decide)) (fun z => z.elim Or.inl (fun e => Or.inr (Or.inl e)))) M4 (k1.tr (j1.tr i1)) i4
                | exact hQ3 hn l2 fk cq M3 (k1.tr j1) j3
          · refine y_if_eq (tgt := 120) dX12_readsStep_92 (by decide) (fun h92 => ?_) (fun h92 => absurd (by decide) h92)
            refine y_iconst (v := 0) dX12_readsStep_120 (by decide) ?_
            refine y_ireturn dX12_readsStep_121 rfl rfl ?_
            first
              | exact hQ4 hn l2 fk cq (Or.inr (Or.inr (Int32.not_le.mp h117))) M4 (k1.tr (j1.tr i1)) i4
              | exact hQ4 hn l2 fk cq (zf.elim (fun e => Or.inl (by rw [e, num_0]; decide)) (fun z => z.elim Or.inl (fun e => Or.inr (Or.inl e)))) M4 (k1.tr (j1.tr i1)) i4
              | exact hQ3 hn l2 fk cq M3 (k1.tr j1) j3
        · have fk : ¬ isFig (c (p + 1)) := fun z => b1 (fig_9.mpr ((bt_fig ht.2.2.2.2).mpr z))
          refine y_if_ne (tgt := 75) dX12_readsStep_70 (by decide) (fun h70 => absurd (by decide) h70) (fun h70 => ?_)
          refine y_iconst (v := 0) dX12_readsStep_73 (by decide) ?_
          refine y_ireturn dX12_readsStep_74 rfl rfl ?_
          exact hQ2 hn l2 fk M1 e1 e2
    · refine y_iconst (v := 0) dX12_readsStep_28 (by decide) ?_
      refine y_ireturn dX12_readsStep_29 rfl rfl ?_
      exact hQ1 (Or.inr ((nI_eq (b := 10) (by omega) (by decide)).mp h25))
  · refine y_ist5_2 dX12_readsStep_12 rfl ?_
    refine y_iload_n dX12_readsStep_13 rfl rfl ?_
    refine y_bipush (v := -9) dX12_readsStep_14 (by decide) ?_
    refine y_icmp_eq (tgt := 28) dX12_readsStep_16 (by decide) (fun h16 => ?_) (fun h16 => absurd (by decide) h16)
    refine y_iconst (v := 0) dX12_readsStep_28 (by decide) ?_
    refine y_ireturn dX12_readsStep_29 rfl rfl ?_
    exact hQ1 (Or.inl a5)
set_option maxHeartbeats 1000000 in
theorem c_X12_doingFault {L : Nat} {xs : Nat → Int32} {d : Nat} {m : sM} {n : sN} {Q : sQ} {t s : Nat} {c : Nat → Int32} {x : Int32} (ht : tX m t s c) (hx : x = nI t) (hQ : ∀ M, fq m M → ((rdD c s 80 0 (fun _ => 0)).1 = -9 → DM M (rdD c s 80 0 (fun _ => 0)).2) → Q (some (.int (rdD c s 80 0 (fun _ => 0)).1)) M n) : sRun (scT L xs) (d + 4) yX12_doingFault cX12_doingFault 2 (some .int) [.ref 239, .int x] m n Q := by
  subst hx
  refine y_run (own := "LoafFallModel") rfl (by decide +kernel) (Nat.le_of_ble_eq_true rfl) rfl ?_
  refine y_aload_n dX12_doingFault_0 rfl rfl ?_
  refine y_iconst (v := 0) dX12_doingFault_1 (by decide) ?_
  refine y_puti dX12_doingFault_2 pf_X12_114 sh_239 rfl rfl rfl ?_
  refine y_aload_n dX12_doingFault_5 rfl rfl ?_
  refine y_iconst (v := 0) dX12_doingFault_6 (by decide) ?_
  refine y_puti dX12_doingFault_7 pf_X12_123 sh_239 rfl rfl rfl ?_
  refine y_aload_n dX12_doingFault_10 rfl rfl ?_
  refine y_iconst (v := 0) dX12_doingFault_11 (by decide) ?_
  refine y_puti dX12_doingFault_12 pf_X12_139 sh_239 rfl rfl rfl ?_
  suffices hs : ∀ n0 p R M, 80 ≤ p + n0 → p < 90 → fq m M → M 239 15 = nI p → DM M R → dOK R → (∀ M5, fq m M5 → ((rdD c s n0 p R).1 = -9 → DM M5 (rdD c s n0 p R).2) → Q (some (.int (rdD c s n0 p R).1)) M5 n) → sV (scT L xs) (d + 3) "LoafFallModel" cX12_doingFault 2 (some .int) Q 15 [some (.ref 239), some (.int (nI t))] [] M n by
    refine hs 80 0 (fun _ => 0) _ (by omega) (by omega) ?_ ?_ ⟨?_, ?_, fun i hi => absurd hi (Nat.not_lt_zero i)⟩ d_zero hQ
    · exact (fq.up9 (by omega) (by omega)).tr ((fq.up9 (by omega) (by omega)).tr (fq.up9 (by omega) (by omega)))
    · rw [s_upS, updN (by omega), s_upS, updN (by omega), s_upS, updS]; rfl
    · rw [s_upS, updN (by omega), s_upS, updS]; rfl
    · rw [s_upS, updS]; rfl
  intro n0
  induction n0 with
  | zero =>
    intro p R M hn hp f1 f2 f3 f4 q
    have ht' := ht.m f1
    have hle : s ≤ p := by have := ht.2.1; omega
    have t4 := ht.1
    refine y_aload_n dX12_doingFault_15 rfl rfl ?_
    refine y_geti dX12_doingFault_16 gf_X12_114 sh_239 rfl ?_
    rw [f2]
    refine y_aload_n dX12_doingFault_19 rfl rfl ?_
    refine y_getr dX12_doingFault_20 gf_X12_22 sh_239 rfl ?_
    refine y_iload_n dX12_doingFault_23 rfl rfl ?_
    refine y_ialdN dX12_doingFault_24 sh_244 rfl (by first | omega | decide) (by decide) ?_
    rw [ht'.2.2.1]
    refine y_icmp_ge (tgt := 68) dX12_doingFault_25 (by decide) (fun h25 => ?_) (fun h25 => absurd (nI_le hle (by omega)) h25)
    refine y_bipush (v := -9) dX12_doingFault_68 (by decide) ?_
    refine y_ireturn dX12_doingFault_70 rfl rfl ?_
    exact q M f1 (fun _ => f3)
  | succ n0 ih =>
    intro p R M hn hp f1 f2 f3 f4 q
    have ht' := ht.m f1
    have s80 := ht.2.1
    have t4 := ht.1
    have st := rdD_S (c := c) (s := s) (n := n0) (p := p) (R := R)
    by_cases hle : s ≤ p
    · rw [if_pos hle] at st
      rw [st] at q
      refine y_aload_n dX12_doingFault_15 rfl rfl ?_
      refine y_geti dX12_doingFault_16 gf_X12_114 sh_239 rfl ?_
      rw [f2]
      refine y_aload_n dX12_doingFault_19 rfl rfl ?_
      refine y_getr dX12_doingFault_20 gf_X12_22 sh_239 rfl ?_
      refine y_iload_n dX12_doingFault_23 rfl rfl ?_
      refine y_ialdN dX12_doingFault_24 sh_244 rfl (by first | omega | decide) (by decide) ?_
      rw [ht'.2.2.1]
      refine y_icmp_ge (tgt := 68) dX12_doingFault_25 (by decide) (fun h25 => ?_) (fun h25 => absurd (nI_le hle (by omega)) h25)
      refine y_bipush (v := -9) dX12_doingFault_68 (by decide) ?_
      refine y_ireturn dX12_doingFault_70 rfl rfl ?_
      exact q M f1 (fun _ => f3)
    · rw [if_neg hle] at st
      refine y_aload_n dX12_doingFault_15 rfl rfl ?_
      refine y_geti dX12_doingFault_16 gf_X12_114 sh_239 rfl ?_
      rw [f2]
      refine y_aload_n dX12_doingFault_19 rfl rfl ?_
      refine y_getr dX12_doingFault_20 gf_X12_22 sh_239 rfl ?_
      refine y_iload_n dX12_doingFault_23 rfl rfl ?_
      refine y_ialdN dX12_doingFault_24 sh_244 rfl (by first | omega | decide) (by decide) ?_
      rw [ht'.2.2.1]
      refine y_icmp_ge (tgt := 68) dX12_doingFault_25 (by decide) (fun h25 => absurd h25 (nI_ge (by omega) (by omega))) (fun h25 => ?_)
      refine y_aload_n dX12_doingFault_28 rfl rfl ?_
      refine y_iload_n dX12_doingFault_29 rfl rfl ?_
      refine y_aload_n dX12_doingFault_30 rfl rfl ?_
      refine y_geti dX12_doingFault_31 gf_X12_114 sh_239 rfl ?_
      rw [f2]
      refine y_ivI2 dX12_doingFault_34 mv_X12_117 my_X12_byteAt (Or.inl rfl) sh_239 ?_
      refine c_byteAt (i := p) ht' rfl rfl (by omega) ⟨_, rfl, ?_⟩
      rw [bt_in (by omega)]
      refine y_bipush (v := 32) dX12_doingFault_37 (by decide) ?_
      refine y_icmp_ne (tgt := 55) dX12_doingFault_39 (by decide) (fun h39 => ?_) (fun h39 => ?_)
      · rw [if_neg h39] at st
        refine y_aload_n dX12_doingFault_55 rfl rfl ?_
        refine y_iload_n dX12_doingFault_56 rfl rfl ?_
        refine y_ivI1 dX12_doingFault_57 mv_X12_142 my_X12_readsStep (Or.inl rfl) sh_239 ?_
        refine c_X12_readsStep (R := R) (c := c) (p := p) (s := s) ht' rfl f2 (by omega) f3 f4.2.1 (fun z1 => ⟨_, rfl, ?_⟩) (fun z1 z2 M5 w1 w2 w3 => ⟨_, rfl, ?_⟩) (fun z1 z2 z3 M5 w1 w2 => ⟨_, rfl, ?_⟩) (fun z1 z2 z3 z4 M5 w1 w2 => ⟨_, rfl, ?_⟩) (fun z1 z2 z3 z4 z5 M5 w1 w2 => ⟨_, rfl, ?_⟩) (fun z1 z2 z3 z4 z5 M5 w1 w2 w3 => ⟨_, rfl, ?_⟩)
        · refine y_if_ne (tgt := 15) dX12_doingFault_60 (by decide) (fun h60 => absurd (by decide) h60) (fun h60 => ?_)
          refine y_aload_n dX12_doingFault_63 rfl rfl ?_
          refine y_geti dX12_doingFault_64 gf_X12_114 sh_239 rfl ?_
          first | rw [w2] | rw [f2]
          refine y_ireturn dX12_doingFault_67 rfl rfl ?_
          first
            | (rw [if_neg z1, if_neg z2, if_pos z3, if_pos z4, if_pos z5] at st
               rw [st] at q
               exact q M5 (f1.tr w1) (fun e => absurd e (nI_n9' (by have := fgs_le (c := c) (q := p + 3); omega))))
            | (rw [if_neg z1, if_neg z2, if_pos z3, if_neg z4] at st
               rw [st] at q
               exact q M5 (f1.tr w1) (fun e => absurd e (nI_n9' (by have := fgs_le (c := c) (q := p + 3); omega))))
            | (rw [if_neg z1, if_neg z2, if_neg z3] at st
               rw [st] at q
               exact q M5 (f1.tr w1) (fun e => absurd e (nI_n9' (by have := fgs_le (c := c) (q := p + 3); omega))))
            | (rw [if_pos z1] at st
               rw [st] at q
               exact q M f1 (fun e => absurd e (nI_n9' (by have := fgs_le (c := c) (q := p + 3); omega))))
        · refine y_if_ne (tgt := 15) dX12_doingFault_60 (by decide) (fun h60 => ?_) (fun h60 => absurd h60 (by decide))
          first
            | (rw [if_neg z1, if_neg z2, if_pos z3, if_pos z4, if_neg z5] at st
               rw [st] at q
               exact ih _ _ _ (by omega) (by have := fgs_le (c := c) (q := p + 3); omega) (f1.tr w1) w2 w3 (d_add f4 (by have := f4.2.1; omega) (Or.inr ⟨kd_l _ z2, fig_n z3, badT_n f4 z5⟩)) q)
            | (rw [if_neg z1, if_pos z2] at st
               rw [st] at q
               exact ih _ _ _ (by omega) (by omega) (f1.tr w1) w2 w3 (d_add f4 (by have := f4.2.1; omega) (Or.inl ⟨kd_o _ z2 (by have := ixS_le (c p); omega), rfl⟩)) q)
            | exact ih (p + 1) R _ (by omega) (by omega) (f1.tr (fq.up9 (by omega) (by omega))) (by rw [s_upS, updS]) ⟨by rw [s_upS, updN (by omega)]; exact f3.1, by rw [s_upS, updN (by omega)]; exact f3.2.1, fun i hi j hj => by rw [s_upN (by omega)]; exact f3.2.2 i hi j hj⟩ f4 q
        · refine y_if_ne (tgt := 15) dX12_doingFault_60 (by decide) (fun h60 => absurd (by decide) h60) (fun h60 => ?_)
          refine y_aload_n dX12_doingFault_63 rfl rfl ?_
          refine y_geti dX12_doingFault_64 gf_X12_114 sh_239 rfl ?_
          first | rw [w2] | rw [f2]
          refine y_ireturn dX12_doingFault_67 rfl rfl ?_
          first
            | (rw [if_neg z1, if_neg z2, if_pos z3, if_pos z4, if_pos z5] at st
               rw [st] at q
               exact q M5 (f1.tr w1) (fun e => absurd e (nI_n9' (by have := fgs_le (c := c) (q := p + 3); omega))))
            | (rw [if_neg z1, if_neg z2, if_pos z3, if_neg z4] at st
               rw [st] at q
               exact q M5 (f1.tr w1) (fun e => absurd e (nI_n9' (by have := fgs_le (c := c) (q := p + 3); omega))))
            | (rw [if_neg z1, if_neg z2, if_neg z3] at st
               rw [st] at q
               exact q M5 (f1.tr w1) (fun e => absurd e (nI_n9' (by have := fgs_le (c := c) (q := p + 3); omega))))
            | (rw [if_pos z1] at st
               rw [st] at q
               exact q M f1 (fun e => absurd e (nI_n9' (by have := fgs_le (c := c) (q := p + 3); omega))))
        · refine y_if_ne (tgt := 15) dX12_doingFault_60 (by decide) (fun h60 => absurd (by decide) h60) (fun h60 => ?_)
          refine y_aload_n dX12_doingFault_63 rfl rfl ?_
          refine y_geti dX12_doingFault_64 gf_X12_114 sh_239 rfl ?_
          first | rw [w2] | rw [f2]
          refine y_ireturn dX12_doingFault_67 rfl rfl ?_
          first
            | (rw [if_neg z1, if_neg z2, if_pos z3, if_pos z4, if_pos z5] at st
               rw [st] at q
               exact q M5 (f1.tr w1) (fun e => absurd e (nI_n9' (by have := fgs_le (c := c) (q := p + 3); omega))))
            | (rw [if_neg z1, if_neg z2, if_pos z3, if_neg z4] at st
               rw [st] at q
               exact q M5 (f1.tr w1) (fun e => absurd e (nI_n9' (by have := fgs_le (c := c) (q := p + 3); omega))))
            | (rw [if_neg z1, if_neg z2, if_neg z3] at st
               rw [st] at q
               exact q M5 (f1.tr w1) (fun e => absurd e (nI_n9' (by have := fgs_le (c := c) (q := p + 3); omega))))
            | (rw [if_pos z1] at st
               rw [st] at q
               exact q M f1 (fun e => absurd e (nI_n9' (by have := fgs_le (c := c) (q := p + 3); omega))))
        · refine y_if_ne (tgt := 15) dX12_doingFault_60 (by decide) (fun h60 => absurd (by decide) h60) (fun h60 => ?_)
          refine y_aload_n dX12_doingFault_63 rfl rfl ?_
          refine y_geti dX12_doingFault_64 gf_X12_114 sh_239 rfl ?_
          first | rw [w2] | rw [f2]
          refine y_ireturn dX12_doingFault_67 rfl rfl ?_
          first
            | (rw [if_neg z1, if_neg z2, if_pos z3, if_pos z4, if_pos z5] at st
               rw [st] at q
               exact q M5 (f1.tr w1) (fun e => absurd e (nI_n9' (by have := fgs_le (c := c) (q := p + 3); omega))))
            | (rw [if_neg z1, if_neg z2, if_pos z3, if_neg z4] at st
               rw [st] at q
               exact q M5 (f1.tr w1) (fun e => absurd e (nI_n9' (by have := fgs_le (c := c) (q := p + 3); omega))))
            | (rw [if_neg z1, if_neg z2, if_neg z3] at st
               rw [st] at q
               exact q M5 (f1.tr w1) (fun e => absurd e (nI_n9' (by have := fgs_le (c := c) (q := p + 3); omega))))
            | (rw [if_pos z1] at st
               rw [st] at q
               exact q M f1 (fun e => absurd e (nI_n9' (by have := fgs_le (c := c) (q := p + 3); omega))))
        · refine y_if_ne (tgt := 15) dX12_doingFault_60 (by decide) (fun h60 => ?_) (fun h60 => absurd h60 (by decide))
          first
            | (rw [if_neg z1, if_neg z2, if_pos z3, if_pos z4, if_neg z5] at st
               rw [st] at q
               exact ih _ _ _ (by omega) (by have := fgs_le (c := c) (q := p + 3); omega) (f1.tr w1) w2 w3 (d_add f4 (by have := f4.2.1; omega) (Or.inr ⟨kd_l _ z2, fig_n z3, badT_n f4 z5⟩)) q)
            | (rw [if_neg z1, if_pos z2] at st
               rw [st] at q
               exact ih _ _ _ (by omega) (by omega) (f1.tr w1) w2 w3 (d_add f4 (by have := f4.2.1; omega) (Or.inl ⟨kd_o _ z2 (by have := ixS_le (c p); omega), rfl⟩)) q)
            | exact ih (p + 1) R _ (by omega) (by omega) (f1.tr (fq.up9 (by omega) (by omega))) (by rw [s_upS, updS]) ⟨by rw [s_upS, updN (by omega)]; exact f3.1, by rw [s_upS, updN (by omega)]; exact f3.2.1, fun i hi j hj => by rw [s_upN (by omega)]; exact f3.2.2 i hi j hj⟩ f4 q
      · rw [if_pos h39] at st
        rw [st] at q
        refine y_aload_n dX12_doingFault_42 rfl rfl ?_
        refine y_dup dX12_doingFault_43 rfl ?_
        refine y_geti dX12_doingFault_44 gf_X12_114 sh_239 rfl ?_
        rw [f2]
        refine y_iconst (v := 1) dX12_doingFault_47 (by decide) ?_
        refine y_iaddN (a := p) (b := 1) dX12_doingFault_48 rfl rfl ?_
        refine y_puti dX12_doingFault_49 pf_X12_114 sh_239 rfl rfl rfl ?_
        refine y_goto (tgt := 15) dX12_doingFault_52 (by decide) ?_
        first
          | (rw [if_neg z1, if_neg z2, if_pos z3, if_pos z4, if_neg z5] at st
             rw [st] at q
             exact ih _ _ _ (by omega) (by have := fgs_le (c := c) (q := p + 3); omega) (f1.tr w1) w2 w3 (d_add f4 (by have := f4.2.1; omega) (Or.inr ⟨kd_l _ z2, fig_n z3, badT_n f4 z5⟩)) q)
          | (rw [if_neg z1, if_pos z2] at st
             rw [st] at q
             exact ih _ _ _ (by omega) (by omega) (f1.tr w1) w2 w3 (d_add f4 (by have := f4.2.1; omega) (Or.inl ⟨kd_o _ z2 (by have := ixS_le (c p); omega), rfl⟩)) q)
          | exact ih (p + 1) R _ (by omega) (by omega) (f1.tr (fq.up9 (by omega) (by omega))) (by rw [s_upS, updS]) ⟨by rw [s_upS, updN (by omega)]; exact f3.1, by rw [s_upS, updN (by omega)]; exact f3.2.1, fun i hi j hj => by rw [s_upN (by omega)]; exact f3.2.2 i hi j hj⟩ f4 q
