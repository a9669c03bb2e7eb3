/-! ===== laws: the reference ===== -/
theorem lb_1 {O : Nat → Int32} : lbF O 1 = 0 := by rw [lbF]; split <;> rfl
noncomputable def nwL (m : sM) (f : Nat) (t : Int32) : Nat := if t = 0 then 1 else LWp m f
def frL (m B : sM) : Prop := ∀ a, a ≠ 260 → a ≠ 261 → B a = m a
theorem frL.fr {m B : sM} (b : frL m B) : frM m B := ⟨fun a ha => b a (by omega) (by omega), ⟨by rw [b 239 (by omega) (by omega)], by rw [b 239 (by omega) (by omega)], by rw [b 239 (by omega) (by omega)]⟩, fun p hp => by rw [b 254 (by omega) (by omega)]⟩
def slR (m : sM) (s : Nat) : Prop := s ≤ 12 ∧ m 239 28 = nI s ∧ ∀ i, i < s → dS m i < 4 ∧ m 259 (2 * i) = nI (dS m i)
theorem slR_n {m : sM} {s : Nat} (h : slR m s) : slN m = s := by unfold slN; rw [h.2.1, nI_clamp (by have := h.1; omega)]
set_option maxHeartbeats 1000000 in
theorem c_X12_isSlipped {L : Nat} {xs : Nat → Int32} {d : Nat} {m : sM} {n : sN} {Q : sQ} {g s : Nat} {D : Nat → Nat} {x : Int32} (hx : x = nI g) (hg : g < 4) (s1 : s ≤ 12) (s2 : m 239 28 = nI s) (s3 : ∀ i, i < s → D i < 4 ∧ m 259 (2 * i) = nI (D i)) (hQ1 : (∃ i, i < s ∧ D i = g) → Q (some (.int 1)) m n) (hQ0 : ¬ (∃ i, i < s ∧ D i = g) → Q (some (.int 0)) m n) : sRun (scT L xs) (d + 1) yX12_isSlipped cX12_isSlipped 4 (some .boolean) [.ref 239, .int x] m n Q := by
  subst hx
  refine y_run (own := "LoafFallModel") rfl (by decide +kernel) (Nat.le_of_ble_eq_true rfl) rfl ?_
  refine y_iconst (v := 0) dX12_isSlipped_0 (by decide) ?_
  refine y_ist4_2 dX12_isSlipped_1 rfl ?_
  refine y_iconst (v := 0) dX12_isSlipped_2 (by decide) ?_
  refine y_ist4_3 dX12_isSlipped_3 rfl ?_
  refine cnt (P := fun k => ∀ is_ : Int32, ((is_ = 1 ∧ ∃ i, i < k ∧ D i = g) ∨ (is_ = 0 ∧ ¬ ∃ i, i < k ∧ D i = g)) → sV (scT L xs) d "LoafFallModel" cX12_isSlipped 4 (some .boolean) Q 4 [some (.ref 239), some (.int (nI g)), some (.int is_), some (.int (nI k))] [] m n) s ?_ ?_ 0 (by omega) 0 (Or.inr ⟨rfl, fun ⟨i, i1, _⟩ => absurd i1 (by omega)⟩)
  · intro is_ hi
    refine y_iload_n dX12_isSlipped_4 rfl rfl ?_
    refine y_aload_n dX12_isSlipped_5 rfl rfl ?_
    refine y_geti dX12_isSlipped_6 gf_X12_310 sh_239 rfl ?_
    rw [s2]
    refine y_icmp_ge (tgt := 40) dX12_isSlipped_9 (by decide) (fun h9 => ?_) (fun h9 => absurd (nI_le (a := s) (b := s) (Nat.le_refl _) (by omega)) h9)
    refine y_iload_n dX12_isSlipped_40 rfl rfl ?_
    refine y_ireturn dX12_isSlipped_41 rfl (bnar (hi.elim (fun z => Or.inr z.1) (fun z => Or.inl z.1))) ?_
    rcases hi with ⟨e, z⟩ | ⟨e, z⟩
    · rw [e]; exact hQ1 z
    · rw [e]; exact hQ0 z
  · intro k hk hP
    intro is_ hi
    refine y_iload_n dX12_isSlipped_4 rfl rfl ?_
    refine y_aload_n dX12_isSlipped_5 rfl rfl ?_
    refine y_geti dX12_isSlipped_6 gf_X12_310 sh_239 rfl ?_
    rw [s2]
    refine y_icmp_ge (tgt := 40) dX12_isSlipped_9 (by decide) (fun h9 => absurd h9 (nI_ge (a := k) (b := s) hk (by omega))) (fun h9 => ?_)
    refine y_iload_n dX12_isSlipped_12 rfl rfl ?_
    refine y_if_ne (tgt := 28) dX12_isSlipped_13 (by decide) (fun h13 => ?_) (fun h13 => ?_)
    · refine y_iconst (v := 1) dX12_isSlipped_28 (by decide) ?_
      refine y_goto (tgt := 33) dX12_isSlipped_29 (by decide) ?_
      refine y_ist4_2 dX12_isSlipped_33 rfl ?_
      refine y_iinc4_3 dX12_isSlipped_34 (nI_1 _) rfl ?_
      refine y_goto (tgt := 4) dX12_isSlipped_37 (by decide) ?_
      first
        | exact hP 1 (Or.inl ⟨rfl, k, by omega, (nI_eq (by have := (s3 k hk).1; omega) (by omega)).mp h25⟩)
        | (refine hP 0 (Or.inr ⟨rfl, ?_⟩)
           rintro ⟨i, i1, i2⟩
           by_cases e : i = k
           · exact h25 (by rw [← i2, e])
           · exact (hi.resolve_left (fun z => absurd z.1 (by rw [h13]; decide))).2 ⟨i, by omega, i2⟩)
        | (refine hP 1 (Or.inl ⟨rfl, ?_⟩)
           obtain ⟨-, i, i1, i2⟩ := hi.resolve_right (fun z => h13 z.1)
           exact ⟨i, by omega, i2⟩)
    · refine y_aload_n dX12_isSlipped_16 rfl rfl ?_
      refine y_getr dX12_isSlipped_17 gf_X12_69 sh_239 rfl ?_
      refine y_iconst (v := 2) dX12_isSlipped_20 (by decide) ?_
      refine y_iload_n dX12_isSlipped_21 rfl rfl ?_
      refine y_imulN (a := 2) (b := k) dX12_isSlipped_22 rfl rfl ?_
      refine y_ialdN dX12_isSlipped_23 sh_259 rfl (by first | omega | decide) (by decide) ?_
      rw [(s3 k hk).2]
      refine y_iload_n dX12_isSlipped_24 rfl rfl ?_
      refine y_icmp_ne (tgt := 32) dX12_isSlipped_25 (by decide) (fun h25 => ?_) (fun h25 => ?_)
      · refine y_iconst (v := 0) dX12_isSlipped_32 (by decide) ?_
        refine y_ist4_2 dX12_isSlipped_33 rfl ?_
        refine y_iinc4_3 dX12_isSlipped_34 (nI_1 _) rfl ?_
        refine y_goto (tgt := 4) dX12_isSlipped_37 (by decide) ?_
        first
          | exact hP 1 (Or.inl ⟨rfl, k, by omega, (nI_eq (by have := (s3 k hk).1; omega) (by omega)).mp h25⟩)
          | (refine hP 0 (Or.inr ⟨rfl, ?_⟩)
             rintro ⟨i, i1, i2⟩
             by_cases e : i = k
             · exact h25 (by rw [← i2, e])
             · exact (hi.resolve_left (fun z => absurd z.1 (by rw [h13]; decide))).2 ⟨i, by omega, i2⟩)
          | (refine hP 1 (Or.inl ⟨rfl, ?_⟩)
             obtain ⟨-, i, i1, i2⟩ := hi.resolve_right (fun z => h13 z.1)
             exact ⟨i, by omega, i2⟩)
      · refine y_iconst (v := 1) dX12_isSlipped_28 (by decide) ?_
        refine y_goto (tgt := 33) dX12_isSlipped_29 (by decide) ?_
        refine y_ist4_2 dX12_isSlipped_33 rfl ?_
        refine y_iinc4_3 dX12_isSlipped_34 (nI_1 _) rfl ?_
        refine y_goto (tgt := 4) dX12_isSlipped_37 (by decide) ?_
        first
          | exact hP 1 (Or.inl ⟨rfl, k, by omega, (nI_eq (by have := (s3 k hk).1; omega) (by omega)).mp h25⟩)
          | (refine hP 0 (Or.inr ⟨rfl, ?_⟩)
             rintro ⟨i, i1, i2⟩
             by_cases e : i = k
             · exact h25 (by rw [← i2, e])
             · exact (hi.resolve_left (fun z => absurd z.1 (by rw [h13]; decide))).2 ⟨i, by omega, i2⟩)
          | (refine hP 1 (Or.inl ⟨rfl, ?_⟩)
             obtain ⟨-, i, i1, i2⟩ := hi.resolve_right (fun z => h13 z.1)
             exact ⟨i, by omega, i2⟩)
set_option maxHeartbeats 1000000 in
theorem c_X12_leastLaw {L : Nat} {xs : Nat → Int32} {d : Nat} {m : sM} {n : sN} {Q : sQ} {O : Nat → Int32} (h : ∀ l, l < 81 → m 260 l = O l) (hQ : Q (some (.int (nI (lbF O 81)))) m n) : sRun (scT L xs) (d + 1) yX12_leastLaw cX12_leastLaw 3 (some .int) [.ref 239] m n Q := by
  refine y_run (own := "LoafFallModel") rfl (by decide +kernel) (Nat.le_of_ble_eq_true rfl) rfl ?_
  refine y_iconst (v := 0) dX12_leastLaw_0 (by decide) ?_
  refine y_ist3_1 dX12_leastLaw_1 rfl ?_
  refine y_iconst (v := 1) dX12_leastLaw_2 (by decide) ?_
  refine y_ist3_2 dX12_leastLaw_3 rfl ?_
  suffices hs : sV (scT L xs) d "LoafFallModel" cX12_leastLaw 3 (some .int) Q 4 [some (.ref 239), some (.int (nI (lbF O 1))), some (.int (nI 1))] [] m n by
    rw [lb_1] at hs
    exact hs
  refine cnt2 (P := fun l => sV (scT L xs) d "LoafFallModel" cX12_leastLaw 3 (some .int) Q 4 [some (.ref 239), some (.int (nI (lbF O l))), some (.int (nI l))] [] m n) 1 81 ?_ ?_ 1 (Nat.le_refl _) (by omega)
  · refine y_iload_n dX12_leastLaw_4 rfl rfl ?_
    refine y_bipush (v := 81) dX12_leastLaw_5 (by decide) ?_
    refine y_icmp_ge (tgt := 37) dX12_leastLaw_7 (by decide) (fun h7 => ?_) (fun h7 => absurd (nI_le (a := 81) (b := 81) (Nat.le_refl _) (by decide)) h7)
    refine y_iload_n dX12_leastLaw_37 rfl rfl ?_
    refine y_ireturn dX12_leastLaw_38 rfl rfl ?_
    exact hQ
  · intro l hk0 hk hP
    have lbl : lbF O l < 81 := by
      obtain ⟨l', rfl⟩ : ∃ l', l = l' + 1 := ⟨l - 1, by omega⟩
      have := lb_lt (O := O) l'
      omega
    refine y_iload_n dX12_leastLaw_4 rfl rfl ?_
    refine y_bipush (v := 81) dX12_leastLaw_5 (by decide) ?_
    refine y_icmp_ge (tgt := 37) dX12_leastLaw_7 (by decide) (fun h7 => absurd h7 (nI_ge (a := l) (b := 81) hk (by decide))) (fun h7 => ?_)
    refine y_aload_n dX12_leastLaw_10 rfl rfl ?_
    refine y_getr dX12_leastLaw_11 gf_X12_72 sh_239 rfl ?_
    refine y_iload_n dX12_leastLaw_14 rfl rfl ?_
    refine y_ialdN dX12_leastLaw_15 sh_260 rfl (by first | omega | decide) (by decide) ?_
    rw [h l hk]
    refine y_aload_n dX12_leastLaw_16 rfl rfl ?_
    refine y_getr dX12_leastLaw_17 gf_X12_72 sh_239 rfl ?_
    refine y_iload_n dX12_leastLaw_20 rfl rfl ?_
    refine y_ialdN dX12_leastLaw_21 sh_260 rfl (by first | omega | decide) (by decide) ?_
    rw [h _ lbl]
    refine y_icmp_ge (tgt := 29) dX12_leastLaw_22 (by decide) (fun h22 => ?_) (fun h22 => ?_)
    · refine y_iload_n dX12_leastLaw_29 rfl rfl ?_
      refine y_ist3_1 dX12_leastLaw_30 rfl ?_
      refine y_iinc3_2 dX12_leastLaw_31 (nI_1 _) rfl ?_
      refine y_goto (tgt := 4) dX12_leastLaw_34 (by decide) ?_
      first
        | (rw [show lbF O (l + 1) = lbF O l from if_neg (Int32.not_lt.mpr h22)] at hP; exact hP)
        | (rw [show lbF O (l + 1) = l from if_pos (Int32.not_le.mp h22)] at hP; exact hP)
    · refine y_iload_n dX12_leastLaw_25 rfl rfl ?_
      refine y_goto (tgt := 30) dX12_leastLaw_26 (by decide) ?_
      refine y_ist3_1 dX12_leastLaw_30 rfl ?_
      refine y_iinc3_2 dX12_leastLaw_31 (nI_1 _) rfl ?_
      refine y_goto (tgt := 4) dX12_leastLaw_34 (by decide) ?_
      first
        | (rw [show lbF O (l + 1) = lbF O l from if_neg (Int32.not_lt.mpr h22)] at hP; exact hP)
        | (rw [show lbF O (l + 1) = l from if_pos (Int32.not_le.mp h22)] at hP; exact hP)
set_option maxHeartbeats 1000000 in
theorem c_X12_needLaws {L : Nat} {xs : Nat → Int32} {d : Nat} {m : sM} {n : sN} {Q : sQ} {f s : Nat} {x t : Int32} (hx : x = nI f) (hf : f < 4) (hs : slR m s) (hD : LWp m f = 0 → ∀ i, i < s → flR (bo m f (dS m i)) ∧ dOK (bo m f (dS m i))) (hQ1 : ¬ nwL m f t = 0 → Q (some (.int (-3))) (metM m (nwL m f t)) n) (hQ0 : nwL m f t = 0 → ∀ B M, WM B M → frL m B → (∀ l, l < 81 → B 260 l = oF m f l s) → Q (some (.int 0)) M n) : sRun (scT L xs) (d + 10) yX12_needLaws cX12_needLaws 6 (some .int) [.ref 239, .int x, .int t] m n Q := by
  subst hx
  obtain ⟨s1, s2, s3⟩ := id hs
  have sn := slR_n hs
  obtain ⟨O, hO⟩ : ∃ O : Nat → Int32, O = fun l => oF m f l s := ⟨_, rfl⟩
  refine y_run (own := "LoafFallModel") rfl (by decide +kernel) (Nat.le_of_ble_eq_true rfl) rfl ?_
  refine y_aload_n dX12_needLaws_0 rfl rfl ?_
  refine y_getr dX12_needLaws_1 gf_X12_29 sh_239 rfl ?_
  refine y_iload_n dX12_needLaws_4 rfl rfl ?_
  refine y_zaldN dX12_needLaws_5 sh_246 rfl (by first | omega | decide) (by decide) ?_
  refine y_if_eq (tgt := 13) dX12_needLaws_6 (by decide) (fun h6 => ?_) (fun h6 => ?_)
  · refine y_aload_n dX12_needLaws_13 rfl rfl ?_
    refine y_iconst (v := 1) dX12_needLaws_14 (by decide) ?_
    refine y_ivI1 dX12_needLaws_15 mv_X12_100 my_X12_meets (Or.inl rfl) sh_239 ?_
    refine c_X12_meets (f := 1) rfl (by omega) ⟨_, rfl, ?_⟩
    refine y_ireturn dX12_needLaws_18 rfl rfl ?_
    have e1 : nwL m f t = 1 := by
      unfold nwL
      by_cases q : t = 0
      · rw [if_pos q]
      · rw [if_neg q]
        exact if_pos (by first | exact h6 | exact absurd h10 q)
    rw [e1] at hQ1
    exact hQ1 (by omega)
  · refine y_iload_n dX12_needLaws_9 rfl rfl ?_
    refine y_if_ne (tgt := 19) dX12_needLaws_10 (by decide) (fun h10 => ?_) (fun h10 => ?_)
    · refine y_aload_n dX12_needLaws_19 rfl rfl ?_
      refine y_geti dX12_needLaws_20 gf_X12_310 sh_239 rfl ?_
      
      refine y_if_ne (tgt := 32) dX12_needLaws_23 (by decide) (fun h23 => ?_) (fun h23 => ?_)
      · have t0 : ¬ t = 0 := h10
        have z0 : ¬ s = 0 := fun e => h23 (by rw [s2, e]; rfl)
        refine y_iconst (v := 1) dX12_needLaws_32 (by decide) ?_
        refine y_ist6_3 dX12_needLaws_33 rfl ?_
        refine y_iconst (v := 0) dX12_needLaws_34 (by decide) ?_
        refine y_ist6_4 dX12_needLaws_35 rfl ?_
        refine cnt (P := fun k => ∀ al : Int32, ((al = 1 ∧ (∀ i, i < k → ¬ m 248 (dS m i) = 0)) ∨ (al = 0 ∧ ¬ (∀ i, i < k → ¬ m 248 (dS m i) = 0))) → sV (scT L xs) (d + 9) "LoafFallModel" cX12_needLaws 6 (some .int) Q 37 [some (.ref 239), some (.int (nI f)), some (.int t), some (.int al), some (.int (nI k)), none] [] m n) s ?_ ?_ 0 (by omega) 1 (Or.inl ⟨rfl, fun i hi => absurd hi (by omega)⟩)
        · intro al hal
          refine y_iload dX12_needLaws_37 rfl ?_
          refine y_aload_n dX12_needLaws_39 rfl rfl ?_
          refine y_geti dX12_needLaws_40 gf_X12_310 sh_239 rfl ?_
          rw [s2]
          refine y_icmp_ge (tgt := 79) dX12_needLaws_43 (by decide) (fun h43 => ?_) (fun h43 => absurd (nI_le (a := s) (b := s) (Nat.le_refl _) (by omega)) h43)
          refine y_iload_n dX12_needLaws_79 rfl rfl ?_
          refine y_if_ne (tgt := 89) dX12_needLaws_80 (by decide) (fun h80 => ?_) (fun h80 => ?_)
          · obtain ⟨-, haa⟩ := hal.resolve_right (fun z => h80 z.1)
            have h00 : LWp m f = 0 := by unfold LWp; rw [if_neg h6, sn, if_neg z0, if_pos haa]
            have hn0 : nwL m f t = 0 := by unfold nwL; rw [if_neg t0]; exact h00
            have hD := hD h00
            refine y_iconst (v := 0) dX12_needLaws_89 (by decide) ?_
            refine y_ist6_4 dX12_needLaws_90 rfl ?_
            refine cnt (P := fun l => ∀ B M, ∀ a5 : Option Value, WM B M → frL m B → (∀ i, i < l → B 260 i = O i) → sV (scT L xs) (d + 9) "LoafFallModel" cX12_needLaws 6 (some .int) Q 92 [some (.ref 239), some (.int (nI f)), some (.int t), some (.int al), some (.int (nI l)), a5] [] M n) 81 ?_ ?_ 0 (by omega) m m _ (Or.inl rfl) (fun _ _ _ => rfl) (fun i hi => absurd hi (by omega))
            · intro B M a5 hW b1 b2
              refine y_iload dX12_needLaws_92 rfl ?_
              refine y_bipush (v := 81) dX12_needLaws_94 (by decide) ?_
              refine y_icmp_ge (tgt := 217) dX12_needLaws_96 (by decide) (fun h96 => ?_) (fun h96 => absurd (nI_le (a := 81) (b := 81) (Nat.le_refl _) (by decide)) h96)
              refine y_iconst (v := 0) dX12_needLaws_217 (by decide) ?_
              refine y_ireturn dX12_needLaws_218 rfl rfl ?_
              exact hQ0 hn0 B M hW b1 (fun l hl => by rw [b2 l hl, hO])
            · intro l hk hP
              intro B M a5 hW b1 b2
              refine y_iload dX12_needLaws_92 rfl ?_
              refine y_bipush (v := 81) dX12_needLaws_94 (by decide) ?_
              refine y_icmp_ge (tgt := 217) dX12_needLaws_96 (by decide) (fun h96 => absurd h96 (nI_ge (a := l) (b := 81) hk (by decide))) (fun h96 => ?_)
              refine y_iconst (v := 0) dX12_needLaws_99 (by decide) ?_
              refine y_ist6_5 dX12_needLaws_100 rfl ?_
              refine cnt (P := fun g => ∀ B M, WM B M → frL m B → (∀ i, i < l → B 260 i = O i) → (∀ q, q < g → (∃ i, i < s ∧ dS m i = q) → B 261 q = HL m f q l) → sV (scT L xs) (d + 9) "LoafFallModel" cX12_needLaws 6 (some .int) Q 102 [some (.ref 239), some (.int (nI f)), some (.int t), some (.int al), some (.int (nI l)), some (.int (nI g))] [] M n) 4 ?_ ?_ 0 (by omega) B M hW b1 b2 (fun q hq => absurd hq (by omega))
              · intro B M hW b1 b2 b4
                have fm : frM m M := b1.fr.tr hW.fr
                have m9 : M 239 28 = nI s := by rw [fm.2.1.2.2]; exact s2
                have m59 : M 259 = m 259 := fm.1 259 (by omega)
                have m60 : M 260 = B 260 := hW.o (by omega) (by omega) (by omega)
                have m61 : M 261 = B 261 := hW.o (by omega) (by omega) (by omega)
                refine y_iload dX12_needLaws_102 rfl ?_
                refine y_iconst (v := 4) dX12_needLaws_104 (by decide) ?_
                refine y_icmp_ge (tgt := 147) dX12_needLaws_105 (by decide) (fun h105 => ?_) (fun h105 => absurd (nI_le (a := 4) (b := 4) (Nat.le_refl _) (by decide)) h105)
                refine y_aload_n dX12_needLaws_147 rfl rfl ?_
                refine y_getr dX12_needLaws_148 gf_X12_72 sh_239 rfl ?_
                refine y_iload dX12_needLaws_151 rfl ?_
                refine y_iconst (v := 0) dX12_needLaws_153 (by decide) ?_
                refine y_iastN dX12_needLaws_154 sh_260 rfl (by first | omega | decide) (by decide) ?_
                refine y_iconst (v := 0) dX12_needLaws_155 (by decide) ?_
                refine y_ist6_5 dX12_needLaws_156 rfl ?_
                rw [m60]
                have hW0 := hW.up (a := 260) (K := upd (B 260) l 0) (by omega) (by omega) (by omega)
                refine cnt (P := fun k => ∀ B M, WM B M → frL m B → (∀ i, i < l → B 260 i = O i) → B 260 l = oF m f l k → (∀ q, q < 4 → (∃ i, i < s ∧ dS m i = q) → B 261 q = HL m f q l) → sV (scT L xs) (d + 9) "LoafFallModel" cX12_needLaws 6 (some .int) Q 158 [some (.ref 239), some (.int (nI f)), some (.int t), some (.int al), some (.int (nI l)), some (.int (nI k))] [] M n) s ?_ ?_ 0 (by omega) _ _ hW0 (fun a h1 h2 => by rw [s_upN h1]; exact b1 a h1 h2) (fun i hi => by rw [s_upS, updN (by omega)]; exact b2 i hi) (by rw [s_upS, updS]; rfl) (fun q hq hx => by rw [s_upN (by omega)]; exact b4 q hq hx)
                · intro B M hW b1 b2 b3 b4
                  have fm : frM m M := b1.fr.tr hW.fr
                  have m9 : M 239 28 = nI s := by rw [fm.2.1.2.2]; exact s2
                  have m59 : M 259 = m 259 := fm.1 259 (by omega)
                  have m60 : M 260 = B 260 := hW.o (by omega) (by omega) (by omega)
                  have m61 : M 261 = B 261 := hW.o (by omega) (by omega) (by omega)
                  refine y_iload dX12_needLaws_158 rfl ?_
                  refine y_aload_n dX12_needLaws_160 rfl rfl ?_
                  refine y_geti dX12_needLaws_161 gf_X12_310 sh_239 rfl ?_
                  rw [m9]
                  refine y_icmp_ge (tgt := 211) dX12_needLaws_164 (by decide) (fun h164 => ?_) (fun h164 => absurd (nI_le (a := s) (b := s) (Nat.le_refl _) (by omega)) h164)
                  refine y_iinc6_4 dX12_needLaws_211 (nI_1 _) rfl ?_
                  refine y_goto (tgt := 92) dX12_needLaws_214 (by decide) ?_
                  exact hP B M _ hW b1 (fun i hi => by
                    by_cases e : i = l
                    · rw [e, b3, hO]
                    · exact b2 i (by omega))
                · intro k hk hP
                  intro B M hW b1 b2 b3 b4
                  have fm : frM m M := b1.fr.tr hW.fr
                  have m9 : M 239 28 = nI s := by rw [fm.2.1.2.2]; exact s2
                  have m59 : M 259 = m 259 := fm.1 259 (by omega)
                  have m60 : M 260 = B 260 := hW.o (by omega) (by omega) (by omega)
                  have m61 : M 261 = B 261 := hW.o (by omega) (by omega) (by omega)
                  refine y_iload dX12_needLaws_158 rfl ?_
                  refine y_aload_n dX12_needLaws_160 rfl rfl ?_
                  refine y_geti dX12_needLaws_161 gf_X12_310 sh_239 rfl ?_
                  rw [m9]
                  refine y_icmp_ge (tgt := 211) dX12_needLaws_164 (by decide) (fun h164 => absurd h164 (nI_ge (a := k) (b := s) hk (by omega))) (fun h164 => ?_)
                  refine y_aload_n dX12_needLaws_167 rfl rfl ?_
                  refine y_getr dX12_needLaws_168 gf_X12_72 sh_239 rfl ?_
                  refine y_iload dX12_needLaws_171 rfl ?_
                  refine y_dup2 dX12_needLaws_173 rfl rfl ?_
                  refine y_ialdN dX12_needLaws_174 sh_260 rfl (by first | omega | decide) (by decide) ?_
                  rw [m60]
                  refine y_aload_n dX12_needLaws_175 rfl rfl ?_
                  refine y_getr dX12_needLaws_176 gf_X12_75 sh_239 rfl ?_
                  refine y_aload_n dX12_needLaws_179 rfl rfl ?_
                  refine y_getr dX12_needLaws_180 gf_X12_69 sh_239 rfl ?_
                  refine y_iconst (v := 2) dX12_needLaws_183 (by decide) ?_
                  refine y_iload dX12_needLaws_184 rfl ?_
                  refine y_imulN (a := 2) (b := k) dX12_needLaws_186 rfl rfl ?_
                  have d4 := (s3 k hk).1
                  refine y_ialdN dX12_needLaws_187 sh_259 rfl (by first | omega | decide) (by decide) ?_
                  rw [m59, (s3 k hk).2]
                  refine y_ialdN dX12_needLaws_188 sh_261 rfl (by first | omega | decide) (by decide) ?_
                  rw [m61, b4 _ d4 ⟨k, hk, rfl⟩]
                  refine y_aload_n dX12_needLaws_189 rfl rfl ?_
                  refine y_getr dX12_needLaws_190 gf_X12_69 sh_239 rfl ?_
                  refine y_iconst (v := 2) dX12_needLaws_193 (by decide) ?_
                  refine y_iload dX12_needLaws_194 rfl ?_
                  refine y_imulN (a := 2) (b := k) dX12_needLaws_196 rfl rfl ?_
                  refine y_iconst (v := 1) dX12_needLaws_197 (by decide) ?_
                  refine y_iaddN (a := 2 * k) (b := 1) dX12_needLaws_198 rfl rfl ?_
                  refine y_ialdN dX12_needLaws_199 sh_259 rfl (by first | omega | decide) (by decide) ?_
                  rw [m59]
                  refine y_isI2 dX12_needLaws_200 ms_X12_307 my_X12_off (Or.inl rfl) ?_
                  refine c_X12_off ⟨_, rfl, ?_⟩
                  refine y_iadd dX12_needLaws_203 ?_
                  refine y_iastN dX12_needLaws_204 sh_260 rfl (by first | omega | decide) (by decide) ?_
                  refine y_iinc6_5 dX12_needLaws_205 (nI_1 _) rfl ?_
                  refine y_goto (tgt := 158) dX12_needLaws_208 (by decide) ?_
                  have e1 : oF m f l (k + 1) = B 260 l + dst (HL m f (dS m k) l) (m 259 (2 * k + 1)) := by rw [oF, b3]
                  rw [m60]
                  refine hP _ _ (hW.up (a := 260) (K := upd (B 260) l (B 260 l + dst (HL m f (dS m k) l) (m 259 (2 * k + 1)))) (by omega) (by omega) (by omega)) (fun a h1 h2 => by rw [s_upN h1]; exact b1 a h1 h2) (fun i hi => by rw [s_upS, updN (by omega)]; exact b2 i hi) (by rw [s_upS, updS, e1]) (fun q hq hx => by rw [s_upN (by omega)]; exact b4 q hq hx)
              · intro g hk hP
                intro B M hW b1 b2 b4
                have fm : frM m M := b1.fr.tr hW.fr
                have m9 : M 239 28 = nI s := by rw [fm.2.1.2.2]; exact s2
                have m59 : M 259 = m 259 := fm.1 259 (by omega)
                have m60 : M 260 = B 260 := hW.o (by omega) (by omega) (by omega)
                have m61 : M 261 = B 261 := hW.o (by omega) (by omega) (by omega)
                refine y_iload dX12_needLaws_102 rfl ?_
                refine y_iconst (v := 4) dX12_needLaws_104 (by decide) ?_
                refine y_icmp_ge (tgt := 147) dX12_needLaws_105 (by decide) (fun h105 => absurd h105 (nI_ge (a := g) (b := 4) hk (by decide))) (fun h105 => ?_)
                refine y_aload_n dX12_needLaws_108 rfl rfl ?_
                refine y_iload dX12_needLaws_109 rfl ?_
                refine y_ivI1 dX12_needLaws_111 mv_X12_313 my_X12_isSlipped (Or.inl rfl) sh_239 ?_
                refine c_X12_isSlipped (g := g) (s := s) (D := dS m) rfl hk s1 m9 (fun i hi => by rw [m59]; exact s3 i hi) (fun sl => ⟨_, rfl, ?_⟩) (fun sl => ⟨_, rfl, ?_⟩)
                · refine y_if_eq (tgt := 141) dX12_needLaws_114 (by decide) (fun h114 => absurd h114 (by decide)) (fun h114 => ?_)
                  refine y_aload_n dX12_needLaws_117 rfl rfl ?_
                  refine y_iload dX12_needLaws_118 rfl ?_
                  refine y_iload_n dX12_needLaws_120 rfl rfl ?_
                  refine y_iload dX12_needLaws_121 rfl ?_
                  refine y_ivV3 dX12_needLaws_123 mv_X12_316 my_X12_layLaw (Or.inl rfl) sh_239 ?_
                  refine c_layLaw (l := l) (f := f) (g := g) hW rfl (by omega) rfl hf rfl hk (fun hh X2 => ⟨rfl, ?_⟩)
                  rw [show upd (upd (bothR B f g X2) 0 (nI (1 + l / 9))) 1 (nI (10 + 10 * (l % 9))) = lwR (bothR B f g X2) l from rfl]
                  have hg2 : flR (bo m f g) ∧ dOK (bo m f g) := by
                    obtain ⟨i, i1, i2⟩ := sl
                    rw [← i2]
                    exact hD i i1
                  have eb : bo B f g = bo m f g := bo_m (b1 _ (by omega) (by omega)) (b1 _ (by omega) (by omega)) (b1 _ (by omega) (by omega))
                  have e36 : ∀ p, p < 36 → lwR (bothR B f g X2) l p = lwR (bo m f g) l p := fun p hp => by
                    unfold lwR
                    rw [upd_ap, upd_ap, upd_ap, upd_ap, bo_X hp, eb]
                  have hdm := lw_d (l := l) hg2.2
                  have hdX : dOK (lwR (bothR B f g X2) l) := d_eq hdm (fun p h1 h2 => e36 p h2)
                  have eH : hgt (BV (lwR (bothR B f g X2) l)) 12 = HL m f g l := HV_congr hdm hdX (eqD_36 hdm.2.1 e36)
                  refine y_aload_n dX12_needLaws_126 rfl rfl ?_
                  refine y_ivV0 dX12_needLaws_127 mv_X12_263 my_X12_bakes (Or.inl rfl) sh_239 ?_
                  refine c_bakesW (wk_b (by omega)) hdX (fun h' => ⟨rfl, ?_⟩)
                  refine y_aload_n dX12_needLaws_130 rfl rfl ?_
                  refine y_getr dX12_needLaws_131 gf_X12_75 sh_239 rfl ?_
                  refine y_iload dX12_needLaws_134 rfl ?_
                  refine y_aload_n dX12_needLaws_136 rfl rfl ?_
                  refine y_ivI0 dX12_needLaws_137 mv_X12_241 my_X12_heightNow (Or.inl rfl) sh_239 ?_
                  refine c_X12_heightNow (wk_b (by omega)) ⟨_, rfl, ?_⟩
                  rw [eH]
                  refine y_iastN dX12_needLaws_140 sh_261 rfl (by first | omega | decide) (by decide) ?_
                  refine y_iinc6_5 dX12_needLaws_141 (nI_1 _) rfl ?_
                  refine y_goto (tgt := 102) dX12_needLaws_144 (by decide) ?_
                  first
                    | (rw [stR_o (a := 261) (by omega) (by omega), wk_o (a := 261) (by omega)]
                       refine hP _ _ ((WM.st (m0 := B) (h := h') (R := BV (lwR (bothR B f g X2) l))).up (a := 261) (K := upd (B 261) g (HL m f g l)) (by omega) (by omega) (by omega)) (fun a h1 h2 => by rw [s_upN h2]; exact b1 a h1 h2) (fun i hi => by rw [s_upN (by omega)]; exact b2 i hi) (fun q hq hx => ?_)
                       rw [s_upS, upd_ap]
                       by_cases e : q = g
                       · rw [if_pos e, e]
                       · rw [if_neg e]; exact b4 q (by omega) hx)
                    | (refine hP B M hW b1 b2 (fun q hq hx => b4 q ?_ hx)
                       rcases Nat.lt_or_ge q g with z | z
                       · exact z
                       · exact absurd hx (by rw [show q = g by omega]; exact sl))
                · refine y_if_eq (tgt := 141) dX12_needLaws_114 (by decide) (fun h114 => ?_) (fun h114 => absurd (by decide) h114)
                  refine y_iinc6_5 dX12_needLaws_141 (nI_1 _) rfl ?_
                  refine y_goto (tgt := 102) dX12_needLaws_144 (by decide) ?_
                  first
                    | (rw [stR_o (a := 261) (by omega) (by omega), wk_o (a := 261) (by omega)]
                       refine hP _ _ ((WM.st (m0 := B) (h := h') (R := BV (lwR (bothR B f g X2) l))).up (a := 261) (K := upd (B 261) g (HL m f g l)) (by omega) (by omega) (by omega)) (fun a h1 h2 => by rw [s_upN h2]; exact b1 a h1 h2) (fun i hi => by rw [s_upN (by omega)]; exact b2 i hi) (fun q hq hx => ?_)
                       rw [s_upS, upd_ap]
                       by_cases e : q = g
                       · rw [if_pos e, e]
                       · rw [if_neg e]; exact b4 q (by omega) hx)
                    | (refine hP B M hW b1 b2 (fun q hq hx => b4 q ?_ hx)
                       rcases Nat.lt_or_ge q g with z | z
                       · exact z
                       · exact absurd hx (by rw [show q = g by omega]; exact sl))
          · refine y_aload_n dX12_needLaws_83 rfl rfl ?_
            refine y_iconst (v := 1) dX12_needLaws_84 (by decide) ?_
            refine y_ivI1 dX12_needLaws_85 mv_X12_100 my_X12_meets (Or.inl rfl) sh_239 ?_
            refine c_X12_meets (f := 1) rfl (by omega) ⟨_, rfl, ?_⟩
            refine y_ireturn dX12_needLaws_88 rfl rfl ?_
            have e1 : nwL m f t = 1 := by
              unfold nwL LWp
              rw [if_neg t0, if_neg h6, sn, if_neg z0, if_neg (hal.resolve_left (fun z => absurd z.1 (by rw [h80]; decide))).2]
            rw [e1] at hQ1
            exact hQ1 (by omega)
        · intro k hk hP
          intro al hal
          refine y_iload dX12_needLaws_37 rfl ?_
          refine y_aload_n dX12_needLaws_39 rfl rfl ?_
          refine y_geti dX12_needLaws_40 gf_X12_310 sh_239 rfl ?_
          rw [s2]
          refine y_icmp_ge (tgt := 79) dX12_needLaws_43 (by decide) (fun h43 => absurd h43 (nI_ge (a := k) (b := s) hk (by omega))) (fun h43 => ?_)
          refine y_iload_n dX12_needLaws_46 rfl rfl ?_
          refine y_if_eq (tgt := 71) dX12_needLaws_47 (by decide) (fun h47 => ?_) (fun h47 => ?_)
          · refine y_iconst (v := 0) dX12_needLaws_71 (by decide) ?_
            refine y_ist6_3 dX12_needLaws_72 rfl ?_
            refine y_iinc6_4 dX12_needLaws_73 (nI_1 _) rfl ?_
            refine y_goto (tgt := 37) dX12_needLaws_76 (by decide) ?_
            first
              | (refine hP 0 (Or.inr ⟨rfl, fun z => ?_⟩)
                 exact z k (by omega) h64)
              | (refine hP 1 (Or.inl ⟨rfl, fun i hi => ?_⟩)
                 by_cases e : i = k
                 · rw [e]; exact h64
                 · exact (hal.resolve_right (fun z => h47 z.1)).2 i (by omega))
              | (refine hP 0 (Or.inr ⟨rfl, fun z => ?_⟩)
                 exact (hal.resolve_left (fun y => absurd y.1 (by rw [h47]; decide))).2 (fun i hi => z i (by omega)))
          · refine y_aload_n dX12_needLaws_50 rfl rfl ?_
            refine y_getr dX12_needLaws_51 gf_X12_36 sh_239 rfl ?_
            refine y_aload_n dX12_needLaws_54 rfl rfl ?_
            refine y_getr dX12_needLaws_55 gf_X12_69 sh_239 rfl ?_
            refine y_iconst (v := 2) dX12_needLaws_58 (by decide) ?_
            refine y_iload dX12_needLaws_59 rfl ?_
            refine y_imulN (a := 2) (b := k) dX12_needLaws_61 rfl rfl ?_
            have d4 := (s3 k hk).1
            refine y_ialdN dX12_needLaws_62 sh_259 rfl (by first | omega | decide) (by decide) ?_
            rw [(s3 k hk).2]
            refine y_zaldN dX12_needLaws_63 sh_248 rfl (by first | omega | decide) (by decide) ?_
            refine y_if_eq (tgt := 71) dX12_needLaws_64 (by decide) (fun h64 => ?_) (fun h64 => ?_)
            · refine y_iconst (v := 0) dX12_needLaws_71 (by decide) ?_
              refine y_ist6_3 dX12_needLaws_72 rfl ?_
              refine y_iinc6_4 dX12_needLaws_73 (nI_1 _) rfl ?_
              refine y_goto (tgt := 37) dX12_needLaws_76 (by decide) ?_
              first
                | (refine hP 0 (Or.inr ⟨rfl, fun z => ?_⟩)
                   exact z k (by omega) h64)
                | (refine hP 1 (Or.inl ⟨rfl, fun i hi => ?_⟩)
                   by_cases e : i = k
                   · rw [e]; exact h64
                   · exact (hal.resolve_right (fun z => h47 z.1)).2 i (by omega))
                | (refine hP 0 (Or.inr ⟨rfl, fun z => ?_⟩)
                   exact (hal.resolve_left (fun y => absurd y.1 (by rw [h47]; decide))).2 (fun i hi => z i (by omega)))
            · refine y_iconst (v := 1) dX12_needLaws_67 (by decide) ?_
              refine y_goto (tgt := 72) dX12_needLaws_68 (by decide) ?_
              refine y_ist6_3 dX12_needLaws_72 rfl ?_
              refine y_iinc6_4 dX12_needLaws_73 (nI_1 _) rfl ?_
              refine y_goto (tgt := 37) dX12_needLaws_76 (by decide) ?_
              first
                | (refine hP 0 (Or.inr ⟨rfl, fun z => ?_⟩)
                   exact z k (by omega) h64)
                | (refine hP 1 (Or.inl ⟨rfl, fun i hi => ?_⟩)
                   by_cases e : i = k
                   · rw [e]; exact h64
                   · exact (hal.resolve_right (fun z => h47 z.1)).2 i (by omega))
                | (refine hP 0 (Or.inr ⟨rfl, fun z => ?_⟩)
                   exact (hal.resolve_left (fun y => absurd y.1 (by rw [h47]; decide))).2 (fun i hi => z i (by omega)))
      · refine y_aload_n dX12_needLaws_26 rfl rfl ?_
        refine y_iconst (v := 4) dX12_needLaws_27 (by decide) ?_
        refine y_ivI1 dX12_needLaws_28 mv_X12_100 my_X12_meets (Or.inl rfl) sh_239 ?_
        refine c_X12_meets (f := 4) rfl (by omega) ⟨_, rfl, ?_⟩
        refine y_ireturn dX12_needLaws_31 rfl rfl ?_
        have e4 : nwL m f t = 4 := by
          unfold nwL LWp
          rw [if_neg h10, if_neg h6, sn, if_pos ((nI_eq (b := 0) (by omega) (by decide)).mp (s2 ▸ h23))]
        rw [e4] at hQ1
        exact hQ1 (by omega)
    · refine y_aload_n dX12_needLaws_13 rfl rfl ?_
      refine y_iconst (v := 1) dX12_needLaws_14 (by decide) ?_
      refine y_ivI1 dX12_needLaws_15 mv_X12_100 my_X12_meets (Or.inl rfl) sh_239 ?_
      refine c_X12_meets (f := 1) rfl (by omega) ⟨_, rfl, ?_⟩
      refine y_ireturn dX12_needLaws_18 rfl rfl ?_
      have e1 : nwL m f t = 1 := by
        unfold nwL
        by_cases q : t = 0
        · rw [if_pos q]
        · rw [if_neg q]
          exact if_pos (by first | exact h6 | exact absurd h10 q)
      rw [e1] at hQ1
      exact hQ1 (by omega)
