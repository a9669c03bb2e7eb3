/-! ===== reading a doing: what it comes to; the component ===== -/
def addR (R : Nat → Int32) (kd u v : Int32) : Nat → Int32 := upd (upd (upd (upd R (6 + 3 * cOf R + 0) kd) (6 + 3 * cOf R + 1) u) (6 + 3 * cOf R + 2) v) 5 (nI (cOf R + 1))
theorem add_5 {R : Nat → Int32} {kd u v : Int32} : addR R kd u v 5 = nI (cOf R + 1) := updS
theorem add_at {R : Nat → Int32} {kd u v : Int32} {i j : Nat} (hj : j < 3) : addR R kd u v (6 + 3 * i + j) = if i = cOf R then (if j = 0 then kd else if j = 1 then u else v) else R (6 + 3 * i + j) := by
  unfold addR
  rw [updN (by omega), upd_ap, upd_ap, upd_ap]
  by_cases h : i = cOf R
  · rw [if_pos h, ← h]
    have : j = 0 ∨ j = 1 ∨ j = 2 := by omega
    rcases this with rfl | rfl | rfl
    · rw [if_neg (by omega), if_neg (by omega), if_pos rfl, if_pos rfl]
    · rw [if_neg (by omega), if_pos rfl, if_neg (by omega), if_pos rfl]
    · rw [if_pos rfl, if_neg (by omega), if_neg (by omega)]
  · rw [if_neg h, if_neg (by omega), if_neg (by omega), if_neg (by omega)]
theorem add_c {R : Nat → Int32} {kd u v : Int32} (h : cOf R < 10) : cOf (addR R kd u v) = cOf R + 1 := by
  show (addR R kd u v 5).toNatClampNeg = _
  rw [add_5, nI_clamp (by omega)]
theorem add_T {R : Nat → Int32} {kd u v : Int32} : ∀ k, k ≤ cOf R → Tn (addR R kd u v) k = Tn R k := by
  intro k
  induction k with
  | zero => intro _; rfl
  | succ k ih =>
    intro hk
    rw [Tn, Tn, ih (by omega)]
    unfold tOf
    rw [add_at (by omega), if_neg (by omega)]
theorem d_add {R : Nat → Int32} {kd u v : Int32} (h : dOK R) (hc : cOf R < 10) (hk : ((kd = 3 ∨ kd = 4 ∨ kd = 5) ∧ v = 0) ∨ ((kd = 1 ∨ kd = 2) ∧ (∃ u' : Nat, u = nI u' ∧ u' ≤ 9) ∧ ∃ t : Nat, v = nI t ∧ 1 ≤ t ∧ t ≤ 30 ∧ Tn R (cOf R) + t ≤ 90)) : dOK (addR R kd u v) := by
  obtain ⟨h1, h2, h3, h4, h5⟩ := h
  have ec := add_c (kd := kd) (u := u) (v := v) hc
  refine ⟨by rw [ec, add_5], by rw [ec]; omega, fun i hi => ?_, fun i hi => ?_, ?_⟩
  · rw [ec] at hi
    unfold lastsR
    rw [add_at (by omega), add_at (by omega), add_at (by omega)]
    by_cases e : i = cOf R
    · rw [if_pos e, if_pos e, if_pos e, if_pos rfl, if_neg (by omega), if_pos rfl, if_neg (by omega), if_neg (by omega)]
      rcases hk with ⟨a, -⟩ | ⟨a, b, t, c1, c2, c3, -⟩
      · exact Or.inl a
      · exact Or.inr ⟨a, b, t, c1, c2, c3⟩
    · rw [if_neg e, if_neg e, if_neg e]
      exact h3 i (by omega)
  · rw [ec] at hi
    rw [add_at (by omega), add_at (by omega)]
    by_cases e : i = cOf R
    · rw [if_pos e, if_pos e, if_pos rfl, if_neg (by omega), if_neg (by omega)]
      intro h2
      rcases hk with ⟨-, b⟩ | ⟨a, -⟩
      · exact b
      · exfalso
        rcases a with a | a <;> rw [a] at h2 <;> exact absurd h2 (by decide)
    · rw [if_neg e, if_neg e]
      exact h4 i (by omega)
  · rw [ec, Tn, add_T _ (Nat.le_refl _)]
    unfold tOf
    rw [add_at (by omega), if_pos rfl, if_neg (by omega), if_neg (by omega)]
    rcases hk with ⟨-, b⟩ | ⟨-, -, t, c1, c2, c3, c4⟩
    · rw [b]; show Tn R (cOf R) + 0 ≤ 90; exact h5
    · rw [c1, nI_clamp (by omega)]; exact c4
/-- of a lasting step so many turns cannot be -/
def badT (R : Nat → Int32) (v : Int32) : Prop := v < 1 ∨ 30 < v ∨ 90 < rsum R (cOf R) + v
noncomputable def rdD (c : Nat → Int32) (s : Nat) : Nat → Nat → (Nat → Int32) → Int32 × (Nat → Int32)
  | 0, _, R => (-9, R)
  | n + 1, p, R => if s ≤ p then (-9, R) else if c p = 32 then rdD c s n (p + 1) R else if ixS (c p) = 5 ∨ cOf R = 10 then (nI p, R) else if 2 ≤ ixS (c p) then rdD c s n (p + 1) (addR R (nI (1 + ixS (c p))) 0 0) else @ite _ (isFig (c (p + 1))) (Classical.propDecidable _) (if c (p + 2) = 58 then (@ite _ (badT R (numC c (p + 3) (fgs c (p + 3)))) (Classical.propDecidable _) (nI (p + 3 + fgs c (p + 3)), R) (rdD c s n (p + 3 + fgs c (p + 3)) (addR R (nI (1 + ixS (c p))) (c (p + 1) - 48) (numC c (p + 3) (fgs c (p + 3)))))) else (nI (p + 2), R)) (nI (p + 1), R)
theorem rdD_S {c : Nat → Int32} {s n p : Nat} {R : Nat → Int32} : rdD c s (n + 1) p R = if s ≤ p then (-9, R) else if c p = 32 then rdD c s n (p + 1) R else if ixS (c p) = 5 ∨ cOf R = 10 then (nI p, R) else if 2 ≤ ixS (c p) then rdD c s n (p + 1) (addR R (nI (1 + ixS (c p))) 0 0) else @ite _ (isFig (c (p + 1))) (Classical.propDecidable _) (if c (p + 2) = 58 then (@ite _ (badT R (numC c (p + 3) (fgs c (p + 3)))) (Classical.propDecidable _) (nI (p + 3 + fgs c (p + 3)), R) (rdD c s n (p + 3 + fgs c (p + 3)) (addR R (nI (1 + ixS (c p))) (c (p + 1) - 48) (numC c (p + 3) (fgs c (p + 3)))))) else (nI (p + 2), R)) (nI (p + 1), R) := by rw [rdD]
theorem fig_n {x : Int32} (h : isFig x) : ∃ u : Nat, x - 48 = nI u ∧ u ≤ 9 := by
  obtain ⟨k, k1, k2⟩ := (in_le (M := 57) (x := x) (by decide)).mpr ⟨Int32.le_trans (by decide) h.1, h.2⟩
  have := h.1
  rw [k2] at this
  have := (nI_leI (a := 48) (by decide) (by omega)).mp this
  refine ⟨k - 48, ?_, by omega⟩
  rw [k2]
  exact pk_sub (b := 48) this
theorem badT_n {R : Nat → Int32} {v : Int32} (hd : dOK R) (h : ¬ badT R v) : ∃ t : Nat, v = nI t ∧ 1 ≤ t ∧ t ≤ 30 ∧ Tn R (cOf R) + t ≤ 90 := by
  have z1 : ¬ v < 1 := fun e => h (Or.inl e)
  have z2 : ¬ 30 < v := fun e => h (Or.inr (Or.inl e))
  have z3 : ¬ 90 < rsum R (cOf R) + v := fun e => h (Or.inr (Or.inr e))
  obtain ⟨t, t1, t2⟩ := (in_le (M := 30) (x := v) (by decide)).mpr ⟨Int32.le_trans (by decide) (Int32.not_lt.mp z1), Int32.not_lt.mp z2⟩
  subst t2
  have e1 := (nI_leI (a := 1) (by decide) (by omega)).mp (Int32.not_lt.mp z1)
  rw [rsum_Tn hd.2.2.1 hd.2.2.2.1 _ (Nat.le_refl _), nI_add] at z3
  have := hd.2.2.2.2
  have := (nI_leI (b := 90) (by omega) (by decide)).mp (Int32.not_lt.mp z3)
  exact ⟨t, rfl, e1, by omega, this⟩
theorem kd_o : ∀ a, 2 ≤ a → a < 5 → (nI (1 + a) = 3 ∨ nI (1 + a) = 4 ∨ nI (1 + a) = 5) := by
  intro a h1 h2
  have : a = 2 ∨ a = 3 ∨ a = 4 := by omega
  rcases this with rfl | rfl | rfl
  · exact Or.inl rfl
  · exact Or.inr (Or.inl rfl)
  · exact Or.inr (Or.inr rfl)
theorem kd_l : ∀ a, ¬ 2 ≤ a → (nI (1 + a) = 1 ∨ nI (1 + a) = 2) := by
  intro a h1
  have : a = 0 ∨ a = 1 := by omega
  rcases this with rfl | rfl
  · exact Or.inl rfl
  · exact Or.inr rfl
theorem rd_d {c : Nat → Int32} {s : Nat} : ∀ n p R, dOK R → dOK (rdD c s n p R).2 := by
  intro n
  induction n with
  | zero => intro p R h; exact h
  | succ n ih =>
    intro p R h
    rw [rdD]
    by_cases h1 : s ≤ p
    · rw [if_pos h1]; exact h
    · rw [if_neg h1]
      by_cases h2 : c p = 32
      · rw [if_pos h2]; exact ih _ _ h
      · rw [if_neg h2]
        by_cases h3 : ixS (c p) = 5 ∨ cOf R = 10
        · rw [if_pos h3]; exact h
        · rw [if_neg h3]
          have hx : ixS (c p) < 5 := by have := ixS_le (c p); omega
          have hc : cOf R < 10 := by have := h.2.1; omega
          by_cases h4 : 2 ≤ ixS (c p)
          · rw [if_pos h4]
            exact ih _ _ (d_add h hc (Or.inl ⟨kd_o _ h4 hx, rfl⟩))
          · rw [if_neg h4]
            by_cases h5 : isFig (c (p + 1))
            · rw [if_pos h5]
              by_cases h6 : c (p + 2) = 58
              · rw [if_pos h6]
                by_cases h7 : badT R (numC c (p + 3) (fgs c (p + 3)))
                · rw [if_pos h7]; exact h
                · rw [if_neg h7]
                  exact ih _ _ (d_add h hc (Or.inr ⟨kd_l _ h4, fig_n h5, badT_n h h7⟩))
              · rw [if_neg h6]; exact h
            · rw [if_neg h5]; exact h
theorem DR_add {m m' : sM} {R : Nat → Int32} {kd u v : Int32} (h : DR m 31 R) (hc : cOf R < 10) (e1 : ∀ i, i ≠ cOf R → m' (31 + 1) i = m (31 + 1) i ∧ m' (31 + 2) i = m (31 + 2) i ∧ m' (31 + 3) i = m (31 + 3) i) (e2 : m' (31 + 1) (cOf R) = kd) (e3 : m' (31 + 2) (cOf R) = u) (e4 : m' (31 + 3) (cOf R) = v) (e5 : m' 31 3 = nI (cOf R + 1)) : DR m' 31 (addR R kd u v) := by
  refine ⟨fun i hi => ?_, by rw [add_5]; exact e5⟩
  rw [add_c hc] at hi
  rw [add_at (by omega), add_at (by omega), add_at (by omega)]
  by_cases e : i = cOf R
  · rw [if_pos e, if_pos e, if_pos e, if_pos rfl, if_neg (by omega), if_pos rfl, if_neg (by omega), if_neg (by omega), e]
    exact ⟨e2, e3, e4⟩
  · rw [if_neg e, if_neg e, if_neg e]
    obtain ⟨a, b, c⟩ := e1 i e
    obtain ⟨a', b', c'⟩ := h.1 i (by omega)
    exact ⟨a.trans a', b.trans b', c.trans c'⟩
theorem num1 {c : Nat → Int32} {q : Nat} : numC c q 1 = c q - 48 := by
  show 10 * 0 + c (q + 0) - 48 = c q - 48
  rw [Int32.mul_zero, Int32.zero_add, Nat.add_zero]
set_option maxHeartbeats 1000000 in
theorem c_X7_readLasting {L : Nat} {xs : Nat → Int32} {d : Nat} {m : sM} {n : sN} {Q : sQ} {W0 s q : Nat} {R c : Nat → Int32} {kd : Int32} (hW : isTx W0) (hWo : 122 ≤ W0) (hs : m W0 1 = nI s) (hs2 : s ≤ 80) (hc : c = sgA m W0 s) (hp : m 28 3 = nI q) (hq : q < 95) (hg : DR m 31 R) (hr : R 5 = nI (cOf R)) (hr2 : cOf R < 10) (hQ1 : ¬ isFig (c q) → Q (some (.int 0)) m n) (hQ2 : isFig (c q) → ¬ c (q + 1) = 58 → ∀ m', (∀ a, a ≠ 28 → m' a = m a) → m' 28 3 = nI (q + 1) → Q (some (.int 0)) m' n) (hQ3 : isFig (c q) → c (q + 1) = 58 → badT R (numC c (q + 2) (fgs c (q + 2))) → ∀ m', (∀ a, a ≠ 28 → m' a = m a) → m' 28 3 = nI (q + 2 + fgs c (q + 2)) → Q (some (.int 0)) m' n) (hQ4 : isFig (c q) → c (q + 1) = 58 → ¬ badT R (numC c (q + 2) (fgs c (q + 2))) → ∀ m', (∀ a, a ≠ 28 → (a < 31 ∨ 35 ≤ a) → m' a = m a) → m' 28 3 = nI (q + 2 + fgs c (q + 2)) → DR m' 31 (addR R kd (c q - 48) (numC c (q + 2) (fgs c (q + 2)))) → Q (some (.int 1)) m' n) : sRun (scT L xs) (d + 4) yX7_readLasting cX7_readLasting 6 (some .boolean) [.ref 28, .ref W0, .int kd] m n Q := by
  have hc : sgA m W0 s = c := hc.symm
  refine y_run (own := "LoafFall$Reader") rfl (by decide +kernel) (Nat.le_of_ble_eq_true rfl) rfl ?_
  refine y_aload_n dX7_readLasting_0 rfl rfl ?_
  refine y_aload_n dX7_readLasting_1 rfl rfl ?_
  refine y_geti dX7_readLasting_2 gf_X7_32 sh_28 rfl ?_
  rw [hp]
  refine y_ivI1 dX7_readLasting_5 mv_X7_92 my_X10_isFigure (Or.inl rfl) hW.1 ?_
  refine c_X10_isFigure (i := q) hW hs hs2 rfl (by omega) (fun fg => ⟨_, rfl, ?_⟩) (fun fg => ⟨_, rfl, ?_⟩)
  · rw [hc] at fg
    refine y_if_ne (tgt := 13) dX7_readLasting_8 (by decide) (fun h8 => ?_) (fun h8 => absurd h8 (by decide))
    refine y_aload_n dX7_readLasting_13 rfl rfl ?_
    refine y_aload_n dX7_readLasting_14 rfl rfl ?_
    refine y_geti dX7_readLasting_15 gf_X7_32 sh_28 rfl ?_
    rw [hp]
    refine y_iconst (v := 1) dX7_readLasting_18 (by decide) ?_
    refine y_ivI2 dX7_readLasting_19 mv_X7_68 my_X10_numberFrom (Or.inl rfl) hW.1 ?_
    refine c_X10_numberFrom (i := q) (f := 1) hW hs hs2 rfl (by omega) rfl (by omega) ⟨_, rfl, ?_⟩
    rw [numA_C, hc, show numC c q 1 = c q - 48 from num1]
    refine y_ist6_3 dX7_readLasting_22 rfl ?_
    refine y_aload_n dX7_readLasting_23 rfl rfl ?_
    refine y_dup dX7_readLasting_24 rfl ?_
    refine y_geti dX7_readLasting_25 gf_X7_32 sh_28 rfl ?_
    rw [hp]
    refine y_iconst (v := 1) dX7_readLasting_28 (by decide) ?_
    refine y_iaddN (a := q) (b := 1) dX7_readLasting_29 rfl rfl ?_
    refine y_puti dX7_readLasting_30 pf_X7_32 sh_28 rfl rfl rfl ?_
    generalize hm1 : s_up m 28 (upd (m 28) 3 (nI (q + 1))) = m1
    have o1 : ∀ a, a ≠ 28 → m1 a = m a := fun a ha => by rw [← hm1, s_upN ha]
    have p1 : m1 28 3 = nI (q + 1) := by rw [← hm1, s_upS, updS]
    have hs1 : m1 W0 1 = nI s := by rw [o1 _ (by omega)]; exact hs
    have c1 : sgA m1 W0 s = c := by rw [← hc]; unfold sgA; rw [o1 _ (by omega)]
    refine y_aload_n dX7_readLasting_33 rfl rfl ?_
    refine y_aload_n dX7_readLasting_34 rfl rfl ?_
    refine y_geti dX7_readLasting_35 gf_X7_32 sh_28 rfl ?_
    rw [p1]
    refine y_ivI1 dX7_readLasting_38 mv_X7_40 my_X10_signAt (Or.inl rfl) hW.1 ?_
    refine c_X10_signAt (i := q + 1) hW hs1 hs2 rfl (by omega) ⟨_, rfl, ?_⟩
    rw [c1]
    refine y_bipush (v := 58) dX7_readLasting_41 (by decide) ?_
    refine y_icmp_eq (tgt := 48) dX7_readLasting_43 (by decide) (fun h43 => ?_) (fun h43 => ?_)
    · refine y_aload_n dX7_readLasting_48 rfl rfl ?_
      refine y_dup dX7_readLasting_49 rfl ?_
      refine y_geti dX7_readLasting_50 gf_X7_32 sh_28 rfl ?_
      rw [p1]
      refine y_iconst (v := 1) dX7_readLasting_53 (by decide) ?_
      refine y_iaddN (a := (q + 1)) (b := 1) dX7_readLasting_54 rfl rfl ?_
      refine y_puti dX7_readLasting_55 pf_X7_32 sh_28 rfl rfl rfl ?_
      generalize hm2 : s_up m1 28 (upd (m1 28) 3 (nI (q + 2))) = m2
      have o2 : ∀ a, a ≠ 28 → m2 a = m a := fun a ha => by rw [← hm2, s_upN ha]; exact o1 a ha
      have p2 : m2 28 3 = nI (q + 2) := by rw [← hm2, s_upS, updS]
      have hs2' : m2 W0 1 = nI s := by rw [o2 _ (by omega)]; exact hs
      have c2 : sgA m2 W0 s = c := by rw [← hc]; unfold sgA; rw [o2 _ (by omega)]
      obtain ⟨f, hf⟩ : ∃ f, f = fgs c (q + 2) := ⟨_, rfl⟩
      rw [← hf] at hQ3 hQ4
      have f2 : f ≤ 2 := by rw [hf]; exact fgs_le
      obtain ⟨v, hv⟩ : ∃ v, v = numC c (q + 2) f := ⟨_, rfl⟩
      rw [← hv] at hQ3 hQ4
      suffices hh : sV (scT L xs) (d + 3) "LoafFall$Reader" cX7_readLasting 6 (some .boolean) Q 66 [some (.ref 28), some (.ref W0), some (.int kd), some (.int (c q - 48)), none, none] [.int (nI f)] m2 n by
        refine y_aload_n dX7_readLasting_58 rfl rfl ?_
        refine y_aload_n dX7_readLasting_59 rfl rfl ?_
        refine y_geti dX7_readLasting_60 gf_X7_32 sh_28 rfl ?_
        rw [p2]
        refine y_ivI1 dX7_readLasting_63 mv_X7_65 my_X10_figuresFrom (Or.inl rfl) hW.1 ?_
        refine c_X10_figuresFrom (i := q + 2) hW hs2' hs2 rfl (by omega) (fun q1 => ⟨_, rfl, ?_⟩) (fun q1 q2 => ⟨_, rfl, ?_⟩) (fun q1 q2 => ⟨_, rfl, ?_⟩)
        · rw [c2] at q1
          rw [show f = 0 from hf.trans (fgs_0 q1)] at hh
          exact hh
        · rw [c2] at q1 q2
          rw [show f = 1 from hf.trans (fgs_1 q1 q2)] at hh
          exact hh
        · rw [c2] at q1 q2
          rw [show f = 2 from hf.trans (fgs_2 q1 q2)] at hh
          exact hh
      refine y_ist6_4 dX7_readLasting_66 rfl ?_
      refine y_aload_n dX7_readLasting_68 rfl rfl ?_
      refine y_aload_n dX7_readLasting_69 rfl rfl ?_
      refine y_geti dX7_readLasting_70 gf_X7_32 sh_28 rfl ?_
      rw [p2]
      refine y_iload dX7_readLasting_73 rfl ?_
      refine y_ivI2 dX7_readLasting_75 mv_X7_68 my_X10_numberFrom (Or.inl rfl) hW.1 ?_
      refine c_X10_numberFrom (i := q + 2) (f := f) hW hs2' hs2 rfl (by omega) rfl (by omega) ⟨_, rfl, ?_⟩
      rw [numA_C, c2, ← hv]
      refine y_ist6_5 dX7_readLasting_78 rfl ?_
      refine y_aload_n dX7_readLasting_80 rfl rfl ?_
      refine y_dup dX7_readLasting_81 rfl ?_
      refine y_geti dX7_readLasting_82 gf_X7_32 sh_28 rfl ?_
      rw [p2]
      refine y_iload dX7_readLasting_85 rfl ?_
      refine y_iaddN (a := (q + 2)) (b := f) dX7_readLasting_87 rfl rfl ?_
      refine y_puti dX7_readLasting_88 pf_X7_32 sh_28 rfl rfl rfl ?_
      generalize hm3 : s_up m2 28 (upd (m2 28) 3 (nI (q + 2 + f))) = m3
      have o3 : ∀ a, a ≠ 28 → m3 a = m a := fun a ha => by rw [← hm3, s_upN ha]; exact o2 a ha
      have p3 : m3 28 3 = nI (q + 2 + f) := by rw [← hm3, s_upS, updS]
      have hs3 : m3 W0 1 = nI s := by rw [o3 _ (by omega)]; exact hs
      have c3 : sgA m3 W0 s = c := by rw [← hc]; unfold sgA; rw [o3 _ (by omega)]
      refine y_iload dX7_readLasting_91 rfl ?_
      refine y_iconst (v := 1) dX7_readLasting_93 (by decide) ?_
      refine y_icmp_lt (tgt := 119) dX7_readLasting_94 (by decide) (fun h94 => ?_) (fun h94 => ?_)
      · refine y_iconst (v := 0) dX7_readLasting_119 (by decide) ?_
        refine y_ireturn dX7_readLasting_120 rfl rfl ?_
        refine hQ3 fg h43 ?_ m3 o3 p3
        first
          | exact Or.inl h94
          | exact Or.inr (Or.inl h101)
          | exact Or.inr (Or.inr (Int32.not_le.mp h116))
      · refine y_iload dX7_readLasting_97 rfl ?_
        refine y_bipush (v := 30) dX7_readLasting_99 (by decide) ?_
        refine y_icmp_gt (tgt := 119) dX7_readLasting_101 (by decide) (fun h101 => ?_) (fun h101 => ?_)
        · refine y_iconst (v := 0) dX7_readLasting_119 (by decide) ?_
          refine y_ireturn dX7_readLasting_120 rfl rfl ?_
          refine hQ3 fg h43 ?_ m3 o3 p3
          first
            | exact Or.inl h94
            | exact Or.inr (Or.inl h101)
            | exact Or.inr (Or.inr (Int32.not_le.mp h116))
        · refine y_aload_n dX7_readLasting_104 rfl rfl ?_
          refine y_getr dX7_readLasting_105 gf_X7_21 sh_28 rfl ?_
          refine y_ivI0 dX7_readLasting_108 mv_X7_96 my_X1_turnsInAll (Or.inl rfl) sh_31 ?_
          refine c_X1_turnsInAll (R := R) (c := cOf R) dg31 (DR_m hg (fun a h1 h2 => o3 a (by omega))) hr (by omega) ⟨_, rfl, ?_⟩
          refine y_iload dX7_readLasting_111 rfl ?_
          refine y_iadd dX7_readLasting_113 ?_
          refine y_bipush (v := 90) dX7_readLasting_114 (by decide) ?_
          refine y_icmp_le (tgt := 121) dX7_readLasting_116 (by decide) (fun h116 => ?_) (fun h116 => ?_)
          · refine y_aload_n dX7_readLasting_121 rfl rfl ?_
            refine y_getr dX7_readLasting_122 gf_X7_21 sh_28 rfl ?_
            refine y_iload_n dX7_readLasting_125 rfl rfl ?_
            refine y_iload_n dX7_readLasting_126 rfl rfl ?_
            refine y_iload dX7_readLasting_127 rfl ?_
            refine y_ivI3 dX7_readLasting_129 mv_X7_88 my_X1_add (Or.inl rfl) sh_31 ?_
            refine c_X1_add (s := cOf R) dg31 (by rw [o3 _ (by omega)]; exact hg.2.trans hr) (by omega) (fun z => absurd z (by omega)) (fun _ m4 a1 a2 a3 a4 a5 a6 a7 => ⟨_, rfl, ?_⟩)
            refine y_ireturn dX7_readLasting_132 rfl rfl ?_
            refine hQ4 fg h43 (fun z => z.elim h94 (fun z => z.elim h101 (fun z => absurd h116 (Int32.not_le.mpr z)))) m4 (fun a h1 h2 => by rw [a1 a (by omega)]; exact o3 a h1) (by rw [a1 _ (by omega)]; exact p3) ?_
            exact DR_add hg hr2 (fun i hi => by
              obtain ⟨b1, b2, b3⟩ := a2 i hi
              rw [o3 _ (by omega)] at b1
              rw [o3 _ (by omega)] at b2
              rw [o3 _ (by omega)] at b3
              exact ⟨b1, b2, b3⟩) a3 a4 a5 a6
          · refine y_iconst (v := 0) dX7_readLasting_119 (by decide) ?_
            refine y_ireturn dX7_readLasting_120 rfl rfl ?_
            refine hQ3 fg h43 ?_ m3 o3 p3
            first
              | exact Or.inl h94
              | exact Or.inr (Or.inl h101)
              | exact Or.inr (Or.inr (Int32.not_le.mp h116))
    · refine y_iconst (v := 0) dX7_readLasting_46 (by decide) ?_
      refine y_ireturn dX7_readLasting_47 rfl rfl ?_
      exact hQ2 fg h43 m1 o1 p1
  · rw [hc] at fg
    refine y_if_ne (tgt := 13) dX7_readLasting_8 (by decide) (fun h8 => absurd (by decide) h8) (fun h8 => ?_)
    refine y_iconst (v := 0) dX7_readLasting_11 (by decide) ?_
    refine y_ireturn dX7_readLasting_12 rfl rfl ?_
    exact hQ1 fg
set_option maxHeartbeats 1000000 in
theorem c_X7_readStep {L : Nat} {xs : Nat → Int32} {d : Nat} {m : sM} {n : sN} {Q : sQ} {W0 s p : Nat} {R c : Nat → Int32} (hW : isTx W0) (hWo : 122 ≤ W0) (hs : m W0 1 = nI s) (hs2 : s ≤ 80) (hc : c = sgA m W0 s) (hp : m 28 3 = nI p) (hp2 : p < 90) (hg : DR m 31 R) (hr : R 5 = nI (cOf R)) (hr2 : cOf R ≤ 10) (hQ1 : (ixS (c p) = 5 ∨ cOf R = 10) → Q (some (.int 0)) m n) (hQ5 : ¬ (ixS (c p) = 5 ∨ cOf R = 10) → 2 ≤ ixS (c p) → ∀ m', (∀ a, a ≠ 28 → (a < 31 ∨ 35 ≤ a) → m' a = m a) → m' 28 3 = nI (p + 1) → DR m' 31 (addR R (nI (1 + ixS (c p))) 0 0) → Q (some (.int 1)) m' n) (hQ2 : ¬ (ixS (c p) = 5 ∨ cOf R = 10) → ¬ 2 ≤ ixS (c p) → ¬ isFig (c (p + 1)) → ∀ m', (∀ a, a ≠ 28 → m' a = m a) → m' 28 3 = nI (p + 1) → Q (some (.int 0)) m' n) (hQ3 : ¬ (ixS (c p) = 5 ∨ cOf R = 10) → ¬ 2 ≤ ixS (c p) → isFig (c (p + 1)) → ¬ c (p + 2) = 58 → ∀ m', (∀ a, a ≠ 28 → m' a = m a) → m' 28 3 = nI (p + 2) → Q (some (.int 0)) m' n) (hQ4 : ¬ (ixS (c p) = 5 ∨ cOf R = 10) → ¬ 2 ≤ ixS (c p) → isFig (c (p + 1)) → c (p + 2) = 58 → badT R (numC c (p + 3) (fgs c (p + 3))) → ∀ m', (∀ a, a ≠ 28 → m' a = m a) → m' 28 3 = nI (p + 3 + fgs c (p + 3)) → Q (some (.int 0)) m' n) (hQ6 : ¬ (ixS (c p) = 5 ∨ cOf R = 10) → ¬ 2 ≤ ixS (c p) → isFig (c (p + 1)) → c (p + 2) = 58 → ¬ badT R (numC c (p + 3) (fgs c (p + 3))) → ∀ m', (∀ a, a ≠ 28 → (a < 31 ∨ 35 ≤ a) → m' a = m a) → m' 28 3 = nI (p + 3 + fgs c (p + 3)) → DR m' 31 (addR R (nI (1 + ixS (c p))) (c (p + 1) - 48) (numC c (p + 3) (fgs c (p + 3)))) → Q (some (.int 1)) m' n) : sRun (scT L xs) (d + 5) yX7_readStep cX7_readStep 3 (some .boolean) [.ref 28, .ref W0] m n Q := by
  have hc : sgA m W0 s = c := hc.symm
  refine y_run (own := "LoafFall$Reader") rfl (by decide +kernel) (Nat.le_of_ble_eq_true rfl) rfl ?_
  refine y_iconst (v := 1) dX7_readStep_0 (by decide) ?_
  refine y_aload_n dX7_readStep_1 rfl rfl ?_
  refine y_aload_n dX7_readStep_2 rfl rfl ?_
  refine y_geti dX7_readStep_3 gf_X7_32 sh_28 rfl ?_
  rw [hp]
  refine y_ivI1 dX7_readStep_6 mv_X7_40 my_X10_signAt (Or.inl rfl) hW.1 ?_
  refine c_X10_signAt (i := p) hW hs hs2 rfl (by omega) ⟨_, rfl, ?_⟩
  rw [hc]
  refine y_gets dX7_readStep_9 gs_X7_81 ?_
  refine y_isI2 dX7_readStep_12 ms_X7_61 my_X7_indexOf (Or.inl rfl) ?_
  refine c_X7_indexOfS (fun a5 => ⟨_, rfl, ?_⟩) (fun a5 => ⟨_, rfl, ?_⟩)
  · obtain ⟨a, ha⟩ : ∃ a, a = ixS (c p) := ⟨_, rfl⟩
    rw [← ha] at a5 hQ1 hQ2 hQ3 hQ4 hQ5 hQ6 ⊢
    refine y_iaddN (a := 1) (b := a) dX7_readStep_15 rfl rfl ?_
    refine y_ist3_2 dX7_readStep_16 rfl ?_
    refine y_iload_n dX7_readStep_17 rfl rfl ?_
    refine y_iconst (v := 1) dX7_readStep_18 (by decide) ?_
    refine y_icmp_lt (tgt := 34) dX7_readStep_19 (by decide) (fun h19 => absurd h19 (nI_nlt (b := 1) (by omega) (by omega))) (fun h19 => ?_)
    refine y_aload_n dX7_readStep_22 rfl rfl ?_
    refine y_getr dX7_readStep_23 gf_X7_21 sh_28 rfl ?_
    refine y_geti dX7_readStep_26 gf_X7_52 sh_31 rfl ?_
    refine y_bipush (v := 10) dX7_readStep_29 (by decide) ?_
    rw [show m 31 3 = nI (cOf R) from hg.2.trans hr]
    refine y_icmp_lt (tgt := 36) dX7_readStep_31 (by decide) (fun h31 => ?_) (fun h31 => ?_)
    · have h10 : cOf R < 10 := (nI_ltI (b := 10) (by omega) (by decide)).mp h31
      have hn : ¬ (a = 5 ∨ cOf R = 10) := by omega
      refine y_aload_n dX7_readStep_36 rfl rfl ?_
      refine y_dup dX7_readStep_37 rfl ?_
      refine y_geti dX7_readStep_38 gf_X7_32 sh_28 rfl ?_
      rw [hp]
      refine y_iconst (v := 1) dX7_readStep_41 (by decide) ?_
      refine y_iaddN (a := p) (b := 1) dX7_readStep_42 rfl rfl ?_
      refine y_puti dX7_readStep_43 pf_X7_32 sh_28 rfl rfl rfl ?_
      generalize hm1 : s_up m 28 (upd (m 28) 3 (nI (p + 1))) = m1
      have o1 : ∀ a, a ≠ 28 → m1 a = m a := fun a ha => by rw [← hm1, s_upN ha]
      have p1 : m1 28 3 = nI (p + 1) := by rw [← hm1, s_upS, updS]
      have hs1 : m1 W0 1 = nI s := by rw [o1 _ (by omega)]; exact hs
      have c1 : sgA m1 W0 s = c := by rw [← hc]; unfold sgA; rw [o1 _ (by omega)]
      refine y_iload_n dX7_readStep_46 rfl rfl ?_
      refine y_iconst (v := 1) dX7_readStep_47 (by decide) ?_
      refine y_icmp_eq (tgt := 56) dX7_readStep_48 (by decide) (fun h48 => ?_) (fun h48 => ?_)
      · refine y_aload_n dX7_readStep_56 rfl rfl ?_
        refine y_aload_n dX7_readStep_57 rfl rfl ?_
        refine y_iload_n dX7_readStep_58 rfl rfl ?_
        have l2 : ¬ 2 ≤ a := by
          first
            | (have := (nI_eq (b := 1) (by omega) (by decide)).mp h48; omega)
            | (have := (nI_eq (b := 2) (by omega) (by decide)).mp h53; omega)
        refine y_ivI2 dX7_readStep_59 mv_X7_84 my_X7_readLasting (Or.inl rfl) sh_28 ?_
        refine c_X7_readLasting (q := p + 1) (R := R) (c := c) hW hWo hs1 hs2 c1.symm p1 (by omega) (DR_m hg (fun a h1 h2 => o1 a (by omega))) hr h10 (fun f => ⟨_, rfl, ?_⟩) (fun f e m2 o2 p2 => ⟨_, rfl, ?_⟩) (fun f e b m2 o2 p2 => ⟨_, rfl, ?_⟩) (fun f e b m2 o2 p2 d2 => ⟨_, rfl, ?_⟩)
        · refine y_goto (tgt := 75) dX7_readStep_62 (by decide) ?_
          refine y_ireturn dX7_readStep_75 rfl rfl ?_
          first
            | exact hQ2 hn l2 f m1 o1 p1
            | exact hQ3 hn l2 f e m2 (fun a ha => (o2 a ha).trans (o1 a ha)) p2
            | exact hQ4 hn l2 f e b m2 (fun a ha => (o2 a ha).trans (o1 a ha)) p2
            | exact hQ6 hn l2 f e b m2 (fun a h1 h2 => (o2 a h1 h2).trans (o1 a h1)) p2 d2
            | exact hQ5 hn l3 m4 (fun a h1 h2 => by rw [b1 a (by omega)]; exact o1 a h1) (by rw [b1 _ (by omega)]; exact p1) dD
        · refine y_goto (tgt := 75) dX7_readStep_62 (by decide) ?_
          refine y_ireturn dX7_readStep_75 rfl rfl ?_
          first
            | exact hQ2 hn l2 f m1 o1 p1
            | exact hQ3 hn l2 f e m2 (fun a ha => (o2 a ha).trans (o1 a ha)) p2
            | exact hQ4 hn l2 f e b m2 (fun a ha => (o2 a ha).trans (o1 a ha)) p2
            | exact hQ6 hn l2 f e b m2 (fun a h1 h2 => (o2 a h1 h2).trans (o1 a h1)) p2 d2
            | exact hQ5 hn l3 m4 (fun a h1 h2 => by rw [b1 a (by omega)]; exact o1 a h1) (by rw [b1 _ (by omega)]; exact p1) dD
        · refine y_goto (tgt := 75) dX7_readStep_62 (by decide) ?_
          refine y_ireturn dX7_readStep_75 rfl rfl ?_
          first
            | exact hQ2 hn l2 f m1 o1 p1
            | exact hQ3 hn l2 f e m2 (fun a ha => (o2 a ha).trans (o1 a ha)) p2
            | exact hQ4 hn l2 f e b m2 (fun a ha => (o2 a ha).trans (o1 a ha)) p2
            | exact hQ6 hn l2 f e b m2 (fun a h1 h2 => (o2 a h1 h2).trans (o1 a h1)) p2 d2
            | exact hQ5 hn l3 m4 (fun a h1 h2 => by rw [b1 a (by omega)]; exact o1 a h1) (by rw [b1 _ (by omega)]; exact p1) dD
        · refine y_goto (tgt := 75) dX7_readStep_62 (by decide) ?_
          refine y_ireturn dX7_readStep_75 rfl rfl ?_
          first
            | exact hQ2 hn l2 f m1 o1 p1
            | exact hQ3 hn l2 f e m2 (fun a ha => (o2 a ha).trans (o1 a ha)) p2
            | exact hQ4 hn l2 f e b m2 (fun a ha => (o2 a ha).trans (o1 a ha)) p2
            | exact hQ6 hn l2 f e b m2 (fun a h1 h2 => (o2 a h1 h2).trans (o1 a h1)) p2 d2
            | exact hQ5 hn l3 m4 (fun a h1 h2 => by rw [b1 a (by omega)]; exact o1 a h1) (by rw [b1 _ (by omega)]; exact p1) dD
      · have a1 : ¬ a = 0 := fun e => h48 (by rw [e]; rfl)
        refine y_iload_n dX7_readStep_51 rfl rfl ?_
        refine y_iconst (v := 2) dX7_readStep_52 (by decide) ?_
        refine y_icmp_ne (tgt := 65) dX7_readStep_53 (by decide) (fun h53 => ?_) (fun h53 => ?_)
        · have l3 : 2 ≤ a := by
            have : ¬ a = 1 := fun e => h53 (by rw [e]; rfl)
            omega
          refine y_aload_n dX7_readStep_65 rfl rfl ?_
          refine y_getr dX7_readStep_66 gf_X7_21 sh_28 rfl ?_
          refine y_iload_n dX7_readStep_69 rfl rfl ?_
          refine y_iconst (v := 0) dX7_readStep_70 (by decide) ?_
          refine y_iconst (v := 0) dX7_readStep_71 (by decide) ?_
          refine y_ivI3 dX7_readStep_72 mv_X7_88 my_X1_add (Or.inl rfl) sh_31 ?_
          refine c_X1_add (s := cOf R) dg31 (by rw [o1 _ (by omega)]; exact hg.2.trans hr) (by omega) (fun z => absurd z (by omega)) (fun _ m4 b1 b2 b3 b4 b5 b6 b7 => ⟨_, rfl, ?_⟩)
          have dD : DR m4 31 (addR R (nI (1 + a)) 0 0) := DR_add hg h10 (fun i hi => by
            obtain ⟨e1, e2, e3⟩ := b2 i hi
            rw [o1 _ (by omega)] at e1
            rw [o1 _ (by omega)] at e2
            rw [o1 _ (by omega)] at e3
            exact ⟨e1, e2, e3⟩) b3 b4 b5 b6
          refine y_ireturn dX7_readStep_75 rfl rfl ?_
          first
            | exact hQ2 hn l2 f m1 o1 p1
            | exact hQ3 hn l2 f e m2 (fun a ha => (o2 a ha).trans (o1 a ha)) p2
            | exact hQ4 hn l2 f e b m2 (fun a ha => (o2 a ha).trans (o1 a ha)) p2
            | exact hQ6 hn l2 f e b m2 (fun a h1 h2 => (o2 a h1 h2).trans (o1 a h1)) p2 d2
            | exact hQ5 hn l3 m4 (fun a h1 h2 => by rw [b1 a (by omega)]; exact o1 a h1) (by rw [b1 _ (by omega)]; exact p1) dD
        · refine y_aload_n dX7_readStep_56 rfl rfl ?_
          refine y_aload_n dX7_readStep_57 rfl rfl ?_
          refine y_iload_n dX7_readStep_58 rfl rfl ?_
          have l2 : ¬ 2 ≤ a := by
            first
              | (have := (nI_eq (b := 1) (by omega) (by decide)).mp h48; omega)
              | (have := (nI_eq (b := 2) (by omega) (by decide)).mp h53; omega)
          refine y_ivI2 dX7_readStep_59 mv_X7_84 my_X7_readLasting (Or.inl rfl) sh_28 ?_
          refine c_X7_readLasting (q := p + 1) (R := R) (c := c) hW hWo hs1 hs2 c1.symm p1 (by omega) (DR_m hg (fun a h1 h2 => o1 a (by omega))) hr h10 (fun f => ⟨_, rfl, ?_⟩) (fun f e m2 o2 p2 => ⟨_, rfl, ?_⟩) (fun f e b m2 o2 p2 => ⟨_, rfl, ?_⟩) (fun f e b m2 o2 p2 d2 => ⟨_, rfl, ?_⟩)
          · refine y_goto (tgt := 75) dX7_readStep_62 (by decide) ?_
            refine y_ireturn dX7_readStep_75 rfl rfl ?_
            first
              | exact hQ2 hn l2 f m1 o1 p1
              | exact hQ3 hn l2 f e m2 (fun a ha => (o2 a ha).trans (o1 a ha)) p2
              | exact hQ4 hn l2 f e b m2 (fun a ha => (o2 a ha).trans (o1 a ha)) p2
              | exact hQ6 hn l2 f e b m2 (fun a h1 h2 => (o2 a h1 h2).trans (o1 a h1)) p2 d2
              | exact hQ5 hn l3 m4 (fun a h1 h2 => by rw [b1 a (by omega)]; exact o1 a h1) (by rw [b1 _ (by omega)]; exact p1) dD
          · refine y_goto (tgt := 75) dX7_readStep_62 (by decide) ?_
            refine y_ireturn dX7_readStep_75 rfl rfl ?_
            first
              | exact hQ2 hn l2 f m1 o1 p1
              | exact hQ3 hn l2 f e m2 (fun a ha => (o2 a ha).trans (o1 a ha)) p2
              | exact hQ4 hn l2 f e b m2 (fun a ha => (o2 a ha).trans (o1 a ha)) p2
              | exact hQ6 hn l2 f e b m2 (fun a h1 h2 => (o2 a h1 h2).trans (o1 a h1)) p2 d2
              | exact hQ5 hn l3 m4 (fun a h1 h2 => by rw [b1 a (by omega)]; exact o1 a h1) (by rw [b1 _ (by omega)]; exact p1) dD
          · refine y_goto (tgt := 75) dX7_readStep_62 (by decide) ?_
            refine y_ireturn dX7_readStep_75 rfl rfl ?_
            first
              | exact hQ2 hn l2 f m1 o1 p1
              | exact hQ3 hn l2 f e m2 (fun a ha => (o2 a ha).trans (o1 a ha)) p2
              | exact hQ4 hn l2 f e b m2 (fun a ha => (o2 a ha).trans (o1 a ha)) p2
              | exact hQ6 hn l2 f e b m2 (fun a h1 h2 => (o2 a h1 h2).trans (o1 a h1)) p2 d2
              | exact hQ5 hn l3 m4 (fun a h1 h2 => by rw [b1 a (by omega)]; exact o1 a h1) (by rw [b1 _ (by omega)]; exact p1) dD
          · refine y_goto (tgt := 75) dX7_readStep_62 (by decide) ?_
            refine y_ireturn dX7_readStep_75 rfl rfl ?_
            first
              | exact hQ2 hn l2 f m1 o1 p1
              | exact hQ3 hn l2 f e m2 (fun a ha => (o2 a ha).trans (o1 a ha)) p2
              | exact hQ4 hn l2 f e b m2 (fun a ha => (o2 a ha).trans (o1 a ha)) p2
              | exact hQ6 hn l2 f e b m2 (fun a h1 h2 => (o2 a h1 h2).trans (o1 a h1)) p2 d2
              | exact hQ5 hn l3 m4 (fun a h1 h2 => by rw [b1 a (by omega)]; exact o1 a h1) (by rw [b1 _ (by omega)]; exact p1) dD
    · refine y_iconst (v := 0) dX7_readStep_34 (by decide) ?_
      refine y_ireturn dX7_readStep_35 rfl rfl ?_
      exact hQ1 (Or.inr (by have := Int32.not_lt.mp h31; have := (nI_leI (a := 10) (by decide) (by omega)).mp this; omega))
  · refine y_iadd dX7_readStep_15 ?_
    refine y_ist3_2 dX7_readStep_16 rfl ?_
    refine y_iload_n dX7_readStep_17 rfl rfl ?_
    refine y_iconst (v := 1) dX7_readStep_18 (by decide) ?_
    refine y_icmp_lt (tgt := 34) dX7_readStep_19 (by decide) (fun h19 => ?_) (fun h19 => absurd (by decide) h19)
    refine y_iconst (v := 0) dX7_readStep_34 (by decide) ?_
    refine y_ireturn dX7_readStep_35 rfl rfl ?_
    exact hQ1 (Or.inl a5)
theorem d_zero : dOK (fun _ => 0) := ⟨rfl, Nat.zero_le _, fun i hi => absurd hi (Nat.not_lt_zero i), fun i hi => absurd hi (Nat.not_lt_zero i), Nat.zero_le _⟩
set_option maxHeartbeats 1000000 in
theorem c_X7_readDoing {L : Nat} {xs : Nat → Int32} {d : Nat} {m : sM} {n : sN} {Q : sQ} {W0 s : Nat} (hW : isTx W0) (hWo : 122 ≤ W0) (hs : m W0 1 = nI s) (hs2 : s ≤ 80) (hQ : ∀ m', (∀ a, a < 28 ∨ 35 ≤ a → m' a = m a) → ((rdD (sgA m W0 s) s 80 0 (fun _ => 0)).1 = -9 → DR m' 31 (rdD (sgA m W0 s) s 80 0 (fun _ => 0)).2 ∧ m' 31 4 = 1) → Q (some (.int (rdD (sgA m W0 s) s 80 0 (fun _ => 0)).1)) m' n) : sRun (scT L xs) (d + 6) yX7_readDoing cX7_readDoing 3 (some .int) [.ref 28, .ref W0] m n Q := by
  obtain ⟨c, hc⟩ : ∃ c, c = sgA m W0 s := ⟨_, rfl⟩
  rw [← hc] at hQ
  refine y_run (own := "LoafFall$Reader") rfl (by decide +kernel) (Nat.le_of_ble_eq_true rfl) rfl ?_
  refine y_aload_n dX7_readDoing_0 rfl rfl ?_
  refine y_getr dX7_readDoing_1 gf_X7_21 sh_28 rfl ?_
  refine y_iconst (v := 0) dX7_readDoing_4 (by decide) ?_
  refine y_puti dX7_readDoing_5 pf_X7_52 sh_31 rfl rfl rfl ?_
  refine y_aload_n dX7_readDoing_8 rfl rfl ?_
  refine y_iconst (v := 0) dX7_readDoing_9 (by decide) ?_
  refine y_puti dX7_readDoing_10 pf_X7_32 sh_28 rfl rfl rfl ?_
  refine y_iconst (v := 0) dX7_readDoing_13 (by decide) ?_
  refine y_ist3_2 dX7_readDoing_14 rfl ?_
  refine cnt (P := fun i => ∀ m' p R, (∀ a, a < 28 ∨ 35 ≤ a → m' a = m a) → m' 28 3 = nI p → p < 90 → DR m' 31 R → dOK R → (∀ m5, (∀ a, a < 28 ∨ 35 ≤ a → m5 a = m a) → ((rdD c s (80 - i) p R).1 = -9 → DR m5 31 (rdD c s (80 - i) p R).2 ∧ m5 31 4 = 1) → Q (some (.int (rdD c s (80 - i) p R).1)) m5 n) → sV (scT L xs) (d + 5) "LoafFall$Reader" cX7_readDoing 3 (some .int) Q 15 [some (.ref 28), some (.ref W0), some (.int (nI i))] [] m' n) 80 ?_ ?_ 0 (by omega) _ 0 (fun _ => 0) (fun a ha => by rw [s_upN (by omega), s_upN (by omega)]) (by rw [s_upS, updS]; rfl) (by omega) ⟨fun i hi => absurd hi (Nat.not_lt_zero i), by rw [s_upN (by omega), s_upS, updS]⟩ d_zero hQ
  · intro m' p R v1 v2 v3 v4 v5 q
    have sz : m' W0 1 = nI s := by rw [v1 _ (by omega)]; exact hs
    have c1 : c = sgA m' W0 s := by rw [hc]; unfold sgA; rw [v1 _ (by omega)]
    refine y_iload_n dX7_readDoing_15 rfl rfl ?_
    refine y_bipush (v := 80) dX7_readDoing_16 (by decide) ?_
    refine y_icmp_ge (tgt := 77) dX7_readDoing_18 (by decide) (fun h18 => ?_) (fun h18 => absurd (nI_le (a := 80) (b := 80) (Nat.le_refl _) (by decide)) h18)
    first
      | (have hle : s ≤ p := (nI_leI (by omega) (by omega)).mp h29
         rw [if_pos hle] at st
         rw [st] at q)
      | (rw [show rdD c s (80 - 80) p R = (-9, R) from rfl] at q)
    refine y_aload_n dX7_readDoing_77 rfl rfl ?_
    refine y_getr dX7_readDoing_78 gf_X7_21 sh_28 rfl ?_
    refine y_iconst (v := 1) dX7_readDoing_81 (by decide) ?_
    refine y_puti dX7_readDoing_82 pf_X7_56 sh_31 rfl rfl rfl ?_
    refine y_bipush (v := -9) dX7_readDoing_85 (by decide) ?_
    refine y_ireturn dX7_readDoing_87 rfl rfl ?_
    refine q _ (fun a ha => by rw [s_upN (by omega)]; exact v1 a ha) (fun _ => ⟨⟨fun i hi => ?_, ?_⟩, ?_⟩)
    · rw [s_upN (by omega), s_upN (by omega), s_upN (by omega)]; exact v4.1 i hi
    · rw [s_upS, updN (by omega)]; exact v4.2
    · rw [s_upS, updS]
  · intro i hk hP
    intro m' p R v1 v2 v3 v4 v5 q
    have sz : m' W0 1 = nI s := by rw [v1 _ (by omega)]; exact hs
    have c1 : c = sgA m' W0 s := by rw [hc]; unfold sgA; rw [v1 _ (by omega)]
    have e80 : 80 - i = (80 - (i + 1)) + 1 := by omega
    rw [e80] at q
    have st := rdD_S (c := c) (s := s) (n := 80 - (i + 1)) (p := p) (R := R)
    refine y_iload_n dX7_readDoing_15 rfl rfl ?_
    refine y_bipush (v := 80) dX7_readDoing_16 (by decide) ?_
    refine y_icmp_ge (tgt := 77) dX7_readDoing_18 (by decide) (fun h18 => absurd h18 (nI_ge (a := i) (b := 80) hk (by decide))) (fun h18 => ?_)
    refine y_aload_n dX7_readDoing_21 rfl rfl ?_
    refine y_geti dX7_readDoing_22 gf_X7_32 sh_28 rfl ?_
    rw [v2]
    refine y_aload_n dX7_readDoing_25 rfl rfl ?_
    refine y_geti dX7_readDoing_26 gf_X7_35 hW.1 rfl ?_
    rw [sz]
    refine y_icmp_ge (tgt := 77) dX7_readDoing_29 (by decide) (fun h29 => ?_) (fun h29 => ?_)
    · first
        | (have hle : s ≤ p := (nI_leI (by omega) (by omega)).mp h29
           rw [if_pos hle] at st
           rw [st] at q)
        | (rw [show rdD c s (80 - 80) p R = (-9, R) from rfl] at q)
      refine y_aload_n dX7_readDoing_77 rfl rfl ?_
      refine y_getr dX7_readDoing_78 gf_X7_21 sh_28 rfl ?_
      refine y_iconst (v := 1) dX7_readDoing_81 (by decide) ?_
      refine y_puti dX7_readDoing_82 pf_X7_56 sh_31 rfl rfl rfl ?_
      refine y_bipush (v := -9) dX7_readDoing_85 (by decide) ?_
      refine y_ireturn dX7_readDoing_87 rfl rfl ?_
      refine q _ (fun a ha => by rw [s_upN (by omega)]; exact v1 a ha) (fun _ => ⟨⟨fun i hi => ?_, ?_⟩, ?_⟩)
      · rw [s_upN (by omega), s_upN (by omega), s_upN (by omega)]; exact v4.1 i hi
      · rw [s_upS, updN (by omega)]; exact v4.2
      · rw [s_upS, updS]
    · have hlt : ¬ s ≤ p := fun z => h29 (nI_le z (by omega))
      rw [if_neg hlt] at st
      refine y_aload_n dX7_readDoing_32 rfl rfl ?_
      refine y_aload_n dX7_readDoing_33 rfl rfl ?_
      refine y_geti dX7_readDoing_34 gf_X7_32 sh_28 rfl ?_
      rw [v2]
      refine y_ivI1 dX7_readDoing_37 mv_X7_40 my_X10_signAt (Or.inl rfl) hW.1 ?_
      refine c_X10_signAt (i := p) hW sz hs2 rfl (by omega) ⟨_, rfl, ?_⟩
      rw [← c1]
      refine y_bipush (v := 32) dX7_readDoing_40 (by decide) ?_
      refine y_icmp_ne (tgt := 58) dX7_readDoing_42 (by decide) (fun h42 => ?_) (fun h42 => ?_)
      · rw [if_neg h42] at st
        refine y_aload_n dX7_readDoing_58 rfl rfl ?_
        refine y_aload_n dX7_readDoing_59 rfl rfl ?_
        refine y_ivI1 dX7_readDoing_60 mv_X7_53 my_X7_readStep (Or.inl rfl) sh_28 ?_
        refine c_X7_readStep (R := R) (c := c) (p := p) (s := s) hW hWo sz hs2 c1 v2 (by omega) v4 v5.1 v5.2.1 (fun z1 => ⟨_, rfl, ?_⟩) (fun z1 z2 m5 w1 w2 w3 => ⟨_, rfl, ?_⟩) (fun z1 z2 z3 m5 w1 w2 => ⟨_, rfl, ?_⟩) (fun z1 z2 z3 z4 m5 w1 w2 => ⟨_, rfl, ?_⟩) (fun z1 z2 z3 z4 z5 m5 w1 w2 => ⟨_, rfl, ?_⟩) (fun z1 z2 z3 z4 z5 m5 w1 w2 w3 => ⟨_, rfl, ?_⟩)
        · refine y_if_ne (tgt := 71) dX7_readDoing_63 (by decide) (fun h63 => absurd (by decide) h63) (fun h63 => ?_)
          refine y_aload_n dX7_readDoing_66 rfl rfl ?_
          refine y_geti dX7_readDoing_67 gf_X7_32 sh_28 rfl ?_
          first | rw [w2] | rw [v2]
          refine y_ireturn dX7_readDoing_70 rfl rfl ?_
          first
            | (rw [if_neg z1, if_neg z2, if_pos z3, if_pos z4, if_pos z5] at st
               rw [st] at q
               exact q m5 (fun a ha => by rw [w1 a (by omega)]; exact v1 a ha) (fun e => absurd e (nI_n9' (by have := fgs_le (c := c) (q := p + 3); omega))))
            | (rw [if_neg z1, if_neg z2, if_pos z3, if_neg z4] at st
               rw [st] at q
               exact q m5 (fun a ha => by rw [w1 a (by omega)]; exact v1 a ha) (fun e => absurd e (nI_n9' (by have := fgs_le (c := c) (q := p + 3); omega))))
            | (rw [if_neg z1, if_neg z2, if_neg z3] at st
               rw [st] at q
               exact q m5 (fun a ha => by rw [w1 a (by omega)]; exact v1 a ha) (fun e => absurd e (nI_n9' (by have := fgs_le (c := c) (q := p + 3); omega))))
            | (rw [if_pos z1] at st
               rw [st] at q
               exact q m' v1 (fun e => absurd e (nI_n9' (by have := fgs_le (c := c) (q := p + 3); omega))))
        · refine y_if_ne (tgt := 71) dX7_readDoing_63 (by decide) (fun h63 => ?_) (fun h63 => absurd h63 (by decide))
          refine y_iinc3_2 dX7_readDoing_71 (nI_1 _) rfl ?_
          refine y_goto (tgt := 15) dX7_readDoing_74 (by decide) ?_
          first
            | (rw [if_neg z1, if_neg z2, if_pos z3, if_pos z4, if_neg z5] at st
               rw [st] at q
               exact hP m5 _ _ (fun a ha => by rw [w1 a (by omega) (by omega)]; exact v1 a ha) w2 (by have := fgs_le (c := c) (q := p + 3); omega) w3 (d_add v5 (by have := v5.2.1; omega) (Or.inr ⟨kd_l _ z2, fig_n z3, badT_n v5 z5⟩)) q)
            | (rw [if_neg z1, if_pos z2] at st
               rw [st] at q
               exact hP m5 _ _ (fun a ha => by rw [w1 a (by omega) (by omega)]; exact v1 a ha) w2 (by omega) w3 (d_add v5 (by have := v5.2.1; omega) (Or.inl ⟨kd_o _ z2 (by have := ixS_le (c p); omega), rfl⟩)) q)
            | exact hP _ (p + 1) R (fun a ha => by rw [s_upN (by omega)]; exact v1 a ha) (by rw [s_upS, updS]) (by omega) (DR_m v4 (fun a h1 h2 => s_upN (by omega))) v5 q
        · refine y_if_ne (tgt := 71) dX7_readDoing_63 (by decide) (fun h63 => absurd (by decide) h63) (fun h63 => ?_)
          refine y_aload_n dX7_readDoing_66 rfl rfl ?_
          refine y_geti dX7_readDoing_67 gf_X7_32 sh_28 rfl ?_
          first | rw [w2] | rw [v2]
          refine y_ireturn dX7_readDoing_70 rfl rfl ?_
          first
            | (rw [if_neg z1, if_neg z2, if_pos z3, if_pos z4, if_pos z5] at st
               rw [st] at q
               exact q m5 (fun a ha => by rw [w1 a (by omega)]; exact v1 a ha) (fun e => absurd e (nI_n9' (by have := fgs_le (c := c) (q := p + 3); omega))))
            | (rw [if_neg z1, if_neg z2, if_pos z3, if_neg z4] at st
               rw [st] at q
               exact q m5 (fun a ha => by rw [w1 a (by omega)]; exact v1 a ha) (fun e => absurd e (nI_n9' (by have := fgs_le (c := c) (q := p + 3); omega))))
            | (rw [if_neg z1, if_neg z2, if_neg z3] at st
               rw [st] at q
               exact q m5 (fun a ha => by rw [w1 a (by omega)]; exact v1 a ha) (fun e => absurd e (nI_n9' (by have := fgs_le (c := c) (q := p + 3); omega))))
            | (rw [if_pos z1] at st
               rw [st] at q
               exact q m' v1 (fun e => absurd e (nI_n9' (by have := fgs_le (c := c) (q := p + 3); omega))))
        · refine y_if_ne (tgt := 71) dX7_readDoing_63 (by decide) (fun h63 => absurd (by decide) h63) (fun h63 => ?_)
          refine y_aload_n dX7_readDoing_66 rfl rfl ?_
          refine y_geti dX7_readDoing_67 gf_X7_32 sh_28 rfl ?_
          first | rw [w2] | rw [v2]
          refine y_ireturn dX7_readDoing_70 rfl rfl ?_
          first
            | (rw [if_neg z1, if_neg z2, if_pos z3, if_pos z4, if_pos z5] at st
               rw [st] at q
               exact q m5 (fun a ha => by rw [w1 a (by omega)]; exact v1 a ha) (fun e => absurd e (nI_n9' (by have := fgs_le (c := c) (q := p + 3); omega))))
            | (rw [if_neg z1, if_neg z2, if_pos z3, if_neg z4] at st
               rw [st] at q
               exact q m5 (fun a ha => by rw [w1 a (by omega)]; exact v1 a ha) (fun e => absurd e (nI_n9' (by have := fgs_le (c := c) (q := p + 3); omega))))
            | (rw [if_neg z1, if_neg z2, if_neg z3] at st
               rw [st] at q
               exact q m5 (fun a ha => by rw [w1 a (by omega)]; exact v1 a ha) (fun e => absurd e (nI_n9' (by have := fgs_le (c := c) (q := p + 3); omega))))
            | (rw [if_pos z1] at st
               rw [st] at q
               exact q m' v1 (fun e => absurd e (nI_n9' (by have := fgs_le (c := c) (q := p + 3); omega))))
        · refine y_if_ne (tgt := 71) dX7_readDoing_63 (by decide) (fun h63 => absurd (by decide) h63) (fun h63 => ?_)
          refine y_aload_n dX7_readDoing_66 rfl rfl ?_
          refine y_geti dX7_readDoing_67 gf_X7_32 sh_28 rfl ?_
          first | rw [w2] | rw [v2]
          refine y_ireturn dX7_readDoing_70 rfl rfl ?_
          first
            | (rw [if_neg z1, if_neg z2, if_pos z3, if_pos z4, if_pos z5] at st
               rw [st] at q
               exact q m5 (fun a ha => by rw [w1 a (by omega)]; exact v1 a ha) (fun e => absurd e (nI_n9' (by have := fgs_le (c := c) (q := p + 3); omega))))
            | (rw [if_neg z1, if_neg z2, if_pos z3, if_neg z4] at st
               rw [st] at q
               exact q m5 (fun a ha => by rw [w1 a (by omega)]; exact v1 a ha) (fun e => absurd e (nI_n9' (by have := fgs_le (c := c) (q := p + 3); omega))))
            | (rw [if_neg z1, if_neg z2, if_neg z3] at st
               rw [st] at q
               exact q m5 (fun a ha => by rw [w1 a (by omega)]; exact v1 a ha) (fun e => absurd e (nI_n9' (by have := fgs_le (c := c) (q := p + 3); omega))))
            | (rw [if_pos z1] at st
               rw [st] at q
               exact q m' v1 (fun e => absurd e (nI_n9' (by have := fgs_le (c := c) (q := p + 3); omega))))
        · refine y_if_ne (tgt := 71) dX7_readDoing_63 (by decide) (fun h63 => ?_) (fun h63 => absurd h63 (by decide))
          refine y_iinc3_2 dX7_readDoing_71 (nI_1 _) rfl ?_
          refine y_goto (tgt := 15) dX7_readDoing_74 (by decide) ?_
          first
            | (rw [if_neg z1, if_neg z2, if_pos z3, if_pos z4, if_neg z5] at st
               rw [st] at q
               exact hP m5 _ _ (fun a ha => by rw [w1 a (by omega) (by omega)]; exact v1 a ha) w2 (by have := fgs_le (c := c) (q := p + 3); omega) w3 (d_add v5 (by have := v5.2.1; omega) (Or.inr ⟨kd_l _ z2, fig_n z3, badT_n v5 z5⟩)) q)
            | (rw [if_neg z1, if_pos z2] at st
               rw [st] at q
               exact hP m5 _ _ (fun a ha => by rw [w1 a (by omega) (by omega)]; exact v1 a ha) w2 (by omega) w3 (d_add v5 (by have := v5.2.1; omega) (Or.inl ⟨kd_o _ z2 (by have := ixS_le (c p); omega), rfl⟩)) q)
            | exact hP _ (p + 1) R (fun a ha => by rw [s_upN (by omega)]; exact v1 a ha) (by rw [s_upS, updS]) (by omega) (DR_m v4 (fun a h1 h2 => s_upN (by omega))) v5 q
      · rw [if_pos h42] at st
        rw [st] at q
        refine y_aload_n dX7_readDoing_45 rfl rfl ?_
        refine y_dup dX7_readDoing_46 rfl ?_
        refine y_geti dX7_readDoing_47 gf_X7_32 sh_28 rfl ?_
        rw [v2]
        refine y_iconst (v := 1) dX7_readDoing_50 (by decide) ?_
        refine y_iaddN (a := p) (b := 1) dX7_readDoing_51 rfl rfl ?_
        refine y_puti dX7_readDoing_52 pf_X7_32 sh_28 rfl rfl rfl ?_
        refine y_goto (tgt := 71) dX7_readDoing_55 (by decide) ?_
        refine y_iinc3_2 dX7_readDoing_71 (nI_1 _) rfl ?_
        refine y_goto (tgt := 15) dX7_readDoing_74 (by decide) ?_
        first
          | (rw [if_neg z1, if_neg z2, if_pos z3, if_pos z4, if_neg z5] at st
             rw [st] at q
             exact hP m5 _ _ (fun a ha => by rw [w1 a (by omega) (by omega)]; exact v1 a ha) w2 (by have := fgs_le (c := c) (q := p + 3); omega) w3 (d_add v5 (by have := v5.2.1; omega) (Or.inr ⟨kd_l _ z2, fig_n z3, badT_n v5 z5⟩)) q)
          | (rw [if_neg z1, if_pos z2] at st
             rw [st] at q
             exact hP m5 _ _ (fun a ha => by rw [w1 a (by omega) (by omega)]; exact v1 a ha) w2 (by omega) w3 (d_add v5 (by have := v5.2.1; omega) (Or.inl ⟨kd_o _ z2 (by have := ixS_le (c p); omega), rfl⟩)) q)
          | exact hP _ (p + 1) R (fun a ha => by rw [s_upN (by omega)]; exact v1 a ha) (by rw [s_upS, updS]) (by omega) (DR_m v4 (fun a h1 h2 => s_upN (by omega))) v5 q
