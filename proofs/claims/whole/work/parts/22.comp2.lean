/-! ===== ripening, and turns, of the component's loaf ===== -/
theorem warms_at {f : Nat → Int32} {R : Nat → Int32} : ∀ n, n ≤ 24 → (∀ k, k < n → foldR (putH f) n R (41 + 5 * k + 2) = f k) ∧ ∀ p, (∀ k, k < n → p ≠ 41 + 5 * k + 2) → foldR (putH f) n R p = R p := by
  intro n
  induction n with
  | zero => intro _; exact ⟨fun k hk => absurd hk (by omega), fun _ _ => rfl⟩
  | succ n ih =>
    intro hn
    obtain ⟨i1, i2⟩ := ih (by omega)
    refine ⟨fun k hk => ?_, fun p hp => ?_⟩
    · show upd (foldR (putH f) n R) (41 + 5 * n + 2) (f n) (41 + 5 * k + 2) = f k
      by_cases e : k = n
      · rw [e, updS]
      · rw [updN (by omega)]
        exact i1 k (by omega)
    · show upd (foldR (putH f) n R) (41 + 5 * n + 2) (f n) p = R p
      rw [updN (hp n (by omega))]
      exact i2 p (fun k hk => hp k (by omega))
theorem warms_2 {w : Int32} {R : Nat → Int32} {k : Nat} (hk : k < 24) : warmsF w R (41 + 5 * k + 2) = heatF w R k := (warms_at 24 (Nat.le_refl _)).1 k hk
theorem warms_o {w : Int32} {R : Nat → Int32} {p : Nat} (hp : p < 41 ∨ 161 ≤ p ∨ (p - 41) % 5 ≠ 2) : warmsF w R p = R p := (warms_at 24 (Nat.le_refl _)).2 p (fun k hk => by omega)
theorem qOf_eq {R R' : Nat → Int32} (h : R' 40 = R 40) : qOf R' = qOf R := by unfold qOf; rw [h]
theorem LR_same {m m2 : sM} {L : Nat} {R R2 : Nat → Int32} (h : LR m L R) (h2 : ∀ i, i < 5 → m2 (L + 2) i = R2 i) (hcells : ∀ k, k < 24 → m2 (L + 8) k = R2 (41 + 5 * k + 0) ∧ m2 (L + 9) k = R2 (41 + 5 * k + 1) ∧ m2 (L + 10) k = R2 (41 + 5 * k + 2) ∧ m2 (L + 11) k = R2 (41 + 5 * k + 3) ∧ m2 (L + 12) k = R2 (41 + 5 * k + 4)) (e7 : ∀ j, m2 (L + 7) j = m (L + 7) j) (e14 : ∀ a, L + 14 ≤ a → a < L + 19 → m2 a = m a) (hr : ∀ p, (38 ≤ p ∧ p ≤ 40) ∨ 161 ≤ p → R2 p = R p) : LR m2 L R2 := by
  obtain ⟨r1, r2, r3, r4, r5, r6⟩ := h
  refine ⟨h2, hcells, by rw [e7, r3, hr _ (by omega)], by rw [e7, r4, hr _ (by omega)], by rw [e7, r5, hr _ (by omega)], fun k hk => ?_⟩
  rw [qOf_eq (hr 40 (by omega))] at hk
  unfold mkF
  rw [e14 _ (by omega) (by omega), e14 _ (by omega) (by omega), e14 _ (by omega) (by omega), e14 _ (by omega) (by omega), e14 _ (by omega) (by omega), hr _ (by omega), hr _ (by omega), hr _ (by omega), hr _ (by omega), hr _ (by omega), hr _ (by omega), hr _ (by omega)]
  exact r6 k hk
theorem LR_warm {m : sM} {L : Nat} {R : Nat → Int32} {w : Int32} (h : LR m L R) : LR (s_up m (L + 10) (hUp (heatC (10 * w) (m (L + 10))) (m (L + 10)) 24)) L (warmsF w R) ∧ LF m (s_up m (L + 10) (hUp (heatC (10 * w) (m (L + 10))) (m (L + 10)) 24)) L := by
  refine ⟨LR_same h (fun i hi => by rw [s_upN (by omega), h.1 i hi, warms_o (by omega)]) (fun k hk => ⟨?_, ?_, ?_, ?_, ?_⟩) (fun j => by rw [s_upN (by omega)]) (fun a h1 h2 => s_upN (by omega)) (fun p hp => warms_o (by omega)), fun a ha => s_upN (by omega), by rw [s_upN (by omega)], by rw [s_upN (by omega)]⟩
  · rw [s_upN (by omega), (h.2.1 k hk).1, warms_o (by omega)]
  · rw [s_upN (by omega), (h.2.1 k hk).2.1, warms_o (by omega)]
  · rw [s_upS, hUp_i hk, warms_2 hk]
    unfold heatC heatF
    have hh : ∀ j, j < 24 → m (L + 10) j = R (41 + 5 * j + 2) := fun j hj => (h.2.1 j hj).2.2.1
    rw [hh k hk]
    by_cases q : k % 2 = 0 ∨ k / 2 = 0 ∨ k / 2 = 11
    · rw [if_pos q, if_pos q]
    · rw [if_neg q, if_neg q, hh (k - 2) (by omega), hh (k + 2) (by omega), hh (k - 1) (by omega)]
  · rw [s_upN (by omega), (h.2.1 k hk).2.2.2.1, warms_o (by omega)]
  · rw [s_upN (by omega), (h.2.1 k hk).2.2.2.2, warms_o (by omega)]
/-- ranges -/
def rgR (R : Nat → Int32) : Prop := (∀ k, k < 24 → (∃ a : Nat, a ≤ 99 ∧ R (41 + 5 * k + 1) = nI a) ∧ R (41 + 5 * k + 3) ≤ 99 ∧ (R (41 + 5 * k + 4) = 0 ∨ R (41 + 5 * k + 4) = 1)) ∧ (R 39 = 0 ∨ R 39 = 1)
def growG (R : Nat → Int32) (c : Nat) : Int32 := if R (41 + 5 * c + 4) = 0 ∧ R (41 + 5 * c + 2) ≤ 55 then R (41 + 5 * c + 0) + R 0 * (R (41 + 5 * c + 2) / 10) * (10 - R 4) / 20 else R (41 + 5 * c + 0)
def growS (R : Nat → Int32) (c : Nat) : Int32 := if 60 ≤ R (41 + 5 * c + 2) then lsr 99 (R (41 + 5 * c + 3) + gtr 0 ((R (41 + 5 * c + 2) - 50) / 5 - R 2)) else R (41 + 5 * c + 3)
def growT (R : Nat → Int32) (c : Nat) : Int32 := if 20 ≤ R (41 + 5 * c + 2) ∧ growS R c < 50 then gtr 0 (R (41 + 5 * c + 1) - (if R 4 = 0 then 2 else 1)) else R (41 + 5 * c + 1)
theorem ite_ap {c : Prop} [Decidable c] (f g : Nat → Int32) (p : Nat) : (if c then f else g) p = if c then f p else g p := by split <;> rfl
theorem growC_eq {R : Nat → Int32} {c : Nat} : growC c R (41 + 5 * c + 0) = growG R c ∧ growC c R (41 + 5 * c + 3) = growS R c ∧ growC c R (41 + 5 * c + 1) = growT R c := by
  have n03 : (41 + 5 * c + 0 : Nat) ≠ 41 + 5 * c + 3 := by omega
  have n01 : (41 + 5 * c + 0 : Nat) ≠ 41 + 5 * c + 1 := by omega
  have n30 : (41 + 5 * c + 3 : Nat) ≠ 41 + 5 * c + 0 := by omega
  have n31 : (41 + 5 * c + 3 : Nat) ≠ 41 + 5 * c + 1 := by omega
  have n10 : (41 + 5 * c + 1 : Nat) ≠ 41 + 5 * c + 0 := by omega
  have n13 : (41 + 5 * c + 1 : Nat) ≠ 41 + 5 * c + 3 := by omega
  have n20 : (2 : Nat) ≠ 41 + 5 * c + 0 := by omega
  have n40 : (4 : Nat) ≠ 41 + 5 * c + 0 := by omega
  have n43 : (4 : Nat) ≠ 41 + 5 * c + 3 := by omega
  obtain ⟨R1, e1⟩ : ∃ z, z = (if R (41 + 5 * c + 4) = 0 ∧ R (41 + 5 * c + 2) ≤ 55 then upd R (41 + 5 * c + 0) (R (41 + 5 * c + 0) + R 0 * (R (41 + 5 * c + 2) / 10) * (10 - R 4) / 20) else R) := ⟨_, rfl⟩
  obtain ⟨R2, e2⟩ : ∃ z, z = (if 60 ≤ R (41 + 5 * c + 2) then upd R1 (41 + 5 * c + 3) (lsr 99 (R1 (41 + 5 * c + 3) + gtr 0 ((R (41 + 5 * c + 2) - 50) / 5 - R1 2))) else R1) := ⟨_, rfl⟩
  have eG : growC c R = (if 20 ≤ R (41 + 5 * c + 2) ∧ R2 (41 + 5 * c + 3) < 50 then upd R2 (41 + 5 * c + 1) (gtr 0 (R2 (41 + 5 * c + 1) - (if R2 4 = 0 then 2 else 1))) else R2) := by
    unfold growC
    rw [e2, e1]
  have f1 : ∀ p, p ≠ 41 + 5 * c + 0 → R1 p = R p := fun p hp => by rw [e1, ite_ap, updN hp]; split <;> rfl
  have f10 : R1 (41 + 5 * c + 0) = growG R c := by rw [e1, ite_ap, updS]; rfl
  have f2 : ∀ p, p ≠ 41 + 5 * c + 3 → R2 p = R1 p := fun p hp => by rw [e2, ite_ap, updN hp]; split <;> rfl
  have f23 : R2 (41 + 5 * c + 3) = growS R c := by rw [e2, ite_ap, updS, f1 _ n30, f1 _ n20]; rfl
  refine ⟨?_, ?_, ?_⟩
  · rw [eG, ite_ap, updN n01, f2 _ n03, f10]; split <;> rfl
  · rw [eG, ite_ap, updN n31, f23]; split <;> rfl
  · rw [eG, ite_ap, updS, f23, f2 _ n13, f1 _ n10, f2 _ n43, f1 _ n40]; rfl
/-- only cell c's gas, stretch, set may have changed -/
def CF (m m' : sM) (L c : Nat) : Prop := ∀ a j, ¬ ((a = L + 8 ∨ a = L + 9 ∨ a = L + 11) ∧ j = c) → m' a j = m a j
theorem CF.rf {m : sM} {L c : Nat} : CF m m L c := fun _ _ _ => rfl
theorem CF.put {m m' : sM} {L c a : Nat} {v : Int32} (h : CF m m' L c) (ha : a = L + 8 ∨ a = L + 9 ∨ a = L + 11) : CF m (s_up m' a (upd (m' a) c v)) L c := by
  intro b j hb
  by_cases e : b = a
  · subst e
    rw [s_upS, updN (fun q => hb ⟨ha, q⟩)]
    exact h b j hb
  · rw [s_upN e]
    exact h b j hb
theorem LR_grow {m m2 : sM} {L c : Nat} {R : Nat → Int32} (h : LR m L R) (hc : c < 24) (hf : CF m m2 L c) (e0 : m2 (L + 8) c = growG R c) (e3 : m2 (L + 11) c = growS R c) (e1 : m2 (L + 9) c = growT R c) : LR m2 L (growC c R) ∧ LF m m2 L := by
  obtain ⟨g0, g3, g1⟩ := growC_eq (R := R) (c := c)
  have hrow : ∀ a, ¬ (a = L + 8 ∨ a = L + 9 ∨ a = L + 11) → m2 a = m a := fun a ha => by funext j; exact hf a j (fun q => ha q.1)
  refine ⟨LR_same h (fun i hi => by rw [hrow _ (by omega), h.1 i hi, grow_o (by omega) (by omega) (by omega)]) (fun k hk => ⟨?_, ?_, ?_, ?_, ?_⟩) (fun j => by rw [hrow _ (by omega)]) (fun a h1 h2 => hrow _ (by omega)) (fun p hp => grow_o (by omega) (by omega) (by omega)), fun a ha => hrow _ (by omega), by rw [hrow _ (by omega)], by rw [hrow _ (by omega)]⟩
  · by_cases e : k = c
    · rw [e, e0, g0]
    · rw [hf _ _ (fun q => e q.2), (h.2.1 k hk).1, grow_o (by omega) (by omega) (by omega)]
  · by_cases e : k = c
    · rw [e, e1, g1]
    · rw [hf _ _ (fun q => e q.2), (h.2.1 k hk).2.1, grow_o (by omega) (by omega) (by omega)]
  · rw [hrow _ (by omega), (h.2.1 k hk).2.2.1, grow_o (by omega) (by omega) (by omega)]
  · by_cases e : k = c
    · rw [e, e3, g3]
    · rw [hf _ _ (fun q => e q.2), (h.2.1 k hk).2.2.2.1, grow_o (by omega) (by omega) (by omega)]
  · rw [hrow _ (by omega), (h.2.1 k hk).2.2.2.2, grow_o (by omega) (by omega) (by omega)]
theorem min99 (y : Int32) : (if y < 99 then y else 99) = lsr 99 y := by
  unfold lsr
  by_cases h : y < 99
  · rw [if_pos h, if_neg (Int32.not_lt.mpr (Int32.le_of_lt h))]
  · rw [if_neg h]
    by_cases h2 : 99 < y
    · rw [if_pos h2]
    · rw [if_neg h2]
      exact Int32.le_antisymm (Int32.not_lt.mp h) (Int32.not_lt.mp h2)
theorem gtr0_pos {f : Int32} (h : ¬ f ≤ 0) : gtr 0 f = f := by
  unfold gtr
  rw [if_neg (Int32.not_lt.mpr (Int32.le_of_lt (Int32.not_le.mp h)))]
theorem gtr0_neg {f : Int32} (h : f ≤ 0) : gtr 0 f = 0 := by
  unfold gtr
  by_cases q : f < 0
  · rw [if_pos q]
  · rw [if_neg q]
    exact Int32.le_antisymm h (Int32.not_lt.mp q)
theorem lsr99 {y : Int32} (h : y ≤ 99) : lsr 99 y = y := by
  unfold lsr
  rw [if_neg (Int32.not_lt.mpr h)]
theorem less1 : ∀ a, a < 100 → (if (1 : Int32) < nI a then nI a - 1 else 0) = gtr 0 (nI a - 1) := by decide +kernel
theorem less2 : ∀ a, a < 100 → (if (2 : Int32) < nI a then nI a - 2 else 0) = gtr 0 (nI a - 2) := by decide +kernel
theorem lsr_le (y : Int32) : lsr 99 y ≤ 99 := by
  unfold lsr
  by_cases h : 99 < y
  · rw [if_pos h]; exact Int32.le_refl _
  · rw [if_neg h]; exact Int32.not_lt.mp h
theorem less1r : ∀ a, a < 100 → ∃ b, b < 100 ∧ gtr 0 (nI a - 1) = nI b := by decide +kernel
theorem less2r : ∀ a, a < 100 → ∃ b, b < 100 ∧ gtr 0 (nI a - 2) = nI b := by decide +kernel
theorem rg_grow {R : Nat → Int32} {c : Nat} (h : rgR R) (hc : c < 24) : rgR (growC c R) := by
  obtain ⟨g0, g3, g1⟩ := growC_eq (R := R) (c := c)
  refine ⟨fun k hk => ?_, ?_⟩
  · obtain ⟨⟨a, ha, h1⟩, h3, h4⟩ := h.1 k hk
    refine ⟨?_, ?_, ?_⟩
    · by_cases e : k = c
      · subst e
        rw [g1]
        unfold growT
        split
        · rw [h1]
          by_cases q : R 4 = 0
          · rw [if_pos q]
            obtain ⟨b, hb, e⟩ := less2r a (by omega)
            exact ⟨b, by omega, e⟩
          · rw [if_neg q]
            obtain ⟨b, hb, e⟩ := less1r a (by omega)
            exact ⟨b, by omega, e⟩
        · exact ⟨a, ha, h1⟩
      · rw [grow_o (by omega) (by omega) (by omega)]
        exact ⟨a, ha, h1⟩
    · by_cases e : k = c
      · subst e
        rw [g3]
        unfold growS
        split
        · exact lsr_le _
        · exact h3
      · rw [grow_o (by omega) (by omega) (by omega)]
        exact h3
    · rw [grow_o (by omega) (by omega) (by omega)]
      exact h4
  · rw [grow_o (by omega) (by omega) (by omega)]
    exact h.2
theorem growT_w {R : Nat → Int32} {k sa : Nat} {loss v : Int32} (h20 : 20 ≤ R (41 + 5 * k + 2)) (h50 : growS R k < 50) (hsa : sa ≤ 99) (hst : R (41 + 5 * k + 1) = nI sa) (hloss : loss = (if R 4 = 0 then 2 else 1)) (hv : v = (if loss < R (41 + 5 * k + 1) then R (41 + 5 * k + 1) - loss else 0)) : v = growT R k := by
  unfold growT
  rw [if_pos ⟨h20, h50⟩, hv, hst, hloss]
  by_cases q : R 4 = 0
  · rw [if_pos q]
    exact less2 sa (by omega)
  · rw [if_neg q]
    exact less1 sa (by omega)

set_option maxHeartbeats 1000000 in
theorem c_X2_ripen {L : Nat} {xs : Nat → Int32} {d : Nat} {m : sM} {n : sN} {Q : sQ} {L0 : Nat} {R : Nat → Int32} (hL : isLf L0) (hLR : LR m L0 R) (hrg : rgR R) (hQ : ∀ m', LR m' L0 (growsF R) → LF m m' L0 → Q none m' n) : sRun (scT L xs) (d + 1) yX2_ripen cX2_ripen 8 none [.ref (L0 + 7), .ref (L0 + 1)] m n Q := by
  refine y_run (own := "LoafFall$Dough") rfl (by decide +kernel) (Nat.le_of_ble_eq_true rfl) rfl ?_
  have main : ∀ lift loss : Int32, lift = R 0 * (10 - R 4) → loss = (if R 4 = 0 then 2 else 1) → sV (scT L xs) d "LoafFall$Dough" cX2_ripen 8 none Q 43 [some (.ref (L0 + 7)), some (.ref (L0 + 1)), some (.int lift), some (.int (R 2)), some (.int loss), some (.int (0)), none, none] [] m n := by
    intro lift loss hlift hloss
    refine cnt (P := fun k => ∀ (m' : sM) (a6 a7 : Option Value), a_isL a6 = false → LR m' L0 (foldR growC k R) → rgR (foldR growC k R) → LF m m' L0 → sV (scT L xs) d "LoafFall$Dough" cX2_ripen 8 none Q 43 [some (.ref (L0 + 7)), some (.ref (L0 + 1)), some (.int lift), some (.int (R 2)), some (.int loss), some (.int (nI k)), a6, a7] [] m' n) 24 ?_ ?_ 0 (by omega) m none none rfl hLR hrg LF.rf
    · intro m' a6 a7 ha6 h1 hg1 h2
      refine y_iload dX2_ripen_43 rfl ?_
      refine y_bipush (v := 24) dX2_ripen_45 (by decide) ?_
      refine y_icmp_ge (tgt := 203) dX2_ripen_47 (by decide) (fun h47 => ?_) (fun h47 => absurd (nI_le (a := 24) (b := 24) (Nat.le_refl _) (by decide)) h47)
      refine y_return dX2_ripen_203 rfl ?_
      exact hQ _ h1 h2
    · intro k hk hP m' a6 a7 ha6 h1 hg1 h2
      have hlow : ∀ p, p < 41 → foldR growC k R p = R p := fun p hp => foldR_low (fun j R' hj => grow_o (by omega) (by omega) (by omega)) R k (by omega)
      have hgn := rg_grow hg1 hk
      generalize hRk : foldR growC k R = Rk at h1 hg1 hlow hgn
      replace hP : ∀ (m' : sM) (a6 a7 : Option Value), a_isL a6 = false → LR m' L0 (growC k Rk) → rgR (growC k Rk) → LF m m' L0 → sV (scT L xs) d "LoafFall$Dough" cX2_ripen 8 none Q 43 [some (.ref (L0 + 7)), some (.ref (L0 + 1)), some (.int lift), some (.int (R 2)), some (.int loss), some (.int (nI (k + 1))), a6, a7] [] m' n := by rw [← hRk]; exact hP
      obtain ⟨c0, c1, c2, c3, c4⟩ := h1.2.1 k hk
      obtain ⟨⟨sa, hsa, hst⟩, hse, hto⟩ := hg1.1 k hk
      rw [← hlow 0 (by omega), ← hlow 4 (by omega)] at hlift
      rw [← hlow 4 (by omega)] at hloss
      have k3 : ∀ (m1 : sM) (a7 : Option Value), CF m' m1 L0 k → m1 (L0 + 8) k = growG Rk k → m1 (L0 + 11) k = growS Rk k → m1 (L0 + 9) k = Rk (41 + 5 * k + 1) → sV (scT L xs) d "LoafFall$Dough" cX2_ripen 8 none Q 145 [some (.ref (L0 + 7)), some (.ref (L0 + 1)), some (.int lift), some (.int (R 2)), some (.int loss), some (.int (nI k)), some (.int (Rk (41 + 5 * k + 2))), a7] [] m1 n := by
        intro m1 a7 hf e0 e3 e1
        have kv : ∀ v, v = growT Rk k → LR (s_up m1 (L0 + 9) (upd (m1 (L0 + 9)) k v)) L0 (growC k Rk) ∧ LF m' (s_up m1 (L0 + 9) (upd (m1 (L0 + 9)) k v)) L0 := fun v hv => LR_grow h1 hk (hf.put (a := L0 + 9) (Or.inr (Or.inl rfl))) (by rw [s_upN (by omega)]; exact e0) (by rw [s_upN (by omega)]; exact e3) (by rw [s_upS, updS]; exact hv)
        refine y_iload dX2_ripen_145 rfl ?_
        refine y_bipush (v := 20) dX2_ripen_147 (by decide) ?_
        refine y_icmp_lt (tgt := 197) dX2_ripen_149 (by decide) (fun h149 => ?_) (fun h149 => ?_)
        · refine y_iinc8_5 dX2_ripen_197 (nI_1 _) rfl ?_
          refine y_goto (tgt := 43) dX2_ripen_200 (by decide) ?_
          first
            | exact hP _ _ _ rfl (kv _ (growT_w (Int32.not_lt.mp h149) (Int32.not_le.mp h161) hsa hst hloss (by first | rw [if_pos (Int32.not_le.mp h179)] | rw [if_neg (Int32.not_lt.mpr h179)]))).1 hgn (h2.tr (kv _ (growT_w (Int32.not_lt.mp h149) (Int32.not_le.mp h161) hsa hst hloss (by first | rw [if_pos (Int32.not_le.mp h179)] | rw [if_neg (Int32.not_lt.mpr h179)]))).2)
            | (obtain ⟨q1, q2⟩ := LR_grow h1 hk hf e0 e3 (by
                 rw [e1]
                 unfold growT
                 first | rw [if_neg (fun z => absurd z.1 (Int32.not_le.mpr h149))] | rw [if_neg (fun z => absurd z.2 (Int32.not_lt.mpr h161))])
               exact hP _ _ _ rfl q1 hgn (h2.tr q2))
        · refine y_aload_n dX2_ripen_152 rfl rfl ?_
          refine y_getr dX2_ripen_153 gf_X2_21 hL.2.2.2.1.1 rfl ?_
          refine y_iload dX2_ripen_156 rfl ?_
          refine y_ialdN dX2_ripen_158 hL.2.2.2.1.2.2.2.2.1 rfl (by first | omega | decide) (by decide) ?_
          rw [e3]
          refine y_bipush (v := 50) dX2_ripen_159 (by decide) ?_
          refine y_icmp_ge (tgt := 197) dX2_ripen_161 (by decide) (fun h161 => ?_) (fun h161 => ?_)
          · refine y_iinc8_5 dX2_ripen_197 (nI_1 _) rfl ?_
            refine y_goto (tgt := 43) dX2_ripen_200 (by decide) ?_
            first
              | exact hP _ _ _ rfl (kv _ (growT_w (Int32.not_lt.mp h149) (Int32.not_le.mp h161) hsa hst hloss (by first | rw [if_pos (Int32.not_le.mp h179)] | rw [if_neg (Int32.not_lt.mpr h179)]))).1 hgn (h2.tr (kv _ (growT_w (Int32.not_lt.mp h149) (Int32.not_le.mp h161) hsa hst hloss (by first | rw [if_pos (Int32.not_le.mp h179)] | rw [if_neg (Int32.not_lt.mpr h179)]))).2)
              | (obtain ⟨q1, q2⟩ := LR_grow h1 hk hf e0 e3 (by
                   rw [e1]
                   unfold growT
                   first | rw [if_neg (fun z => absurd z.1 (Int32.not_le.mpr h149))] | rw [if_neg (fun z => absurd z.2 (Int32.not_lt.mpr h161))])
                 exact hP _ _ _ rfl q1 hgn (h2.tr q2))
          · refine y_aload_n dX2_ripen_164 rfl rfl ?_
            refine y_getr dX2_ripen_165 gf_X2_15 hL.2.2.2.1.1 rfl ?_
            refine y_iload dX2_ripen_168 rfl ?_
            refine y_aload_n dX2_ripen_170 rfl rfl ?_
            refine y_getr dX2_ripen_171 gf_X2_15 hL.2.2.2.1.1 rfl ?_
            refine y_iload dX2_ripen_174 rfl ?_
            refine y_ialdN dX2_ripen_176 hL.2.2.2.1.2.2.1 rfl (by first | omega | decide) (by decide) ?_
            rw [e1]
            refine y_iload dX2_ripen_177 rfl ?_
            refine y_icmp_le (tgt := 195) dX2_ripen_179 (by decide) (fun h179 => ?_) (fun h179 => ?_)
            · refine y_iconst (v := 0) dX2_ripen_195 (by decide) ?_
              refine y_iastN dX2_ripen_196 hL.2.2.2.1.2.2.1 rfl (by first | omega | decide) (by decide) ?_
              refine y_iinc8_5 dX2_ripen_197 (nI_1 _) rfl ?_
              refine y_goto (tgt := 43) dX2_ripen_200 (by decide) ?_
              first
                | exact hP _ _ _ rfl (kv _ (growT_w (Int32.not_lt.mp h149) (Int32.not_le.mp h161) hsa hst hloss (by first | rw [if_pos (Int32.not_le.mp h179)] | rw [if_neg (Int32.not_lt.mpr h179)]))).1 hgn (h2.tr (kv _ (growT_w (Int32.not_lt.mp h149) (Int32.not_le.mp h161) hsa hst hloss (by first | rw [if_pos (Int32.not_le.mp h179)] | rw [if_neg (Int32.not_lt.mpr h179)]))).2)
                | (obtain ⟨q1, q2⟩ := LR_grow h1 hk hf e0 e3 (by
                     rw [e1]
                     unfold growT
                     first | rw [if_neg (fun z => absurd z.1 (Int32.not_le.mpr h149))] | rw [if_neg (fun z => absurd z.2 (Int32.not_lt.mpr h161))])
                   exact hP _ _ _ rfl q1 hgn (h2.tr q2))
            · refine y_aload_n dX2_ripen_182 rfl rfl ?_
              refine y_getr dX2_ripen_183 gf_X2_15 hL.2.2.2.1.1 rfl ?_
              refine y_iload dX2_ripen_186 rfl ?_
              refine y_ialdN dX2_ripen_188 hL.2.2.2.1.2.2.1 rfl (by first | omega | decide) (by decide) ?_
              rw [e1]
              refine y_iload dX2_ripen_189 rfl ?_
              refine y_isub dX2_ripen_191 ?_
              refine y_goto (tgt := 196) dX2_ripen_192 (by decide) ?_
              refine y_iastN dX2_ripen_196 hL.2.2.2.1.2.2.1 rfl (by first | omega | decide) (by decide) ?_
              refine y_iinc8_5 dX2_ripen_197 (nI_1 _) rfl ?_
              refine y_goto (tgt := 43) dX2_ripen_200 (by decide) ?_
              first
                | exact hP _ _ _ rfl (kv _ (growT_w (Int32.not_lt.mp h149) (Int32.not_le.mp h161) hsa hst hloss (by first | rw [if_pos (Int32.not_le.mp h179)] | rw [if_neg (Int32.not_lt.mpr h179)]))).1 hgn (h2.tr (kv _ (growT_w (Int32.not_lt.mp h149) (Int32.not_le.mp h161) hsa hst hloss (by first | rw [if_pos (Int32.not_le.mp h179)] | rw [if_neg (Int32.not_lt.mpr h179)]))).2)
                | (obtain ⟨q1, q2⟩ := LR_grow h1 hk hf e0 e3 (by
                     rw [e1]
                     unfold growT
                     first | rw [if_neg (fun z => absurd z.1 (Int32.not_le.mpr h149))] | rw [if_neg (fun z => absurd z.2 (Int32.not_lt.mpr h161))])
                   exact hP _ _ _ rfl q1 hgn (h2.tr q2))
      have k2 : ∀ (m1 : sM) (a7 : Option Value), CF m' m1 L0 k → m1 (L0 + 8) k = growG Rk k → m1 (L0 + 11) k = Rk (41 + 5 * k + 3) → m1 (L0 + 9) k = Rk (41 + 5 * k + 1) → sV (scT L xs) d "LoafFall$Dough" cX2_ripen 8 none Q 96 [some (.ref (L0 + 7)), some (.ref (L0 + 1)), some (.int lift), some (.int (R 2)), some (.int loss), some (.int (nI k)), some (.int (Rk (41 + 5 * k + 2))), a7] [] m1 n := by
        intro m1 a7 hf e0 e3 e1
        refine y_iload dX2_ripen_96 rfl ?_
        refine y_bipush (v := 60) dX2_ripen_98 (by decide) ?_
        refine y_icmp_lt (tgt := 115) dX2_ripen_100 (by decide) (fun h100 => ?_) (fun h100 => ?_)
        · refine y_iconst (v := 0) dX2_ripen_115 (by decide) ?_
          refine y_ist8_7 dX2_ripen_116 rfl ?_
          refine y_iload dX2_ripen_118 rfl ?_
          refine y_if_le (tgt := 145) dX2_ripen_120 (by decide) (fun h120 => ?_) (fun h120 => absurd (by decide) h120)
          first
            | (refine k3 _ _ (hf.put (a := L0 + 11) (Or.inr (Or.inr rfl))) (by rw [s_upN (by omega)]; exact e0) ?_ (by rw [s_upN (by omega)]; exact e1)
               rw [s_upS, updS, min99]
               unfold growS
               rw [if_pos (Int32.not_lt.mp h100), hlow 2 (by omega), gtr0_pos h120])
            | (refine k3 _ _ hf e0 ?_ e1
               rw [e3]
               unfold growS
               rw [if_pos (Int32.not_lt.mp h100), hlow 2 (by omega), gtr0_neg h120, Int32.add_zero, lsr99 hse])
            | (refine k3 _ _ hf e0 ?_ e1
               rw [e3]
               unfold growS
               rw [if_neg (Int32.not_le.mpr h100)])
            | exact absurd (by decide) h120
        · refine y_iload dX2_ripen_103 rfl ?_
          refine y_bipush (v := 50) dX2_ripen_105 (by decide) ?_
          refine y_isub dX2_ripen_107 ?_
          refine y_iconst (v := 5) dX2_ripen_108 (by decide) ?_
          refine y_idiv dX2_ripen_109 (by decide) ?_
          refine y_iload_n dX2_ripen_110 rfl rfl ?_
          refine y_isub dX2_ripen_111 ?_
          refine y_goto (tgt := 116) dX2_ripen_112 (by decide) ?_
          refine y_ist8_7 dX2_ripen_116 rfl ?_
          refine y_iload dX2_ripen_118 rfl ?_
          refine y_if_le (tgt := 145) dX2_ripen_120 (by decide) (fun h120 => ?_) (fun h120 => ?_)
          · first
              | (refine k3 _ _ (hf.put (a := L0 + 11) (Or.inr (Or.inr rfl))) (by rw [s_upN (by omega)]; exact e0) ?_ (by rw [s_upN (by omega)]; exact e1)
                 rw [s_upS, updS, min99]
                 unfold growS
                 rw [if_pos (Int32.not_lt.mp h100), hlow 2 (by omega), gtr0_pos h120])
              | (refine k3 _ _ hf e0 ?_ e1
                 rw [e3]
                 unfold growS
                 rw [if_pos (Int32.not_lt.mp h100), hlow 2 (by omega), gtr0_neg h120, Int32.add_zero, lsr99 hse])
              | (refine k3 _ _ hf e0 ?_ e1
                 rw [e3]
                 unfold growS
                 rw [if_neg (Int32.not_le.mpr h100)])
              | exact absurd (by decide) h120
          · refine y_aload_n dX2_ripen_123 rfl rfl ?_
            refine y_getr dX2_ripen_124 gf_X2_21 hL.2.2.2.1.1 rfl ?_
            refine y_iload dX2_ripen_127 rfl ?_
            refine y_bipush (v := 99) dX2_ripen_129 (by decide) ?_
            refine y_aload_n dX2_ripen_131 rfl rfl ?_
            refine y_getr dX2_ripen_132 gf_X2_21 hL.2.2.2.1.1 rfl ?_
            refine y_iload dX2_ripen_135 rfl ?_
            refine y_ialdN dX2_ripen_137 hL.2.2.2.1.2.2.2.2.1 rfl (by first | omega | decide) (by decide) ?_
            rw [e3]
            refine y_iload dX2_ripen_138 rfl ?_
            refine y_iadd dX2_ripen_140 ?_
            refine y_mmin dX2_ripen_141 mm_X2_74 (Nat.le_of_ble_eq_true rfl) ?_
            refine y_iastN dX2_ripen_144 hL.2.2.2.1.2.2.2.2.1 rfl (by first | omega | decide) (by decide) ?_
            first
              | (refine k3 _ _ (hf.put (a := L0 + 11) (Or.inr (Or.inr rfl))) (by rw [s_upN (by omega)]; exact e0) ?_ (by rw [s_upN (by omega)]; exact e1)
                 rw [s_upS, updS, min99]
                 unfold growS
                 rw [if_pos (Int32.not_lt.mp h100), hlow 2 (by omega), gtr0_pos h120])
              | (refine k3 _ _ hf e0 ?_ e1
                 rw [e3]
                 unfold growS
                 rw [if_pos (Int32.not_lt.mp h100), hlow 2 (by omega), gtr0_neg h120, Int32.add_zero, lsr99 hse])
              | (refine k3 _ _ hf e0 ?_ e1
                 rw [e3]
                 unfold growS
                 rw [if_neg (Int32.not_le.mpr h100)])
              | exact absurd (by decide) h120
      refine y_iload dX2_ripen_43 rfl ?_
      refine y_bipush (v := 24) dX2_ripen_45 (by decide) ?_
      refine y_icmp_ge (tgt := 203) dX2_ripen_47 (by decide) (fun h47 => absurd h47 (nI_ge (a := k) (b := 24) hk (by decide))) (fun h47 => ?_)
      refine y_aload_n dX2_ripen_50 rfl rfl ?_
      refine y_getr dX2_ripen_51 gf_X2_18 hL.2.2.2.1.1 rfl ?_
      refine y_iload dX2_ripen_54 rfl ?_
      refine y_ialdN dX2_ripen_56 hL.2.2.2.1.2.2.2.1 rfl (by first | omega | decide) (by decide) ?_
      rw [c2]
      refine y_ist8_6 dX2_ripen_57 rfl ?_
      refine y_iload dX2_ripen_59 rfl ?_
      refine y_bipush (v := 55) dX2_ripen_61 (by decide) ?_
      refine y_icmp_gt (tgt := 96) dX2_ripen_63 (by decide) (fun h63 => ?_) (fun h63 => ?_)
      · first
          | (refine k2 _ _ (CF.rf.put (a := L0 + 8) (Or.inl rfl)) ?_ (by rw [s_upN (by omega)]; exact c3) (by rw [s_upN (by omega)]; exact c1)
             rw [s_upS, updS]
             unfold growG
             rw [if_pos ⟨h73, Int32.not_lt.mp h63⟩, hlift, Int32.mul_assoc, Int32.mul_comm (10 - Rk 4), ← Int32.mul_assoc])
          | (refine k2 _ _ CF.rf ?_ c3 c1
             rw [c0]
             unfold growG
             first | rw [if_neg (fun z => absurd z.2 (Int32.not_le.mpr h63))] | rw [if_neg (fun z => h73 z.1)])
      · refine y_aload_n dX2_ripen_66 rfl rfl ?_
        refine y_getr dX2_ripen_67 gf_X2_24 hL.2.2.2.1.1 rfl ?_
        refine y_iload dX2_ripen_70 rfl ?_
        refine y_ialdN dX2_ripen_72 hL.2.2.2.1.2.2.2.2.2 rfl (by first | omega | decide) (by decide) ?_
        rw [c4]
        refine y_if_ne (tgt := 96) dX2_ripen_73 (by decide) (fun h73 => ?_) (fun h73 => ?_)
        · first
            | (refine k2 _ _ (CF.rf.put (a := L0 + 8) (Or.inl rfl)) ?_ (by rw [s_upN (by omega)]; exact c3) (by rw [s_upN (by omega)]; exact c1)
               rw [s_upS, updS]
               unfold growG
               rw [if_pos ⟨h73, Int32.not_lt.mp h63⟩, hlift, Int32.mul_assoc, Int32.mul_comm (10 - Rk 4), ← Int32.mul_assoc])
            | (refine k2 _ _ CF.rf ?_ c3 c1
               rw [c0]
               unfold growG
               first | rw [if_neg (fun z => absurd z.2 (Int32.not_le.mpr h63))] | rw [if_neg (fun z => h73 z.1)])
        · refine y_aload_n dX2_ripen_76 rfl rfl ?_
          refine y_getr dX2_ripen_77 gf_X2_9 hL.2.2.2.1.1 rfl ?_
          refine y_iload dX2_ripen_80 rfl ?_
          refine y_dup2 dX2_ripen_82 rfl rfl ?_
          refine y_ialdN dX2_ripen_83 hL.2.2.2.1.2.1 rfl (by first | omega | decide) (by decide) ?_
          rw [c0]
          refine y_iload_n dX2_ripen_84 rfl rfl ?_
          refine y_iload dX2_ripen_85 rfl ?_
          refine y_bipush (v := 10) dX2_ripen_87 (by decide) ?_
          refine y_idiv dX2_ripen_89 (by decide) ?_
          refine y_imul dX2_ripen_90 ?_
          refine y_bipush (v := 20) dX2_ripen_91 (by decide) ?_
          refine y_idiv dX2_ripen_93 (by decide) ?_
          refine y_iadd dX2_ripen_94 ?_
          refine y_iastN dX2_ripen_95 hL.2.2.2.1.2.1 rfl (by first | omega | decide) (by decide) ?_
          first
            | (refine k2 _ _ (CF.rf.put (a := L0 + 8) (Or.inl rfl)) ?_ (by rw [s_upN (by omega)]; exact c3) (by rw [s_upN (by omega)]; exact c1)
               rw [s_upS, updS]
               unfold growG
               rw [if_pos ⟨h73, Int32.not_lt.mp h63⟩, hlift, Int32.mul_assoc, Int32.mul_comm (10 - Rk 4), ← Int32.mul_assoc])
            | (refine k2 _ _ CF.rf ?_ c3 c1
               rw [c0]
               unfold growG
               first | rw [if_neg (fun z => absurd z.2 (Int32.not_le.mpr h63))] | rw [if_neg (fun z => h73 z.1)])
  refine y_aload_n dX2_ripen_0 rfl rfl ?_
  refine y_getr dX2_ripen_1 gf_X2_69 hL.2.1.1 rfl ?_
  refine y_iconst (v := 0) dX2_ripen_4 (by decide) ?_
  refine y_ialdN dX2_ripen_5 hL.2.1.2 rfl (by first | omega | decide) (by decide) ?_
  rw [hLR.1 0 (by omega)]
  refine y_bipush (v := 10) dX2_ripen_6 (by decide) ?_
  refine y_aload_n dX2_ripen_8 rfl rfl ?_
  refine y_getr dX2_ripen_9 gf_X2_69 hL.2.1.1 rfl ?_
  refine y_iconst (v := 4) dX2_ripen_12 (by decide) ?_
  refine y_ialdN dX2_ripen_13 hL.2.1.2 rfl (by first | omega | decide) (by decide) ?_
  rw [hLR.1 4 (by omega)]
  refine y_isub dX2_ripen_14 ?_
  refine y_imul dX2_ripen_15 ?_
  refine y_ist8_2 dX2_ripen_16 rfl ?_
  refine y_aload_n dX2_ripen_17 rfl rfl ?_
  refine y_getr dX2_ripen_18 gf_X2_69 hL.2.1.1 rfl ?_
  refine y_iconst (v := 2) dX2_ripen_21 (by decide) ?_
  refine y_ialdN dX2_ripen_22 hL.2.1.2 rfl (by first | omega | decide) (by decide) ?_
  rw [hLR.1 2 (by omega)]
  refine y_ist8_3 dX2_ripen_23 rfl ?_
  refine y_aload_n dX2_ripen_24 rfl rfl ?_
  refine y_getr dX2_ripen_25 gf_X2_69 hL.2.1.1 rfl ?_
  refine y_iconst (v := 4) dX2_ripen_28 (by decide) ?_
  refine y_ialdN dX2_ripen_29 hL.2.1.2 rfl (by first | omega | decide) (by decide) ?_
  rw [hLR.1 4 (by omega)]
  refine y_if_ne (tgt := 37) dX2_ripen_30 (by decide) (fun h30 => ?_) (fun h30 => ?_)
  · refine y_iconst (v := 1) dX2_ripen_37 (by decide) ?_
    refine y_ist8_4 dX2_ripen_38 rfl ?_
    refine y_iconst (v := 0) dX2_ripen_40 (by decide) ?_
    refine y_ist8_5 dX2_ripen_41 rfl ?_
    first | exact main _ _ rfl (by rw [if_pos h30]) | exact main _ _ rfl (by rw [if_neg h30])
  · refine y_iconst (v := 2) dX2_ripen_33 (by decide) ?_
    refine y_goto (tgt := 38) dX2_ripen_34 (by decide) ?_
    refine y_ist8_4 dX2_ripen_38 rfl ?_
    refine y_iconst (v := 0) dX2_ripen_40 (by decide) ?_
    refine y_ist8_5 dX2_ripen_41 rfl ?_
    first | exact main _ _ rfl (by rw [if_pos h30]) | exact main _ _ rfl (by rw [if_neg h30])
