/-! ===== holes: what they come to ===== -/
def nbH (a b : Nat) : Prop := b = a + 2 ∨ a = b + 2 ∨ (a % 2 = 0 ∧ b = a + 1) ∨ (b % 2 = 0 ∧ a = b + 1)
theorem nbH_s {a b : Nat} (h : nbH a b) : nbH b a := by unfold nbH at h ⊢; omega
/-- from a one comes to b over torn cells -/
def RcH (T : Nat → Prop) (a b : Nat) : Prop := T a ∧ ∀ S : Nat → Prop, S a → (∀ x y, S x → T y → nbH x y → S y) → S b
theorem RcH.rf {T : Nat → Prop} {a : Nat} (h : T a) : RcH T a a := ⟨h, fun _ s _ => s⟩
theorem RcH.st {T : Nat → Prop} {a b c : Nat} (h : RcH T a b) (t : T c) (e : nbH b c) : RcH T a c := ⟨h.1, fun S s k => k _ _ (h.2 S s k) t e⟩
theorem RcH.t2 {T : Nat → Prop} {a b : Nat} (h : RcH T a b) : T b := h.2 T h.1 (fun _ _ _ t _ => t)
theorem RcH.tr {T : Nat → Prop} {a b c : Nat} (h : RcH T a b) (h' : RcH T b c) : RcH T a c := h'.2 (RcH T a) h (fun _ _ s t e => s.st t e)
theorem RcH.sy {T : Nat → Prop} {a b : Nat} (h : RcH T a b) : RcH T b a := h.2 (fun x => RcH T x a) (RcH.rf h.1) (fun _ _ s t e => ((RcH.rf t).st s.1 (nbH_s e)).tr s)
theorem RcH.ind {T : Nat → Prop} {a b : Nat} (P : Nat → Prop) (h : RcH T a b) (h0 : P a) (hs : ∀ x y, RcH T a x → P x → T y → nbH x y → P y) : P b :=
  (h.2 (fun x => RcH T a x ∧ P x) ⟨RcH.rf h.1, h0⟩ (fun x y s t e => ⟨s.1.st t e, hs x y s.1 s.2 t e⟩)).2
/-- how many below k -/
noncomputable def cP (P : Nat → Prop) : Nat → Nat
  | 0 => 0
  | k + 1 => cP P k + @ite _ (P k) (Classical.propDecidable _) 1 0
theorem cP_y {P : Nat → Prop} {k : Nat} (h : P k) : cP P (k + 1) = cP P k + 1 := by rw [cP, if_pos h]
theorem cP_n {P : Nat → Prop} {k : Nat} (h : ¬ P k) : cP P (k + 1) = cP P k := by rw [cP, if_neg h, Nat.add_zero]
theorem cP_le {P : Nat → Prop} (k : Nat) : cP P k ≤ k := by
  induction k with
  | zero => exact Nat.le_refl _
  | succ k ih =>
    by_cases h : P k
    · rw [cP_y h]; omega
    · rw [cP_n h]; omega
theorem cP_full {P : Nat → Prop} : ∀ k, cP P k = k → ∀ b, b < k → P b := by
  intro k
  induction k with
  | zero => intro _ b hb; omega
  | succ k ih =>
    intro e b hb
    have l := cP_le (P := P) k
    by_cases h : P k
    · rw [cP_y h] at e
      by_cases z : b = k
      · rw [z]; exact h
      · exact ih (by omega) b (by omega)
    · rw [cP_n h] at e; omega
theorem cP_congr {P P' : Nat → Prop} : ∀ k, (∀ b, b < k → (P b ↔ P' b)) → cP P k = cP P' k := by
  intro k
  induction k with
  | zero => intro _; rfl
  | succ k ih =>
    intro h
    have e := ih (fun b hb => h b (by omega))
    by_cases z : P k
    · rw [cP_y z, cP_y ((h k (by omega)).mp z), e]
    · rw [cP_n z, cP_n (fun y => z ((h k (by omega)).mpr y)), e]
theorem cP_add {P : Nat → Prop} {b : Nat} (hb : ¬ P b) : ∀ k, cP (fun x => P x ∨ x = b) k = cP P k + (if b < k then 1 else 0) := by
  intro k
  induction k with
  | zero => rfl
  | succ k ih =>
    by_cases e : k = b
    · have z : ¬ P k := by rw [e]; exact hb
      rw [cP_y (Or.inr e), cP_n z, ih, if_neg (by omega), if_pos (by omega)]
    · by_cases z : P k
      · rw [cP_y (Or.inl z), cP_y z, ih]
        by_cases q : b < k
        · rw [if_pos q, if_pos (by omega)]
        · rw [if_neg q, if_neg (by omega)]
      · rw [cP_n (fun y => y.elim z e), cP_n z, ih]
        by_cases q : b < k
        · rw [if_pos q, if_pos (by omega)]
        · rw [if_neg q, if_neg (by omega)]
theorem cP_0 {P : Nat → Prop} : ∀ k, (∀ b, b < k → ¬ P b) → cP P k = 0 := by
  intro k
  induction k with
  | zero => intro _; rfl
  | succ k ih => intro h; rw [cP_n (h k (by omega)), ih (fun b hb => h b (by omega))]
theorem cP_pos {P : Nat → Prop} {b : Nat} (h : P b) : ∀ k, b < k → 0 < cP P k := by
  intro k
  induction k with
  | zero => intro hb; omega
  | succ k ih =>
    intro hb
    by_cases e : b = k
    · rw [cP_y (e ▸ h)]; omega
    · by_cases z : P k
      · rw [cP_y z]; omega
      · rw [cP_n z]; exact ih (by omega)
/-- the least of its hole -/
def hdH (T : Nat → Prop) (a : Nat) : Prop := T a ∧ ∀ b, RcH T a b → a ≤ b
noncomputable def szH (T : Nat → Prop) (a : Nat) : Nat := cP (RcH T a) 24
noncomputable def HH (T : Nat → Prop) (a : Nat) : Nat := @ite _ (hdH T a) (Classical.propDecidable _) (szH T a) 0
theorem HH_y {T : Nat → Prop} {a : Nat} (h : hdH T a) : HH T a = szH T a := by unfold HH; rw [if_pos h]
theorem HH_n {T : Nat → Prop} {a : Nat} (h : ¬ hdH T a) : HH T a = 0 := by unfold HH; rw [if_neg h]
theorem HH_le {T : Nat → Prop} {a : Nat} : HH T a ≤ 24 := by
  by_cases h : hdH T a
  · rw [HH_y h]; exact cP_le 24
  · rw [HH_n h]; omega
theorem HH_p {T : Nat → Prop} {a : Nat} (ha : a < 24) (h : hdH T a) : 0 < HH T a := by
  rw [HH_y h]
  exact cP_pos (RcH.rf h.1) 24 ha
def cHo (f : Nat → Nat) : Nat → Nat
  | 0 => 0
  | k + 1 => cHo f k + (if 0 < f k then 1 else 0)
def mHo (f : Nat → Nat) : Nat → Nat
  | 0 => 0
  | k + 1 => if mHo f k < f k then f k else mHo f k
theorem cHo_le {f : Nat → Nat} (k : Nat) : cHo f k ≤ k := by
  induction k with
  | zero => exact Nat.le_refl _
  | succ k ih =>
    rw [cHo]
    split <;> omega
theorem mHo_le {f : Nat → Nat} (hf : ∀ a, f a ≤ 24) (k : Nat) : mHo f k ≤ 24 := by
  induction k with
  | zero => exact Nat.zero_le _
  | succ k ih =>
    rw [mHo]
    split
    · exact hf k
    · exact ih
/-- which cells are torn -/
def tH (R : Nat → Int32) (k : Nat) : Prop := k < 24 ∧ R (41 + 5 * k + 4) = 1
/-! ===== holes: the component ===== -/
def SBs (m : sM) (P : Nat → Prop) : Prop := ∀ b, b < 24 → (P b → m 123 b = 1) ∧ (¬ P b → m 123 b = 0)
def VIs (S0 : Nat → Prop) (m : sM) (V : Nat → Prop) (k : Nat) : Prop := SBs m (fun b => S0 b ∨ V b) ∧ m 122 2 = nI k ∧ k = cP V 24 ∧ (∀ b, V b → b < 24) ∧ (∀ j, j < k → ∃ b, m 124 j = nI b ∧ V b) ∧ ∀ b, V b → ∃ j, j < k ∧ m 124 j = nI b
def fH (m m' : sM) : Prop := (∀ a, a ≠ 122 → a ≠ 123 → a ≠ 124 → m' a = m a) ∧ m' 122 3 = m 122 3 ∧ m' 122 4 = m 122 4
theorem fH.rf {m : sM} : fH m m := ⟨fun _ _ _ _ => rfl, rfl, rfl⟩
theorem fH.tr {m m1 m2 : sM} (h : fH m m1) (h' : fH m1 m2) : fH m m2 := ⟨fun a x y z => (h'.1 a x y z).trans (h.1 a x y z), h'.2.1.trans h.2.1, h'.2.2.trans h.2.2⟩
set_option maxHeartbeats 1000000 in
theorem c_X5_awaitCell {L : Nat} {xs : Nat → Int32} {d : Nat} {m : sM} {n : sN} {Q : sQ} {S0 V : Nat → Prop} {k : Nat} {x : Int32} (hv : VIs S0 m V k) (hQ : ∀ m' V' k', fH m m' → VIs S0 m' V' k' → k ≤ k' → (∀ j, j < k → m' 124 j = m 124 j) → (∀ b, V b → V' b) → (∀ b, V' b → V b ∨ (¬ S0 b ∧ b < 24 ∧ x = nI b)) → (∀ b, b < 24 → x = nI b → S0 b ∨ V' b) → Q none m' n) : sRun (scT L xs) (d + 1) yX5_awaitCell cX5_awaitCell 2 none [.ref 122, .int x] m n Q := by
  have hv0 := hv
  obtain ⟨v1, v2, v3, v4, v5, v6⟩ := hv
  have k24 : k ≤ 24 := by rw [v3]; exact cP_le 24
  have same : (∀ b, b < 24 → x = nI b → S0 b ∨ V b) → Q none m n := fun z => hQ m V k fH.rf hv0 (Nat.le_refl _) (fun _ _ => rfl) (fun _ z => z) (fun _ z => Or.inl z) z
  by_cases hx : inN x 24
  · obtain ⟨c, hc, rfl⟩ := hx
    have same : (S0 c ∨ V c) → Q none m n := fun z => same (fun b hb e => by rw [← (nI_eq (by omega) (by omega)).mp e]; exact z)
    by_cases hn : k = 24
    · have full : V c := cP_full 24 (v3.symm.trans hn) c hc
      refine y_run (own := "LoafFall$Holes") rfl (by decide +kernel) (Nat.le_of_ble_eq_true rfl) rfl ?_
      refine y_iload_n dX5_awaitCell_0 rfl rfl ?_
      refine y_if_lt (tgt := 28) dX5_awaitCell_1 (by decide) (fun h1 => absurd h1 (nI_pos (by omega))) (fun h1 => ?_)
      refine y_iload_n dX5_awaitCell_4 rfl rfl ?_
      refine y_bipush (v := 24) dX5_awaitCell_5 (by decide) ?_
      refine y_icmp_ge (tgt := 28) dX5_awaitCell_7 (by decide) (fun h7 => absurd h7 (nI_ge (b := 24) hc (by decide))) (fun h7 => ?_)
      refine y_aload_n dX5_awaitCell_10 rfl rfl ?_
      refine y_geti dX5_awaitCell_11 gf_X5_41 sh_122 rfl ?_
      rw [v2]
      refine y_bipush (v := 24) dX5_awaitCell_14 (by decide) ?_
      refine y_icmp_ge (tgt := 28) dX5_awaitCell_16 (by decide) (fun h16 => ?_) (fun h16 => absurd (nI_le (a := 24) (by omega) (by omega)) h16)
      refine y_return dX5_awaitCell_28 rfl ?_
      exact same (Or.inr full)
    · by_cases sn : S0 c ∨ V c
      · refine y_run (own := "LoafFall$Holes") rfl (by decide +kernel) (Nat.le_of_ble_eq_true rfl) rfl ?_
        refine y_iload_n dX5_awaitCell_0 rfl rfl ?_
        refine y_if_lt (tgt := 28) dX5_awaitCell_1 (by decide) (fun h1 => absurd h1 (nI_pos (by omega))) (fun h1 => ?_)
        refine y_iload_n dX5_awaitCell_4 rfl rfl ?_
        refine y_bipush (v := 24) dX5_awaitCell_5 (by decide) ?_
        refine y_icmp_ge (tgt := 28) dX5_awaitCell_7 (by decide) (fun h7 => absurd h7 (nI_ge (b := 24) hc (by decide))) (fun h7 => ?_)
        refine y_aload_n dX5_awaitCell_10 rfl rfl ?_
        refine y_geti dX5_awaitCell_11 gf_X5_41 sh_122 rfl ?_
        rw [v2]
        refine y_bipush (v := 24) dX5_awaitCell_14 (by decide) ?_
        refine y_icmp_ge (tgt := 28) dX5_awaitCell_16 (by decide) (fun h16 => absurd h16 (nI_ge (b := 24) (by omega) (by decide))) (fun h16 => ?_)
        refine y_aload_n dX5_awaitCell_19 rfl rfl ?_
        refine y_getr dX5_awaitCell_20 gf_X5_9 sh_122 rfl ?_
        refine y_iload_n dX5_awaitCell_23 rfl rfl ?_
        refine y_zaldN dX5_awaitCell_24 sh_123 rfl (by first | omega | decide) (by decide) ?_
        refine y_if_eq (tgt := 29) dX5_awaitCell_25 (by decide) (fun h25 => absurd h25 (by rw [(v1 c hc).1 sn]; decide)) (fun h25 => ?_)
        refine y_return dX5_awaitCell_28 rfl ?_
        exact same sn
      · refine y_run (own := "LoafFall$Holes") rfl (by decide +kernel) (Nat.le_of_ble_eq_true rfl) rfl ?_
        refine y_iload_n dX5_awaitCell_0 rfl rfl ?_
        refine y_if_lt (tgt := 28) dX5_awaitCell_1 (by decide) (fun h1 => absurd h1 (nI_pos (by omega))) (fun h1 => ?_)
        refine y_iload_n dX5_awaitCell_4 rfl rfl ?_
        refine y_bipush (v := 24) dX5_awaitCell_5 (by decide) ?_
        refine y_icmp_ge (tgt := 28) dX5_awaitCell_7 (by decide) (fun h7 => absurd h7 (nI_ge (b := 24) hc (by decide))) (fun h7 => ?_)
        refine y_aload_n dX5_awaitCell_10 rfl rfl ?_
        refine y_geti dX5_awaitCell_11 gf_X5_41 sh_122 rfl ?_
        rw [v2]
        refine y_bipush (v := 24) dX5_awaitCell_14 (by decide) ?_
        refine y_icmp_ge (tgt := 28) dX5_awaitCell_16 (by decide) (fun h16 => absurd h16 (nI_ge (b := 24) (by omega) (by decide))) (fun h16 => ?_)
        refine y_aload_n dX5_awaitCell_19 rfl rfl ?_
        refine y_getr dX5_awaitCell_20 gf_X5_9 sh_122 rfl ?_
        refine y_iload_n dX5_awaitCell_23 rfl rfl ?_
        refine y_zaldN dX5_awaitCell_24 sh_123 rfl (by first | omega | decide) (by decide) ?_
        refine y_if_eq (tgt := 29) dX5_awaitCell_25 (by decide) (fun h25 => ?_) (fun h25 => absurd ((v1 c hc).2 sn) h25)
        refine y_aload_n dX5_awaitCell_29 rfl rfl ?_
        refine y_getr dX5_awaitCell_30 gf_X5_9 sh_122 rfl ?_
        refine y_iload_n dX5_awaitCell_33 rfl rfl ?_
        refine y_iconst (v := 1) dX5_awaitCell_34 (by decide) ?_
        refine y_zastN dX5_awaitCell_35 sh_123 rfl (by first | omega | decide) (by decide) rfl ?_
        refine y_aload_n dX5_awaitCell_36 rfl rfl ?_
        refine y_getr dX5_awaitCell_37 gf_X5_15 sh_122 rfl ?_
        refine y_aload_n dX5_awaitCell_40 rfl rfl ?_
        refine y_geti dX5_awaitCell_41 gf_X5_41 sh_122 rfl ?_
        rw [s_upN (show 122 ≠ 123 by omega), v2]
        refine y_iload_n dX5_awaitCell_44 rfl rfl ?_
        refine y_iastN dX5_awaitCell_45 sh_124 rfl (by first | omega | decide) (by decide) ?_
        refine y_aload_n dX5_awaitCell_46 rfl rfl ?_
        refine y_dup dX5_awaitCell_47 rfl ?_
        refine y_geti dX5_awaitCell_48 gf_X5_41 sh_122 rfl ?_
        rw [s_upN (show 122 ≠ 124 by omega), s_upN (show 122 ≠ 123 by omega), v2]
        refine y_iconst (v := 1) dX5_awaitCell_51 (by decide) ?_
        refine y_iaddN (a := k) (b := 1) dX5_awaitCell_52 rfl rfl ?_
        refine y_puti dX5_awaitCell_53 pf_X5_41 sh_122 rfl rfl rfl ?_
        refine y_return dX5_awaitCell_56 rfl ?_
        have nV : ¬ V c := fun z => sn (Or.inr z)
        refine hQ _ (fun b => V b ∨ b = c) (k + 1) ⟨fun a h1 h2 h3 => ?_, ?_, ?_⟩ ⟨fun b hb => ⟨fun z => ?_, fun z => ?_⟩, ?_, ?_, fun b z => z.elim (v4 b) (fun e => by rw [e]; exact hc), fun j hj => ?_, fun b z => ?_⟩ (by omega) (fun j hj => ?_) (fun b z => Or.inl z) (fun b z => ?_) (fun b hb e => Or.inr (Or.inr ((nI_eq (by omega) (by omega)).mp e).symm))
        · rw [s_upN h1, s_upN h3, s_upN h2]
        · rw [s_upS, updN (by omega), s_upN (by omega), s_upN (by omega)]
        · rw [s_upS, updN (by omega), s_upN (by omega), s_upN (by omega)]
        · rw [s_upN (by omega), s_upN (by omega), s_upS, upd_ap]
          by_cases e : b = c
          · rw [if_pos e]
          · rw [if_neg e]; exact (v1 b hb).1 (z.elim Or.inl (fun z => z.elim Or.inr (fun y => absurd y e)))
        · rw [s_upN (by omega), s_upN (by omega), s_upS, upd_ap]
          by_cases e : b = c
          · exact absurd (Or.inr (Or.inr e)) z
          · rw [if_neg e]; exact (v1 b hb).2 (fun y => z (y.elim Or.inl (fun y => Or.inr (Or.inl y))))
        · rw [s_upS, updS]
        · rw [cP_add nV, if_pos hc, ← v3]
        · rw [s_upN (by omega), s_upS, upd_ap]
          by_cases e : j = k
          · rw [if_pos e]; exact ⟨c, rfl, Or.inr rfl⟩
          · rw [if_neg e, s_upN (by omega)]
            obtain ⟨b, b1, b2⟩ := v5 j (by omega)
            exact ⟨b, b1, Or.inl b2⟩
        · rcases z with z | z
          · obtain ⟨j, j1, j2⟩ := v6 b z
            refine ⟨j, by omega, ?_⟩
            rw [s_upN (by omega), s_upS, updN (by omega), s_upN (by omega)]; exact j2
          · refine ⟨k, by omega, ?_⟩
            rw [s_upN (by omega), s_upS, updS, z]
        · rw [s_upN (by omega), s_upS, updN (by omega), s_upN (by omega)]
        · rcases z with z | z
          · exact Or.inl z
          · exact Or.inr ⟨fun y => sn (Or.inl (z ▸ y)), by rw [z]; exact hc, by rw [z]⟩
  · have same : Q none m n := same (fun b hb e => absurd ⟨b, hb, e⟩ hx)
    refine y_run (own := "LoafFall$Holes") rfl (by decide +kernel) (Nat.le_of_ble_eq_true rfl) rfl ?_
    refine y_iload_n dX5_awaitCell_0 rfl rfl ?_
    refine y_if_lt (tgt := 28) dX5_awaitCell_1 (by decide) (fun h1 => ?_) (fun h1 => ?_)
    · refine y_return dX5_awaitCell_28 rfl ?_
      exact same
    · refine y_iload_n dX5_awaitCell_4 rfl rfl ?_
      refine y_bipush (v := 24) dX5_awaitCell_5 (by decide) ?_
      refine y_icmp_ge (tgt := 28) dX5_awaitCell_7 (by decide) (fun h7 => ?_) (fun h7 => absurd (Int32.not_lt.mp (fun z => hx ((in_lt (M := 24) (by decide)).mpr ⟨h1, z⟩))) h7)
      refine y_return dX5_awaitCell_28 rfl ?_
      exact same
set_option maxHeartbeats 1000000 in
theorem c_X5_sizeFrom {L : Nat} {xs : Nat → Int32} {d : Nat} {m : sM} {n : sN} {Q : sQ} {S0 T : Nat → Prop} {c : Nat} {x : Int32} (hx : x = nI c) (hc : c < 24) (hT : T c) (h0 : ∀ b, b < 24 → ¬ S0 b → T b) (h1 : ∀ b, RcH T c b → ¬ S0 b) (h24 : ∀ b, T b → b < 24) (hs : SBs m S0) (hQ : ∀ m', fH m m' → SBs m' (fun b => S0 b ∨ RcH T c b) → Q (some (.int (nI (szH T c)))) m' n) : sRun (scT L xs) (d + 2) yX5_sizeFrom cX5_sizeFrom 4 (some .int) [.ref 122, .int x] m n Q := by
  subst hx
  refine y_run (own := "LoafFall$Holes") rfl (by decide +kernel) (Nat.le_of_ble_eq_true rfl) rfl ?_
  refine y_aload_n dX5_sizeFrom_0 rfl rfl ?_
  refine y_iconst (v := 0) dX5_sizeFrom_1 (by decide) ?_
  refine y_puti dX5_sizeFrom_2 pf_X5_41 sh_122 rfl rfl rfl ?_
  generalize hm0 : s_up m 122 (upd (m 122) 2 0) = m0
  have f0 : fH m m0 := by rw [← hm0]; exact ⟨fun a h1 _ _ => s_upN h1, by rw [s_upS, updN (by omega)], by rw [s_upS, updN (by omega)]⟩
  have V0 : VIs S0 m0 (fun _ => False) 0 := by
    refine ⟨fun b hb => ?_, by rw [← hm0, s_upS, updS]; rfl, (cP_0 24 (fun _ _ z => z)).symm, fun b z => z.elim, fun j hj => absurd hj (by omega), fun b z => z.elim⟩
    rw [← hm0, s_upN (by omega)]
    exact ⟨fun z => (hs b hb).1 (z.elim id (fun y => y.elim)), fun z => (hs b hb).2 (fun y => z (Or.inl y))⟩
  refine y_aload_n dX5_sizeFrom_5 rfl rfl ?_
  refine y_iload_n dX5_sizeFrom_6 rfl rfl ?_
  refine y_ivV1 dX5_sizeFrom_7 mv_X5_44 my_X5_awaitCell (Or.inl rfl) sh_122 ?_
  refine c_X5_awaitCell V0 (fun m1 V1 k1 f1 v1 w1 w2 w3 w4 w5 => ⟨rfl, ?_⟩)
  refine y_iconst (v := 0) dX5_sizeFrom_10 (by decide) ?_
  refine y_ist4_2 dX5_sizeFrom_11 rfl ?_
  refine cnt (P := fun i => ∀ m' V k, ∀ a3 : Option Value, fH m m' → VIs S0 m' V k → (∀ b, V b → RcH T c b) → V c → (∀ j, j < i → j < k → ∀ v, m' 124 j = nI v → v < 24 → ∀ b, b < 24 → nbH v b → S0 b ∨ V b) → sV (scT L xs) (d + 1) "LoafFall$Holes" cX5_sizeFrom 4 (some .int) Q 12 [some (.ref 122), some (.int (nI c)), some (.int (nI i)), a3] [] m' n) 24 ?_ ?_ 0 (by omega) m1 V1 k1 none (f0.tr f1) v1 (fun b z => (w4 b z).elim (fun y => y.elim) (fun y => by rw [← (nI_eq (by omega) (by omega)).mp y.2.2]; exact RcH.rf hT)) ((w5 c hc rfl).elim (fun z => absurd z (h1 c (RcH.rf hT))) id) (fun j hj => absurd hj (by omega))
  · intro m' V k a3 qf qv q1 q2 q3
    have k24 : k ≤ 24 := by rw [qv.2.2.1]; exact cP_le 24
    refine y_iload_n dX5_sizeFrom_12 rfl rfl ?_
    refine y_aload_n dX5_sizeFrom_13 rfl rfl ?_
    refine y_geti dX5_sizeFrom_14 gf_X5_41 sh_122 rfl ?_
    rw [qv.2.1]
    refine y_icmp_ge (tgt := 72) dX5_sizeFrom_17 (by decide) (fun h17 => ?_) (fun h17 => absurd (nI_le (a := k) (b := 24) k24 (by decide)) h17)
    refine y_aload_n dX5_sizeFrom_72 rfl rfl ?_
    refine y_geti dX5_sizeFrom_73 gf_X5_41 sh_122 rfl ?_
    rw [qv.2.1]
    refine y_ireturn dX5_sizeFrom_76 rfl rfl ?_
    have hki : k ≤ 24 := k24
    have FV : ∀ b, RcH T c b → V b := fun b hb => by
      refine hb.ind V q2 (fun u z hu pu tz e => ?_)
      obtain ⟨j, j1, j2⟩ := qv.2.2.2.2.2 u pu
      rcases q3 j (by omega) j1 u j2 (qv.2.2.2.1 u pu) z (h24 z tz) e with s | s
      · exact absurd s (h1 z (hu.st tz e))
      · exact s
    rw [show k = szH T c from qv.2.2.1.trans (cP_congr 24 (fun b _ => ⟨q1 b, FV b⟩))]
    refine hQ m' qf (fun b hb => ⟨fun z => (qv.1 b hb).1 (z.elim Or.inl (fun y => Or.inr (FV b y))), fun z => (qv.1 b hb).2 (fun y => z (y.elim Or.inl (fun y => Or.inr (q1 b y))))⟩)
  · intro i hk hP
    intro m' V k a3 qf qv q1 q2 q3
    have k24 : k ≤ 24 := by rw [qv.2.2.1]; exact cP_le 24
    refine y_iload_n dX5_sizeFrom_12 rfl rfl ?_
    refine y_aload_n dX5_sizeFrom_13 rfl rfl ?_
    refine y_geti dX5_sizeFrom_14 gf_X5_41 sh_122 rfl ?_
    rw [qv.2.1]
    refine y_icmp_ge (tgt := 72) dX5_sizeFrom_17 (by decide) (fun h17 => ?_) (fun h17 => ?_)
    · refine y_aload_n dX5_sizeFrom_72 rfl rfl ?_
      refine y_geti dX5_sizeFrom_73 gf_X5_41 sh_122 rfl ?_
      have hki : k ≤ i := (nI_leI (by omega) (by omega)).mp h17
      rw [qv.2.1]
      refine y_ireturn dX5_sizeFrom_76 rfl rfl ?_
      have FV : ∀ b, RcH T c b → V b := fun b hb => by
        refine hb.ind V q2 (fun u z hu pu tz e => ?_)
        obtain ⟨j, j1, j2⟩ := qv.2.2.2.2.2 u pu
        rcases q3 j (by omega) j1 u j2 (qv.2.2.2.1 u pu) z (h24 z tz) e with s | s
        · exact absurd s (h1 z (hu.st tz e))
        · exact s
      rw [show k = szH T c from qv.2.2.1.trans (cP_congr 24 (fun b _ => ⟨q1 b, FV b⟩))]
      refine hQ m' qf (fun b hb => ⟨fun z => (qv.1 b hb).1 (z.elim Or.inl (fun y => Or.inr (FV b y))), fun z => (qv.1 b hb).2 (fun y => z (y.elim Or.inl (fun y => Or.inr (q1 b y))))⟩)
    · have hik : i < k := (nI_ltI (by omega) (by omega)).mp (Int32.not_le.mp h17)
      obtain ⟨v, hv, Vv⟩ := qv.2.2.2.2.1 i hik
      have v24 := qv.2.2.2.1 v Vv
      refine y_iload_n dX5_sizeFrom_20 rfl rfl ?_
      refine y_bipush (v := 24) dX5_sizeFrom_21 (by decide) ?_
      refine y_icmp_ge (tgt := 72) dX5_sizeFrom_23 (by decide) (fun h23 => absurd h23 (nI_ge (b := 24) hk (by decide))) (fun h23 => ?_)
      refine y_aload_n dX5_sizeFrom_26 rfl rfl ?_
      refine y_getr dX5_sizeFrom_27 gf_X5_15 sh_122 rfl ?_
      refine y_iload_n dX5_sizeFrom_30 rfl rfl ?_
      refine y_ialdN dX5_sizeFrom_31 sh_124 rfl (by first | omega | decide) (by decide) ?_
      rw [hv]
      refine y_ist4_3 dX5_sizeFrom_32 rfl ?_
      refine y_aload_n dX5_sizeFrom_33 rfl rfl ?_
      refine y_iload_n dX5_sizeFrom_34 rfl rfl ?_
      refine y_iconst (v := 2) dX5_sizeFrom_35 (by decide) ?_
      refine y_isub dX5_sizeFrom_36 ?_
      refine y_ivV1 dX5_sizeFrom_37 mv_X5_44 my_X5_awaitCell (Or.inl rfl) sh_122 ?_
      refine c_X5_awaitCell qv (fun m2 V2 k2 f2 v2 w21 w22 w23 w24 w25 => ⟨rfl, ?_⟩)
      refine y_aload_n dX5_sizeFrom_40 rfl rfl ?_
      refine y_iload_n dX5_sizeFrom_41 rfl rfl ?_
      refine y_iconst (v := 2) dX5_sizeFrom_42 (by decide) ?_
      refine y_iaddN (a := v) (b := 2) dX5_sizeFrom_43 rfl rfl ?_
      refine y_ivV1 dX5_sizeFrom_44 mv_X5_44 my_X5_awaitCell (Or.inl rfl) sh_122 ?_
      refine c_X5_awaitCell v2 (fun m3 V3 k3 f3 v3 w31 w32 w33 w34 w35 => ⟨rfl, ?_⟩)
      refine y_aload_n dX5_sizeFrom_47 rfl rfl ?_
      refine y_iload_n dX5_sizeFrom_48 rfl rfl ?_
      refine y_iconst (v := 2) dX5_sizeFrom_49 (by decide) ?_
      refine y_iremN (a := v) (b := 2) dX5_sizeFrom_50 rfl rfl (by omega) (by first | decide | omega) (by first | decide | omega) ?_
      refine y_if_ne (tgt := 60) dX5_sizeFrom_51 (by decide) (fun h51 => ?_) (fun h51 => ?_)
      · have odd : v % 2 = 1 := by
          have : ¬ v % 2 = 0 := fun e => h51 (by rw [e]; rfl)
          omega
        refine y_iload_n dX5_sizeFrom_60 rfl rfl ?_
        refine y_iconst (v := 1) dX5_sizeFrom_61 (by decide) ?_
        refine y_isubN (a := v) (b := 1) dX5_sizeFrom_62 rfl rfl (by omega) ?_
        refine y_ivV1 dX5_sizeFrom_63 mv_X5_44 my_X5_awaitCell (Or.inl rfl) sh_122 ?_
        refine c_X5_awaitCell v3 (fun m4 V4 k4 f4 v4 w41 w42 w43 w44 w45 => ⟨rfl, ?_⟩)
        refine y_iinc4_2 dX5_sizeFrom_66 (nI_1 _) rfl ?_
        refine y_goto (tgt := 12) dX5_sizeFrom_69 (by decide) ?_
        have rV : RcH T c v := q1 v Vv
        have g2 : ∀ b, V2 b → RcH T c b := fun b z => (w24 b z).elim (q1 b) (fun y => rV.st (h0 b y.2.1 y.1) (Or.inr (Or.inl (by
          have e := y.2.2
          have e2 : nI v = nI (b + 2) := by rw [← nI_add, ← e]; show nI v = nI v - 2 + 2; rw [Int32.sub_add_cancel]
          exact (nI_eq (by omega) (by omega)).mp e2))))
        have g3 : ∀ b, V3 b → RcH T c b := fun b z => (w34 b z).elim (g2 b) (fun y => rV.st (h0 b y.2.1 y.1) (Or.inl ((nI_eq (by omega) (by omega)).mp y.2.2).symm))
        have g4 : ∀ b, V4 b → RcH T c b := fun b z => (w44 b z).elim (g3 b) (fun y => rV.st (h0 b y.2.1 y.1) (by
          have e := (nI_eq (by omega) (by omega)).mp y.2.2
          unfold nbH
          omega))
        refine hP m4 V4 k4 _ (qf.tr (f2.tr (f3.tr f4))) v4 g4 (w43 _ (w33 _ (w23 _ q2))) (fun j hj hjk u hu u24 b hb e => ?_)
        by_cases z : j = i
        · have eu : u = v := by
            rw [z, w42 i (by omega), w32 i (by omega), w22 i (by omega), hv] at hu
            exact ((nI_eq (by omega) (by omega)).mp hu).symm
          rw [eu] at e
          rcases e with e | e | e
          · exact (w35 b hb (by rw [e])).elim Or.inl (fun y => Or.inr (w43 _ y))
          · exact (w25 b hb (by rw [e, ← nI_add]; show nI b + 2 - 2 = nI b; rw [Int32.add_sub_cancel])).elim Or.inl (fun y => Or.inr (w43 _ (w33 _ y)))
          · exact w45 b hb (by congr 1; omega)
        · have jk : j < k := by omega
          rw [w42 j (by omega), w32 j (by omega), w22 j (by omega)] at hu
          exact (q3 j (by omega) jk u hu u24 b hb e).elim Or.inl (fun y => Or.inr (w43 _ (w33 _ (w23 _ y))))
      · have evn : v % 2 = 0 := (nI_eq (b := 0) (by omega) (by decide)).mp h51
        refine y_iload_n dX5_sizeFrom_54 rfl rfl ?_
        refine y_iconst (v := 1) dX5_sizeFrom_55 (by decide) ?_
        refine y_iaddN (a := v) (b := 1) dX5_sizeFrom_56 rfl rfl ?_
        refine y_goto (tgt := 63) dX5_sizeFrom_57 (by decide) ?_
        refine y_ivV1 dX5_sizeFrom_63 mv_X5_44 my_X5_awaitCell (Or.inl rfl) sh_122 ?_
        refine c_X5_awaitCell v3 (fun m4 V4 k4 f4 v4 w41 w42 w43 w44 w45 => ⟨rfl, ?_⟩)
        refine y_iinc4_2 dX5_sizeFrom_66 (nI_1 _) rfl ?_
        refine y_goto (tgt := 12) dX5_sizeFrom_69 (by decide) ?_
        have rV : RcH T c v := q1 v Vv
        have g2 : ∀ b, V2 b → RcH T c b := fun b z => (w24 b z).elim (q1 b) (fun y => rV.st (h0 b y.2.1 y.1) (Or.inr (Or.inl (by
          have e := y.2.2
          have e2 : nI v = nI (b + 2) := by rw [← nI_add, ← e]; show nI v = nI v - 2 + 2; rw [Int32.sub_add_cancel]
          exact (nI_eq (by omega) (by omega)).mp e2))))
        have g3 : ∀ b, V3 b → RcH T c b := fun b z => (w34 b z).elim (g2 b) (fun y => rV.st (h0 b y.2.1 y.1) (Or.inl ((nI_eq (by omega) (by omega)).mp y.2.2).symm))
        have g4 : ∀ b, V4 b → RcH T c b := fun b z => (w44 b z).elim (g3 b) (fun y => rV.st (h0 b y.2.1 y.1) (by
          have e := (nI_eq (by omega) (by omega)).mp y.2.2
          unfold nbH
          omega))
        refine hP m4 V4 k4 _ (qf.tr (f2.tr (f3.tr f4))) v4 g4 (w43 _ (w33 _ (w23 _ q2))) (fun j hj hjk u hu u24 b hb e => ?_)
        by_cases z : j = i
        · have eu : u = v := by
            rw [z, w42 i (by omega), w32 i (by omega), w22 i (by omega), hv] at hu
            exact ((nI_eq (by omega) (by omega)).mp hu).symm
          rw [eu] at e
          rcases e with e | e | e
          · exact (w35 b hb (by rw [e])).elim Or.inl (fun y => Or.inr (w43 _ y))
          · exact (w25 b hb (by rw [e, ← nI_add]; show nI b + 2 - 2 = nI b; rw [Int32.add_sub_cancel])).elim Or.inl (fun y => Or.inr (w43 _ (w33 _ y)))
          · exact w45 b hb (by congr 1; omega)
        · have jk : j < k := by omega
          rw [w42 j (by omega), w32 j (by omega), w22 j (by omega)] at hu
          exact (q3 j (by omega) jk u hu u24 b hb e).elim Or.inl (fun y => Or.inr (w43 _ (w33 _ (w23 _ y))))
set_option maxHeartbeats 1000000 in
theorem c_X5_search {L : Nat} {xs : Nat → Int32} {d : Nat} {m : sM} {n : sN} {Q : sQ} {R : Nat → Int32} (hD : DD m 13 R) (ht : tnR R) (hQ : ∀ m', (∀ a, a ≠ 122 → a ≠ 123 → a ≠ 124 → m' a = m a) → m' 122 3 = nI (cHo (HH (tH R)) 24) → m' 122 4 = nI (mHo (HH (tH R)) 24) → Q none m' n) : sRun (scT L xs) (d + 3) yX5_search cX5_search 3 none [.ref 122, .ref 13] m n Q := by
  obtain ⟨T, eT⟩ : ∃ T, T = tH R := ⟨_, rfl⟩
  rw [← eT] at hQ
  have h24 : ∀ b, T b → b < 24 := fun b z => by rw [eT] at z; exact z.1
  refine y_run (own := "LoafFall$Holes") rfl (by decide +kernel) (Nat.le_of_ble_eq_true rfl) rfl ?_
  refine y_aload_n dX5_search_0 rfl rfl ?_
  refine y_iconst (v := 0) dX5_search_1 (by decide) ?_
  refine y_puti dX5_search_2 pf_X5_19 sh_122 rfl rfl rfl ?_
  refine y_aload_n dX5_search_5 rfl rfl ?_
  refine y_iconst (v := 0) dX5_search_6 (by decide) ?_
  refine y_puti dX5_search_7 pf_X5_23 sh_122 rfl rfl rfl ?_
  refine y_iconst (v := 0) dX5_search_10 (by decide) ?_
  refine y_ist3_2 dX5_search_11 rfl ?_
  have hst : ∀ m1, (∀ a, a ≠ 122 → a ≠ 123 → a ≠ 124 → m1 a = m a) → m1 122 3 = 0 → m1 122 4 = 0 → SBs m1 (fun b => ¬ T b) → ∀ a2 : Option Value, sV (scT L xs) (d + 2) "LoafFall$Holes" cX5_search 3 none Q 44 [some (.ref 122), some (.ref 13), a2] [] m1 n := by
    intro m1 f1 f2 f3 f4 a2
    refine y_iconst (v := 0) dX5_search_44 (by decide) ?_
    refine y_ist3_2 dX5_search_45 rfl ?_
    refine cnt (P := fun c => ∀ m', (∀ a, a ≠ 122 → a ≠ 123 → a ≠ 124 → m' a = m a) → m' 122 3 = nI (cHo (HH T) c) → m' 122 4 = nI (mHo (HH T) c) → SBs m' (fun b => ¬ T b ∨ ∃ a, a < c ∧ RcH T a b) → sV (scT L xs) (d + 2) "LoafFall$Holes" cX5_search 3 none Q 46 [some (.ref 122), some (.ref 13), some (.int (nI c))] [] m' n) 24 ?_ ?_ 0 (by omega) m1 f1 f2 f3 (fun b hb => ⟨fun z => (f4 b hb).1 (z.elim id (fun ⟨a, ha, _⟩ => absurd ha (by omega))), fun z => (f4 b hb).2 (fun y => z (Or.inl y))⟩)
    · intro m' q1 q2 q3 q4
      refine y_iload_n dX5_search_46 rfl rfl ?_
      refine y_bipush (v := 24) dX5_search_47 (by decide) ?_
      refine y_icmp_ge (tgt := 93) dX5_search_49 (by decide) (fun h49 => ?_) (fun h49 => absurd (nI_le (a := 24) (b := 24) (Nat.le_refl _) (by decide)) h49)
      refine y_return dX5_search_93 rfl ?_
      exact hQ _ q1 q2 q3
    · intro c hk hP
      intro m' q1 q2 q3 q4
      refine y_iload_n dX5_search_46 rfl rfl ?_
      refine y_bipush (v := 24) dX5_search_47 (by decide) ?_
      refine y_icmp_ge (tgt := 93) dX5_search_49 (by decide) (fun h49 => absurd h49 (nI_ge (a := c) (b := 24) hk (by decide))) (fun h49 => ?_)
      refine y_aload_n dX5_search_52 rfl rfl ?_
      refine y_getr dX5_search_53 gf_X5_9 sh_122 rfl ?_
      refine y_iload_n dX5_search_56 rfl rfl ?_
      refine y_zaldN dX5_search_57 sh_123 rfl (by first | omega | decide) (by decide) ?_
      refine y_if_ne (tgt := 87) dX5_search_58 (by decide) (fun h58 => ?_) (fun h58 => ?_)
      · refine y_iinc3_2 dX5_search_87 (nI_1 _) rfl ?_
        refine y_goto (tgt := 46) dX5_search_90 (by decide) ?_
        first
          | (refine hP _ (fun a x1 x2 x3 => by rw [s_upN x1, g1.1 a x1 x2 x3, e1 a x1]; exact q1 a x1 x2 x3) (by rw [s_upS, updN (by omega), g1.2.1]; exact e3) (by rw [s_upS, updS]) (fun b hb => ?_)
             rw [s_upN (by omega)]
             refine ⟨fun z => (g2 b hb).1 ?_, fun z => (g2 b hb).2 (fun y => z ?_)⟩
             · rcases z with z | ⟨a, ha, z⟩
               · exact Or.inl (Or.inl z)
               · by_cases e : a = c
                 · exact Or.inr (e ▸ z)
                 · exact Or.inl (Or.inr ⟨a, by omega, z⟩)
             · rcases y with (y | ⟨a, ha, y⟩) | y
               · exact Or.inl y
               · exact Or.inr ⟨a, by omega, y⟩
               · exact Or.inr ⟨c, by omega, y⟩)
          | (have yS : ¬ T c ∨ ∃ a, a < c ∧ RcH T a c := Classical.byContradiction (fun z => absurd ((q4 c hk).2 z) h58)
             have ndc : ¬ hdH T c := fun z => yS.elim (fun y => y z.1) (fun ⟨a, ha, y⟩ => absurd (z.2 a y.sy) (by omega))
             refine hP m' q1 (by rw [cHo, HH_n ndc]; exact q2) (by rw [mHo, HH_n ndc, if_neg (by omega)]; exact q3) (fun b hb => ⟨fun z => (q4 b hb).1 ?_, fun z => (q4 b hb).2 (fun y => z ?_)⟩)
             · rcases z with z | ⟨a, ha, z⟩
               · exact Or.inl z
               · by_cases e : a = c
                 · rcases yS with y | ⟨a', ha', y⟩
                   · exact absurd (e ▸ z.1) y
                   · exact Or.inr ⟨a', ha', y.tr (e ▸ z)⟩
                 · exact Or.inr ⟨a, by omega, z⟩
             · rcases y with y | ⟨a, ha, y⟩
               · exact Or.inl y
               · exact Or.inr ⟨a, by omega, y⟩)
      · have nS : ¬ (¬ T c ∨ ∃ a, a < c ∧ RcH T a c) := fun z => by
          rw [(q4 c hk).1 z] at h58
          exact absurd h58 (by decide)
        have Tc : T c := Classical.byContradiction (fun z => nS (Or.inl z))
        have hdc : hdH T c := ⟨Tc, fun b hb => Nat.le_of_not_lt (fun z => nS (Or.inr ⟨b, z, hb.sy⟩))⟩
        have q2' : cHo (HH T) (c + 1) = cHo (HH T) c + 1 := by rw [cHo, if_pos (HH_p hk hdc)]
        refine y_aload_n dX5_search_61 rfl rfl ?_
        refine y_dup dX5_search_62 rfl ?_
        refine y_geti dX5_search_63 gf_X5_19 sh_122 rfl ?_
        rw [q2]
        refine y_iconst (v := 1) dX5_search_66 (by decide) ?_
        refine y_iaddN (a := (cHo (HH T) c)) (b := 1) dX5_search_67 rfl rfl ?_
        refine y_puti dX5_search_68 pf_X5_19 sh_122 rfl rfl rfl ?_
        generalize hm2 : s_up m' 122 (upd (m' 122) 3 (nI (cHo (HH T) c + 1))) = m2
        have e1 : ∀ a, a ≠ 122 → m2 a = m' a := fun a ha => by rw [← hm2, s_upN ha]
        have e3 : m2 122 3 = nI (cHo (HH T) (c + 1)) := by rw [q2', ← hm2, s_upS, updS]
        have e4 : m2 122 4 = nI (mHo (HH T) c) := by rw [← hm2, s_upS, updN (by omega)]; exact q3
        refine y_aload_n dX5_search_71 rfl rfl ?_
        refine y_aload_n dX5_search_72 rfl rfl ?_
        refine y_geti dX5_search_73 gf_X5_23 sh_122 rfl ?_
        rw [e4]
        refine y_aload_n dX5_search_76 rfl rfl ?_
        refine y_iload_n dX5_search_77 rfl rfl ?_
        refine y_ivI1 dX5_search_78 mv_X5_31 my_X5_sizeFrom (Or.inl rfl) sh_122 ?_
        refine c_X5_sizeFrom (S0 := fun b => ¬ T b ∨ ∃ a, a < c ∧ RcH T a b) (T := T) rfl hk Tc (fun b hb z => Classical.byContradiction (fun y => z (Or.inl y))) (fun b z y => y.elim (fun y => y z.t2) (fun ⟨a, ha, y⟩ => nS (Or.inr ⟨a, ha, y.tr z.sy⟩))) h24 (fun b hb => by rw [e1 _ (by omega)]; exact q4 b hb) (fun m3 g1 g2 => ⟨_, rfl, ?_⟩)
        refine y_mmax dX5_search_81 mm_X5_35 (Nat.le_of_ble_eq_true rfl) ?_
        rw [show (if nI (mHo (HH T) c) < nI (szH T c) then nI (szH T c) else nI (mHo (HH T) c)) = nI (mHo (HH T) (c + 1)) from by
          rw [mHo, HH_y hdc]
          have a1 : mHo (HH T) c ≤ 24 := mHo_le (fun _ => HH_le) c
          have a2 : szH T c ≤ 24 := cP_le 24
          by_cases z : mHo (HH T) c < szH T c
          · rw [if_pos z, if_pos (nI_lt z (by omega))]
          · rw [if_neg z, if_neg (fun y => z ((nI_ltI (by omega) (by omega)).mp y))]]
        refine y_puti dX5_search_84 pf_X5_23 sh_122 rfl rfl rfl ?_
        refine y_iinc3_2 dX5_search_87 (nI_1 _) rfl ?_
        refine y_goto (tgt := 46) dX5_search_90 (by decide) ?_
        first
          | (refine hP _ (fun a x1 x2 x3 => by rw [s_upN x1, g1.1 a x1 x2 x3, e1 a x1]; exact q1 a x1 x2 x3) (by rw [s_upS, updN (by omega), g1.2.1]; exact e3) (by rw [s_upS, updS]) (fun b hb => ?_)
             rw [s_upN (by omega)]
             refine ⟨fun z => (g2 b hb).1 ?_, fun z => (g2 b hb).2 (fun y => z ?_)⟩
             · rcases z with z | ⟨a, ha, z⟩
               · exact Or.inl (Or.inl z)
               · by_cases e : a = c
                 · exact Or.inr (e ▸ z)
                 · exact Or.inl (Or.inr ⟨a, by omega, z⟩)
             · rcases y with (y | ⟨a, ha, y⟩) | y
               · exact Or.inl y
               · exact Or.inr ⟨a, by omega, y⟩
               · exact Or.inr ⟨c, by omega, y⟩)
          | (have yS : ¬ T c ∨ ∃ a, a < c ∧ RcH T a c := Classical.byContradiction (fun z => absurd ((q4 c hk).2 z) h58)
             have ndc : ¬ hdH T c := fun z => yS.elim (fun y => y z.1) (fun ⟨a, ha, y⟩ => absurd (z.2 a y.sy) (by omega))
             refine hP m' q1 (by rw [cHo, HH_n ndc]; exact q2) (by rw [mHo, HH_n ndc, if_neg (by omega)]; exact q3) (fun b hb => ⟨fun z => (q4 b hb).1 ?_, fun z => (q4 b hb).2 (fun y => z ?_)⟩)
             · rcases z with z | ⟨a, ha, z⟩
               · exact Or.inl z
               · by_cases e : a = c
                 · rcases yS with y | ⟨a', ha', y⟩
                   · exact absurd (e ▸ z.1) y
                   · exact Or.inr ⟨a', ha', y.tr (e ▸ z)⟩
                 · exact Or.inr ⟨a, by omega, z⟩
             · rcases y with y | ⟨a, ha, y⟩
               · exact Or.inl y
               · exact Or.inr ⟨a, by omega, y⟩)
  refine cnt (P := fun i => ∀ m', (∀ a, a ≠ 122 → a ≠ 123 → m' a = m a) → m' 122 3 = 0 → m' 122 4 = 0 → (∀ b, b < i → (¬ T b → m' 123 b = 1) ∧ (T b → m' 123 b = 0)) → sV (scT L xs) (d + 2) "LoafFall$Holes" cX5_search 3 none Q 12 [some (.ref 122), some (.ref 13), some (.int (nI i))] [] m' n) 24 ?_ ?_ 0 (by omega) _ (fun a x1 x2 => by rw [s_upN x1, s_upN x1]) (by rw [s_upS, updN (by omega), s_upS, updS]) (by rw [s_upS, updS]) (fun b hb => absurd hb (by omega))
  · intro m' q1 q2 q3 q4
    refine y_iload_n dX5_search_12 rfl rfl ?_
    refine y_bipush (v := 24) dX5_search_13 (by decide) ?_
    refine y_icmp_ge (tgt := 44) dX5_search_15 (by decide) (fun h15 => ?_) (fun h15 => absurd (nI_le (a := 24) (b := 24) (Nat.le_refl _) (by decide)) h15)
    exact hst m' (fun a h1 h2 _ => q1 a h1 h2) q2 q3 (fun b hb => ⟨fun z => (q4 b hb).1 z, fun z => (q4 b hb).2 (Classical.byContradiction z)⟩) _
  · intro i hk hP
    intro m' q1 q2 q3 q4
    refine y_iload_n dX5_search_12 rfl rfl ?_
    refine y_bipush (v := 24) dX5_search_13 (by decide) ?_
    refine y_icmp_ge (tgt := 44) dX5_search_15 (by decide) (fun h15 => absurd h15 (nI_ge (a := i) (b := 24) hk (by decide))) (fun h15 => ?_)
    refine y_aload_n dX5_search_18 rfl rfl ?_
    refine y_getr dX5_search_19 gf_X5_9 sh_122 rfl ?_
    refine y_iload_n dX5_search_22 rfl rfl ?_
    refine y_aload_n dX5_search_23 rfl rfl ?_
    refine y_getr dX5_search_24 gf_X5_26 lf6.2.2.2.1.1 rfl ?_
    refine y_iload_n dX5_search_27 rfl rfl ?_
    refine y_ialdN dX5_search_28 lf6.2.2.2.1.2.2.2.2.2 rfl (by first | omega | decide) (by decide) ?_
    rw [q1 _ (by omega) (by omega), show m (13 + 5) i = R (41 + 5 * i + 4) from (hD.1 i hk).2.2.2.2]
    refine y_if_ne (tgt := 36) dX5_search_29 (by decide) (fun h29 => ?_) (fun h29 => ?_)
    · refine y_iconst (v := 0) dX5_search_36 (by decide) ?_
      refine y_zastN dX5_search_37 sh_123 rfl (by first | omega | decide) (by decide) rfl ?_
      refine y_iinc3_2 dX5_search_38 (nI_1 _) rfl ?_
      refine y_goto (tgt := 12) dX5_search_41 (by decide) ?_
      have tI : T i ↔ R (41 + 5 * i + 4) = 1 := by rw [eT]; exact ⟨fun z => z.2, fun z => ⟨hk, z⟩⟩
      refine hP _ (fun a x1 x2 => by rw [s_upN x2]; exact q1 a x1 x2) (by rw [s_upN (by omega)]; exact q2) (by rw [s_upN (by omega)]; exact q3) (fun b hb => ?_)
      rw [s_upS, upd_ap]
      by_cases e : b = i
      · rw [if_pos e, e]
        first
          | exact ⟨fun z => absurd (tI.mpr ((ht i hk).resolve_left h29)) z, fun _ => rfl⟩
          | exact ⟨fun _ => rfl, fun z => absurd (h29.symm.trans (tI.mp z)) (by decide)⟩
      · rw [if_neg e]; exact q4 b (by omega)
    · refine y_iconst (v := 1) dX5_search_32 (by decide) ?_
      refine y_goto (tgt := 37) dX5_search_33 (by decide) ?_
      refine y_zastN dX5_search_37 sh_123 rfl (by first | omega | decide) (by decide) rfl ?_
      refine y_iinc3_2 dX5_search_38 (nI_1 _) rfl ?_
      refine y_goto (tgt := 12) dX5_search_41 (by decide) ?_
      have tI : T i ↔ R (41 + 5 * i + 4) = 1 := by rw [eT]; exact ⟨fun z => z.2, fun z => ⟨hk, z⟩⟩
      refine hP _ (fun a x1 x2 => by rw [s_upN x2]; exact q1 a x1 x2) (by rw [s_upN (by omega)]; exact q2) (by rw [s_upN (by omega)]; exact q3) (fun b hb => ?_)
      rw [s_upS, upd_ap]
      by_cases e : b = i
      · rw [if_pos e, e]
        first
          | exact ⟨fun z => absurd (tI.mpr ((ht i hk).resolve_left h29)) z, fun _ => rfl⟩
          | exact ⟨fun _ => rfl, fun z => absurd (h29.symm.trans (tI.mp z)) (by decide)⟩
      · rw [if_neg e]; exact q4 b (by omega)
