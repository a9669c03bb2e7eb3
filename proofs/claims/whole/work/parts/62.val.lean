/-! ===== what a flour and a doing come to; tried on aside; the first best ===== -/
def BV (R : Nat → Int32) : Nat → Int32 := bakesF (Tn R (cOf R)) R
def WV (R : Nat → Int32) : Int32 := worthF (BV R)
def HV (R : Nat → Int32) : Int32 := hgt (BV R) 12
def CV (R : Nat → Int32) : Nat → Int32 := cutF (BV R)
def NV (R : Nat → Int32) : Int32 := tornS (BV R) 24
theorem i_BV {R : Nat → Int32} (hf : flR R) (h : dOK R) : iR (BV R) := by
  obtain ⟨h1, h2, h3, h4, h5⟩ := h
  exact (s_goes (s_begins hf h1 h2 h3) _).1
/-- rows of one flour and one doing -/
def eqD (R R' : Nat → Int32) : Prop := (∀ p, p < 6 → R' p = R p) ∧ ∀ i, i < cOf R → R' (6 + 3 * i + 0) = R (6 + 3 * i + 0) ∧ R' (6 + 3 * i + 1) = R (6 + 3 * i + 1) ∧ R' (6 + 3 * i + 2) = R (6 + 3 * i + 2)
theorem eqD_36 {R R' : Nat → Int32} (hc : cOf R ≤ 10) (e : ∀ p, p < 36 → R' p = R p) : eqD R R' := ⟨fun p hp => e p (by omega), fun i hi => ⟨e _ (by omega), e _ (by omega), e _ (by omega)⟩⟩
theorem BV_congr {R R' : Nat → Int32} (h : dOK R) (h' : dOK R') (e : eqD R R') : eqE (BV R) (BV R') := by
  obtain ⟨h1, h2, h3, h4, h5⟩ := h
  obtain ⟨k1, k2, k3, k4, k5⟩ := h'
  have ec : cOf R' = cOf R := by unfold cOf; rw [e.1 5 (by omega)]
  have b1 := bakes_eq h1 h2 h3 h4
  have b2 := bakes_eq k1 k2 k3 k4
  rw [ec] at b2
  have e0 : eqE (beginsF R) (beginsF R') := eqE_begins (fun p hp => e.1 p (by omega))
  have e1 : eqE (stepsF (cOf R) (beginsF R)) (stepsF (cOf R) (beginsF R')) := eqE_steps e0 _ h2 (fun a ha => by
    obtain ⟨a1, a2, a3⟩ := e.2 a ha
    rw [begins_low (by omega), begins_low (by omega), begins_low (by omega), begins_low (by omega), begins_low (by omega), begins_low (by omega)]
    exact ⟨a1, a2, a3⟩)
  have e2 : eqE (tableF (cOf R) (beginsF R)) (tableF (cOf R) (beginsF R')) := eqE_turns e1 6
  unfold BV
  rw [ec]
  exact (b1.sy.tr e2).tr b2
theorem WV_congr {R R' : Nat → Int32} (h : dOK R) (h' : dOK R') (e : eqD R R') : WV R' = WV R := worth_OB (OB_eqE (BV_congr h h' e))
theorem HV_congr {R R' : Nat → Int32} (h : dOK R) (h' : dOK R') (e : eqD R R') : HV R' = HV R := hgt_OB (OB_eqE (BV_congr h h' e)) 12 (Nat.le_refl _)
theorem NV_congr {R R' : Nat → Int32} (h : dOK R) (h' : dOK R') (e : eqD R R') : NV R' = NV R := tornS_OB (OB_eqE (BV_congr h h' e)) 24 (Nat.le_refl _)
theorem CV_congr {R R' : Nat → Int32} (hf : flR R) (h : dOK R) (h' : dOK R') (e : eqD R R') {k : Nat} (hk : k < 24) : CV R' k = CV R k := cut_OB (OB_eqE (BV_congr h h' e)) (i_BV hf h).2.2.1 hk
theorem unl_eq {f f' g g' : Nat → Int32} : ∀ k, (∀ i, i < k → f i = f' i ∧ g i = g' i) → unlS f g k = unlS f' g' k := by
  intro k
  induction k with
  | zero => intro _; rfl
  | succ k ih => intro h; rw [unlS, unlS, ih (fun i hi => h i (by omega)), (h k (by omega)).1, (h k (by omega)).2]
theorem spo_eq {f f' : Nat → Int32} : ∀ k, (∀ i, i < k → f i = f' i) → spoS f k = spoS f' k := by
  intro k
  induction k with
  | zero => intro _; rfl
  | succ k ih => intro h; rw [spoS, spoS, ih (fun i hi => h i (by omega)), h k (by omega)]
theorem unl_le {f g : Nat → Int32} : ∀ k, ∃ u : Nat, u ≤ k ∧ unlS f g k = nI u := by
  intro k
  induction k with
  | zero => exact ⟨0, Nat.le_refl _, nI_0.symm⟩
  | succ k ih =>
    obtain ⟨u, h1, h2⟩ := ih
    rw [unlS, h2]
    by_cases z : f k = g k
    · rw [if_pos z]; exact ⟨u, by omega, Int32.add_zero _⟩
    · rw [if_neg z]; exact ⟨u + 1, by omega, nI_1 u⟩
theorem spo_le {f : Nat → Int32} : ∀ k, ∃ u : Nat, u ≤ k ∧ spoS f k = nI u := by
  intro k
  induction k with
  | zero => exact ⟨0, Nat.le_refl _, nI_0.symm⟩
  | succ k ih =>
    obtain ⟨u, h1, h2⟩ := ih
    rw [spoS, h2]
    by_cases z : f k = 0
    · rw [if_pos z]; exact ⟨u, by omega, Int32.add_zero _⟩
    · rw [if_neg z]; exact ⟨u + 1, by omega, nI_1 u⟩
theorem unl_lt {f g : Nat → Int32} : unlS f g 24 < 25 := by
  obtain ⟨u, h1, h2⟩ := unl_le (f := f) (g := g) 24
  rw [h2]
  exact nI_lt (b := 25) (by omega) (by decide)
theorem spo_lt {f : Nat → Int32} : spoS f 24 < 25 := by
  obtain ⟨u, h1, h2⟩ := spo_le (f := f) 24
  rw [h2]
  exact nI_lt (b := 25) (by omega) (by decide)
/-- heights and worths are small -/
theorem hgt_le {R : Nat → Int32} (hg : gasB 612 R) (ht : tnR R) : ∀ k, k ≤ 12 → ∃ u : Nat, u ≤ 71 * k ∧ hgt R k = nI u := by
  intro k
  induction k with
  | zero => intro _; exact ⟨0, Nat.le_refl _, nI_0.symm⟩
  | succ k ih =>
    intro hk
    obtain ⟨u, u1, u2⟩ := ih (by omega)
    obtain ⟨⟨a, a1, a2⟩, -⟩ := hg (2 * k) (by omega)
    obtain ⟨⟨b, b1, b2⟩, -⟩ := hg (2 * k + 1) (by omega)
    obtain ⟨x, x1, x2⟩ : ∃ x : Nat, x ≤ 1 ∧ R (41 + 5 * (2 * k) + 4) = nI x := by
      rcases ht (2 * k) (by omega) with z | z
      · exact ⟨0, by omega, z.trans nI_0.symm⟩
      · exact ⟨1, by omega, z⟩
    obtain ⟨y, y1, y2⟩ : ∃ y : Nat, y ≤ 1 ∧ R (41 + 5 * (2 * k + 1) + 4) = nI y := by
      rcases ht (2 * k + 1) (by omega) with z | z
      · exact ⟨0, by omega, z.trans nI_0.symm⟩
      · exact ⟨1, by omega, z⟩
    rw [hgt, u2, a1, b1, x2, y2, nI_add, nI_add, show nI (a + b) / 20 = nI ((a + b) / 20) from pk_div (d := 20) (by omega) (by decide) (by decide)]
    rw [show (10 : Int32) = nI 10 from rfl, nI_add, show (3 : Int32) * nI (x + y) = nI (3 * (x + y)) from pk_mul 3 (x + y), pk_sub (by omega), nI_add]
    exact ⟨_, by omega, rfl⟩
theorem done_le {R : Nat → Int32} : ∀ k, ∃ u : Nat, u ≤ k ∧ doneS R k = nI u := by
  intro k
  induction k with
  | zero => exact ⟨0, Nat.le_refl _, nI_0.symm⟩
  | succ k ih =>
    obtain ⟨u, h1, h2⟩ := ih
    rw [doneS, h2]
    by_cases z : R (41 + 5 * k + 4) = 0 ∧ 50 ≤ R (41 + 5 * k + 3)
    · rw [if_pos z]; exact ⟨u + 1, by omega, nI_1 u⟩
    · rw [if_neg z]; exact ⟨u, by omega, Int32.add_zero _⟩
theorem worth_le {R : Nat → Int32} (h : iR R) : ∃ u : Nat, u ≤ 1000 ∧ worthF R = nI u := by
  obtain ⟨a, a1, a2⟩ := hgt_le h.1 h.2.2.1 12 (Nat.le_refl _)
  obtain ⟨b, b1, b2⟩ := done_le (R := R) 24
  have t := tornS_N h.2.2.1 24 (Nat.le_refl _)
  have t2 := tornN_le R 24
  unfold worthF
  rw [a2, b2, t, nI_add, show (5 : Int32) * nI (tornN R 24) = nI (5 * tornN R 24) from pk_mul 5 _]
  unfold gtr
  by_cases z : 5 * tornN R 24 ≤ a + b
  · rw [pk_sub z]
    split
    · exact ⟨0, by omega, nI_0.symm⟩
    · exact ⟨_, by omega, rfl⟩
  · have e : (nI (a + b) - nI (5 * tornN R 24)) < 0 := by
      rw [Int32.lt_iff_toInt_lt, Int32.toInt_sub, nI_toInt (by omega), nI_toInt (by omega), show (0 : Int32).toInt = 0 from rfl]
      rw [Int.bmod_eq_of_le (by omega) (by omega)]
      omega
    rw [if_pos e]
    exact ⟨0, by omega, nI_0.symm⟩
theorem hv_le {R : Nat → Int32} (hf : flR R) (h : dOK R) : ∃ u : Nat, u ≤ 1000 ∧ HV R = nI u := by
  obtain ⟨u, h1, h2⟩ := hgt_le (i_BV hf h).1 (i_BV hf h).2.2.1 12 (Nat.le_refl _)
  exact ⟨u, by omega, h2⟩
theorem wv_le {R : Nat → Int32} (hf : flR R) (h : dOK R) : ∃ u : Nat, u ≤ 1000 ∧ WV R = nI u := worth_le (i_BV hf h)
theorem wv_gt {R : Nat → Int32} (hf : flR R) (h : dOK R) : -1 < WV R := by
  obtain ⟨u, h1, h2⟩ := wv_le hf h
  rw [h2]
  exact Int32.lt_of_lt_of_le (by decide) (nI_pos' (by omega))
/-- the reference's memory while it tries on aside -/
def WM (m0 M : sM) : Prop := M = m0 ∨ ∃ h R, M = stR (wkM m0 1316) h 1316 R
theorem WM.fr {m0 M : sM} (h : WM m0 M) : frM m0 M := by
  rcases h with rfl | ⟨h, R, rfl⟩
  · exact frM.rf
  · exact frM.wk.tr frM.st
theorem WM.st {m0 : sM} {h R : Nat → Int32} : WM m0 (stR (wkM m0 1316) h 1316 R) := Or.inr ⟨h, R, rfl⟩
theorem stR_ext {m : sM} {h : Nat → Int32} {b : Nat} {R R' : Nat → Int32} (e : ∀ p, p < 329 → R' p = R p) : stR m h b R' = stR m h b R := by
  unfold stR
  congr 1
  funext j
  by_cases z : b ≤ j ∧ j < b + 329
  · rw [if_pos z, if_pos z, e _ (by omega)]
  · rw [if_neg z, if_neg z]
theorem WM.wk {m0 M : sM} (h : WM m0 M) : ∃ h' R', wkM M 1316 = stR (wkM m0 1316) h' 1316 R' := by
  rcases h with rfl | ⟨h', R', rfl⟩
  · exact ⟨_, _, wk_eta M 4⟩
  · exact ⟨h', R', by rw [wk_stR, wk_2]⟩
theorem c_layOwn {L : Nat} {xs : Nat → Int32} {d : Nat} {m0 M : sM} {n : sN} {Q : sQ} (hW : WM m0 M) (hQ : ∀ h, Q none (stR (wkM m0 1316) h 1316 (lfR m0 0)) n) : sRun (scT L xs) (d + 2) yX12_layOwn cX12_layOwn 1 none [.ref 239] M n Q := by
  refine c_X12_layOwn ?_
  obtain ⟨h', R', e⟩ := hW.wk
  rw [e, stR_2, stR_ext (R := lfR m0 0) (fun p hp => by
    rw [hW.fr.2.2 p (by omega)]
    show _ = m0 254 (329 * 0 + p)
    rw [Nat.mul_zero, Nat.zero_add])]
  exact hQ _
theorem c_layBoth {L : Nat} {xs : Nat → Int32} {d : Nat} {m0 M : sM} {n : sN} {Q : sQ} {f g : Nat} {x z : Int32} (hW : WM m0 M) (hx : x = nI f) (hf : f < 4) (hz : z = nI g) (hg : g < 4) (hQ : ∀ h R, Q none (stR (wkM m0 1316) h 1316 (bothR m0 f g R)) n) : sRun (scT L xs) (d + 3) yX12_layBoth cX12_layBoth 3 none [.ref 239, .int x, .int z] M n Q := by
  refine c_X12_layBoth hx hf hz hg ?_
  obtain ⟨h', R', e⟩ := hW.wk
  rw [e, stR_2, both_m (hW.fr.1 247 (by omega)) (hW.fr.1 249 (by omega)) (hW.fr.1 250 (by omega))]
  exact hQ _ _
theorem c_layLaw {L : Nat} {xs : Nat → Int32} {d : Nat} {m0 M : sM} {n : sN} {Q : sQ} {l f g : Nat} {y x z : Int32} (hW : WM m0 M) (hy : y = nI l) (hl : l < 81) (hx : x = nI f) (hf : f < 4) (hz : z = nI g) (hg : g < 4) (hQ : ∀ h R, Q none (stR (wkM m0 1316) h 1316 (upd (upd (bothR m0 f g R) 0 (nI (1 + l / 9))) 1 (nI (10 + 10 * (l % 9))))) n) : sRun (scT L xs) (d + 4) yX12_layLaw cX12_layLaw 4 none [.ref 239, .int y, .int x, .int z] M n Q := by
  refine c_X12_layLaw hy hl hx hf hz hg ?_
  obtain ⟨h', R', e⟩ := hW.wk
  rw [e, stR_2, both_m (hW.fr.1 247 (by omega)) (hW.fr.1 249 (by omega)) (hW.fr.1 250 (by omega))]
  exact hQ _ _
theorem c_bakesW {L : Nat} {xs : Nat → Int32} {d : Nat} {m : sM} {n : sN} {Q : sQ} {b : Nat} {R h : Nat → Int32} (hb : bAt m b) (hd : dOK R) (hQ : ∀ h', Q none (stR m h' b (BV R)) n) : sRun (scT L xs) (d + 8) yX12_bakes cX12_bakes 1 none [.ref 239] (stR m h b R) n Q :=
  c_X12_bakes hb hd.1 hd.2.1 (rsum_Tn hd.2.2.1 hd.2.2.2.1 _ (Nat.le_refl _)) hd.2.2.2.2 hQ
theorem dh43 : isDh 43 := lf36.2.2.2.1
/-- the baker bakes: what can be told of its dough -/
theorem c_bakeV {L : Nat} {xs : Nat → Int32} {d : Nat} {m : sM} {n : sN} {Q : sQ} {F1 G1 : Nat} {R : Nat → Int32} (hF : isFl F1) (hG : isDg G1) (hFo : F1 + 2 ≤ 35 ∨ 122 ≤ F1) (hGo : G1 + 4 ≤ 35 ∨ 122 ≤ G1) (hf : FR m F1 R) (hg : DR m G1 R) (hfl : flR R) (hd : dOK R) (hb1 : m F1 1 = 0 ∨ m F1 1 = 1) (hb2 : m G1 4 = 0 ∨ m G1 4 = 1) (hB : BK m) (hQ : ∀ m' A, DD m' 43 A → iR A → OB (BV R) A → BK m' → (∀ a, a < 35 ∨ 122 ≤ a → m' a = m a) → Q (some (.ref 43)) m' n) : sRun (scT L xs) (d + 6) yX0_bake cX0_bake 5 (some (.object "LoafFall$Dough")) [.ref 35, .ref F1, .ref G1] m n Q :=
  c_X0_bake hF hG hFo hGo hf hg hfl hd.1 hd.2.1 hd.2.2.1 hd.2.2.2.1 hb1 hb2 hB hQ
theorem OB.w {R A : Nat → Int32} (h : OB (BV R) A) : worthF A = WV R := worth_OB h
theorem OB.h {R A : Nat → Int32} (h : OB (BV R) A) : hgt A 12 = HV R := hgt_OB h 12 (Nat.le_refl _)
theorem OB.t {R A : Nat → Int32} (h : OB (BV R) A) (hf : flR R) (hd : dOK R) : A 40 = NV R := by
  unfold NV
  rw [h.2, (i_BV hf hd).wf, tornS_N (i_BV hf hd).2.2.1 24 (Nat.le_refl _)]
theorem OB.c {R A : Nat → Int32} (h : OB (BV R) A) (hf : flR R) (hd : dOK R) {k : Nat} (hk : k < 24) : cutF A k = CV R k := cut_OB h (i_BV hf hd).2.2.1 hk
/-- the first best of those that may be -/
noncomputable def selF (ok : Nat → Prop) (bt : Int32 → Int32 → Prop) (cd g : Nat → Int32) : Nat → Int32 × Int32
  | 0 => (-9, 0)
  | k + 1 => @ite _ (ok k ∧ ((selF ok bt cd g k).1 = -9 ∨ bt (g k) (selF ok bt cd g k).2)) (Classical.propDecidable _) (cd k, g k) (selF ok bt cd g k)
theorem sel_y {ok : Nat → Prop} {bt : Int32 → Int32 → Prop} {cd g : Nat → Int32} {k : Nat} (h1 : ok k) (h : (selF ok bt cd g k).1 = -9 ∨ bt (g k) (selF ok bt cd g k).2) : selF ok bt cd g (k + 1) = (cd k, g k) := by rw [selF, if_pos ⟨h1, h⟩]
theorem sel_n {ok : Nat → Prop} {bt : Int32 → Int32 → Prop} {cd g : Nat → Int32} {k : Nat} (h : ¬ (ok k ∧ ((selF ok bt cd g k).1 = -9 ∨ bt (g k) (selF ok bt cd g k).2))) : selF ok bt cd g (k + 1) = selF ok bt cd g k := by rw [selF, if_neg h]
theorem sel_no {ok : Nat → Prop} {bt : Int32 → Int32 → Prop} {cd g : Nat → Int32} {k : Nat} (h : ¬ ok k) : selF ok bt cd g (k + 1) = selF ok bt cd g k := sel_n (fun z => h z.1)
theorem sel_nos {ok : Nat → Prop} {bt : Int32 → Int32 → Prop} {cd g : Nat → Int32} {k : Nat} : ∀ j, (∀ i, k ≤ i → i < k + j → ¬ ok i) → selF ok bt cd g (k + j) = selF ok bt cd g k := by
  intro j
  induction j with
  | zero => intro _; rfl
  | succ j ih => intro h; rw [← Nat.add_assoc, sel_no (h _ (by omega) (by omega)), ih (fun i h1 h2 => h i h1 (by omega))]
/-- how the component stands to it: what is best aside from the start -/
def SC (ok : Nat → Prop) (bt : Int32 → Int32 → Prop) (cd g : Nat → Int32) (w0 : Int32) (k : Nat) (b w : Int32) : Prop := b = (selF ok bt cd g k).1 ∧ (¬ b = -9 → w = (selF ok bt cd g k).2) ∧ (b = -9 → w = w0)
theorem SC.zero {ok : Nat → Prop} {bt : Int32 → Int32 → Prop} {cd g : Nat → Int32} {w0 : Int32} : SC ok bt cd g w0 0 (-9) w0 := ⟨rfl, fun z => absurd rfl z, fun _ => rfl⟩
theorem SC.no {ok : Nat → Prop} {bt : Int32 → Int32 → Prop} {cd g : Nat → Int32} {w0 b w : Int32} {k : Nat} (h : SC ok bt cd g w0 k b w) (hn : ¬ ok k) : SC ok bt cd g w0 (k + 1) b w := by
  unfold SC
  rw [sel_no hn]
  exact h
theorem SC.nos {ok : Nat → Prop} {bt : Int32 → Int32 → Prop} {cd g : Nat → Int32} {w0 b w : Int32} {k : Nat} (h : SC ok bt cd g w0 k b w) (j : Nat) (hn : ∀ i, k ≤ i → i < k + j → ¬ ok i) : SC ok bt cd g w0 (k + j) b w := by
  unfold SC
  rw [sel_nos j hn]
  exact h
theorem SC.take {ok : Nat → Prop} {bt : Int32 → Int32 → Prop} {cd g : Nat → Int32} {w0 b w : Int32} {k : Nat} (h : SC ok bt cd g w0 k b w) (hok : ok k) (hcd : ¬ cd k = -9) (hb : bt (g k) w) : SC ok bt cd g w0 (k + 1) (cd k) (g k) := by
  obtain ⟨h1, h2, h3⟩ := h
  have e : selF ok bt cd g (k + 1) = (cd k, g k) := by
    refine sel_y hok ?_
    by_cases z : b = -9
    · exact Or.inl (h1.symm.trans z)
    · exact Or.inr (by rw [← h2 z]; exact hb)
  exact ⟨by rw [e], fun _ => by rw [e], fun z => absurd z hcd⟩
theorem SC.skip {ok : Nat → Prop} {bt : Int32 → Int32 → Prop} {cd g : Nat → Int32} {w0 b w : Int32} {k : Nat} (h : SC ok bt cd g w0 k b w) (hw : bt (g k) w0) (hb : ¬ bt (g k) w) : SC ok bt cd g w0 (k + 1) b w := by
  have hne : ¬ b = -9 := fun z => hb (by rw [h.2.2 z]; exact hw)
  have e : selF ok bt cd g (k + 1) = selF ok bt cd g k := sel_n (fun z => z.2.elim (fun y => hne (h.1.trans y)) (fun y => hb (by rw [h.2.1 hne]; exact y)))
  unfold SC
  rw [e]
  exact h
/-- one that may be makes that there is a best -/
theorem sel_some {ok : Nat → Prop} {bt : Int32 → Int32 → Prop} {cd g : Nat → Int32} (hcd : ∀ k, ¬ cd k = -9) {j : Nat} (hj : ok j) : ∀ k, j < k → ¬ (selF ok bt cd g k).1 = -9 := by
  intro k
  induction k with
  | zero => intro h; omega
  | succ k ih =>
    intro h
    by_cases z : ok k ∧ ((selF ok bt cd g k).1 = -9 ∨ bt (g k) (selF ok bt cd g k).2)
    · rw [sel_y z.1 z.2]; exact hcd k
    · rw [sel_n z]
      by_cases y : j = k
      · intro e; exact z ⟨y ▸ hj, Or.inl e⟩
      · exact ih (by omega)
theorem sel_eq {ok ok' : Nat → Prop} {bt : Int32 → Int32 → Prop} {cd cd' g g' : Nat → Int32} : ∀ k, (∀ i, i < k → (ok i ↔ ok' i) ∧ (ok i → cd i = cd' i ∧ g i = g' i)) → selF ok bt cd g k = selF ok' bt cd' g' k := by
  intro k
  induction k with
  | zero => intro _; rfl
  | succ k ih =>
    intro h
    have e := ih (fun i hi => h i (by omega))
    obtain ⟨h1, h2⟩ := h k (by omega)
    by_cases z : ok k ∧ ((selF ok bt cd g k).1 = -9 ∨ bt (g k) (selF ok bt cd g k).2)
    · obtain ⟨a, b⟩ := h2 z.1
      rw [sel_y z.1 z.2, sel_y (h1.mp z.1) (by rw [← e, ← b]; exact z.2), a, b]
    · rw [sel_n z, sel_n (fun y => z ⟨h1.mpr y.1, by rw [e, (h2 (h1.mpr y.1)).2]; exact y.2⟩), e]
