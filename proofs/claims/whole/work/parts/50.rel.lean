/-! ===== what ties the component to the reference ===== -/
def RA (m : sM) (n : sN) : Prop := m 0 16 = m 239 0 ∧ m 0 17 = m 239 2 ∧ (∀ f, f < 6 → m 137 f = m 240 f) ∧ n 0 18 = n 239 3 ∧ n 0 19 = n 239 4
/-- a row, a text: missing on both sides, or of one size and alike so far -/
def WQ (m : sM) (a x y M r : Nat) : Prop := (m x r = -1 ∧ m a 1 = -1) ∨ ∃ s : Nat, s ≤ M ∧ m x r = nI s ∧ m a 1 = nI s ∧ ∀ i, i < s → m (a + 1) i = m y (M * r + i)
def RW (m : sM) : Prop := ∀ r, r < 6 → WQ m (138 + 2 * r) 241 242 40 r
def RT (m : sM) : Prop := ∀ t, t < 4 → WQ m (150 + 2 * t) 244 245 80 t
def RF (m : sM) : Prop := ∀ k, k < 4 → (m 246 k = 0 ∧ m (158 + 2 * k) 1 = 0) ∨ (m 246 k = 1 ∧ m (158 + 2 * k) 1 = 1 ∧ (∀ i, i < 5 → m (158 + 2 * k + 1) i = m 247 (5 * k + i)) ∧ flR (fun i => m 247 (5 * k + i)))
/-- the doing k of the reference as a row -/
def dgR (m : sM) (k : Nat) : Nat → Int32 := fun p => if p = 5 then m 249 k else m 250 (30 * k + (p - 6))
def RD (m : sM) : Prop := ∀ k, k < 4 → (m 248 k = 0 ∧ m (166 + 4 * k) 4 = 0) ∨ (m 248 k = 1 ∧ m (166 + 4 * k) 4 = 1 ∧ DR m (166 + 4 * k) (dgR m k) ∧ dOK (dgR m k))
/-- the loaf j of the reference as a row -/
def lfR (m : sM) (j : Nat) : Nat → Int32 := fun p => m 254 (329 * j + p)
/-- a loaf at a and the reference's loaf j -/
def LQ (m : sM) (a j : Nat) : Prop := (m 253 j = 0 ∧ m a 4 = 0) ∨ (m 253 j = 1 ∧ m a 4 = 1 ∧ LA m a (lfR m j) ∧ sR (lfR m j) ∧ dOK (lfR m j) ∧ m (a + 1) 1 = 1 ∧ m (a + 3) 4 = 1)
def RLo (m : sM) : Prop := LQ m 6 0 ∧ (m 253 0 = 0 → m 13 5 = 0 ∧ m 13 6 = 0)
def RK (m : sM) : Prop := ∀ k, k < 3 → LQ m (182 + 19 * k) (1 + k)
def RS (m : sM) : Prop := ∃ s : Nat, s ≤ 12 ∧ m 25 2 = nI s ∧ m 239 28 = nI s ∧ ∀ i, i < s → (∃ g : Nat, g < 4 ∧ m 26 i = nI g ∧ m 259 (2 * i) = nI g) ∧ ∃ h : Nat, h ≤ 999 ∧ m 27 i = nI h ∧ m 259 (2 * i + 1) = nI h
def Rel (m : sM) (n : sN) : Prop := RA m n ∧ RW m ∧ RT m ∧ RF m ∧ RD m ∧ RLo m ∧ RK m ∧ RS m ∧ BK m
theorem WQ_m {m m' : sM} {a x y M r : Nat} (h : WQ m a x y M r) (e0 : m' a = m a) (e1 : m' (a + 1) = m (a + 1)) (ex : m' x = m x) (ey : m' y = m y) : WQ m' a x y M r := by
  unfold WQ
  rw [e0, e1, ex, ey]
  exact h
theorem RW_m {m m' : sM} (h : RW m) (e : ∀ a, (138 ≤ a ∧ a < 150) ∨ a = 241 ∨ a = 242 → m' a = m a) : RW m' := fun r hr => WQ_m (h r hr) (e _ (by omega)) (e _ (by omega)) (e _ (by omega)) (e _ (by omega))
theorem RT_m {m m' : sM} (h : RT m) (e : ∀ a, (150 ≤ a ∧ a < 158) ∨ a = 244 ∨ a = 245 → m' a = m a) : RT m' := fun r hr => WQ_m (h r hr) (e _ (by omega)) (e _ (by omega)) (e _ (by omega)) (e _ (by omega))
theorem RF_m {m m' : sM} (h : RF m) (e : ∀ a, (158 ≤ a ∧ a < 166) ∨ a = 246 ∨ a = 247 → m' a = m a) : RF m' := by
  intro k hk
  rw [e 246 (by omega), e 247 (by omega), e (158 + 2 * k) (by omega), e (158 + 2 * k + 1) (by omega)]
  exact h k hk
theorem dgR_m {m m' : sM} {k : Nat} (e1 : m' 249 = m 249) (e2 : m' 250 = m 250) : dgR m' k = dgR m k := by
  unfold dgR
  rw [e1, e2]
theorem RD_m {m m' : sM} (h : RD m) (e : ∀ a, (166 ≤ a ∧ a < 182) ∨ a = 248 ∨ a = 249 ∨ a = 250 → m' a = m a) : RD m' := by
  intro k hk
  rw [dgR_m (e 249 (by omega)) (e 250 (by omega)), e 248 (by omega), e (166 + 4 * k) (by omega)]
  rcases h k hk with h | ⟨h1, h2, h3, h4⟩
  · exact Or.inl h
  · exact Or.inr ⟨h1, h2, DR_m h3 (fun c h1 h2 => e c (by omega)), h4⟩
theorem LR_m {m m' : sM} {a : Nat} {R : Nat → Int32} (h : LR m a R) (e : ∀ c, a ≤ c → c < a + 19 → m' c = m c) : LR m' a R := by
  unfold LR
  rw [e (a + 2) (by omega) (by omega), e (a + 8) (by omega) (by omega), e (a + 9) (by omega) (by omega), e (a + 10) (by omega) (by omega), e (a + 11) (by omega) (by omega), e (a + 12) (by omega) (by omega), e (a + 7) (by omega) (by omega), e (a + 14) (by omega) (by omega), e (a + 15) (by omega) (by omega), e (a + 16) (by omega) (by omega), e (a + 17) (by omega) (by omega), e (a + 18) (by omega) (by omega)]
  exact h
theorem LA_m {m m' : sM} {a : Nat} {R : Nat → Int32} (h : LA m a R) (e : ∀ c, a ≤ c → c < a + 19 → m' c = m c) : LA m' a R := by
  obtain ⟨h1, h2⟩ := h
  refine ⟨LR_m h1 e, ?_⟩
  rw [e (a + 4) (by omega) (by omega), e (a + 5) (by omega) (by omega), e (a + 6) (by omega) (by omega), e (a + 3) (by omega) (by omega), e (a + 7) (by omega) (by omega)]
  exact h2
/-- a loaf's row is looked at below 329 alone -/
def eqL (R R' : Nat → Int32) : Prop := ∀ p, p < 329 → R' p = R p
theorem cOf_L {R R' : Nat → Int32} (e : eqL R R') : cOf R' = cOf R := by unfold cOf; rw [e 5 (by omega)]
theorem qOf_L {R R' : Nat → Int32} (e : eqL R R') : qOf R' = qOf R := by unfold qOf; rw [e 40 (by omega)]
theorem atOf_L {R R' : Nat → Int32} (e : eqL R R') : atOf R' = atOf R := by unfold atOf; rw [e 36 (by omega)]
theorem st_L {R R' : Nat → Int32} (h : stOK R) (hc : cOf R ≤ 10) (e : eqL R R') : stOK R' := st_low h (fun p hp => e p (by omega)) hc
theorem tOf_L {R R' : Nat → Int32} (e : eqL R R') {i : Nat} (hi : i < 100) : tOf R' i = tOf R i := by unfold tOf; rw [e _ (by omega)]
theorem Tn_L {R R' : Nat → Int32} (e : eqL R R') : ∀ k, k ≤ 100 → Tn R' k = Tn R k := by
  intro k
  induction k with
  | zero => intro _; rfl
  | succ k ih => intro hk; rw [Tn, Tn, ih (by omega), tOf_L e (by omega)]
theorem d_L {R R' : Nat → Int32} (h : dOK R) (e : eqL R R') : dOK R' := by
  obtain ⟨h1, h2, h3, h4, h5⟩ := h
  refine ⟨by rw [cOf_L e, e 5 (by omega)]; exact h1, by rw [cOf_L e]; exact h2, st_L h3 h2 e, ?_, by rw [cOf_L e, Tn_L e _ (by omega)]; exact h5⟩
  intro i hi
  rw [cOf_L e] at hi
  rw [e _ (by omega), e _ (by omega)]
  exact h4 i hi
theorem LR_L {m : sM} {a : Nat} {R R' : Nat → Int32} (h : LR m a R) (hq : qOf R ≤ 24) (e : eqL R R') : LR m a R' := by
  obtain ⟨h1, h2, h3, h4, h5, h6⟩ := h
  refine ⟨fun i hi => by rw [e _ (by omega)]; exact h1 i hi, fun k hk => ?_, by rw [e _ (by omega)]; exact h3, by rw [e _ (by omega)]; exact h4, by rw [e _ (by omega)]; exact h5, fun k hk => ?_⟩
  · rw [e _ (by omega), e _ (by omega), e _ (by omega), e _ (by omega), e _ (by omega)]
    exact h2 k hk
  · rw [qOf_L e] at hk
    unfold mkF
    rw [e _ (by omega), e _ (by omega), e _ (by omega), e _ (by omega), e _ (by omega), e _ (by omega), e _ (by omega)]
    exact h6 k hk
theorem LA_L {m : sM} {a : Nat} {R R' : Nat → Int32} (h : LA m a R) (hq : qOf R ≤ 24) (hc : cOf R ≤ 10) (e : eqL R R') : LA m a R' := by
  obtain ⟨h1, h2, h3, h4, h5⟩ := h
  refine ⟨LR_L h1 hq e, fun i hi => ?_, by rw [e _ (by omega)]; exact h3, by rw [e _ (by omega)]; exact h4, by rw [e _ (by omega)]; exact h5⟩
  rw [cOf_L e] at hi
  rw [e _ (by omega), e _ (by omega), e _ (by omega)]
  exact h2 i hi
theorem i_L {R R' : Nat → Int32} (h : iR R) (e : eqL R R') : iR R' := i_eqE h (fun p h1 _ _ => e p (by omega))
theorem lasts_L {R R' : Nat → Int32} {i : Nat} (h : lastsR R i) (hi : i < 100) (e : eqL R R') : lastsR R' i := by
  unfold lastsR
  rw [e _ (by omega), e _ (by omega), e _ (by omega)]
  exact h
theorem s_L {R R' : Nat → Int32} (h : sR R) (e : eqL R R') : sR R' := by
  obtain ⟨h1, ⟨a1, a2, a3, a4⟩, h3, g, g1, g2⟩ := h
  refine ⟨i_L h1 e, ⟨by rw [atOf_L e, e 36 (by omega)]; exact a1, by rw [cOf_L e, e 5 (by omega)]; exact a2, by rw [atOf_L e, cOf_L e]; exact a3, by rw [cOf_L e]; exact a4⟩, st_L h3 a4 e, g, by rw [e 37 (by omega)]; exact g1, ?_⟩
  rcases g2 with g2 | ⟨b1, b2, t, b3, b4⟩
  · exact Or.inl g2
  · refine Or.inr ⟨by rw [atOf_L e, cOf_L e]; exact b1, by rw [atOf_L e]; exact lasts_L b2 (by omega) e, t, ?_, b4⟩
    rw [atOf_L e, e _ (by omega)]
    exact b3
theorem sR.q {R : Nat → Int32} (h : sR R) : qOf R ≤ 24 := (wfR_q h.1.wf).2
theorem sR.c {R : Nat → Int32} (h : sR R) : cOf R ≤ 10 := h.2.1.2.2.2
theorem LQ_m {m m' : sM} {a j : Nat} (h : LQ m a j) (e : ∀ c, a ≤ c → c < a + 19 → m' c = m c) (e1 : m' 253 j = m 253 j) (e2 : ∀ p, p < 329 → m' 254 (329 * j + p) = m 254 (329 * j + p)) : LQ m' a j := by
  rcases h with ⟨h1, h2⟩ | ⟨h1, h2, h3, h4, h5, h6, h7⟩
  · exact Or.inl ⟨e1.trans h1, by rw [e _ (by omega) (by omega)]; exact h2⟩
  · have el : eqL (lfR m j) (lfR m' j) := e2
    exact Or.inr ⟨e1.trans h1, by rw [e _ (by omega) (by omega)]; exact h2, LA_m (LA_L h3 h4.q h4.c el) e, s_L h4 el, d_L h5 el, by rw [e _ (by omega) (by omega)]; exact h6, by rw [e _ (by omega) (by omega)]; exact h7⟩
theorem RLo_m {m m' : sM} (h : RLo m) (e : ∀ a, (6 ≤ a ∧ a < 25) → m' a = m a) (e1 : m' 253 0 = m 253 0) (e2 : ∀ p, p < 329 → m' 254 p = m 254 p) : RLo m' := by
  refine ⟨LQ_m h.1 (fun c h1 h2 => e c (by omega)) e1 (fun p hp => by rw [Nat.mul_zero, Nat.zero_add]; exact e2 p hp), ?_⟩
  rw [e1, e 13 (by omega)]
  exact h.2
theorem RK_m {m m' : sM} (h : RK m) (e : ∀ a, (182 ≤ a ∧ a < 239) → m' a = m a) (e1 : ∀ k, k < 3 → m' 253 (1 + k) = m 253 (1 + k)) (e2 : ∀ p, 329 ≤ p → p < 1316 → m' 254 p = m 254 p) : RK m' := fun k hk => LQ_m (h k hk) (fun c h1 h2 => e c (by omega)) (e1 k hk) (fun p hp => e2 _ (by omega) (by omega))
theorem RS_m {m m' : sM} (h : RS m) (e : ∀ a, (25 ≤ a ∧ a < 28) ∨ a = 259 → m' a = m a) (e1 : m' 239 28 = m 239 28) : RS m' := by
  unfold RS
  rw [e 25 (by omega), e 26 (by omega), e 27 (by omega), e 259 (by omega), e1]
  exact h
theorem BK_m {m m' : sM} (h : BK m) (e : ∀ c, 35 ≤ c → c < 122 → m' c = m c) : BK m' := by
  rcases h with h | ⟨k, c, R, h1, h2, h3, h4⟩
  · exact Or.inl (by rw [e _ (by omega) (by omega)]; exact h)
  · exact Or.inr ⟨k, c, R, h1, h2, h3, KB_m h4 (fun c a b d => e c (by omega) (by omega)) (by omega)⟩
/-- all but what is told, found and the baker's -/
theorem Rel_gen {m m' : sM} {n n' : sN} (h : Rel m n) (hA : RA m' n') (e : ∀ a, (6 ≤ a ∧ a < 28) ∨ (138 ≤ a ∧ a < 239) ∨ (241 ≤ a ∧ a < 254 ∧ a ≠ 243 ∧ a ≠ 251 ∧ a ≠ 252) ∨ a = 259 → m' a = m a) (e1 : m' 239 28 = m 239 28) (e2 : ∀ p, p < 1316 → m' 254 p = m 254 p) (hB : BK m') : Rel m' n' := by
  obtain ⟨-, h2, h3, h4, h5, h6, h7, h8, -⟩ := h
  exact ⟨hA, RW_m h2 (fun a ha => e a (by omega)), RT_m h3 (fun a ha => e a (by omega)), RF_m h4 (fun a ha => e a (by omega)), RD_m h5 (fun a ha => e a (by omega)), RLo_m h6 (fun a ha => e a (by omega)) (by rw [e 253 (by omega)]) (fun p hp => e2 p (by omega)), RK_m h7 (fun a ha => e a (by omega)) (fun k hk => by rw [e 253 (by omega)]) (fun p h1 h2 => e2 p h2), RS_m h8 (fun a ha => e a (by omega)) e1, hB⟩
/-- the component at work aside -/
def frC (m m' : sM) : Prop := ∀ a, a < 28 ∨ 137 ≤ a → m' a = m a
/-- the reference at work aside -/
def frM (m m' : sM) : Prop := (∀ a, a < 239 ∨ (240 ≤ a ∧ a < 254 ∧ a ≠ 243 ∧ a ≠ 251 ∧ a ≠ 252) ∨ a = 259 → m' a = m a) ∧ (m' 239 0 = m 239 0 ∧ m' 239 2 = m 239 2 ∧ m' 239 28 = m 239 28) ∧ ∀ p, p < 1316 → m' 254 p = m 254 p
theorem frC.rf {m : sM} : frC m m := fun _ _ => rfl
theorem frC.tr {m m1 m2 : sM} (h : frC m m1) (h' : frC m1 m2) : frC m m2 := fun a ha => (h' a ha).trans (h a ha)
theorem frM.rf {m : sM} : frM m m := ⟨fun _ _ => rfl, ⟨rfl, rfl, rfl⟩, fun _ _ => rfl⟩
theorem frM.tr {m m1 m2 : sM} (h : frM m m1) (h' : frM m1 m2) : frM m m2 := ⟨fun a ha => (h'.1 a ha).trans (h.1 a ha), ⟨h'.2.1.1.trans h.2.1.1, h'.2.1.2.1.trans h.2.1.2.1, h'.2.1.2.2.trans h.2.1.2.2⟩, fun p hp => (h'.2.2 p hp).trans (h.2.2 p hp)⟩
theorem frM.up {m : sM} {a : Nat} {f : Nat → Int32} (h : a = 243 ∨ a = 251 ∨ a = 252 ∨ (255 ≤ a ∧ a ≠ 259)) : frM m (s_up m a f) := ⟨fun b hb => s_upN (by omega), ⟨by rw [s_upN (by omega)], by rw [s_upN (by omega)], by rw [s_upN (by omega)]⟩, fun p hp => by rw [s_upN (by omega)]⟩
theorem frM.up9 {m : sM} {j : Nat} {v : Int32} (h0 : j ≠ 0) (h2 : j ≠ 2) (h28 : j ≠ 28) : frM m (s_up m 239 (upd (m 239) j v)) := ⟨fun b hb => s_upN (by omega), ⟨by rw [s_upS, updN (Ne.symm h0)], by rw [s_upS, updN (Ne.symm h2)], by rw [s_upS, updN (Ne.symm h28)]⟩, fun p hp => by rw [s_upN (by omega)]⟩
theorem frM.wk {m : sM} {b : Nat} : frM m (wkM m b) := frM.up9 (by omega) (by omega) (by omega)
theorem frM.st {m : sM} {h R : Nat → Int32} : frM m (stR m h 1316 R) := ⟨fun b hb => stR_o (by omega) (by omega), ⟨by rw [stR_o (by omega) (by omega)], by rw [stR_o (by omega) (by omega)], by rw [stR_o (by omega) (by omega)]⟩, fun p hp => by
  unfold stR
  rw [s_upS, if_neg (by omega)]⟩
theorem RA_fr {m m1 m2 : sM} {n : sN} (h : RA m n) (f1 : frC m m1) (f2 : frM m1 m2) : RA m2 n := by
  obtain ⟨h1, h2, h3, h4⟩ := h
  refine ⟨?_, ?_, ?_, h4⟩
  · rw [f2.1 0 (by omega), f2.2.1.1, f1 0 (by omega), f1 239 (by omega)]; exact h1
  · rw [f2.1 0 (by omega), f2.2.1.2.1, f1 0 (by omega), f1 239 (by omega)]; exact h2
  · rw [f2.1 137 (by omega), f2.1 240 (by omega), f1 137 (by omega), f1 240 (by omega)]; exact h3
theorem Rel_scr {m m1 m2 : sM} {n : sN} (h : Rel m n) (f1 : frC m m1) (hB : BK m1) (f2 : frM m1 m2) : Rel m2 n :=
  Rel_gen h (RA_fr h.1 f1 f2) (fun a ha => (f2.1 a (by omega)).trans (f1 a (by omega))) (f2.2.1.2.2.trans (by rw [f1 239 (by omega)])) (fun p hp => (f2.2.2 p hp).trans (by rw [f1 254 (by omega)])) (BK_m hB (fun c h1 h2 => f2.1 c (by omega)))
def tellM (m : sM) (v : Int32) : sM := s_up m 0 (upd (m 0) 17 v)
def tellsM (m : sM) (v : Int32) : sM := s_up m 239 (upd (m 239) 2 v)
def foundM (m : sM) (f : Nat) : sM := s_up (s_up m 0 (upd (m 0) 16 (nI f))) 137 (upd (m 137) f (m 137 f + 1))
def metM (m : sM) (f : Nat) : sM := s_up (s_up m 239 (upd (m 239) 0 (nI f))) 240 (upd (m 240) f (m 240 f + 1))
theorem tell_o {m : sM} {v : Int32} {a : Nat} (h : a ≠ 0) : tellM m v a = m a := s_upN h
theorem tells_o {m : sM} {v : Int32} {a : Nat} (h : a ≠ 239) : tellsM m v a = m a := s_upN h
theorem found_o {m : sM} {f a : Nat} (h : a ≠ 0) (h2 : a ≠ 137) : foundM m f a = m a := by unfold foundM; rw [s_upN h2, s_upN h]
theorem met_o {m : sM} {f a : Nat} (h : a ≠ 239) (h2 : a ≠ 240) : metM m f a = m a := by unfold metM; rw [s_upN h2, s_upN h]
theorem Rel_tell {m m1 m2 : sM} {n : sN} {v : Int32} (h : Rel m n) (f1 : frC m m1) (hB : BK m1) (f2 : frM (tellM m1 v) m2) : Rel (tellsM m2 v) n := by
  have e0 : tellsM m2 v 0 = tellM m1 v 0 := (tells_o (by omega)).trans (f2.1 0 (by omega))
  obtain ⟨h1, h2, h3, h4⟩ := h.1
  refine Rel_gen h ⟨?_, ?_, fun f hf => ?_, h4⟩ (fun a ha => ?_) ?_ (fun p hp => ?_) (BK_m hB (fun c h1 h2 => ?_))
  · rw [e0]; unfold tellM tellsM
    rw [s_upS, s_upS, updN (by omega), updN (by omega), f2.2.1.1, tell_o (by omega), f1 0 (by omega), f1 239 (by omega)]; exact h1
  · rw [e0]; unfold tellM tellsM
    rw [s_upS, s_upS, updS, updS]
  · rw [tells_o (by omega), tells_o (by omega), f2.1 137 (by omega), f2.1 240 (by omega), tell_o (by omega), tell_o (by omega), f1 137 (by omega), f1 240 (by omega)]; exact h3 f hf
  · rw [tells_o (by omega), f2.1 a (by omega), tell_o (by omega), f1 a (by omega)]
  · unfold tellsM
    rw [s_upS, updN (by omega), f2.2.1.2.2, tell_o (by omega), f1 239 (by omega)]
  · rw [tells_o (by omega), f2.2.2 p hp, tell_o (by omega), f1 254 (by omega)]
  · rw [tells_o (by omega), f2.1 c (by omega), tell_o (by omega)]
theorem Rel_meet {m m1 m2 : sM} {n : sN} {f : Nat} (h : Rel m n) (f1 : frC m m1) (hB : BK m1) (f2 : frM (foundM m1 f) m2) : Rel (metM m2 f) n := by
  have e0 : metM m2 f 0 = foundM m1 f 0 := (met_o (by omega) (by omega)).trans (f2.1 0 (by omega))
  have e0' : foundM m1 f 0 = upd (m1 0) 16 (nI f) := by unfold foundM; rw [s_upN (by omega), s_upS]
  have e1 : metM m2 f 239 = upd (m2 239) 0 (nI f) := by unfold metM; rw [s_upN (by omega), s_upS]
  obtain ⟨h1, h2, h3, h4⟩ := h.1
  refine Rel_gen h ⟨?_, ?_, fun g hg => ?_, h4⟩ (fun a ha => ?_) ?_ (fun p hp => ?_) (BK_m hB (fun c h1 h2 => ?_))
  · rw [e0, e0', e1, updS, updS]
  · rw [e0, e0', e1, updN (by omega), updN (by omega), f2.2.1.2.1, found_o (by omega) (by omega), f1 0 (by omega), f1 239 (by omega)]; exact h2
  · rw [met_o (by omega) (by omega), f2.1 137 (by omega)]
    unfold metM
    rw [s_upS, f2.1 240 (by omega), found_o (a := 240) (by omega) (by omega)]
    unfold foundM
    rw [s_upS, f1 137 (by omega), f1 240 (by omega), upd_ap, upd_ap]
    by_cases z : g = f
    · rw [if_pos z, if_pos z, ← z, h3 g hg]
    · rw [if_neg z, if_neg z, h3 g hg]
  · rw [met_o (by omega) (by omega), f2.1 a (by omega), found_o (by omega) (by omega), f1 a (by omega)]
  · rw [e1, updN (by omega), f2.2.1.2.2, found_o (by omega) (by omega), f1 239 (by omega)]
  · rw [met_o (by omega) (by omega), f2.2.2 p hp, found_o (by omega) (by omega), f1 254 (by omega)]
  · rw [met_o (by omega) (by omega), f2.1 c (by omega), found_o (by omega) (by omega)]
theorem Rel.bk {m : sM} {n : sN} (h : Rel m n) : BK m := h.2.2.2.2.2.2.2.2
theorem Rel.w {m : sM} {n : sN} (h : Rel m n) : RW m := h.2.1
theorem Rel.t {m : sM} {n : sN} (h : Rel m n) : RT m := h.2.2.1
theorem Rel.f {m : sM} {n : sN} (h : Rel m n) : RF m := h.2.2.2.1
theorem Rel.d {m : sM} {n : sN} (h : Rel m n) : RD m := h.2.2.2.2.1
theorem Rel.l {m : sM} {n : sN} (h : Rel m n) : RLo m := h.2.2.2.2.2.1
theorem Rel.k {m : sM} {n : sN} (h : Rel m n) : RK m := h.2.2.2.2.2.2.1
theorem Rel.s {m : sM} {n : sN} (h : Rel m n) : RS m := h.2.2.2.2.2.2.2.1
theorem Rel_met {m : sM} {n : sN} {f : Nat} (h : Rel m n) : Rel (metM (foundM m f) f) n := Rel_meet h frC.rf h.bk frM.rf
theorem Rel_told {m : sM} {n : sN} {v : Int32} (h : Rel m n) : Rel (tellsM (tellM m v) v) n := Rel_tell h frC.rf h.bk frM.rf
/-- one call on both sides: one answer, and the tie holds again -/
def PI (L : Nat) (xs : Nat → Int32) (d : Nat) (y1 : MethodName) (c1 : ByteArray) (l1 : Nat) (y2 : MethodName) (c2 : ByteArray) (l2 : Nat) (as : List Value) (m : sM) (n : sN) : Prop :=
  sRun (scT L xs) d y1 c1 l1 (some .int) (.ref 0 :: as) m n (fun o m1 n1 => ∃ v : Int32, o = some (.int v) ∧ sRun (scT L xs) d y2 c2 l2 (some .int) (.ref 239 :: as) m1 n1 (fun o' m2 n2 => o' = some (.int v) ∧ Rel m2 n2))
def PL (L : Nat) (xs : Nat → Int32) (d : Nat) (y1 : MethodName) (c1 : ByteArray) (l1 : Nat) (y2 : MethodName) (c2 : ByteArray) (l2 : Nat) (as : List Value) (m : sM) (n : sN) : Prop :=
  sRun (scT L xs) d y1 c1 l1 (some .long) (.ref 0 :: as) m n (fun o m1 n1 => ∃ v : Int64, o = some (.long v) ∧ sRun (scT L xs) d y2 c2 l2 (some .long) (.ref 239 :: as) m1 n1 (fun o' m2 n2 => o' = some (.long v) ∧ Rel m2 n2))
/-- a number below a bound -/
def inN (x : Int32) (M : Nat) : Prop := ∃ k : Nat, k < M ∧ x = nI k
theorem in_lt {x : Int32} {M : Nat} (hM : M < 2 ^ 31) : inN x M ↔ (¬ x < 0 ∧ x < nI M) := by
  constructor
  · rintro ⟨k, hk, rfl⟩
    exact ⟨nI_pos (by omega), nI_lt hk hM⟩
  · rintro ⟨h1, h2⟩
    obtain ⟨j, hj, rfl⟩ := nI_of h1
    exact ⟨j, (nI_ltI hj hM).mp h2, rfl⟩
theorem in_le {x : Int32} {M : Nat} (hM : M + 1 < 2 ^ 31) : inN x (M + 1) ↔ (0 ≤ x ∧ x ≤ nI M) := by
  constructor
  · rintro ⟨k, hk, rfl⟩
    exact ⟨nI_pos' (by omega), nI_le (by omega) (by omega)⟩
  · rintro ⟨h1, h2⟩
    obtain ⟨j, hj, rfl⟩ := nI_of (Int32.not_lt.mpr h1)
    exact ⟨j, by have := (nI_leI hj (by omega)).mp h2; omega, rfl⟩
