theorem cnt2 {P : Nat → Prop} (s e : Nat) (hx : P e) (hs : ∀ i, s ≤ i → i < e → P (i + 1) → P i) : ∀ i, s ≤ i → i ≤ e → P i := by
  have key : ∀ k i, s ≤ i → i + k = e → P i := by
    intro k
    induction k with
    | zero => intro i _ h; rw [show i = e by omega]; exact hx
    | succ k ih => intro i h0 h; exact hs i h0 (by omega) (ih (i + 1) (by omega) (by omega))
  exact fun i h0 h => key (e - i) i h0 (by omega)
def foldR (f : Nat → (Nat → Int32) → (Nat → Int32)) : Nat → (Nat → Int32) → (Nat → Int32)
  | 0, R => R
  | k + 1, R => f k (foldR f k R)
def rsum (R : Nat → Int32) : Nat → Int32
  | 0 => 0
  | k + 1 => rsum R k + R (6 + 3 * k + 2)
/-- all but flour and steps is 0, up to k -/
def zr (k : Nat) (R : Nat → Int32) : Nat → Int32 := fun p => if 36 ≤ p ∧ p < k then 0 else R p
theorem zr36 (R : Nat → Int32) : zr 36 R = R := by
  funext p
  unfold zr
  rw [if_neg (by omega)]
theorem zrS {k : Nat} (R : Nat → Int32) (h : 36 ≤ k) : upd (zr k R) k 0 = zr (k + 1) R := by
  funext p
  unfold upd zr
  by_cases e : p = k
  · rw [if_pos e, if_pos (by omega)]
  · rw [if_neg e]
    by_cases q : 36 ≤ p ∧ p < k
    · rw [if_pos q, if_pos (by omega)]
    · rw [if_neg q, if_neg (by omega)]
def freshC (k : Nat) (R : Nat → Int32) : Nat → Int32 := upd (upd R (41 + 5 * k + 1) (R 1)) (41 + 5 * k + 2) 20
def beginsF (R : Nat → Int32) : Nat → Int32 := foldR freshC 24 (zr 329 R)
/-- heat of a cell behind a turn of air w (ten times warmth) -/
def heatF (w : Int32) (R : Nat → Int32) (k : Nat) : Int32 := if k % 2 = 0 ∨ k / 2 = 0 ∨ k / 2 = 11 then R (41 + 5 * k + 2) + (10 * w - R (41 + 5 * k + 2)) / 2 else R (41 + 5 * k + 2) + (R (41 + 5 * (k - 2) + 2) + R (41 + 5 * (k + 2) + 2) + R (41 + 5 * (k - 1) + 2) - 3 * R (41 + 5 * k + 2)) / 4
def hUp (f g : Nat → Int32) (k : Nat) : Nat → Int32 := fun j => if j < k then f j else g j
theorem hUpS (f g : Nat → Int32) (k : Nat) : upd (hUp f g k) k (f k) = hUp f g (k + 1) := by
  funext j
  unfold upd hUp
  by_cases e : j = k
  · rw [if_pos e, if_pos (by omega), e]
  · rw [if_neg e]
    by_cases q : j < k
    · rw [if_pos q, if_pos (by omega)]
    · rw [if_neg q, if_neg (by omega)]
theorem hUp0 (f g : Nat → Int32) : hUp f g 0 = g := by
  funext j
  unfold hUp
  rw [if_neg (by omega)]
def putH (f : Nat → Int32) (k : Nat) (R : Nat → Int32) : Nat → Int32 := upd R (41 + 5 * k + 2) (f k)
def warmsF (w : Int32) (R : Nat → Int32) : Nat → Int32 := foldR (putH (heatF w R)) 24 R
def growC (k : Nat) (R : Nat → Int32) : Nat → Int32 :=
  let ht := R (41 + 5 * k + 2)
  let R1 := if R (41 + 5 * k + 4) = 0 ∧ ht ≤ 55 then upd R (41 + 5 * k + 0) (R (41 + 5 * k + 0) + R 0 * (ht / 10) * (10 - R 4) / 20) else R
  let R2 := if 60 ≤ ht then upd R1 (41 + 5 * k + 3) (lsr 99 (R1 (41 + 5 * k + 3) + gtr 0 ((ht - 50) / 5 - R1 2))) else R1
  if 20 ≤ ht ∧ R2 (41 + 5 * k + 3) < 50 then upd R2 (41 + 5 * k + 1) (gtr 0 (R2 (41 + 5 * k + 1) - (if R2 4 = 0 then 2 else 1))) else R2
def growsF (R : Nat → Int32) : Nat → Int32 := foldR growC 24 R
def tearG (g : Int32) (k : Nat) (R8 : Nat → Int32) : Nat → Int32 := if k + 2 < 24 ∧ R8 (41 + 5 * (k + 2) + 4) = 0 then upd R8 (41 + 5 * (k + 2) + 0) (R8 (41 + 5 * (k + 2) + 0) + g / 2) else R8
def tearL (q k : Nat) (kind : Int32) (R0 : Nat → Int32) : Nat → Int32 :=
  let R1 := upd R0 (161 + 7 * q) kind
  let R2 := upd R1 (161 + 7 * q + 1) (nI k)
  let R3 := upd R2 (161 + 7 * q + 2) (R0 (41 + 5 * k + 0))
  let R4 := upd R3 (161 + 7 * q + 3) (R3 38)
  let R5 := upd R4 (161 + 7 * q + 4) (R4 (41 + 5 * k + 1))
  let R6 := upd R5 (161 + 7 * q + 5) (R5 (41 + 5 * k + 2))
  let R7 := upd R6 (161 + 7 * q + 6) (R6 (41 + 5 * k + 3))
  upd R7 40 (R7 40 + 1)
def tearF (q k : Nat) (kind : Int32) (R0 : Nat → Int32) : Nat → Int32 := upd (upd (tearG (R0 (41 + 5 * k + 0)) k (tearL q k kind R0)) (41 + 5 * k + 0) 0) (41 + 5 * k + 4) 1
def qOf (R : Nat → Int32) : Nat := (R 40).toNatClampNeg
def burstC (oven : Int32) (k : Nat) (R : Nat → Int32) : Nat → Int32 :=
  if R (41 + 5 * k + 4) = 0 ∧ 2 * R (41 + 5 * k + 1) + R (41 + 5 * k + 3) + R 3 < R (41 + 5 * k + 0) then tearF (qOf R) k (if R (41 + 5 * k + 1) < 10 then (if R 4 = 0 then 6 else 1) else (if oven = 0 then 0 else 2)) R else R
def burstsF (oven : Int32) (R : Nat → Int32) : Nat → Int32 := foldR (burstC oven) 24 R
def sinkC (k : Nat) (R : Nat → Int32) : Nat → Int32 :=
  if R (41 + 5 * k + 4) = 0 ∧ R (41 + 5 * k + 2) < 60 ∧ R (41 + 5 * k + 3) < 50 ∧ 40 < R (41 + 5 * k + 0) then tearF (qOf R) k (if 5 ≤ R 2 then 5 else 4) R else R
def sinksF (R : Nat → Int32) : Nat → Int32 := foldR sinkC 24 R
/-- as many falls as torn cells -/
def tornN (R : Nat → Int32) : Nat → Nat
  | 0 => 0
  | k + 1 => tornN R k + (if R (41 + 5 * k + 4) = 0 then 0 else 1)
def wfR (R : Nat → Int32) : Prop := R 40 = nI (tornN R 24)
theorem tornN_le (R : Nat → Int32) (k : Nat) : tornN R k ≤ k := by
  induction k with
  | zero => exact Nat.le_refl _
  | succ k ih =>
    unfold tornN
    split <;> omega
theorem tornN_lt {R : Nat → Int32} {j : Nat} (h : R (41 + 5 * j + 4) = 0) : ∀ k, j < k → tornN R k < k := by
  intro k
  induction k with
  | zero => intro q; omega
  | succ k ih =>
    intro q
    unfold tornN
    by_cases e : j = k
    · subst e
      rw [if_pos h]
      have := tornN_le R j
      omega
    · have := ih (by omega)
      split <;> omega
theorem wfR_q {R : Nat → Int32} (h : wfR R) : R 40 = nI (qOf R) ∧ qOf R ≤ 24 := by
  have h1 := tornN_le R 24
  unfold qOf
  unfold wfR at h
  rw [h, nI_clamp (by omega)]
  exact ⟨rfl, h1⟩
theorem wfR_lt {R : Nat → Int32} (h : wfR R) {k : Nat} (hk : k < 24) (h0 : R (41 + 5 * k + 4) = 0) : qOf R < 24 := by
  have h1 := tornN_lt h0 24 hk
  unfold qOf
  unfold wfR at h
  rw [h, nI_clamp (by omega)]
  exact h1
theorem tearF_pos {q k : Nat} {kind : Int32} {R : Nat → Int32} (h1 : k + 2 < 24) (h2 : tearL q k kind R (41 + 5 * (k + 2) + 4) = 0) : tearF q k kind R = upd (upd (upd (tearL q k kind R) (41 + 5 * (k + 2) + 0) (tearL q k kind R (41 + 5 * (k + 2) + 0) + R (41 + 5 * k + 0) / 2)) (41 + 5 * k + 0) 0) (41 + 5 * k + 4) 1 := by
  unfold tearF tearG
  rw [if_pos ⟨h1, h2⟩]
theorem tearF_neg {q k : Nat} {kind : Int32} {R : Nat → Int32} (h : ¬ (k + 2 < 24 ∧ tearL q k kind R (41 + 5 * (k + 2) + 4) = 0)) : tearF q k kind R = upd (upd (tearL q k kind R) (41 + 5 * k + 0) 0) (41 + 5 * k + 4) 1 := by
  unfold tearF tearG
  rw [if_neg h]
/-! well-formed rows -/
theorem updS {f : Nat → Int32} {k : Nat} {x : Int32} : upd f k x k = x := if_pos rfl
theorem updN {f : Nat → Int32} {k j : Nat} {x : Int32} (h : j ≠ k) : upd f k x j = f j := if_neg h
theorem tornN_congr {R R' : Nat → Int32} (h : ∀ j, j < 24 → R' (41 + 5 * j + 4) = R (41 + 5 * j + 4)) : ∀ k, k ≤ 24 → tornN R' k = tornN R k := by
  intro k
  induction k with
  | zero => intro _; rfl
  | succ k ih =>
    intro hk
    unfold tornN
    rw [ih (by omega), h k (by omega)]
theorem wf_keep {R R' : Nat → Int32} (h : wfR R) (h0 : R' 40 = R 40) (h4 : ∀ j, j < 24 → R' (41 + 5 * j + 4) = R (41 + 5 * j + 4)) : wfR R' := by
  unfold wfR
  rw [h0, tornN_congr h4 24 (Nat.le_refl _)]
  exact h
theorem wf_fold {f : Nat → (Nat → Int32) → (Nat → Int32)} (hf : ∀ k R, k < 24 → wfR R → wfR (f k R)) {R : Nat → Int32} (h : wfR R) : ∀ k, k ≤ 24 → wfR (foldR f k R) := by
  intro k
  induction k with
  | zero => intro _; exact h
  | succ k ih => intro hk; exact hf k _ (by omega) (ih (by omega))
theorem wf_warms (w : Int32) {R : Nat → Int32} (h : wfR R) : wfR (warmsF w R) :=
  wf_fold (fun k R' hk hR => wf_keep hR (updN (by omega)) (fun j hj => updN (by omega))) h 24 (Nat.le_refl _)
theorem grow_o {k p : Nat} {R : Nat → Int32} (h0 : p ≠ 41 + 5 * k + 0) (h3 : p ≠ 41 + 5 * k + 3) (h1 : p ≠ 41 + 5 * k + 1) : growC k R p = R p := by
  unfold growC
  try dsimp only
  split <;> split <;> split <;> first | rfl | (simp only [updN h0, updN h3, updN h1])
theorem wf_grows {R : Nat → Int32} (h : wfR R) : wfR (growsF R) :=
  wf_fold (fun k R' hk hR => wf_keep hR (grow_o (by omega) (by omega) (by omega)) (fun j hj => grow_o (by omega) (by omega) (by omega))) h 24 (Nat.le_refl _)
theorem tornN_tear {R R' : Nat → Int32} {k : Nat} (h0 : R (41 + 5 * k + 4) = 0) (h1 : ¬ R' (41 + 5 * k + 4) = 0) (ho : ∀ j, j < 24 → j ≠ k → R' (41 + 5 * j + 4) = R (41 + 5 * j + 4)) : ∀ i, i ≤ 24 → tornN R' i = tornN R i + (if k < i then 1 else 0) := by
  intro i
  induction i with
  | zero => intro _; rfl
  | succ i ih =>
    intro hi
    unfold tornN
    rw [ih (by omega)]
    by_cases e : i = k
    · subst e
      rw [if_neg h1, if_pos h0, if_neg (Nat.lt_irrefl _), if_pos (Nat.lt_succ_self _)]
    · rw [ho i (by omega) e]
      by_cases q : k < i
      · rw [if_pos q, if_pos (show k < i + 1 by omega)]; omega
      · rw [if_neg q, if_neg (show ¬ k < i + 1 by omega)]; omega
theorem tearL_o {q k p : Nat} {kind : Int32} {R : Nat → Int32} (h : p < 161) (h2 : p ≠ 40) : tearL q k kind R p = R p := by
  unfold tearL
  try dsimp only
  rw [updN h2]
  rw [updN (by omega), updN (by omega), updN (by omega), updN (by omega), updN (by omega), updN (by omega), updN (by omega)]
theorem tearL_40 {q k : Nat} {kind : Int32} {R : Nat → Int32} : tearL q k kind R 40 = R 40 + 1 := by
  unfold tearL
  try dsimp only
  rw [updS]
  rw [updN (by omega), updN (by omega), updN (by omega), updN (by omega), updN (by omega), updN (by omega), updN (by omega)]
theorem tearG_o {g : Int32} {k p : Nat} {R : Nat → Int32} (h : p ≠ 41 + 5 * (k + 2) + 0) : tearG g k R p = R p := by
  unfold tearG
  split
  · exact updN h
  · rfl
theorem tearF_40 {q k : Nat} {kind : Int32} {R : Nat → Int32} : tearF q k kind R 40 = R 40 + 1 := by
  unfold tearF
  rw [updN (by omega), updN (by omega), tearG_o (by omega), tearL_40]
theorem tearF_t {q k : Nat} {kind : Int32} {R : Nat → Int32} : tearF q k kind R (41 + 5 * k + 4) = 1 := by
  unfold tearF
  rw [updS]
theorem tearF_to {q k j : Nat} {kind : Int32} {R : Nat → Int32} (hj : j < 24) (h : j ≠ k) : tearF q k kind R (41 + 5 * j + 4) = R (41 + 5 * j + 4) := by
  unfold tearF
  rw [updN (by omega), updN (by omega), tearG_o (by omega), tearL_o (by omega) (by omega)]
theorem wf_tear {q k : Nat} {kind : Int32} {R : Nat → Int32} (h : wfR R) (hk : k < 24) (h0 : R (41 + 5 * k + 4) = 0) : wfR (tearF q k kind R) := by
  unfold wfR
  rw [tearF_40, tornN_tear (k := k) h0 (by rw [tearF_t]; decide) (fun j hj e => tearF_to hj e) 24 (Nat.le_refl _), if_pos hk]
  unfold wfR at h
  rw [h, nI_1]
theorem wf_bursts (ov : Int32) {R : Nat → Int32} (h : wfR R) : ∀ k, k ≤ 24 → wfR (foldR (burstC ov) k R) :=
  wf_fold (fun k R' hk hR => by
    unfold burstC
    split
    · rename_i q
      exact wf_tear hR hk q.1
    · exact hR) h
theorem wf_sinks {R : Nat → Int32} (h : wfR R) : ∀ k, k ≤ 24 → wfR (foldR sinkC k R) :=
  wf_fold (fun k R' hk hR => by
    unfold sinkC
    split
    · rename_i q
      exact wf_tear hR hk q.1
    · exact hR) h
def endF (v : Int32) (R : Nat → Int32) : Nat → Int32 := upd (upd R 39 v) 38 (upd R 39 v 38 + 1)
def turnF (ov w : Int32) (R : Nat → Int32) : Nat → Int32 :=
  if ov = 0 then (if burstsF ov (growsF (warmsF w R)) 39 = 1 then endF (sinksF (burstsF ov (growsF (warmsF w R))) 39) (sinksF (burstsF ov (growsF (warmsF w R)))) else endF (burstsF ov (growsF (warmsF w R)) 39) (burstsF ov (growsF (warmsF w R)))) else endF 1 (burstsF ov (growsF (warmsF w R)))
def onceC (kind : Int32) (k : Nat) (R : Nat → Int32) : Nat → Int32 :=
  if kind = 3 then upd (upd R (41 + 5 * k + 1) (lsr 99 (R (41 + 5 * k + 1) + 10))) (41 + 5 * k + 0) (R (41 + 5 * k + 0) / 2)
  else if kind = 5 then (if isOut k then upd R (41 + 5 * k + 2) (gtr 0 (R (41 + 5 * k + 2) - 20)) else upd R (41 + 5 * k + 2) (R (41 + 5 * k + 2)))
  else if R (41 + 5 * k + 4) = 0 ∧ R (41 + 5 * k + 1) < R (41 + 5 * k + 0) then tearF (qOf R) k 3 R
  else upd R (41 + 5 * k + 0) (R (41 + 5 * k + 0) - R (41 + 5 * k + 0) / 4)
def atOnceF (kind : Int32) (R : Nat → Int32) : Nat → Int32 := foldR (onceC kind) 24 R
theorem wf_once (kind : Int32) {R : Nat → Int32} (h : wfR R) : ∀ k, k ≤ 24 → wfR (foldR (onceC kind) k R) :=
  wf_fold (fun k R' hk hR => by
    unfold onceC
    split
    · exact wf_keep hR (by rw [updN (by omega), updN (by omega)]) (fun j hj => by rw [updN (by omega), updN (by omega)])
    · split
      · split
        · exact wf_keep hR (updN (by omega)) (fun j hj => updN (by omega))
        · exact wf_keep hR (updN (by omega)) (fun j hj => updN (by omega))
      · split
        · rename_i q
          exact wf_tear hR hk q.1
        · exact wf_keep hR (updN (by omega)) (fun j hj => updN (by omega))) h

set_option maxHeartbeats 1000000 in
theorem c_X12_turnsAll {L : Nat} {xs : Nat → Int32} {d : Nat} {m : sM} {n : sN} {Q : sQ} {b : Nat} {R h : Nat → Int32} (hb : bAt m b) {c : Nat} (hc : R 5 = nI c) (hc2 : c ≤ 10) (hQ : Q (some (.int (rsum R c))) (stR m h b R) n) : sRun (scT L xs) (d + 3) yX12_turnsAll cX12_turnsAll 3 (some .int) [.ref 239] (stR m h b R) n Q := by
  refine y_run (own := "LoafFallModel") rfl (by decide +kernel) (Nat.le_of_ble_eq_true rfl) rfl ?_
  refine y_iconst (v := 0) dX12_turnsAll_0 (by decide) ?_
  refine y_ist3_1 dX12_turnsAll_1 rfl ?_
  refine y_iconst (v := 0) dX12_turnsAll_2 (by decide) ?_
  refine y_ist3_2 dX12_turnsAll_3 rfl ?_
  refine cnt (P := fun k => sV (scT L xs) (d + 2) "LoafFallModel" cX12_turnsAll 3 (some .int) Q 4 [some (.ref 239), some (.int (rsum R k)), some (.int (nI k))] [] (stR m h b R) n) c ?_ ?_ 0 (by omega)
  · refine y_iload_n dX12_turnsAll_4 rfl rfl ?_
    refine y_aload_n dX12_turnsAll_5 rfl rfl ?_
    refine y_iconst (v := 5) dX12_turnsAll_6 (by decide) ?_
    refine y_ivI1 dX12_turnsAll_7 mv_X12_160 my_X12_v (Or.inl rfl) sh_239 ?_
    refine c_X12_v hb (p := 5) rfl (by omega) ⟨_, rfl, ?_⟩
    rw [hc]
    refine y_icmp_ge (tgt := 28) dX12_turnsAll_10 (by decide) (fun h10 => ?_) (fun h10 => absurd (nI_le (a := c) (b := c) (Nat.le_refl _) (by omega)) h10)
    refine y_iload_n dX12_turnsAll_28 rfl rfl ?_
    refine y_ireturn dX12_turnsAll_29 rfl rfl ?_
    exact hQ
  · intro k hk hP
    refine y_iload_n dX12_turnsAll_4 rfl rfl ?_
    refine y_aload_n dX12_turnsAll_5 rfl rfl ?_
    refine y_iconst (v := 5) dX12_turnsAll_6 (by decide) ?_
    refine y_ivI1 dX12_turnsAll_7 mv_X12_160 my_X12_v (Or.inl rfl) sh_239 ?_
    refine c_X12_v hb (p := 5) rfl (by omega) ⟨_, rfl, ?_⟩
    rw [hc]
    refine y_icmp_ge (tgt := 28) dX12_turnsAll_10 (by decide) (fun h10 => absurd h10 (nI_ge (a := k) (b := c) hk (by omega))) (fun h10 => ?_)
    refine y_iload_n dX12_turnsAll_13 rfl rfl ?_
    refine y_aload_n dX12_turnsAll_14 rfl rfl ?_
    refine y_iload_n dX12_turnsAll_15 rfl rfl ?_
    refine y_iconst (v := 2) dX12_turnsAll_16 (by decide) ?_
    refine y_ivI2 dX12_turnsAll_17 mv_X12_171 my_X12_s (Or.inl rfl) sh_239 ?_
    refine c_X12_s hb (k := k) (j := 2) rfl rfl (by omega) ⟨_, rfl, ?_⟩
    refine y_iadd dX12_turnsAll_20 ?_
    refine y_ist3_1 dX12_turnsAll_21 rfl ?_
    refine y_iinc3_2 dX12_turnsAll_22 (nI_1 _) rfl ?_
    refine y_goto (tgt := 4) dX12_turnsAll_25 (by decide) ?_
    exact hP
set_option maxHeartbeats 1000000 in
theorem c_X12_begins {L : Nat} {xs : Nat → Int32} {d : Nat} {m : sM} {n : sN} {Q : sQ} {b : Nat} {R h : Nat → Int32} (hb : bAt m b) (hQ : Q none (stR m h b (beginsF R)) n) : sRun (scT L xs) (d + 3) yX12_begins cX12_begins 2 none [.ref 239] (stR m h b R) n Q := by
  refine y_run (own := "LoafFallModel") rfl (by decide +kernel) (Nat.le_of_ble_eq_true rfl) rfl ?_
  refine y_bipush (v := 36) dX12_begins_0 (by decide) ?_
  refine y_ist2_1 dX12_begins_2 rfl ?_
  have k2 : sV (scT L xs) (d + 2) "LoafFallModel" cX12_begins 2 none Q 24 [some (.ref 239), some (.int 0)] [] (stR m h b (zr 329 R)) n := by
    refine cnt (P := fun k => sV (scT L xs) (d + 2) "LoafFallModel" cX12_begins 2 none Q 24 [some (.ref 239), some (.int (nI k))] [] (stR m h b (foldR freshC k (zr 329 R))) n) 24 ?_ ?_ 0 (by omega)
    · refine y_iload_n dX12_begins_24 rfl rfl ?_
      refine y_bipush (v := 24) dX12_begins_25 (by decide) ?_
      refine y_icmp_ge (tgt := 55) dX12_begins_27 (by decide) (fun h27 => ?_) (fun h27 => absurd (nI_le (a := 24) (b := 24) (Nat.le_refl _) (by decide)) h27)
      refine y_return dX12_begins_55 rfl ?_
      exact hQ
    · intro k hk hP
      generalize hRk : foldR freshC k (zr 329 R) = Rk
      replace hP : sV (scT L xs) (d + 2) "LoafFallModel" cX12_begins 2 none Q 24 [some (.ref 239), some (.int (nI (k + 1)))] [] (stR m h b (freshC k Rk)) n := by rw [← hRk]; exact hP
      refine y_iload_n dX12_begins_24 rfl rfl ?_
      refine y_bipush (v := 24) dX12_begins_25 (by decide) ?_
      refine y_icmp_ge (tgt := 55) dX12_begins_27 (by decide) (fun h27 => absurd h27 (nI_ge (a := k) (b := 24) hk (by decide))) (fun h27 => ?_)
      refine y_aload_n dX12_begins_30 rfl rfl ?_
      refine y_iload_n dX12_begins_31 rfl rfl ?_
      refine y_iconst (v := 1) dX12_begins_32 (by decide) ?_
      refine y_aload_n dX12_begins_33 rfl rfl ?_
      refine y_iconst (v := 1) dX12_begins_34 (by decide) ?_
      refine y_ivI1 dX12_begins_35 mv_X12_160 my_X12_v (Or.inl rfl) sh_239 ?_
      refine c_X12_v hb (p := 1) rfl (by omega) ⟨_, rfl, ?_⟩
      refine y_ivV3 dX12_begins_38 mv_X12_167 my_X12_putCell (Or.inl rfl) sh_239 ?_
      refine c_X12_putCell hb (k := k) (j := 1) rfl rfl (by omega) ⟨rfl, ?_⟩
      refine y_aload_n dX12_begins_41 rfl rfl ?_
      refine y_iload_n dX12_begins_42 rfl rfl ?_
      refine y_iconst (v := 2) dX12_begins_43 (by decide) ?_
      refine y_bipush (v := 20) dX12_begins_44 (by decide) ?_
      refine y_ivV3 dX12_begins_46 mv_X12_167 my_X12_putCell (Or.inl rfl) sh_239 ?_
      refine c_X12_putCell hb (k := k) (j := 2) rfl rfl (by omega) ⟨rfl, ?_⟩
      refine y_iinc2_1 dX12_begins_49 (nI_1 _) rfl ?_
      refine y_goto (tgt := 24) dX12_begins_52 (by decide) ?_
      exact hP
  refine sV_eq (m' := stR m h b (zr 36 R)) (by rw [zr36]) ?_
  refine cnt2 (P := fun k => sV (scT L xs) (d + 2) "LoafFallModel" cX12_begins 2 none Q 3 [some (.ref 239), some (.int (nI k))] [] (stR m h b (zr k R)) n) 36 329 ?_ ?_ 36 (Nat.le_refl _) (by omega)
  · refine y_iload_n dX12_begins_3 rfl rfl ?_
    refine y_sipush (v := 329) dX12_begins_4 (by decide) ?_
    refine y_icmp_ge (tgt := 22) dX12_begins_7 (by decide) (fun h7 => ?_) (fun h7 => absurd (nI_le (a := 329) (b := 329) (Nat.le_refl _) (by decide)) h7)
    refine y_iconst (v := 0) dX12_begins_22 (by decide) ?_
    refine y_ist2_1 dX12_begins_23 rfl ?_
    exact k2
  · intro k hk0 hk hP
    refine y_iload_n dX12_begins_3 rfl rfl ?_
    refine y_sipush (v := 329) dX12_begins_4 (by decide) ?_
    refine y_icmp_ge (tgt := 22) dX12_begins_7 (by decide) (fun h7 => absurd h7 (nI_ge (a := k) (b := 329) hk (by decide))) (fun h7 => ?_)
    refine y_aload_n dX12_begins_10 rfl rfl ?_
    refine y_iload_n dX12_begins_11 rfl rfl ?_
    refine y_iconst (v := 0) dX12_begins_12 (by decide) ?_
    refine y_ivV2 dX12_begins_13 mv_X12_163 my_X12_put_ (Or.inl rfl) sh_239 ?_
    refine c_X12_put_ hb (p := k) rfl (by omega) ⟨rfl, ?_⟩
    refine y_iinc2_1 dX12_begins_16 (nI_1 _) rfl ?_
    refine y_goto (tgt := 3) dX12_begins_19 (by decide) ?_
    rw [zrS R hk0]
    exact hP
set_option maxHeartbeats 1000000 in
theorem c_X12_warms {L : Nat} {xs : Nat → Int32} {d : Nat} {m : sM} {n : sN} {Q : sQ} {b : Nat} {R h : Nat → Int32} (hb : bAt m b) {w : Int32} (hQ : ∀ h', Q none (stR m h' b (warmsF w R)) n) : sRun (scT L xs) (d + 3) yX12_warms cX12_warms 5 none [.ref 239, .int w] (stR m h b R) n Q := by
  refine y_run (own := "LoafFallModel") rfl (by decide +kernel) (Nat.le_of_ble_eq_true rfl) rfl ?_
  refine y_iconst (v := 0) dX12_warms_0 (by decide) ?_
  refine y_ist5_2 dX12_warms_1 rfl ?_
  have k2 : ∀ (h' : Nat → Int32) (a3 a4 : Option Value), (∀ j, j < 24 → h' j = heatF w R j) → a_isL a3 = false → sV (scT L xs) (d + 2) "LoafFallModel" cX12_warms 5 none Q 93 [some (.ref 239), some (.int w), some (.int 0), a3, a4] [] (stR m h' b R) n := by
    intro h' a3 a4 hh ha3
    refine cnt (P := fun k => sV (scT L xs) (d + 2) "LoafFallModel" cX12_warms 5 none Q 93 [some (.ref 239), some (.int w), some (.int (nI k)), a3, a4] [] (stR m h' b (foldR (putH (heatF w R)) k R)) n) 24 ?_ ?_ 0 (by omega)
    · refine y_iload_n dX12_warms_93 rfl rfl ?_
      refine y_bipush (v := 24) dX12_warms_94 (by decide) ?_
      refine y_icmp_ge (tgt := 117) dX12_warms_96 (by decide) (fun h96 => ?_) (fun h96 => absurd (nI_le (a := 24) (b := 24) (Nat.le_refl _) (by decide)) h96)
      refine y_return dX12_warms_117 rfl ?_
      exact hQ h'
    · intro k hk hP
      generalize hRk : foldR (putH (heatF w R)) k R = Rk
      replace hP : sV (scT L xs) (d + 2) "LoafFallModel" cX12_warms 5 none Q 93 [some (.ref 239), some (.int w), some (.int (nI (k + 1))), a3, a4] [] (stR m h' b ((putH (heatF w R)) k Rk)) n := by rw [← hRk]; exact hP
      refine y_iload_n dX12_warms_93 rfl rfl ?_
      refine y_bipush (v := 24) dX12_warms_94 (by decide) ?_
      refine y_icmp_ge (tgt := 117) dX12_warms_96 (by decide) (fun h96 => absurd h96 (nI_ge (a := k) (b := 24) hk (by decide))) (fun h96 => ?_)
      refine y_aload_n dX12_warms_99 rfl rfl ?_
      refine y_iload_n dX12_warms_100 rfl rfl ?_
      refine y_iconst (v := 2) dX12_warms_101 (by decide) ?_
      refine y_aload_n dX12_warms_102 rfl rfl ?_
      refine y_getr dX12_warms_103 gf_X12_57 sh_239 rfl ?_
      refine y_iload_n dX12_warms_106 rfl rfl ?_
      refine y_ialdN dX12_warms_107 sh_255 rfl (by first | omega | decide) (by decide) ?_
      rw [stR_h, hh k hk]
      refine y_ivV3 dX12_warms_108 mv_X12_167 my_X12_putCell (Or.inl rfl) sh_239 ?_
      refine c_X12_putCell hb (k := k) (j := 2) rfl rfl (by omega) ⟨rfl, ?_⟩
      refine y_iinc5_2 dX12_warms_111 (nI_1 _) rfl ?_
      refine y_goto (tgt := 93) dX12_warms_114 (by decide) ?_
      exact hP
  refine sV_eq (m' := stR m (hUp (heatF w R) h 0) b R) (by rw [hUp0]) ?_
  refine cnt (P := fun k => ∀ a3 a4 : Option Value, a_isL a3 = false → sV (scT L xs) (d + 2) "LoafFallModel" cX12_warms 5 none Q 2 [some (.ref 239), some (.int w), some (.int (nI k)), a3, a4] [] (stR m (hUp (heatF w R) h k) b R) n) 24 ?_ ?_ 0 (by omega) _ _ rfl
  · intro a3 a4 ha3
    refine y_iload_n dX12_warms_2 rfl rfl ?_
    refine y_bipush (v := 24) dX12_warms_3 (by decide) ?_
    refine y_icmp_ge (tgt := 91) dX12_warms_5 (by decide) (fun h5 => ?_) (fun h5 => absurd (nI_le (a := 24) (b := 24) (Nat.le_refl _) (by decide)) h5)
    refine y_iconst (v := 0) dX12_warms_91 (by decide) ?_
    refine y_ist5_2 dX12_warms_92 rfl ?_
    exact k2 _ _ _ (fun j hj => by unfold hUp; rw [if_pos hj]) ha3
  · intro k hk hP
    intro a3 a4 ha3
    refine y_iload_n dX12_warms_2 rfl rfl ?_
    refine y_bipush (v := 24) dX12_warms_3 (by decide) ?_
    refine y_icmp_ge (tgt := 91) dX12_warms_5 (by decide) (fun h5 => absurd h5 (nI_ge (a := k) (b := 24) hk (by decide))) (fun h5 => ?_)
    refine y_aload_n dX12_warms_8 rfl rfl ?_
    refine y_iload_n dX12_warms_9 rfl rfl ?_
    refine y_iconst (v := 2) dX12_warms_10 (by decide) ?_
    refine y_ivI2 dX12_warms_11 mv_X12_191 my_X12_c (Or.inl rfl) sh_239 ?_
    refine c_X12_c hb (k := k) (j := 2) rfl rfl (by omega) ⟨_, rfl, ?_⟩
    refine y_ist5_3 dX12_warms_14 rfl ?_
    refine y_iload_n dX12_warms_15 rfl rfl ?_
    refine y_isI1 dX12_warms_16 ms_X12_194 my_X12_isOuter (Or.inl rfl) ?_
    refine c_X12_isOuter (k := k) rfl (by omega) (fun hO => ⟨_, rfl, ?_⟩) (fun hO => ⟨_, rfl, ?_⟩)
    · refine y_if_eq (tgt := 41) dX12_warms_19 (by decide) (fun h19 => absurd h19 (by decide)) (fun h19 => ?_)
      refine y_aload_n dX12_warms_22 rfl rfl ?_
      refine y_getr dX12_warms_23 gf_X12_57 sh_239 rfl ?_
      refine y_iload_n dX12_warms_26 rfl rfl ?_
      refine y_iload_n dX12_warms_27 rfl rfl ?_
      refine y_bipush (v := 10) dX12_warms_28 (by decide) ?_
      refine y_iload_n dX12_warms_30 rfl rfl ?_
      refine y_imul dX12_warms_31 ?_
      refine y_iload_n dX12_warms_32 rfl rfl ?_
      refine y_isub dX12_warms_33 ?_
      refine y_iconst (v := 2) dX12_warms_34 (by decide) ?_
      refine y_idiv dX12_warms_35 (by decide) ?_
      refine y_iadd dX12_warms_36 ?_
      refine y_iastN dX12_warms_37 sh_255 rfl (by first | omega | decide) (by decide) ?_
      refine y_goto (tgt := 85) dX12_warms_38 (by decide) ?_
      refine y_iinc5_2 dX12_warms_85 (nI_1 _) rfl ?_
      refine y_goto (tgt := 2) dX12_warms_88 (by decide) ?_
      refine sV_eq ?_ (hP _ _ rfl)
      rw [stR_h, stR_heat]
      refine congrArg (fun z => stR m z b R) ?_
      rw [← hUpS]
      congr 1
      unfold heatF
      try unfold isOut at hO
      first | rw [if_pos hO] | rw [if_neg hO]
    · refine y_if_eq (tgt := 41) dX12_warms_19 (by decide) (fun h19 => ?_) (fun h19 => absurd (by decide) h19)
      unfold isOut at hO
      refine y_aload_n dX12_warms_41 rfl rfl ?_
      refine y_iload_n dX12_warms_42 rfl rfl ?_
      refine y_iconst (v := 2) dX12_warms_43 (by decide) ?_
      refine y_isubN (a := k) (b := 2) dX12_warms_44 rfl rfl (by omega) ?_
      refine y_iconst (v := 2) dX12_warms_45 (by decide) ?_
      refine y_ivI2 dX12_warms_46 mv_X12_191 my_X12_c (Or.inl rfl) sh_239 ?_
      refine c_X12_c hb (k := k - 2) (j := 2) rfl rfl (by omega) ⟨_, rfl, ?_⟩
      refine y_aload_n dX12_warms_49 rfl rfl ?_
      refine y_iload_n dX12_warms_50 rfl rfl ?_
      refine y_iconst (v := 2) dX12_warms_51 (by decide) ?_
      refine y_iaddN (a := k) (b := 2) dX12_warms_52 rfl rfl ?_
      refine y_iconst (v := 2) dX12_warms_53 (by decide) ?_
      refine y_ivI2 dX12_warms_54 mv_X12_191 my_X12_c (Or.inl rfl) sh_239 ?_
      refine c_X12_c hb (k := k + 2) (j := 2) rfl rfl (by omega) ⟨_, rfl, ?_⟩
      refine y_iadd dX12_warms_57 ?_
      refine y_aload_n dX12_warms_58 rfl rfl ?_
      refine y_iload_n dX12_warms_59 rfl rfl ?_
      refine y_iconst (v := 1) dX12_warms_60 (by decide) ?_
      refine y_isubN (a := k) (b := 1) dX12_warms_61 rfl rfl (by omega) ?_
      refine y_iconst (v := 2) dX12_warms_62 (by decide) ?_
      refine y_ivI2 dX12_warms_63 mv_X12_191 my_X12_c (Or.inl rfl) sh_239 ?_
      refine c_X12_c hb (k := k - 1) (j := 2) rfl rfl (by omega) ⟨_, rfl, ?_⟩
      refine y_iadd dX12_warms_66 ?_
      refine y_iconst (v := 3) dX12_warms_67 (by decide) ?_
      refine y_iload_n dX12_warms_68 rfl rfl ?_
      refine y_imul dX12_warms_69 ?_
      refine y_isub dX12_warms_70 ?_
      refine y_ist5_4 dX12_warms_71 rfl ?_
      refine y_aload_n dX12_warms_73 rfl rfl ?_
      refine y_getr dX12_warms_74 gf_X12_57 sh_239 rfl ?_
      refine y_iload_n dX12_warms_77 rfl rfl ?_
      refine y_iload_n dX12_warms_78 rfl rfl ?_
      refine y_iload dX12_warms_79 rfl ?_
      refine y_iconst (v := 4) dX12_warms_81 (by decide) ?_
      refine y_idiv dX12_warms_82 (by decide) ?_
      refine y_iadd dX12_warms_83 ?_
      refine y_iastN dX12_warms_84 sh_255 rfl (by first | omega | decide) (by decide) ?_
      refine y_iinc5_2 dX12_warms_85 (nI_1 _) rfl ?_
      refine y_goto (tgt := 2) dX12_warms_88 (by decide) ?_
      refine sV_eq ?_ (hP _ _ rfl)
      rw [stR_h, stR_heat]
      refine congrArg (fun z => stR m z b R) ?_
      rw [← hUpS]
      congr 1
      unfold heatF
      try unfold isOut at hO
      first | rw [if_pos hO] | rw [if_neg hO]
set_option maxHeartbeats 1000000 in
theorem c_X12_grows {L : Nat} {xs : Nat → Int32} {d : Nat} {m : sM} {n : sN} {Q : sQ} {b : Nat} {R h : Nat → Int32} (hb : bAt m b) (hQ : Q none (stR m h b (growsF R)) n) : sRun (scT L xs) (d + 3) yX12_grows cX12_grows 3 none [.ref 239] (stR m h b R) n Q := by
  refine y_run (own := "LoafFallModel") rfl (by decide +kernel) (Nat.le_of_ble_eq_true rfl) rfl ?_
  refine y_iconst (v := 0) dX12_grows_0 (by decide) ?_
  refine y_ist3_1 dX12_grows_1 rfl ?_
  refine cnt (P := fun k => ∀ a2 : Option Value, sV (scT L xs) (d + 2) "LoafFallModel" cX12_grows 3 none Q 2 [some (.ref 239), some (.int (nI k)), a2] [] (stR m h b (foldR growC k R)) n) 24 ?_ ?_ 0 (by omega) _
  · intro a2
    refine y_iload_n dX12_grows_2 rfl rfl ?_
    refine y_bipush (v := 24) dX12_grows_3 (by decide) ?_
    refine y_icmp_ge (tgt := 158) dX12_grows_5 (by decide) (fun h5 => ?_) (fun h5 => absurd (nI_le (a := 24) (b := 24) (Nat.le_refl _) (by decide)) h5)
    refine y_return dX12_grows_158 rfl ?_
    exact hQ
  · intro k hk hP
    intro a2
    generalize hRk : foldR growC k R = Rk
    replace hP : ∀ a2 : Option Value, sV (scT L xs) (d + 2) "LoafFallModel" cX12_grows 3 none Q 2 [some (.ref 239), some (.int (nI (k + 1))), a2] [] (stR m h b (growC k Rk)) n := by rw [← hRk]; exact hP
    obtain ⟨ht, eht⟩ : ∃ z, z = Rk (41 + 5 * k + 2) := ⟨_, rfl⟩
    obtain ⟨R1, eR1⟩ : ∃ z, z = (if Rk (41 + 5 * k + 4) = 0 ∧ ht ≤ 55 then upd Rk (41 + 5 * k + 0) (Rk (41 + 5 * k + 0) + Rk 0 * (ht / 10) * (10 - Rk 4) / 20) else Rk) := ⟨_, rfl⟩
    obtain ⟨R2, eR2⟩ : ∃ z, z = (if 60 ≤ ht then upd R1 (41 + 5 * k + 3) (lsr 99 (R1 (41 + 5 * k + 3) + gtr 0 ((ht - 50) / 5 - R1 2))) else R1) := ⟨_, rfl⟩
    have eG : growC k Rk = (if 20 ≤ ht ∧ R2 (41 + 5 * k + 3) < 50 then upd R2 (41 + 5 * k + 1) (gtr 0 (R2 (41 + 5 * k + 1) - (if R2 4 = 0 then 2 else 1))) else R2) := by
      unfold growC
      rw [eR2, eR1, eht]
    rw [eG] at hP
    have k3 : sV (scT L xs) (d + 2) "LoafFallModel" cX12_grows 3 none Q 105 [some (.ref 239), some (.int (nI k)), some (.int ht)] [] (stR m h b R2) n := by
      refine y_iload_n dX12_grows_105 rfl rfl ?_
      refine y_bipush (v := 20) dX12_grows_106 (by decide) ?_
      refine y_icmp_lt (tgt := 152) dX12_grows_108 (by decide) (fun h108 => ?_) (fun h108 => ?_)
      · refine y_iinc3_1 dX12_grows_152 (nI_1 _) rfl ?_
        refine y_goto (tgt := 2) dX12_grows_155 (by decide) ?_
        first
          | (rw [if_neg (fun q => absurd q.1 (Int32.not_le.mpr h108))] at hP; exact hP _)
          | (rw [if_neg (fun q => absurd q.2 (Int32.not_lt.mpr h119))] at hP; exact hP _)
          | (rw [if_pos ⟨Int32.not_lt.mp h108, Int32.not_le.mp h119⟩, if_pos h137] at hP; exact hP _)
          | (rw [if_pos ⟨Int32.not_lt.mp h108, Int32.not_le.mp h119⟩, if_neg h137] at hP; exact hP _)
      · refine y_aload_n dX12_grows_111 rfl rfl ?_
        refine y_iload_n dX12_grows_112 rfl rfl ?_
        refine y_iconst (v := 3) dX12_grows_113 (by decide) ?_
        refine y_ivI2 dX12_grows_114 mv_X12_191 my_X12_c (Or.inl rfl) sh_239 ?_
        refine c_X12_c hb (k := k) (j := 3) rfl rfl (by omega) ⟨_, rfl, ?_⟩
        refine y_bipush (v := 50) dX12_grows_117 (by decide) ?_
        refine y_icmp_ge (tgt := 152) dX12_grows_119 (by decide) (fun h119 => ?_) (fun h119 => ?_)
        · refine y_iinc3_1 dX12_grows_152 (nI_1 _) rfl ?_
          refine y_goto (tgt := 2) dX12_grows_155 (by decide) ?_
          first
            | (rw [if_neg (fun q => absurd q.1 (Int32.not_le.mpr h108))] at hP; exact hP _)
            | (rw [if_neg (fun q => absurd q.2 (Int32.not_lt.mpr h119))] at hP; exact hP _)
            | (rw [if_pos ⟨Int32.not_lt.mp h108, Int32.not_le.mp h119⟩, if_pos h137] at hP; exact hP _)
            | (rw [if_pos ⟨Int32.not_lt.mp h108, Int32.not_le.mp h119⟩, if_neg h137] at hP; exact hP _)
        · refine y_aload_n dX12_grows_122 rfl rfl ?_
          refine y_iload_n dX12_grows_123 rfl rfl ?_
          refine y_iconst (v := 1) dX12_grows_124 (by decide) ?_
          refine y_iconst (v := 0) dX12_grows_125 (by decide) ?_
          refine y_aload_n dX12_grows_126 rfl rfl ?_
          refine y_iload_n dX12_grows_127 rfl rfl ?_
          refine y_iconst (v := 1) dX12_grows_128 (by decide) ?_
          refine y_ivI2 dX12_grows_129 mv_X12_191 my_X12_c (Or.inl rfl) sh_239 ?_
          refine c_X12_c hb (k := k) (j := 1) rfl rfl (by omega) ⟨_, rfl, ?_⟩
          refine y_aload_n dX12_grows_132 rfl rfl ?_
          refine y_iconst (v := 4) dX12_grows_133 (by decide) ?_
          refine y_ivI1 dX12_grows_134 mv_X12_160 my_X12_v (Or.inl rfl) sh_239 ?_
          refine c_X12_v hb (p := 4) rfl (by omega) ⟨_, rfl, ?_⟩
          refine y_if_ne (tgt := 144) dX12_grows_137 (by decide) (fun h137 => ?_) (fun h137 => ?_)
          · refine y_iconst (v := 1) dX12_grows_144 (by decide) ?_
            refine y_isub dX12_grows_145 ?_
            refine y_isI2 dX12_grows_146 ms_X12_197 my_X12_greater (Or.inl rfl) ?_
            refine c_X12_greater ⟨_, rfl, ?_⟩
            refine y_ivV3 dX12_grows_149 mv_X12_167 my_X12_putCell (Or.inl rfl) sh_239 ?_
            refine c_X12_putCell hb (k := k) (j := 1) rfl rfl (by omega) ⟨rfl, ?_⟩
            refine y_iinc3_1 dX12_grows_152 (nI_1 _) rfl ?_
            refine y_goto (tgt := 2) dX12_grows_155 (by decide) ?_
            first
              | (rw [if_neg (fun q => absurd q.1 (Int32.not_le.mpr h108))] at hP; exact hP _)
              | (rw [if_neg (fun q => absurd q.2 (Int32.not_lt.mpr h119))] at hP; exact hP _)
              | (rw [if_pos ⟨Int32.not_lt.mp h108, Int32.not_le.mp h119⟩, if_pos h137] at hP; exact hP _)
              | (rw [if_pos ⟨Int32.not_lt.mp h108, Int32.not_le.mp h119⟩, if_neg h137] at hP; exact hP _)
          · refine y_iconst (v := 2) dX12_grows_140 (by decide) ?_
            refine y_goto (tgt := 145) dX12_grows_141 (by decide) ?_
            refine y_isub dX12_grows_145 ?_
            refine y_isI2 dX12_grows_146 ms_X12_197 my_X12_greater (Or.inl rfl) ?_
            refine c_X12_greater ⟨_, rfl, ?_⟩
            refine y_ivV3 dX12_grows_149 mv_X12_167 my_X12_putCell (Or.inl rfl) sh_239 ?_
            refine c_X12_putCell hb (k := k) (j := 1) rfl rfl (by omega) ⟨rfl, ?_⟩
            refine y_iinc3_1 dX12_grows_152 (nI_1 _) rfl ?_
            refine y_goto (tgt := 2) dX12_grows_155 (by decide) ?_
            first
              | (rw [if_neg (fun q => absurd q.1 (Int32.not_le.mpr h108))] at hP; exact hP _)
              | (rw [if_neg (fun q => absurd q.2 (Int32.not_lt.mpr h119))] at hP; exact hP _)
              | (rw [if_pos ⟨Int32.not_lt.mp h108, Int32.not_le.mp h119⟩, if_pos h137] at hP; exact hP _)
              | (rw [if_pos ⟨Int32.not_lt.mp h108, Int32.not_le.mp h119⟩, if_neg h137] at hP; exact hP _)
    have k2 : sV (scT L xs) (d + 2) "LoafFallModel" cX12_grows 3 none Q 65 [some (.ref 239), some (.int (nI k)), some (.int ht)] [] (stR m h b R1) n := by
      refine y_iload_n dX12_grows_65 rfl rfl ?_
      refine y_bipush (v := 60) dX12_grows_66 (by decide) ?_
      refine y_icmp_lt (tgt := 105) dX12_grows_68 (by decide) (fun h68 => ?_) (fun h68 => ?_)
      · first
          | (rw [if_neg (Int32.not_le.mpr h68)] at eR2; rw [eR2] at k3; exact k3)
          | (rw [if_pos (Int32.not_lt.mp h68)] at eR2; rw [eR2] at k3; exact k3)
      · refine y_aload_n dX12_grows_71 rfl rfl ?_
        refine y_iload_n dX12_grows_72 rfl rfl ?_
        refine y_iconst (v := 3) dX12_grows_73 (by decide) ?_
        refine y_bipush (v := 99) dX12_grows_74 (by decide) ?_
        refine y_aload_n dX12_grows_76 rfl rfl ?_
        refine y_iload_n dX12_grows_77 rfl rfl ?_
        refine y_iconst (v := 3) dX12_grows_78 (by decide) ?_
        refine y_ivI2 dX12_grows_79 mv_X12_191 my_X12_c (Or.inl rfl) sh_239 ?_
        refine c_X12_c hb (k := k) (j := 3) rfl rfl (by omega) ⟨_, rfl, ?_⟩
        refine y_iconst (v := 0) dX12_grows_82 (by decide) ?_
        refine y_iload_n dX12_grows_83 rfl rfl ?_
        refine y_bipush (v := 50) dX12_grows_84 (by decide) ?_
        refine y_isub dX12_grows_86 ?_
        refine y_iconst (v := 5) dX12_grows_87 (by decide) ?_
        refine y_idiv dX12_grows_88 (by decide) ?_
        refine y_aload_n dX12_grows_89 rfl rfl ?_
        refine y_iconst (v := 2) dX12_grows_90 (by decide) ?_
        refine y_ivI1 dX12_grows_91 mv_X12_160 my_X12_v (Or.inl rfl) sh_239 ?_
        refine c_X12_v hb (p := 2) rfl (by omega) ⟨_, rfl, ?_⟩
        refine y_isub dX12_grows_94 ?_
        refine y_isI2 dX12_grows_95 ms_X12_197 my_X12_greater (Or.inl rfl) ?_
        refine c_X12_greater ⟨_, rfl, ?_⟩
        refine y_iadd dX12_grows_98 ?_
        refine y_isI2 dX12_grows_99 ms_X12_200 my_X12_lesser (Or.inl rfl) ?_
        refine c_X12_lesser ⟨_, rfl, ?_⟩
        refine y_ivV3 dX12_grows_102 mv_X12_167 my_X12_putCell (Or.inl rfl) sh_239 ?_
        refine c_X12_putCell hb (k := k) (j := 3) rfl rfl (by omega) ⟨rfl, ?_⟩
        first
          | (rw [if_neg (Int32.not_le.mpr h68)] at eR2; rw [eR2] at k3; exact k3)
          | (rw [if_pos (Int32.not_lt.mp h68)] at eR2; rw [eR2] at k3; exact k3)
    refine y_iload_n dX12_grows_2 rfl rfl ?_
    refine y_bipush (v := 24) dX12_grows_3 (by decide) ?_
    refine y_icmp_ge (tgt := 158) dX12_grows_5 (by decide) (fun h5 => absurd h5 (nI_ge (a := k) (b := 24) hk (by decide))) (fun h5 => ?_)
    refine y_aload_n dX12_grows_8 rfl rfl ?_
    refine y_iload_n dX12_grows_9 rfl rfl ?_
    refine y_iconst (v := 2) dX12_grows_10 (by decide) ?_
    refine y_ivI2 dX12_grows_11 mv_X12_191 my_X12_c (Or.inl rfl) sh_239 ?_
    refine c_X12_c hb (k := k) (j := 2) rfl rfl (by omega) ⟨_, rfl, ?_⟩
    rw [← eht]
    refine y_ist3_2 dX12_grows_14 rfl ?_
    refine y_aload_n dX12_grows_15 rfl rfl ?_
    refine y_iload_n dX12_grows_16 rfl rfl ?_
    refine y_iconst (v := 4) dX12_grows_17 (by decide) ?_
    refine y_ivI2 dX12_grows_18 mv_X12_191 my_X12_c (Or.inl rfl) sh_239 ?_
    refine c_X12_c hb (k := k) (j := 4) rfl rfl (by omega) ⟨_, rfl, ?_⟩
    refine y_if_ne (tgt := 65) dX12_grows_21 (by decide) (fun h21 => ?_) (fun h21 => ?_)
    · first
        | (rw [if_neg (fun q => absurd q.1 h21)] at eR1; rw [eR1] at k2; exact k2)
        | (rw [if_neg (fun q => absurd q.2 (Int32.not_le.mpr h27))] at eR1; rw [eR1] at k2; exact k2)
        | (rw [if_pos ⟨h21, Int32.not_lt.mp h27⟩] at eR1; rw [eR1] at k2; exact k2)
    · refine y_iload_n dX12_grows_24 rfl rfl ?_
      refine y_bipush (v := 55) dX12_grows_25 (by decide) ?_
      refine y_icmp_gt (tgt := 65) dX12_grows_27 (by decide) (fun h27 => ?_) (fun h27 => ?_)
      · first
          | (rw [if_neg (fun q => absurd q.1 h21)] at eR1; rw [eR1] at k2; exact k2)
          | (rw [if_neg (fun q => absurd q.2 (Int32.not_le.mpr h27))] at eR1; rw [eR1] at k2; exact k2)
          | (rw [if_pos ⟨h21, Int32.not_lt.mp h27⟩] at eR1; rw [eR1] at k2; exact k2)
      · refine y_aload_n dX12_grows_30 rfl rfl ?_
        refine y_iload_n dX12_grows_31 rfl rfl ?_
        refine y_iconst (v := 0) dX12_grows_32 (by decide) ?_
        refine y_aload_n dX12_grows_33 rfl rfl ?_
        refine y_iload_n dX12_grows_34 rfl rfl ?_
        refine y_iconst (v := 0) dX12_grows_35 (by decide) ?_
        refine y_ivI2 dX12_grows_36 mv_X12_191 my_X12_c (Or.inl rfl) sh_239 ?_
        refine c_X12_c hb (k := k) (j := 0) rfl rfl (by omega) ⟨_, rfl, ?_⟩
        refine y_aload_n dX12_grows_39 rfl rfl ?_
        refine y_iconst (v := 0) dX12_grows_40 (by decide) ?_
        refine y_ivI1 dX12_grows_41 mv_X12_160 my_X12_v (Or.inl rfl) sh_239 ?_
        refine c_X12_v hb (p := 0) rfl (by omega) ⟨_, rfl, ?_⟩
        refine y_iload_n dX12_grows_44 rfl rfl ?_
        refine y_bipush (v := 10) dX12_grows_45 (by decide) ?_
        refine y_idiv dX12_grows_47 (by decide) ?_
        refine y_imul dX12_grows_48 ?_
        refine y_bipush (v := 10) dX12_grows_49 (by decide) ?_
        refine y_aload_n dX12_grows_51 rfl rfl ?_
        refine y_iconst (v := 4) dX12_grows_52 (by decide) ?_
        refine y_ivI1 dX12_grows_53 mv_X12_160 my_X12_v (Or.inl rfl) sh_239 ?_
        refine c_X12_v hb (p := 4) rfl (by omega) ⟨_, rfl, ?_⟩
        refine y_isub dX12_grows_56 ?_
        refine y_imul dX12_grows_57 ?_
        refine y_bipush (v := 20) dX12_grows_58 (by decide) ?_
        refine y_idiv dX12_grows_60 (by decide) ?_
        refine y_iadd dX12_grows_61 ?_
        refine y_ivV3 dX12_grows_62 mv_X12_167 my_X12_putCell (Or.inl rfl) sh_239 ?_
        refine c_X12_putCell hb (k := k) (j := 0) rfl rfl (by omega) ⟨rfl, ?_⟩
        first
          | (rw [if_neg (fun q => absurd q.1 h21)] at eR1; rw [eR1] at k2; exact k2)
          | (rw [if_neg (fun q => absurd q.2 (Int32.not_le.mpr h27))] at eR1; rw [eR1] at k2; exact k2)
          | (rw [if_pos ⟨h21, Int32.not_lt.mp h27⟩] at eR1; rw [eR1] at k2; exact k2)
set_option maxHeartbeats 1000000 in
theorem c_X12_tears {L : Nat} {xs : Nat → Int32} {d : Nat} {m : sM} {n : sN} {Q : sQ} {b : Nat} {R h : Nat → Int32} (hb : bAt m b) {k q : Nat} {x kind : Int32} (hx : x = nI k) (hk : k < 24) (hq : R 40 = nI q) (hq2 : q < 24) (hQ : Q none (stR m h b (tearF q k kind R)) n) : sRun (scT L xs) (d + 3) yX12_tears cX12_tears 5 none [.ref 239, .int x, .int kind] (stR m h b R) n Q := by
  subst hx
  refine y_run (own := "LoafFallModel") rfl (by decide +kernel) (Nat.le_of_ble_eq_true rfl) rfl ?_
  refine y_sipush (v := 161) dX12_tears_0 (by decide) ?_
  refine y_bipush (v := 7) dX12_tears_3 (by decide) ?_
  refine y_aload_n dX12_tears_5 rfl rfl ?_
  refine y_bipush (v := 40) dX12_tears_6 (by decide) ?_
  refine y_ivI1 dX12_tears_8 mv_X12_160 my_X12_v (Or.inl rfl) sh_239 ?_
  refine c_X12_v hb (p := 40) rfl (by omega) ⟨_, rfl, ?_⟩
  rw [hq]
  refine y_imulN (a := 7) (b := q) dX12_tears_11 rfl rfl ?_
  refine y_iaddN (a := 161) (b := 7 * q) dX12_tears_12 rfl rfl ?_
  refine y_ist5_3 dX12_tears_13 rfl ?_
  refine y_aload_n dX12_tears_14 rfl rfl ?_
  refine y_iload_n dX12_tears_15 rfl rfl ?_
  refine y_iconst (v := 0) dX12_tears_16 (by decide) ?_
  refine y_ivI2 dX12_tears_17 mv_X12_191 my_X12_c (Or.inl rfl) sh_239 ?_
  refine c_X12_c hb (k := k) (j := 0) rfl rfl (by omega) ⟨_, rfl, ?_⟩
  refine y_ist5_4 dX12_tears_20 rfl ?_
  refine y_aload_n dX12_tears_22 rfl rfl ?_
  refine y_iload_n dX12_tears_23 rfl rfl ?_
  refine y_iload_n dX12_tears_24 rfl rfl ?_
  refine y_ivV2 dX12_tears_25 mv_X12_163 my_X12_put_ (Or.inl rfl) sh_239 ?_
  refine c_X12_put_ hb (p := 161 + (7 * q)) rfl (by omega) ⟨rfl, ?_⟩
  refine y_aload_n dX12_tears_28 rfl rfl ?_
  refine y_iload_n dX12_tears_29 rfl rfl ?_
  refine y_iconst (v := 1) dX12_tears_30 (by decide) ?_
  refine y_iaddN (a := 161 + (7 * q)) (b := 1) dX12_tears_31 rfl rfl ?_
  refine y_iload_n dX12_tears_32 rfl rfl ?_
  refine y_ivV2 dX12_tears_33 mv_X12_163 my_X12_put_ (Or.inl rfl) sh_239 ?_
  refine c_X12_put_ hb (p := 161 + (7 * q) + 1) rfl (by omega) ⟨rfl, ?_⟩
  refine y_aload_n dX12_tears_36 rfl rfl ?_
  refine y_iload_n dX12_tears_37 rfl rfl ?_
  refine y_iconst (v := 2) dX12_tears_38 (by decide) ?_
  refine y_iaddN (a := 161 + (7 * q)) (b := 2) dX12_tears_39 rfl rfl ?_
  refine y_iload dX12_tears_40 rfl ?_
  refine y_ivV2 dX12_tears_42 mv_X12_163 my_X12_put_ (Or.inl rfl) sh_239 ?_
  refine c_X12_put_ hb (p := 161 + (7 * q) + 2) rfl (by omega) ⟨rfl, ?_⟩
  refine y_aload_n dX12_tears_45 rfl rfl ?_
  refine y_iload_n dX12_tears_46 rfl rfl ?_
  refine y_iconst (v := 3) dX12_tears_47 (by decide) ?_
  refine y_iaddN (a := 161 + (7 * q)) (b := 3) dX12_tears_48 rfl rfl ?_
  refine y_aload_n dX12_tears_49 rfl rfl ?_
  refine y_bipush (v := 38) dX12_tears_50 (by decide) ?_
  refine y_ivI1 dX12_tears_52 mv_X12_160 my_X12_v (Or.inl rfl) sh_239 ?_
  refine c_X12_v hb (p := 38) rfl (by omega) ⟨_, rfl, ?_⟩
  refine y_ivV2 dX12_tears_55 mv_X12_163 my_X12_put_ (Or.inl rfl) sh_239 ?_
  refine c_X12_put_ hb (p := 161 + (7 * q) + 3) rfl (by omega) ⟨rfl, ?_⟩
  refine y_aload_n dX12_tears_58 rfl rfl ?_
  refine y_iload_n dX12_tears_59 rfl rfl ?_
  refine y_iconst (v := 4) dX12_tears_60 (by decide) ?_
  refine y_iaddN (a := 161 + (7 * q)) (b := 4) dX12_tears_61 rfl rfl ?_
  refine y_aload_n dX12_tears_62 rfl rfl ?_
  refine y_iload_n dX12_tears_63 rfl rfl ?_
  refine y_iconst (v := 1) dX12_tears_64 (by decide) ?_
  refine y_ivI2 dX12_tears_65 mv_X12_191 my_X12_c (Or.inl rfl) sh_239 ?_
  refine c_X12_c hb (k := k) (j := 1) rfl rfl (by omega) ⟨_, rfl, ?_⟩
  refine y_ivV2 dX12_tears_68 mv_X12_163 my_X12_put_ (Or.inl rfl) sh_239 ?_
  refine c_X12_put_ hb (p := 161 + (7 * q) + 4) rfl (by omega) ⟨rfl, ?_⟩
  refine y_aload_n dX12_tears_71 rfl rfl ?_
  refine y_iload_n dX12_tears_72 rfl rfl ?_
  refine y_iconst (v := 5) dX12_tears_73 (by decide) ?_
  refine y_iaddN (a := 161 + (7 * q)) (b := 5) dX12_tears_74 rfl rfl ?_
  refine y_aload_n dX12_tears_75 rfl rfl ?_
  refine y_iload_n dX12_tears_76 rfl rfl ?_
  refine y_iconst (v := 2) dX12_tears_77 (by decide) ?_
  refine y_ivI2 dX12_tears_78 mv_X12_191 my_X12_c (Or.inl rfl) sh_239 ?_
  refine c_X12_c hb (k := k) (j := 2) rfl rfl (by omega) ⟨_, rfl, ?_⟩
  refine y_ivV2 dX12_tears_81 mv_X12_163 my_X12_put_ (Or.inl rfl) sh_239 ?_
  refine c_X12_put_ hb (p := 161 + (7 * q) + 5) rfl (by omega) ⟨rfl, ?_⟩
  refine y_aload_n dX12_tears_84 rfl rfl ?_
  refine y_iload_n dX12_tears_85 rfl rfl ?_
  refine y_bipush (v := 6) dX12_tears_86 (by decide) ?_
  refine y_iaddN (a := 161 + (7 * q)) (b := 6) dX12_tears_88 rfl rfl ?_
  refine y_aload_n dX12_tears_89 rfl rfl ?_
  refine y_iload_n dX12_tears_90 rfl rfl ?_
  refine y_iconst (v := 3) dX12_tears_91 (by decide) ?_
  refine y_ivI2 dX12_tears_92 mv_X12_191 my_X12_c (Or.inl rfl) sh_239 ?_
  refine c_X12_c hb (k := k) (j := 3) rfl rfl (by omega) ⟨_, rfl, ?_⟩
  refine y_ivV2 dX12_tears_95 mv_X12_163 my_X12_put_ (Or.inl rfl) sh_239 ?_
  refine c_X12_put_ hb (p := 161 + (7 * q) + 6) rfl (by omega) ⟨rfl, ?_⟩
  refine y_aload_n dX12_tears_98 rfl rfl ?_
  refine y_bipush (v := 40) dX12_tears_99 (by decide) ?_
  refine y_aload_n dX12_tears_101 rfl rfl ?_
  refine y_bipush (v := 40) dX12_tears_102 (by decide) ?_
  refine y_ivI1 dX12_tears_104 mv_X12_160 my_X12_v (Or.inl rfl) sh_239 ?_
  refine c_X12_v hb (p := 40) rfl (by omega) ⟨_, rfl, ?_⟩
  refine y_iconst (v := 1) dX12_tears_107 (by decide) ?_
  refine y_iadd dX12_tears_108 ?_
  refine y_ivV2 dX12_tears_109 mv_X12_163 my_X12_put_ (Or.inl rfl) sh_239 ?_
  refine c_X12_put_ hb (p := 40) rfl (by omega) ⟨rfl, ?_⟩
  refine y_iload_n dX12_tears_112 rfl rfl ?_
  refine y_iconst (v := 2) dX12_tears_113 (by decide) ?_
  refine y_iaddN (a := k) (b := 2) dX12_tears_114 rfl rfl ?_
  refine y_bipush (v := 24) dX12_tears_115 (by decide) ?_
  refine y_icmp_ge (tgt := 152) dX12_tears_117 (by decide) (fun h117 => ?_) (fun h117 => ?_)
  · refine y_aload_n dX12_tears_152 rfl rfl ?_
    refine y_iload_n dX12_tears_153 rfl rfl ?_
    refine y_iconst (v := 0) dX12_tears_154 (by decide) ?_
    refine y_iconst (v := 0) dX12_tears_155 (by decide) ?_
    refine y_ivV3 dX12_tears_156 mv_X12_167 my_X12_putCell (Or.inl rfl) sh_239 ?_
    refine c_X12_putCell hb (k := k) (j := 0) rfl rfl (by omega) ⟨rfl, ?_⟩
    refine y_aload_n dX12_tears_159 rfl rfl ?_
    refine y_iload_n dX12_tears_160 rfl rfl ?_
    refine y_iconst (v := 4) dX12_tears_161 (by decide) ?_
    refine y_iconst (v := 1) dX12_tears_162 (by decide) ?_
    refine y_ivV3 dX12_tears_163 mv_X12_167 my_X12_putCell (Or.inl rfl) sh_239 ?_
    refine c_X12_putCell hb (k := k) (j := 4) rfl rfl (by omega) ⟨rfl, ?_⟩
    refine y_return dX12_tears_166 rfl ?_
    first
      | (have hk2 := (nI_leI (a := 24) (b := k + 2) (by decide) (by omega)).mp h117
         rw [tearF_neg (fun z => absurd z.1 (by omega))] at hQ; exact hQ)
      | (have hk2 : ¬ 24 ≤ k + 2 := fun z => h117 ((nI_leI (a := 24) (b := k + 2) (by decide) (by omega)).mpr z)
         rw [tearF_pos (by omega) h128] at hQ; exact hQ)
      | (rw [tearF_neg (fun z => h128 z.2)] at hQ; exact hQ)
  · refine y_aload_n dX12_tears_120 rfl rfl ?_
    refine y_iload_n dX12_tears_121 rfl rfl ?_
    refine y_iconst (v := 2) dX12_tears_122 (by decide) ?_
    refine y_iaddN (a := k) (b := 2) dX12_tears_123 rfl rfl ?_
    refine y_iconst (v := 4) dX12_tears_124 (by decide) ?_
    refine y_ivI2 dX12_tears_125 mv_X12_191 my_X12_c (Or.inl rfl) sh_239 ?_
    refine c_X12_c hb (k := k + 2) (j := 4) rfl rfl (by omega) ⟨_, rfl, ?_⟩
    refine y_if_ne (tgt := 152) dX12_tears_128 (by decide) (fun h128 => ?_) (fun h128 => ?_)
    · refine y_aload_n dX12_tears_152 rfl rfl ?_
      refine y_iload_n dX12_tears_153 rfl rfl ?_
      refine y_iconst (v := 0) dX12_tears_154 (by decide) ?_
      refine y_iconst (v := 0) dX12_tears_155 (by decide) ?_
      refine y_ivV3 dX12_tears_156 mv_X12_167 my_X12_putCell (Or.inl rfl) sh_239 ?_
      refine c_X12_putCell hb (k := k) (j := 0) rfl rfl (by omega) ⟨rfl, ?_⟩
      refine y_aload_n dX12_tears_159 rfl rfl ?_
      refine y_iload_n dX12_tears_160 rfl rfl ?_
      refine y_iconst (v := 4) dX12_tears_161 (by decide) ?_
      refine y_iconst (v := 1) dX12_tears_162 (by decide) ?_
      refine y_ivV3 dX12_tears_163 mv_X12_167 my_X12_putCell (Or.inl rfl) sh_239 ?_
      refine c_X12_putCell hb (k := k) (j := 4) rfl rfl (by omega) ⟨rfl, ?_⟩
      refine y_return dX12_tears_166 rfl ?_
      first
        | (have hk2 := (nI_leI (a := 24) (b := k + 2) (by decide) (by omega)).mp h117
           rw [tearF_neg (fun z => absurd z.1 (by omega))] at hQ; exact hQ)
        | (have hk2 : ¬ 24 ≤ k + 2 := fun z => h117 ((nI_leI (a := 24) (b := k + 2) (by decide) (by omega)).mpr z)
           rw [tearF_pos (by omega) h128] at hQ; exact hQ)
        | (rw [tearF_neg (fun z => h128 z.2)] at hQ; exact hQ)
    · refine y_aload_n dX12_tears_131 rfl rfl ?_
      refine y_iload_n dX12_tears_132 rfl rfl ?_
      refine y_iconst (v := 2) dX12_tears_133 (by decide) ?_
      refine y_iaddN (a := k) (b := 2) dX12_tears_134 rfl rfl ?_
      refine y_iconst (v := 0) dX12_tears_135 (by decide) ?_
      refine y_aload_n dX12_tears_136 rfl rfl ?_
      refine y_iload_n dX12_tears_137 rfl rfl ?_
      refine y_iconst (v := 2) dX12_tears_138 (by decide) ?_
      refine y_iaddN (a := k) (b := 2) dX12_tears_139 rfl rfl ?_
      refine y_iconst (v := 0) dX12_tears_140 (by decide) ?_
      refine y_ivI2 dX12_tears_141 mv_X12_191 my_X12_c (Or.inl rfl) sh_239 ?_
      refine c_X12_c hb (k := k + 2) (j := 0) rfl rfl (by omega) ⟨_, rfl, ?_⟩
      refine y_iload dX12_tears_144 rfl ?_
      refine y_iconst (v := 2) dX12_tears_146 (by decide) ?_
      refine y_idiv dX12_tears_147 (by decide) ?_
      refine y_iadd dX12_tears_148 ?_
      refine y_ivV3 dX12_tears_149 mv_X12_167 my_X12_putCell (Or.inl rfl) sh_239 ?_
      refine c_X12_putCell hb (k := k + 2) (j := 0) rfl rfl (by omega) ⟨rfl, ?_⟩
      refine y_aload_n dX12_tears_152 rfl rfl ?_
      refine y_iload_n dX12_tears_153 rfl rfl ?_
      refine y_iconst (v := 0) dX12_tears_154 (by decide) ?_
      refine y_iconst (v := 0) dX12_tears_155 (by decide) ?_
      refine y_ivV3 dX12_tears_156 mv_X12_167 my_X12_putCell (Or.inl rfl) sh_239 ?_
      refine c_X12_putCell hb (k := k) (j := 0) rfl rfl (by omega) ⟨rfl, ?_⟩
      refine y_aload_n dX12_tears_159 rfl rfl ?_
      refine y_iload_n dX12_tears_160 rfl rfl ?_
      refine y_iconst (v := 4) dX12_tears_161 (by decide) ?_
      refine y_iconst (v := 1) dX12_tears_162 (by decide) ?_
      refine y_ivV3 dX12_tears_163 mv_X12_167 my_X12_putCell (Or.inl rfl) sh_239 ?_
      refine c_X12_putCell hb (k := k) (j := 4) rfl rfl (by omega) ⟨rfl, ?_⟩
      refine y_return dX12_tears_166 rfl ?_
      first
        | (have hk2 := (nI_leI (a := 24) (b := k + 2) (by decide) (by omega)).mp h117
           rw [tearF_neg (fun z => absurd z.1 (by omega))] at hQ; exact hQ)
        | (have hk2 : ¬ 24 ≤ k + 2 := fun z => h117 ((nI_leI (a := 24) (b := k + 2) (by decide) (by omega)).mpr z)
           rw [tearF_pos (by omega) h128] at hQ; exact hQ)
        | (rw [tearF_neg (fun z => h128 z.2)] at hQ; exact hQ)
set_option maxHeartbeats 1000000 in
theorem c_X12_bursts {L : Nat} {xs : Nat → Int32} {d : Nat} {m : sM} {n : sN} {Q : sQ} {b : Nat} {R h : Nat → Int32} (hb : bAt m b) {ov : Int32} (hw : wfR R) (hQ : Q none (stR m h b (burstsF ov R)) n) : sRun (scT L xs) (d + 4) yX12_bursts cX12_bursts 4 none [.ref 239, .int ov] (stR m h b R) n Q := by
  refine y_run (own := "LoafFallModel") rfl (by decide +kernel) (Nat.le_of_ble_eq_true rfl) rfl ?_
  refine y_iconst (v := 0) dX12_bursts_0 (by decide) ?_
  refine y_ist4_2 dX12_bursts_1 rfl ?_
  refine cnt (P := fun k => ∀ a3 : Option Value, sV (scT L xs) (d + 3) "LoafFallModel" cX12_bursts 4 none Q 2 [some (.ref 239), some (.int ov), some (.int (nI k)), a3] [] (stR m h b (foldR (burstC ov) k R)) n) 24 ?_ ?_ 0 (by omega) _
  · intro a3
    refine y_iload_n dX12_bursts_2 rfl rfl ?_
    refine y_bipush (v := 24) dX12_bursts_3 (by decide) ?_
    refine y_icmp_ge (tgt := 92) dX12_bursts_5 (by decide) (fun h5 => ?_) (fun h5 => absurd (nI_le (a := 24) (b := 24) (Nat.le_refl _) (by decide)) h5)
    refine y_return dX12_bursts_92 rfl ?_
    exact hQ
  · intro k hk hP
    have hwk := wf_bursts ov hw k (by omega)
    generalize hRk : foldR (burstC ov) k R = Rk at hwk
    replace hP : ∀ a3 : Option Value, sV (scT L xs) (d + 3) "LoafFallModel" cX12_bursts 4 none Q 2 [some (.ref 239), some (.int ov), some (.int (nI (k + 1))), a3] [] (stR m h b (burstC ov k Rk)) n := by rw [← hRk]; exact hP
    obtain ⟨hq1, hq2⟩ := wfR_q hwk
    unfold burstC at hP
    intro a3
    refine y_iload_n dX12_bursts_2 rfl rfl ?_
    refine y_bipush (v := 24) dX12_bursts_3 (by decide) ?_
    refine y_icmp_ge (tgt := 92) dX12_bursts_5 (by decide) (fun h5 => absurd h5 (nI_ge (a := k) (b := 24) hk (by decide))) (fun h5 => ?_)
    refine y_aload_n dX12_bursts_8 rfl rfl ?_
    refine y_iload_n dX12_bursts_9 rfl rfl ?_
    refine y_iconst (v := 1) dX12_bursts_10 (by decide) ?_
    refine y_ivI2 dX12_bursts_11 mv_X12_191 my_X12_c (Or.inl rfl) sh_239 ?_
    refine c_X12_c hb (k := k) (j := 1) rfl rfl (by omega) ⟨_, rfl, ?_⟩
    refine y_ist4_3 dX12_bursts_14 rfl ?_
    refine y_aload_n dX12_bursts_15 rfl rfl ?_
    refine y_iload_n dX12_bursts_16 rfl rfl ?_
    refine y_iconst (v := 4) dX12_bursts_17 (by decide) ?_
    refine y_ivI2 dX12_bursts_18 mv_X12_191 my_X12_c (Or.inl rfl) sh_239 ?_
    refine c_X12_c hb (k := k) (j := 4) rfl rfl (by omega) ⟨_, rfl, ?_⟩
    refine y_if_ne (tgt := 86) dX12_bursts_21 (by decide) (fun h21 => ?_) (fun h21 => ?_)
    · refine y_iinc4_2 dX12_bursts_86 (nI_1 _) rfl ?_
      refine y_goto (tgt := 2) dX12_bursts_89 (by decide) ?_
      first
        | (rw [if_neg (fun q => absurd q.1 h21)] at hP; exact hP _)
        | (rw [if_neg (fun q => absurd q.2 (Int32.not_lt.mpr h46))] at hP; exact hP _)
        | (rw [if_pos ⟨h21, Int32.not_le.mp h46⟩, if_neg (Int32.not_lt.mpr h54), if_pos h75] at hP; exact hP _)
        | (rw [if_pos ⟨h21, Int32.not_le.mp h46⟩, if_neg (Int32.not_lt.mpr h54), if_neg h75] at hP; exact hP _)
        | (rw [if_pos ⟨h21, Int32.not_le.mp h46⟩, if_pos (Int32.not_le.mp h54), if_pos h62] at hP; exact hP _)
        | (rw [if_pos ⟨h21, Int32.not_le.mp h46⟩, if_pos (Int32.not_le.mp h54), if_neg h62] at hP; exact hP _)
    · refine y_aload_n dX12_bursts_24 rfl rfl ?_
      refine y_iload_n dX12_bursts_25 rfl rfl ?_
      refine y_iconst (v := 0) dX12_bursts_26 (by decide) ?_
      refine y_ivI2 dX12_bursts_27 mv_X12_191 my_X12_c (Or.inl rfl) sh_239 ?_
      refine c_X12_c hb (k := k) (j := 0) rfl rfl (by omega) ⟨_, rfl, ?_⟩
      refine y_iconst (v := 2) dX12_bursts_30 (by decide) ?_
      refine y_iload_n dX12_bursts_31 rfl rfl ?_
      refine y_imul dX12_bursts_32 ?_
      refine y_aload_n dX12_bursts_33 rfl rfl ?_
      refine y_iload_n dX12_bursts_34 rfl rfl ?_
      refine y_iconst (v := 3) dX12_bursts_35 (by decide) ?_
      refine y_ivI2 dX12_bursts_36 mv_X12_191 my_X12_c (Or.inl rfl) sh_239 ?_
      refine c_X12_c hb (k := k) (j := 3) rfl rfl (by omega) ⟨_, rfl, ?_⟩
      refine y_iadd dX12_bursts_39 ?_
      refine y_aload_n dX12_bursts_40 rfl rfl ?_
      refine y_iconst (v := 3) dX12_bursts_41 (by decide) ?_
      refine y_ivI1 dX12_bursts_42 mv_X12_160 my_X12_v (Or.inl rfl) sh_239 ?_
      refine c_X12_v hb (p := 3) rfl (by omega) ⟨_, rfl, ?_⟩
      refine y_iadd dX12_bursts_45 ?_
      refine y_icmp_le (tgt := 86) dX12_bursts_46 (by decide) (fun h46 => ?_) (fun h46 => ?_)
      · refine y_iinc4_2 dX12_bursts_86 (nI_1 _) rfl ?_
        refine y_goto (tgt := 2) dX12_bursts_89 (by decide) ?_
        first
          | (rw [if_neg (fun q => absurd q.1 h21)] at hP; exact hP _)
          | (rw [if_neg (fun q => absurd q.2 (Int32.not_lt.mpr h46))] at hP; exact hP _)
          | (rw [if_pos ⟨h21, Int32.not_le.mp h46⟩, if_neg (Int32.not_lt.mpr h54), if_pos h75] at hP; exact hP _)
          | (rw [if_pos ⟨h21, Int32.not_le.mp h46⟩, if_neg (Int32.not_lt.mpr h54), if_neg h75] at hP; exact hP _)
          | (rw [if_pos ⟨h21, Int32.not_le.mp h46⟩, if_pos (Int32.not_le.mp h54), if_pos h62] at hP; exact hP _)
          | (rw [if_pos ⟨h21, Int32.not_le.mp h46⟩, if_pos (Int32.not_le.mp h54), if_neg h62] at hP; exact hP _)
      · refine y_aload_n dX12_bursts_49 rfl rfl ?_
        refine y_iload_n dX12_bursts_50 rfl rfl ?_
        refine y_iload_n dX12_bursts_51 rfl rfl ?_
        refine y_bipush (v := 10) dX12_bursts_52 (by decide) ?_
        refine y_icmp_ge (tgt := 74) dX12_bursts_54 (by decide) (fun h54 => ?_) (fun h54 => ?_)
        · refine y_iload_n dX12_bursts_74 rfl rfl ?_
          refine y_if_eq (tgt := 82) dX12_bursts_75 (by decide) (fun h75 => ?_) (fun h75 => ?_)
          · refine y_iconst (v := 0) dX12_bursts_82 (by decide) ?_
            refine y_ivV2 dX12_bursts_83 mv_X12_203 my_X12_tears (Or.inl rfl) sh_239 ?_
            refine c_X12_tears hb (k := k) (q := qOf Rk) rfl hk hq1 (wfR_lt hwk hk h21) ⟨rfl, ?_⟩
            refine y_iinc4_2 dX12_bursts_86 (nI_1 _) rfl ?_
            refine y_goto (tgt := 2) dX12_bursts_89 (by decide) ?_
            first
              | (rw [if_neg (fun q => absurd q.1 h21)] at hP; exact hP _)
              | (rw [if_neg (fun q => absurd q.2 (Int32.not_lt.mpr h46))] at hP; exact hP _)
              | (rw [if_pos ⟨h21, Int32.not_le.mp h46⟩, if_neg (Int32.not_lt.mpr h54), if_pos h75] at hP; exact hP _)
              | (rw [if_pos ⟨h21, Int32.not_le.mp h46⟩, if_neg (Int32.not_lt.mpr h54), if_neg h75] at hP; exact hP _)
              | (rw [if_pos ⟨h21, Int32.not_le.mp h46⟩, if_pos (Int32.not_le.mp h54), if_pos h62] at hP; exact hP _)
              | (rw [if_pos ⟨h21, Int32.not_le.mp h46⟩, if_pos (Int32.not_le.mp h54), if_neg h62] at hP; exact hP _)
          · refine y_iconst (v := 2) dX12_bursts_78 (by decide) ?_
            refine y_goto (tgt := 83) dX12_bursts_79 (by decide) ?_
            refine y_ivV2 dX12_bursts_83 mv_X12_203 my_X12_tears (Or.inl rfl) sh_239 ?_
            refine c_X12_tears hb (k := k) (q := qOf Rk) rfl hk hq1 (wfR_lt hwk hk h21) ⟨rfl, ?_⟩
            refine y_iinc4_2 dX12_bursts_86 (nI_1 _) rfl ?_
            refine y_goto (tgt := 2) dX12_bursts_89 (by decide) ?_
            first
              | (rw [if_neg (fun q => absurd q.1 h21)] at hP; exact hP _)
              | (rw [if_neg (fun q => absurd q.2 (Int32.not_lt.mpr h46))] at hP; exact hP _)
              | (rw [if_pos ⟨h21, Int32.not_le.mp h46⟩, if_neg (Int32.not_lt.mpr h54), if_pos h75] at hP; exact hP _)
              | (rw [if_pos ⟨h21, Int32.not_le.mp h46⟩, if_neg (Int32.not_lt.mpr h54), if_neg h75] at hP; exact hP _)
              | (rw [if_pos ⟨h21, Int32.not_le.mp h46⟩, if_pos (Int32.not_le.mp h54), if_pos h62] at hP; exact hP _)
              | (rw [if_pos ⟨h21, Int32.not_le.mp h46⟩, if_pos (Int32.not_le.mp h54), if_neg h62] at hP; exact hP _)
        · refine y_aload_n dX12_bursts_57 rfl rfl ?_
          refine y_iconst (v := 4) dX12_bursts_58 (by decide) ?_
          refine y_ivI1 dX12_bursts_59 mv_X12_160 my_X12_v (Or.inl rfl) sh_239 ?_
          refine c_X12_v hb (p := 4) rfl (by omega) ⟨_, rfl, ?_⟩
          refine y_if_ne (tgt := 70) dX12_bursts_62 (by decide) (fun h62 => ?_) (fun h62 => ?_)
          · refine y_iconst (v := 1) dX12_bursts_70 (by decide) ?_
            refine y_goto (tgt := 83) dX12_bursts_71 (by decide) ?_
            refine y_ivV2 dX12_bursts_83 mv_X12_203 my_X12_tears (Or.inl rfl) sh_239 ?_
            refine c_X12_tears hb (k := k) (q := qOf Rk) rfl hk hq1 (wfR_lt hwk hk h21) ⟨rfl, ?_⟩
            refine y_iinc4_2 dX12_bursts_86 (nI_1 _) rfl ?_
            refine y_goto (tgt := 2) dX12_bursts_89 (by decide) ?_
            first
              | (rw [if_neg (fun q => absurd q.1 h21)] at hP; exact hP _)
              | (rw [if_neg (fun q => absurd q.2 (Int32.not_lt.mpr h46))] at hP; exact hP _)
              | (rw [if_pos ⟨h21, Int32.not_le.mp h46⟩, if_neg (Int32.not_lt.mpr h54), if_pos h75] at hP; exact hP _)
              | (rw [if_pos ⟨h21, Int32.not_le.mp h46⟩, if_neg (Int32.not_lt.mpr h54), if_neg h75] at hP; exact hP _)
              | (rw [if_pos ⟨h21, Int32.not_le.mp h46⟩, if_pos (Int32.not_le.mp h54), if_pos h62] at hP; exact hP _)
              | (rw [if_pos ⟨h21, Int32.not_le.mp h46⟩, if_pos (Int32.not_le.mp h54), if_neg h62] at hP; exact hP _)
          · refine y_bipush (v := 6) dX12_bursts_65 (by decide) ?_
            refine y_goto (tgt := 83) dX12_bursts_67 (by decide) ?_
            refine y_ivV2 dX12_bursts_83 mv_X12_203 my_X12_tears (Or.inl rfl) sh_239 ?_
            refine c_X12_tears hb (k := k) (q := qOf Rk) rfl hk hq1 (wfR_lt hwk hk h21) ⟨rfl, ?_⟩
            refine y_iinc4_2 dX12_bursts_86 (nI_1 _) rfl ?_
            refine y_goto (tgt := 2) dX12_bursts_89 (by decide) ?_
            first
              | (rw [if_neg (fun q => absurd q.1 h21)] at hP; exact hP _)
              | (rw [if_neg (fun q => absurd q.2 (Int32.not_lt.mpr h46))] at hP; exact hP _)
              | (rw [if_pos ⟨h21, Int32.not_le.mp h46⟩, if_neg (Int32.not_lt.mpr h54), if_pos h75] at hP; exact hP _)
              | (rw [if_pos ⟨h21, Int32.not_le.mp h46⟩, if_neg (Int32.not_lt.mpr h54), if_neg h75] at hP; exact hP _)
              | (rw [if_pos ⟨h21, Int32.not_le.mp h46⟩, if_pos (Int32.not_le.mp h54), if_pos h62] at hP; exact hP _)
              | (rw [if_pos ⟨h21, Int32.not_le.mp h46⟩, if_pos (Int32.not_le.mp h54), if_neg h62] at hP; exact hP _)
set_option maxHeartbeats 1000000 in
theorem c_X12_sinks {L : Nat} {xs : Nat → Int32} {d : Nat} {m : sM} {n : sN} {Q : sQ} {b : Nat} {R h : Nat → Int32} (hb : bAt m b) (hw : wfR R) (hQ : Q none (stR m h b (sinksF R)) n) : sRun (scT L xs) (d + 4) yX12_sinks cX12_sinks 2 none [.ref 239] (stR m h b R) n Q := by
  refine y_run (own := "LoafFallModel") rfl (by decide +kernel) (Nat.le_of_ble_eq_true rfl) rfl ?_
  refine y_iconst (v := 0) dX12_sinks_0 (by decide) ?_
  refine y_ist2_1 dX12_sinks_1 rfl ?_
  refine cnt (P := fun k => sV (scT L xs) (d + 3) "LoafFallModel" cX12_sinks 2 none Q 2 [some (.ref 239), some (.int (nI k))] [] (stR m h b (foldR sinkC k R)) n) 24 ?_ ?_ 0 (by omega)
  · refine y_iload_n dX12_sinks_2 rfl rfl ?_
    refine y_bipush (v := 24) dX12_sinks_3 (by decide) ?_
    refine y_icmp_ge (tgt := 75) dX12_sinks_5 (by decide) (fun h5 => ?_) (fun h5 => absurd (nI_le (a := 24) (b := 24) (Nat.le_refl _) (by decide)) h5)
    refine y_return dX12_sinks_75 rfl ?_
    exact hQ
  · intro k hk hP
    have hwk := wf_sinks hw k (by omega)
    generalize hRk : foldR sinkC k R = Rk at hwk
    replace hP : sV (scT L xs) (d + 3) "LoafFallModel" cX12_sinks 2 none Q 2 [some (.ref 239), some (.int (nI (k + 1)))] [] (stR m h b (sinkC k Rk)) n := by rw [← hRk]; exact hP
    obtain ⟨hq1, hq2⟩ := wfR_q hwk
    unfold sinkC at hP
    refine y_iload_n dX12_sinks_2 rfl rfl ?_
    refine y_bipush (v := 24) dX12_sinks_3 (by decide) ?_
    refine y_icmp_ge (tgt := 75) dX12_sinks_5 (by decide) (fun h5 => absurd h5 (nI_ge (a := k) (b := 24) hk (by decide))) (fun h5 => ?_)
    refine y_aload_n dX12_sinks_8 rfl rfl ?_
    refine y_iload_n dX12_sinks_9 rfl rfl ?_
    refine y_iconst (v := 4) dX12_sinks_10 (by decide) ?_
    refine y_ivI2 dX12_sinks_11 mv_X12_191 my_X12_c (Or.inl rfl) sh_239 ?_
    refine c_X12_c hb (k := k) (j := 4) rfl rfl (by omega) ⟨_, rfl, ?_⟩
    refine y_if_ne (tgt := 69) dX12_sinks_14 (by decide) (fun h14 => ?_) (fun h14 => ?_)
    · refine y_iinc2_1 dX12_sinks_69 (nI_1 _) rfl ?_
      refine y_goto (tgt := 2) dX12_sinks_72 (by decide) ?_
      first
        | (rw [if_neg (fun q => absurd q.1 h14)] at hP; exact hP)
        | (rw [if_neg (fun q => absurd q.2.1 (Int32.not_lt.mpr h25))] at hP; exact hP)
        | (rw [if_neg (fun q => absurd q.2.2.1 (Int32.not_lt.mpr h36))] at hP; exact hP)
        | (rw [if_neg (fun q => absurd q.2.2.2 (Int32.not_lt.mpr h47))] at hP; exact hP)
        | (rw [if_pos ⟨h14, Int32.not_le.mp h25, Int32.not_le.mp h36, Int32.not_le.mp h47⟩, if_neg (Int32.not_le.mpr h58)] at hP; exact hP)
        | (rw [if_pos ⟨h14, Int32.not_le.mp h25, Int32.not_le.mp h36, Int32.not_le.mp h47⟩, if_pos (Int32.not_lt.mp h58)] at hP; exact hP)
    · refine y_aload_n dX12_sinks_17 rfl rfl ?_
      refine y_iload_n dX12_sinks_18 rfl rfl ?_
      refine y_iconst (v := 2) dX12_sinks_19 (by decide) ?_
      refine y_ivI2 dX12_sinks_20 mv_X12_191 my_X12_c (Or.inl rfl) sh_239 ?_
      refine c_X12_c hb (k := k) (j := 2) rfl rfl (by omega) ⟨_, rfl, ?_⟩
      refine y_bipush (v := 60) dX12_sinks_23 (by decide) ?_
      refine y_icmp_ge (tgt := 69) dX12_sinks_25 (by decide) (fun h25 => ?_) (fun h25 => ?_)
      · refine y_iinc2_1 dX12_sinks_69 (nI_1 _) rfl ?_
        refine y_goto (tgt := 2) dX12_sinks_72 (by decide) ?_
        first
          | (rw [if_neg (fun q => absurd q.1 h14)] at hP; exact hP)
          | (rw [if_neg (fun q => absurd q.2.1 (Int32.not_lt.mpr h25))] at hP; exact hP)
          | (rw [if_neg (fun q => absurd q.2.2.1 (Int32.not_lt.mpr h36))] at hP; exact hP)
          | (rw [if_neg (fun q => absurd q.2.2.2 (Int32.not_lt.mpr h47))] at hP; exact hP)
          | (rw [if_pos ⟨h14, Int32.not_le.mp h25, Int32.not_le.mp h36, Int32.not_le.mp h47⟩, if_neg (Int32.not_le.mpr h58)] at hP; exact hP)
          | (rw [if_pos ⟨h14, Int32.not_le.mp h25, Int32.not_le.mp h36, Int32.not_le.mp h47⟩, if_pos (Int32.not_lt.mp h58)] at hP; exact hP)
      · refine y_aload_n dX12_sinks_28 rfl rfl ?_
        refine y_iload_n dX12_sinks_29 rfl rfl ?_
        refine y_iconst (v := 3) dX12_sinks_30 (by decide) ?_
        refine y_ivI2 dX12_sinks_31 mv_X12_191 my_X12_c (Or.inl rfl) sh_239 ?_
        refine c_X12_c hb (k := k) (j := 3) rfl rfl (by omega) ⟨_, rfl, ?_⟩
        refine y_bipush (v := 50) dX12_sinks_34 (by decide) ?_
        refine y_icmp_ge (tgt := 69) dX12_sinks_36 (by decide) (fun h36 => ?_) (fun h36 => ?_)
        · refine y_iinc2_1 dX12_sinks_69 (nI_1 _) rfl ?_
          refine y_goto (tgt := 2) dX12_sinks_72 (by decide) ?_
          first
            | (rw [if_neg (fun q => absurd q.1 h14)] at hP; exact hP)
            | (rw [if_neg (fun q => absurd q.2.1 (Int32.not_lt.mpr h25))] at hP; exact hP)
            | (rw [if_neg (fun q => absurd q.2.2.1 (Int32.not_lt.mpr h36))] at hP; exact hP)
            | (rw [if_neg (fun q => absurd q.2.2.2 (Int32.not_lt.mpr h47))] at hP; exact hP)
            | (rw [if_pos ⟨h14, Int32.not_le.mp h25, Int32.not_le.mp h36, Int32.not_le.mp h47⟩, if_neg (Int32.not_le.mpr h58)] at hP; exact hP)
            | (rw [if_pos ⟨h14, Int32.not_le.mp h25, Int32.not_le.mp h36, Int32.not_le.mp h47⟩, if_pos (Int32.not_lt.mp h58)] at hP; exact hP)
        · refine y_aload_n dX12_sinks_39 rfl rfl ?_
          refine y_iload_n dX12_sinks_40 rfl rfl ?_
          refine y_iconst (v := 0) dX12_sinks_41 (by decide) ?_
          refine y_ivI2 dX12_sinks_42 mv_X12_191 my_X12_c (Or.inl rfl) sh_239 ?_
          refine c_X12_c hb (k := k) (j := 0) rfl rfl (by omega) ⟨_, rfl, ?_⟩
          refine y_bipush (v := 40) dX12_sinks_45 (by decide) ?_
          refine y_icmp_le (tgt := 69) dX12_sinks_47 (by decide) (fun h47 => ?_) (fun h47 => ?_)
          · refine y_iinc2_1 dX12_sinks_69 (nI_1 _) rfl ?_
            refine y_goto (tgt := 2) dX12_sinks_72 (by decide) ?_
            first
              | (rw [if_neg (fun q => absurd q.1 h14)] at hP; exact hP)
              | (rw [if_neg (fun q => absurd q.2.1 (Int32.not_lt.mpr h25))] at hP; exact hP)
              | (rw [if_neg (fun q => absurd q.2.2.1 (Int32.not_lt.mpr h36))] at hP; exact hP)
              | (rw [if_neg (fun q => absurd q.2.2.2 (Int32.not_lt.mpr h47))] at hP; exact hP)
              | (rw [if_pos ⟨h14, Int32.not_le.mp h25, Int32.not_le.mp h36, Int32.not_le.mp h47⟩, if_neg (Int32.not_le.mpr h58)] at hP; exact hP)
              | (rw [if_pos ⟨h14, Int32.not_le.mp h25, Int32.not_le.mp h36, Int32.not_le.mp h47⟩, if_pos (Int32.not_lt.mp h58)] at hP; exact hP)
          · refine y_aload_n dX12_sinks_50 rfl rfl ?_
            refine y_iload_n dX12_sinks_51 rfl rfl ?_
            refine y_aload_n dX12_sinks_52 rfl rfl ?_
            refine y_iconst (v := 2) dX12_sinks_53 (by decide) ?_
            refine y_ivI1 dX12_sinks_54 mv_X12_160 my_X12_v (Or.inl rfl) sh_239 ?_
            refine c_X12_v hb (p := 2) rfl (by omega) ⟨_, rfl, ?_⟩
            refine y_iconst (v := 5) dX12_sinks_57 (by decide) ?_
            refine y_icmp_lt (tgt := 65) dX12_sinks_58 (by decide) (fun h58 => ?_) (fun h58 => ?_)
            · refine y_iconst (v := 4) dX12_sinks_65 (by decide) ?_
              refine y_ivV2 dX12_sinks_66 mv_X12_203 my_X12_tears (Or.inl rfl) sh_239 ?_
              refine c_X12_tears hb (k := k) (q := qOf Rk) rfl hk hq1 (wfR_lt hwk hk h14) ⟨rfl, ?_⟩
              refine y_iinc2_1 dX12_sinks_69 (nI_1 _) rfl ?_
              refine y_goto (tgt := 2) dX12_sinks_72 (by decide) ?_
              first
                | (rw [if_neg (fun q => absurd q.1 h14)] at hP; exact hP)
                | (rw [if_neg (fun q => absurd q.2.1 (Int32.not_lt.mpr h25))] at hP; exact hP)
                | (rw [if_neg (fun q => absurd q.2.2.1 (Int32.not_lt.mpr h36))] at hP; exact hP)
                | (rw [if_neg (fun q => absurd q.2.2.2 (Int32.not_lt.mpr h47))] at hP; exact hP)
                | (rw [if_pos ⟨h14, Int32.not_le.mp h25, Int32.not_le.mp h36, Int32.not_le.mp h47⟩, if_neg (Int32.not_le.mpr h58)] at hP; exact hP)
                | (rw [if_pos ⟨h14, Int32.not_le.mp h25, Int32.not_le.mp h36, Int32.not_le.mp h47⟩, if_pos (Int32.not_lt.mp h58)] at hP; exact hP)
            · refine y_iconst (v := 5) dX12_sinks_61 (by decide) ?_
              refine y_goto (tgt := 66) dX12_sinks_62 (by decide) ?_
              refine y_ivV2 dX12_sinks_66 mv_X12_203 my_X12_tears (Or.inl rfl) sh_239 ?_
              refine c_X12_tears hb (k := k) (q := qOf Rk) rfl hk hq1 (wfR_lt hwk hk h14) ⟨rfl, ?_⟩
              refine y_iinc2_1 dX12_sinks_69 (nI_1 _) rfl ?_
              refine y_goto (tgt := 2) dX12_sinks_72 (by decide) ?_
              first
                | (rw [if_neg (fun q => absurd q.1 h14)] at hP; exact hP)
                | (rw [if_neg (fun q => absurd q.2.1 (Int32.not_lt.mpr h25))] at hP; exact hP)
                | (rw [if_neg (fun q => absurd q.2.2.1 (Int32.not_lt.mpr h36))] at hP; exact hP)
                | (rw [if_neg (fun q => absurd q.2.2.2 (Int32.not_lt.mpr h47))] at hP; exact hP)
                | (rw [if_pos ⟨h14, Int32.not_le.mp h25, Int32.not_le.mp h36, Int32.not_le.mp h47⟩, if_neg (Int32.not_le.mpr h58)] at hP; exact hP)
                | (rw [if_pos ⟨h14, Int32.not_le.mp h25, Int32.not_le.mp h36, Int32.not_le.mp h47⟩, if_pos (Int32.not_lt.mp h58)] at hP; exact hP)
set_option maxHeartbeats 1000000 in
theorem c_X12_turn {L : Nat} {xs : Nat → Int32} {d : Nat} {m : sM} {n : sN} {Q : sQ} {b : Nat} {R h : Nat → Int32} (hb : bAt m b) {ov w : Int32} (hw : wfR R) (hQ : ∀ h', Q none (stR m h' b (turnF ov w R)) n) : sRun (scT L xs) (d + 5) yX12_turn cX12_turn 3 none [.ref 239, .int ov, .int w] (stR m h b R) n Q := by
  refine y_run (own := "LoafFallModel") rfl (by decide +kernel) (Nat.le_of_ble_eq_true rfl) rfl ?_
  have hw2 : wfR (growsF (warmsF w R)) := wf_grows (wf_warms w hw)
  have hw3 : wfR (burstsF ov (growsF (warmsF w R))) := wf_bursts ov hw2 24 (Nat.le_refl _)
  unfold turnF at hQ
  refine y_aload_n dX12_turn_0 rfl rfl ?_
  refine y_iload_n dX12_turn_1 rfl rfl ?_
  refine y_ivV1 dX12_turn_2 mv_X12_206 my_X12_warms (Or.inl rfl) sh_239 ?_
  refine c_X12_warms hb (fun h2 => ⟨rfl, ?_⟩)
  refine y_aload_n dX12_turn_5 rfl rfl ?_
  refine y_ivV0 dX12_turn_6 mv_X12_209 my_X12_grows (Or.inl rfl) sh_239 ?_
  refine c_X12_grows hb ⟨rfl, ?_⟩
  refine y_aload_n dX12_turn_9 rfl rfl ?_
  refine y_iload_n dX12_turn_10 rfl rfl ?_
  refine y_ivV1 dX12_turn_11 mv_X12_212 my_X12_bursts (Or.inl rfl) sh_239 ?_
  refine c_X12_bursts hb hw2 ⟨rfl, ?_⟩
  refine y_iload_n dX12_turn_14 rfl rfl ?_
  refine y_if_ne (tgt := 32) dX12_turn_15 (by decide) (fun h15 => ?_) (fun h15 => ?_)
  · refine y_aload_n dX12_turn_32 rfl rfl ?_
    refine y_bipush (v := 39) dX12_turn_33 (by decide) ?_
    refine y_iload_n dX12_turn_35 rfl rfl ?_
    refine y_if_eq (tgt := 43) dX12_turn_36 (by decide) (fun h36 => ?_) (fun h36 => ?_)
    · refine y_aload_n dX12_turn_43 rfl rfl ?_
      refine y_bipush (v := 39) dX12_turn_44 (by decide) ?_
      refine y_ivI1 dX12_turn_46 mv_X12_160 my_X12_v (Or.inl rfl) sh_239 ?_
      refine c_X12_v hb (p := 39) rfl (by omega) ⟨_, rfl, ?_⟩
      refine y_ivV2 dX12_turn_49 mv_X12_163 my_X12_put_ (Or.inl rfl) sh_239 ?_
      refine c_X12_put_ hb (p := 39) rfl (by omega) ⟨rfl, ?_⟩
      refine y_aload_n dX12_turn_52 rfl rfl ?_
      refine y_bipush (v := 38) dX12_turn_53 (by decide) ?_
      refine y_aload_n dX12_turn_55 rfl rfl ?_
      refine y_bipush (v := 38) dX12_turn_56 (by decide) ?_
      refine y_ivI1 dX12_turn_58 mv_X12_160 my_X12_v (Or.inl rfl) sh_239 ?_
      refine c_X12_v hb (p := 38) rfl (by omega) ⟨_, rfl, ?_⟩
      refine y_iconst (v := 1) dX12_turn_61 (by decide) ?_
      refine y_iadd dX12_turn_62 ?_
      refine y_ivV2 dX12_turn_63 mv_X12_163 my_X12_put_ (Or.inl rfl) sh_239 ?_
      refine c_X12_put_ hb (p := 38) rfl (by omega) ⟨rfl, ?_⟩
      refine y_return dX12_turn_66 rfl ?_
      first
        | exact absurd h15 h36
        | exact absurd h36 h15
        | (rw [if_neg h15] at hQ; unfold endF at hQ; exact hQ _)
        | (rw [if_pos h15, if_neg h25] at hQ; unfold endF at hQ; exact hQ _)
        | (rw [if_pos h15, if_pos h25] at hQ; unfold endF at hQ; exact hQ _)
    · refine y_iconst (v := 1) dX12_turn_39 (by decide) ?_
      refine y_goto (tgt := 49) dX12_turn_40 (by decide) ?_
      refine y_ivV2 dX12_turn_49 mv_X12_163 my_X12_put_ (Or.inl rfl) sh_239 ?_
      refine c_X12_put_ hb (p := 39) rfl (by omega) ⟨rfl, ?_⟩
      refine y_aload_n dX12_turn_52 rfl rfl ?_
      refine y_bipush (v := 38) dX12_turn_53 (by decide) ?_
      refine y_aload_n dX12_turn_55 rfl rfl ?_
      refine y_bipush (v := 38) dX12_turn_56 (by decide) ?_
      refine y_ivI1 dX12_turn_58 mv_X12_160 my_X12_v (Or.inl rfl) sh_239 ?_
      refine c_X12_v hb (p := 38) rfl (by omega) ⟨_, rfl, ?_⟩
      refine y_iconst (v := 1) dX12_turn_61 (by decide) ?_
      refine y_iadd dX12_turn_62 ?_
      refine y_ivV2 dX12_turn_63 mv_X12_163 my_X12_put_ (Or.inl rfl) sh_239 ?_
      refine c_X12_put_ hb (p := 38) rfl (by omega) ⟨rfl, ?_⟩
      refine y_return dX12_turn_66 rfl ?_
      first
        | exact absurd h15 h36
        | exact absurd h36 h15
        | (rw [if_neg h15] at hQ; unfold endF at hQ; exact hQ _)
        | (rw [if_pos h15, if_neg h25] at hQ; unfold endF at hQ; exact hQ _)
        | (rw [if_pos h15, if_pos h25] at hQ; unfold endF at hQ; exact hQ _)
  · refine y_aload_n dX12_turn_18 rfl rfl ?_
    refine y_bipush (v := 39) dX12_turn_19 (by decide) ?_
    refine y_ivI1 dX12_turn_21 mv_X12_160 my_X12_v (Or.inl rfl) sh_239 ?_
    refine c_X12_v hb (p := 39) rfl (by omega) ⟨_, rfl, ?_⟩
    refine y_iconst (v := 1) dX12_turn_24 (by decide) ?_
    refine y_icmp_ne (tgt := 32) dX12_turn_25 (by decide) (fun h25 => ?_) (fun h25 => ?_)
    · refine y_aload_n dX12_turn_32 rfl rfl ?_
      refine y_bipush (v := 39) dX12_turn_33 (by decide) ?_
      refine y_iload_n dX12_turn_35 rfl rfl ?_
      refine y_if_eq (tgt := 43) dX12_turn_36 (by decide) (fun h36 => ?_) (fun h36 => ?_)
      · refine y_aload_n dX12_turn_43 rfl rfl ?_
        refine y_bipush (v := 39) dX12_turn_44 (by decide) ?_
        refine y_ivI1 dX12_turn_46 mv_X12_160 my_X12_v (Or.inl rfl) sh_239 ?_
        refine c_X12_v hb (p := 39) rfl (by omega) ⟨_, rfl, ?_⟩
        refine y_ivV2 dX12_turn_49 mv_X12_163 my_X12_put_ (Or.inl rfl) sh_239 ?_
        refine c_X12_put_ hb (p := 39) rfl (by omega) ⟨rfl, ?_⟩
        refine y_aload_n dX12_turn_52 rfl rfl ?_
        refine y_bipush (v := 38) dX12_turn_53 (by decide) ?_
        refine y_aload_n dX12_turn_55 rfl rfl ?_
        refine y_bipush (v := 38) dX12_turn_56 (by decide) ?_
        refine y_ivI1 dX12_turn_58 mv_X12_160 my_X12_v (Or.inl rfl) sh_239 ?_
        refine c_X12_v hb (p := 38) rfl (by omega) ⟨_, rfl, ?_⟩
        refine y_iconst (v := 1) dX12_turn_61 (by decide) ?_
        refine y_iadd dX12_turn_62 ?_
        refine y_ivV2 dX12_turn_63 mv_X12_163 my_X12_put_ (Or.inl rfl) sh_239 ?_
        refine c_X12_put_ hb (p := 38) rfl (by omega) ⟨rfl, ?_⟩
        refine y_return dX12_turn_66 rfl ?_
        first
          | exact absurd h15 h36
          | exact absurd h36 h15
          | (rw [if_neg h15] at hQ; unfold endF at hQ; exact hQ _)
          | (rw [if_pos h15, if_neg h25] at hQ; unfold endF at hQ; exact hQ _)
          | (rw [if_pos h15, if_pos h25] at hQ; unfold endF at hQ; exact hQ _)
      · refine y_iconst (v := 1) dX12_turn_39 (by decide) ?_
        refine y_goto (tgt := 49) dX12_turn_40 (by decide) ?_
        refine y_ivV2 dX12_turn_49 mv_X12_163 my_X12_put_ (Or.inl rfl) sh_239 ?_
        refine c_X12_put_ hb (p := 39) rfl (by omega) ⟨rfl, ?_⟩
        refine y_aload_n dX12_turn_52 rfl rfl ?_
        refine y_bipush (v := 38) dX12_turn_53 (by decide) ?_
        refine y_aload_n dX12_turn_55 rfl rfl ?_
        refine y_bipush (v := 38) dX12_turn_56 (by decide) ?_
        refine y_ivI1 dX12_turn_58 mv_X12_160 my_X12_v (Or.inl rfl) sh_239 ?_
        refine c_X12_v hb (p := 38) rfl (by omega) ⟨_, rfl, ?_⟩
        refine y_iconst (v := 1) dX12_turn_61 (by decide) ?_
        refine y_iadd dX12_turn_62 ?_
        refine y_ivV2 dX12_turn_63 mv_X12_163 my_X12_put_ (Or.inl rfl) sh_239 ?_
        refine c_X12_put_ hb (p := 38) rfl (by omega) ⟨rfl, ?_⟩
        refine y_return dX12_turn_66 rfl ?_
        first
          | exact absurd h15 h36
          | exact absurd h36 h15
          | (rw [if_neg h15] at hQ; unfold endF at hQ; exact hQ _)
          | (rw [if_pos h15, if_neg h25] at hQ; unfold endF at hQ; exact hQ _)
          | (rw [if_pos h15, if_pos h25] at hQ; unfold endF at hQ; exact hQ _)
    · refine y_aload_n dX12_turn_28 rfl rfl ?_
      refine y_ivV0 dX12_turn_29 mv_X12_216 my_X12_sinks (Or.inl rfl) sh_239 ?_
      refine c_X12_sinks hb hw3 ⟨rfl, ?_⟩
      refine y_aload_n dX12_turn_32 rfl rfl ?_
      refine y_bipush (v := 39) dX12_turn_33 (by decide) ?_
      refine y_iload_n dX12_turn_35 rfl rfl ?_
      refine y_if_eq (tgt := 43) dX12_turn_36 (by decide) (fun h36 => ?_) (fun h36 => ?_)
      · refine y_aload_n dX12_turn_43 rfl rfl ?_
        refine y_bipush (v := 39) dX12_turn_44 (by decide) ?_
        refine y_ivI1 dX12_turn_46 mv_X12_160 my_X12_v (Or.inl rfl) sh_239 ?_
        refine c_X12_v hb (p := 39) rfl (by omega) ⟨_, rfl, ?_⟩
        refine y_ivV2 dX12_turn_49 mv_X12_163 my_X12_put_ (Or.inl rfl) sh_239 ?_
        refine c_X12_put_ hb (p := 39) rfl (by omega) ⟨rfl, ?_⟩
        refine y_aload_n dX12_turn_52 rfl rfl ?_
        refine y_bipush (v := 38) dX12_turn_53 (by decide) ?_
        refine y_aload_n dX12_turn_55 rfl rfl ?_
        refine y_bipush (v := 38) dX12_turn_56 (by decide) ?_
        refine y_ivI1 dX12_turn_58 mv_X12_160 my_X12_v (Or.inl rfl) sh_239 ?_
        refine c_X12_v hb (p := 38) rfl (by omega) ⟨_, rfl, ?_⟩
        refine y_iconst (v := 1) dX12_turn_61 (by decide) ?_
        refine y_iadd dX12_turn_62 ?_
        refine y_ivV2 dX12_turn_63 mv_X12_163 my_X12_put_ (Or.inl rfl) sh_239 ?_
        refine c_X12_put_ hb (p := 38) rfl (by omega) ⟨rfl, ?_⟩
        refine y_return dX12_turn_66 rfl ?_
        first
          | exact absurd h15 h36
          | exact absurd h36 h15
          | (rw [if_neg h15] at hQ; unfold endF at hQ; exact hQ _)
          | (rw [if_pos h15, if_neg h25] at hQ; unfold endF at hQ; exact hQ _)
          | (rw [if_pos h15, if_pos h25] at hQ; unfold endF at hQ; exact hQ _)
      · refine y_iconst (v := 1) dX12_turn_39 (by decide) ?_
        refine y_goto (tgt := 49) dX12_turn_40 (by decide) ?_
        refine y_ivV2 dX12_turn_49 mv_X12_163 my_X12_put_ (Or.inl rfl) sh_239 ?_
        refine c_X12_put_ hb (p := 39) rfl (by omega) ⟨rfl, ?_⟩
        refine y_aload_n dX12_turn_52 rfl rfl ?_
        refine y_bipush (v := 38) dX12_turn_53 (by decide) ?_
        refine y_aload_n dX12_turn_55 rfl rfl ?_
        refine y_bipush (v := 38) dX12_turn_56 (by decide) ?_
        refine y_ivI1 dX12_turn_58 mv_X12_160 my_X12_v (Or.inl rfl) sh_239 ?_
        refine c_X12_v hb (p := 38) rfl (by omega) ⟨_, rfl, ?_⟩
        refine y_iconst (v := 1) dX12_turn_61 (by decide) ?_
        refine y_iadd dX12_turn_62 ?_
        refine y_ivV2 dX12_turn_63 mv_X12_163 my_X12_put_ (Or.inl rfl) sh_239 ?_
        refine c_X12_put_ hb (p := 38) rfl (by omega) ⟨rfl, ?_⟩
        refine y_return dX12_turn_66 rfl ?_
        first
          | exact absurd h15 h36
          | exact absurd h36 h15
          | (rw [if_neg h15] at hQ; unfold endF at hQ; exact hQ _)
          | (rw [if_pos h15, if_neg h25] at hQ; unfold endF at hQ; exact hQ _)
          | (rw [if_pos h15, if_pos h25] at hQ; unfold endF at hQ; exact hQ _)
set_option maxHeartbeats 1000000 in
theorem c_X12_atOnce {L : Nat} {xs : Nat → Int32} {d : Nat} {m : sM} {n : sN} {Q : sQ} {b : Nat} {R h : Nat → Int32} (hb : bAt m b) {kind : Int32} (hw : wfR R) (hQ : Q none (stR m h b (atOnceF kind R)) n) : sRun (scT L xs) (d + 4) yX12_atOnce cX12_atOnce 4 none [.ref 239, .int kind] (stR m h b R) n Q := by
  refine y_run (own := "LoafFallModel") rfl (by decide +kernel) (Nat.le_of_ble_eq_true rfl) rfl ?_
  refine y_iconst (v := 0) dX12_atOnce_0 (by decide) ?_
  refine y_ist4_2 dX12_atOnce_1 rfl ?_
  refine cnt (P := fun k => ∀ a3 : Option Value, sV (scT L xs) (d + 3) "LoafFallModel" cX12_atOnce 4 none Q 2 [some (.ref 239), some (.int kind), some (.int (nI k)), a3] [] (stR m h b (foldR (onceC kind) k R)) n) 24 ?_ ?_ 0 (by omega) _
  · intro a3
    refine y_iload_n dX12_atOnce_2 rfl rfl ?_
    refine y_bipush (v := 24) dX12_atOnce_3 (by decide) ?_
    refine y_icmp_ge (tgt := 140) dX12_atOnce_5 (by decide) (fun h5 => ?_) (fun h5 => absurd (nI_le (a := 24) (b := 24) (Nat.le_refl _) (by decide)) h5)
    refine y_return dX12_atOnce_140 rfl ?_
    exact hQ
  · intro k hk hP
    have hwk := wf_once kind hw k (by omega)
    generalize hRk : foldR (onceC kind) k R = Rk at hwk
    replace hP : ∀ a3 : Option Value, sV (scT L xs) (d + 3) "LoafFallModel" cX12_atOnce 4 none Q 2 [some (.ref 239), some (.int kind), some (.int (nI (k + 1))), a3] [] (stR m h b (onceC kind k Rk)) n := by rw [← hRk]; exact hP
    obtain ⟨hq1, hq2⟩ := wfR_q hwk
    unfold onceC at hP
    intro a3
    refine y_iload_n dX12_atOnce_2 rfl rfl ?_
    refine y_bipush (v := 24) dX12_atOnce_3 (by decide) ?_
    refine y_icmp_ge (tgt := 140) dX12_atOnce_5 (by decide) (fun h5 => absurd h5 (nI_ge (a := k) (b := 24) hk (by decide))) (fun h5 => ?_)
    refine y_aload_n dX12_atOnce_8 rfl rfl ?_
    refine y_iload_n dX12_atOnce_9 rfl rfl ?_
    refine y_iconst (v := 0) dX12_atOnce_10 (by decide) ?_
    refine y_ivI2 dX12_atOnce_11 mv_X12_191 my_X12_c (Or.inl rfl) sh_239 ?_
    refine c_X12_c hb (k := k) (j := 0) rfl rfl (by omega) ⟨_, rfl, ?_⟩
    refine y_ist4_3 dX12_atOnce_14 rfl ?_
    refine y_iload_n dX12_atOnce_15 rfl rfl ?_
    refine y_iconst (v := 3) dX12_atOnce_16 (by decide) ?_
    refine y_icmp_ne (tgt := 52) dX12_atOnce_17 (by decide) (fun h17 => ?_) (fun h17 => ?_)
    · refine y_iload_n dX12_atOnce_52 rfl rfl ?_
      refine y_iconst (v := 5) dX12_atOnce_53 (by decide) ?_
      refine y_icmp_ne (tgt := 95) dX12_atOnce_54 (by decide) (fun h54 => ?_) (fun h54 => ?_)
      · refine y_aload_n dX12_atOnce_95 rfl rfl ?_
        refine y_iload_n dX12_atOnce_96 rfl rfl ?_
        refine y_iconst (v := 4) dX12_atOnce_97 (by decide) ?_
        refine y_ivI2 dX12_atOnce_98 mv_X12_191 my_X12_c (Or.inl rfl) sh_239 ?_
        refine c_X12_c hb (k := k) (j := 4) rfl rfl (by omega) ⟨_, rfl, ?_⟩
        refine y_if_ne (tgt := 123) dX12_atOnce_101 (by decide) (fun h101 => ?_) (fun h101 => ?_)
        · refine y_aload_n dX12_atOnce_123 rfl rfl ?_
          refine y_iload_n dX12_atOnce_124 rfl rfl ?_
          refine y_iconst (v := 0) dX12_atOnce_125 (by decide) ?_
          refine y_iload_n dX12_atOnce_126 rfl rfl ?_
          refine y_iload_n dX12_atOnce_127 rfl rfl ?_
          refine y_iconst (v := 4) dX12_atOnce_128 (by decide) ?_
          refine y_idiv dX12_atOnce_129 (by decide) ?_
          refine y_isub dX12_atOnce_130 ?_
          refine y_ivV3 dX12_atOnce_131 mv_X12_167 my_X12_putCell (Or.inl rfl) sh_239 ?_
          refine c_X12_putCell hb (k := k) (j := 0) rfl rfl (by omega) ⟨rfl, ?_⟩
          refine y_iinc4_2 dX12_atOnce_134 (nI_1 _) rfl ?_
          refine y_goto (tgt := 2) dX12_atOnce_137 (by decide) ?_
          first
            | (rw [if_pos h17] at hP; exact hP _)
            | (rw [if_neg h17, if_pos h54, if_pos hO] at hP; exact hP _)
            | (rw [if_neg h17, if_pos h54, if_neg hO] at hP; exact hP _)
            | (rw [if_neg h17, if_neg h54, if_neg (fun q => absurd q.1 h101)] at hP; exact hP _)
            | (rw [if_neg h17, if_neg h54, if_neg (fun q => absurd q.2 (Int32.not_lt.mpr h111))] at hP; exact hP _)
            | (rw [if_neg h17, if_neg h54, if_pos ⟨h101, Int32.not_le.mp h111⟩] at hP; exact hP _)
        · refine y_iload_n dX12_atOnce_104 rfl rfl ?_
          refine y_aload_n dX12_atOnce_105 rfl rfl ?_
          refine y_iload_n dX12_atOnce_106 rfl rfl ?_
          refine y_iconst (v := 1) dX12_atOnce_107 (by decide) ?_
          refine y_ivI2 dX12_atOnce_108 mv_X12_191 my_X12_c (Or.inl rfl) sh_239 ?_
          refine c_X12_c hb (k := k) (j := 1) rfl rfl (by omega) ⟨_, rfl, ?_⟩
          refine y_icmp_le (tgt := 123) dX12_atOnce_111 (by decide) (fun h111 => ?_) (fun h111 => ?_)
          · refine y_aload_n dX12_atOnce_123 rfl rfl ?_
            refine y_iload_n dX12_atOnce_124 rfl rfl ?_
            refine y_iconst (v := 0) dX12_atOnce_125 (by decide) ?_
            refine y_iload_n dX12_atOnce_126 rfl rfl ?_
            refine y_iload_n dX12_atOnce_127 rfl rfl ?_
            refine y_iconst (v := 4) dX12_atOnce_128 (by decide) ?_
            refine y_idiv dX12_atOnce_129 (by decide) ?_
            refine y_isub dX12_atOnce_130 ?_
            refine y_ivV3 dX12_atOnce_131 mv_X12_167 my_X12_putCell (Or.inl rfl) sh_239 ?_
            refine c_X12_putCell hb (k := k) (j := 0) rfl rfl (by omega) ⟨rfl, ?_⟩
            refine y_iinc4_2 dX12_atOnce_134 (nI_1 _) rfl ?_
            refine y_goto (tgt := 2) dX12_atOnce_137 (by decide) ?_
            first
              | (rw [if_pos h17] at hP; exact hP _)
              | (rw [if_neg h17, if_pos h54, if_pos hO] at hP; exact hP _)
              | (rw [if_neg h17, if_pos h54, if_neg hO] at hP; exact hP _)
              | (rw [if_neg h17, if_neg h54, if_neg (fun q => absurd q.1 h101)] at hP; exact hP _)
              | (rw [if_neg h17, if_neg h54, if_neg (fun q => absurd q.2 (Int32.not_lt.mpr h111))] at hP; exact hP _)
              | (rw [if_neg h17, if_neg h54, if_pos ⟨h101, Int32.not_le.mp h111⟩] at hP; exact hP _)
          · refine y_aload_n dX12_atOnce_114 rfl rfl ?_
            refine y_iload_n dX12_atOnce_115 rfl rfl ?_
            refine y_iconst (v := 3) dX12_atOnce_116 (by decide) ?_
            refine y_ivV2 dX12_atOnce_117 mv_X12_203 my_X12_tears (Or.inl rfl) sh_239 ?_
            refine c_X12_tears hb (k := k) (q := qOf Rk) rfl hk hq1 (wfR_lt hwk hk h101) ⟨rfl, ?_⟩
            refine y_goto (tgt := 134) dX12_atOnce_120 (by decide) ?_
            refine y_iinc4_2 dX12_atOnce_134 (nI_1 _) rfl ?_
            refine y_goto (tgt := 2) dX12_atOnce_137 (by decide) ?_
            first
              | (rw [if_pos h17] at hP; exact hP _)
              | (rw [if_neg h17, if_pos h54, if_pos hO] at hP; exact hP _)
              | (rw [if_neg h17, if_pos h54, if_neg hO] at hP; exact hP _)
              | (rw [if_neg h17, if_neg h54, if_neg (fun q => absurd q.1 h101)] at hP; exact hP _)
              | (rw [if_neg h17, if_neg h54, if_neg (fun q => absurd q.2 (Int32.not_lt.mpr h111))] at hP; exact hP _)
              | (rw [if_neg h17, if_neg h54, if_pos ⟨h101, Int32.not_le.mp h111⟩] at hP; exact hP _)
      · refine y_aload_n dX12_atOnce_57 rfl rfl ?_
        refine y_iload_n dX12_atOnce_58 rfl rfl ?_
        refine y_iconst (v := 2) dX12_atOnce_59 (by decide) ?_
        refine y_iload_n dX12_atOnce_60 rfl rfl ?_
        refine y_isI1 dX12_atOnce_61 ms_X12_194 my_X12_isOuter (Or.inl rfl) ?_
        refine c_X12_isOuter (k := k) rfl (by omega) (fun hO => ⟨_, rfl, ?_⟩) (fun hO => ⟨_, rfl, ?_⟩)
        · refine y_if_eq (tgt := 83) dX12_atOnce_64 (by decide) (fun h64 => absurd h64 (by decide)) (fun h64 => ?_)
          refine y_iconst (v := 0) dX12_atOnce_67 (by decide) ?_
          refine y_aload_n dX12_atOnce_68 rfl rfl ?_
          refine y_iload_n dX12_atOnce_69 rfl rfl ?_
          refine y_iconst (v := 2) dX12_atOnce_70 (by decide) ?_
          refine y_ivI2 dX12_atOnce_71 mv_X12_191 my_X12_c (Or.inl rfl) sh_239 ?_
          refine c_X12_c hb (k := k) (j := 2) rfl rfl (by omega) ⟨_, rfl, ?_⟩
          refine y_bipush (v := 20) dX12_atOnce_74 (by decide) ?_
          refine y_isub dX12_atOnce_76 ?_
          refine y_isI2 dX12_atOnce_77 ms_X12_197 my_X12_greater (Or.inl rfl) ?_
          refine c_X12_greater ⟨_, rfl, ?_⟩
          refine y_goto (tgt := 89) dX12_atOnce_80 (by decide) ?_
          refine y_ivV3 dX12_atOnce_89 mv_X12_167 my_X12_putCell (Or.inl rfl) sh_239 ?_
          refine c_X12_putCell hb (k := k) (j := 2) rfl rfl (by omega) ⟨rfl, ?_⟩
          refine y_goto (tgt := 134) dX12_atOnce_92 (by decide) ?_
          refine y_iinc4_2 dX12_atOnce_134 (nI_1 _) rfl ?_
          refine y_goto (tgt := 2) dX12_atOnce_137 (by decide) ?_
          first
            | (rw [if_pos h17] at hP; exact hP _)
            | (rw [if_neg h17, if_pos h54, if_pos hO] at hP; exact hP _)
            | (rw [if_neg h17, if_pos h54, if_neg hO] at hP; exact hP _)
            | (rw [if_neg h17, if_neg h54, if_neg (fun q => absurd q.1 h101)] at hP; exact hP _)
            | (rw [if_neg h17, if_neg h54, if_neg (fun q => absurd q.2 (Int32.not_lt.mpr h111))] at hP; exact hP _)
            | (rw [if_neg h17, if_neg h54, if_pos ⟨h101, Int32.not_le.mp h111⟩] at hP; exact hP _)
        · refine y_if_eq (tgt := 83) dX12_atOnce_64 (by decide) (fun h64 => ?_) (fun h64 => absurd (by decide) h64)
          refine y_aload_n dX12_atOnce_83 rfl rfl ?_
          refine y_iload_n dX12_atOnce_84 rfl rfl ?_
          refine y_iconst (v := 2) dX12_atOnce_85 (by decide) ?_
          refine y_ivI2 dX12_atOnce_86 mv_X12_191 my_X12_c (Or.inl rfl) sh_239 ?_
          refine c_X12_c hb (k := k) (j := 2) rfl rfl (by omega) ⟨_, rfl, ?_⟩
          refine y_ivV3 dX12_atOnce_89 mv_X12_167 my_X12_putCell (Or.inl rfl) sh_239 ?_
          refine c_X12_putCell hb (k := k) (j := 2) rfl rfl (by omega) ⟨rfl, ?_⟩
          refine y_goto (tgt := 134) dX12_atOnce_92 (by decide) ?_
          refine y_iinc4_2 dX12_atOnce_134 (nI_1 _) rfl ?_
          refine y_goto (tgt := 2) dX12_atOnce_137 (by decide) ?_
          first
            | (rw [if_pos h17] at hP; exact hP _)
            | (rw [if_neg h17, if_pos h54, if_pos hO] at hP; exact hP _)
            | (rw [if_neg h17, if_pos h54, if_neg hO] at hP; exact hP _)
            | (rw [if_neg h17, if_neg h54, if_neg (fun q => absurd q.1 h101)] at hP; exact hP _)
            | (rw [if_neg h17, if_neg h54, if_neg (fun q => absurd q.2 (Int32.not_lt.mpr h111))] at hP; exact hP _)
            | (rw [if_neg h17, if_neg h54, if_pos ⟨h101, Int32.not_le.mp h111⟩] at hP; exact hP _)
    · refine y_aload_n dX12_atOnce_20 rfl rfl ?_
      refine y_iload_n dX12_atOnce_21 rfl rfl ?_
      refine y_iconst (v := 1) dX12_atOnce_22 (by decide) ?_
      refine y_bipush (v := 99) dX12_atOnce_23 (by decide) ?_
      refine y_aload_n dX12_atOnce_25 rfl rfl ?_
      refine y_iload_n dX12_atOnce_26 rfl rfl ?_
      refine y_iconst (v := 1) dX12_atOnce_27 (by decide) ?_
      refine y_ivI2 dX12_atOnce_28 mv_X12_191 my_X12_c (Or.inl rfl) sh_239 ?_
      refine c_X12_c hb (k := k) (j := 1) rfl rfl (by omega) ⟨_, rfl, ?_⟩
      refine y_bipush (v := 10) dX12_atOnce_31 (by decide) ?_
      refine y_iadd dX12_atOnce_33 ?_
      refine y_isI2 dX12_atOnce_34 ms_X12_200 my_X12_lesser (Or.inl rfl) ?_
      refine c_X12_lesser ⟨_, rfl, ?_⟩
      refine y_ivV3 dX12_atOnce_37 mv_X12_167 my_X12_putCell (Or.inl rfl) sh_239 ?_
      refine c_X12_putCell hb (k := k) (j := 1) rfl rfl (by omega) ⟨rfl, ?_⟩
      refine y_aload_n dX12_atOnce_40 rfl rfl ?_
      refine y_iload_n dX12_atOnce_41 rfl rfl ?_
      refine y_iconst (v := 0) dX12_atOnce_42 (by decide) ?_
      refine y_iload_n dX12_atOnce_43 rfl rfl ?_
      refine y_iconst (v := 2) dX12_atOnce_44 (by decide) ?_
      refine y_idiv dX12_atOnce_45 (by decide) ?_
      refine y_ivV3 dX12_atOnce_46 mv_X12_167 my_X12_putCell (Or.inl rfl) sh_239 ?_
      refine c_X12_putCell hb (k := k) (j := 0) rfl rfl (by omega) ⟨rfl, ?_⟩
      refine y_goto (tgt := 134) dX12_atOnce_49 (by decide) ?_
      refine y_iinc4_2 dX12_atOnce_134 (nI_1 _) rfl ?_
      refine y_goto (tgt := 2) dX12_atOnce_137 (by decide) ?_
      first
        | (rw [if_pos h17] at hP; exact hP _)
        | (rw [if_neg h17, if_pos h54, if_pos hO] at hP; exact hP _)
        | (rw [if_neg h17, if_pos h54, if_neg hO] at hP; exact hP _)
        | (rw [if_neg h17, if_neg h54, if_neg (fun q => absurd q.1 h101)] at hP; exact hP _)
        | (rw [if_neg h17, if_neg h54, if_neg (fun q => absurd q.2 (Int32.not_lt.mpr h111))] at hP; exact hP _)
        | (rw [if_neg h17, if_neg h54, if_pos ⟨h101, Int32.not_le.mp h111⟩] at hP; exact hP _)
-- end
