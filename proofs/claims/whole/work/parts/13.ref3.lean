/-! the next turn -/
theorem foldR_low {f : Nat → (Nat → Int32) → (Nat → Int32)} {p : Nat} (hf : ∀ k R, k < 24 → f k R p = R p) (R : Nat → Int32) : ∀ k, k ≤ 24 → foldR f k R p = R p := by
  intro k
  induction k with
  | zero => intro _; rfl
  | succ k ih => intro hk; exact (hf k _ (by omega)).trans (ih (by omega))
theorem tearF_low {q k p : Nat} {kind : Int32} {R : Nat → Int32} (h : p < 40) : tearF q k kind R p = R p := by
  unfold tearF
  rw [updN (by omega), updN (by omega), tearG_o (by omega), tearL_o (by omega) (by omega)]
theorem warms_low {w : Int32} {p : Nat} {R : Nat → Int32} (h : p < 41) : warmsF w R p = R p := foldR_low (fun k R' hk => updN (by omega)) R 24 (Nat.le_refl _)
theorem grows_low {p : Nat} {R : Nat → Int32} (h : p < 41) : growsF R p = R p := foldR_low (fun k R' hk => grow_o (by omega) (by omega) (by omega)) R 24 (Nat.le_refl _)
theorem bursts_low {ov : Int32} {p : Nat} {R : Nat → Int32} (h : p < 40) : burstsF ov R p = R p := foldR_low (fun k R' hk => by
  unfold burstC
  split
  · exact tearF_low h
  · rfl) R 24 (Nat.le_refl _)
theorem sinks_low {p : Nat} {R : Nat → Int32} (h : p < 40) : sinksF R p = R p := foldR_low (fun k R' hk => by
  unfold sinkC
  split
  · exact tearF_low h
  · rfl) R 24 (Nat.le_refl _)
theorem once_low {kind : Int32} {p : Nat} {R : Nat → Int32} (h : p < 40) : atOnceF kind R p = R p := foldR_low (fun k R' hk => by
  unfold onceC
  split
  · rw [updN (by omega), updN (by omega)]
  · split
    · split
      · exact updN (by omega)
      · exact updN (by omega)
    · split
      · exact tearF_low h
      · exact updN (by omega)) R 24 (Nat.le_refl _)
theorem turn_low {ov w : Int32} {p : Nat} {R : Nat → Int32} (h : p < 38) : turnF ov w R p = R p := by
  unfold turnF endF
  split
  · split
    · rw [updN (by omega), updN (by omega), sinks_low (by omega), bursts_low (by omega), grows_low (by omega), warms_low (by omega)]
    · rw [updN (by omega), updN (by omega), bursts_low (by omega), grows_low (by omega), warms_low (by omega)]
  · rw [updN (by omega), updN (by omega), bursts_low (by omega), grows_low (by omega), warms_low (by omega)]
theorem wf_end {v : Int32} {R : Nat → Int32} (h : wfR R) : wfR (endF v R) := by
  unfold endF
  exact wf_keep h (by rw [updN (by omega), updN (by omega)]) (fun j hj => by rw [updN (by omega), updN (by omega)])
theorem wf_turn {ov w : Int32} {R : Nat → Int32} (h : wfR R) : wfR (turnF ov w R) := by
  have h3 : wfR (burstsF ov (growsF (warmsF w R))) := wf_bursts ov (wf_grows (wf_warms w h)) 24 (Nat.le_refl _)
  unfold turnF
  split
  · split
    · exact wf_end (wf_sinks h3 24 (Nat.le_refl _))
    · exact wf_end h3
  · exact wf_end h3
/-- where it is in its steps: at of c steps -/
def atOf (R : Nat → Int32) : Nat := (R 36).toNatClampNeg
def cOf (R : Nat → Int32) : Nat := (R 5).toNatClampNeg
def wfA (R : Nat → Int32) : Prop := R 36 = nI (atOf R) ∧ R 5 = nI (cOf R) ∧ atOf R ≤ cOf R ∧ cOf R ≤ 10
theorem wfA_mk {R : Nat → Int32} {a c : Nat} (h1 : R 36 = nI a) (h2 : R 5 = nI c) (h3 : a ≤ c) (h4 : c ≤ 10) : wfA R ∧ atOf R = a ∧ cOf R = c := by
  have e1 : atOf R = a := by unfold atOf; rw [h1, nI_clamp (by omega)]
  have e2 : cOf R = c := by unfold cOf; rw [h2, nI_clamp (by omega)]
  exact ⟨⟨by rw [e1]; exact h1, by rw [e2]; exact h2, by rw [e1, e2]; exact h3, by rw [e2]; exact h4⟩, e1, e2⟩
/-- a step at once -/
def onceS (a : Nat) (R : Nat → Int32) : Nat → Int32 := upd (atOnceF (R (6 + 3 * a + 0)) R) 36 (atOnceF (R (6 + 3 * a + 0)) R 36 + 1)
/-- all that comes at once: c - a steps at most -/
def skipF : Nat → Nat → (Nat → Int32) → (Nat → Int32)
  | 0, _, R => R
  | f + 1, a, R => if 2 < R (6 + 3 * a + 0) then skipF f (a + 1) (onceS a R) else R
def ovk (x : Int32) : Int32 := if x = 2 then 1 else 0
def lastG (a : Nat) (R2 : Nat → Int32) : Nat → Int32 := if R2 37 = R2 (6 + 3 * a + 2) then upd (upd R2 37 0) 36 (upd R2 37 0 36 + 1) else R2
def lastF (a : Nat) (R : Nat → Int32) : Nat → Int32 := lastG a (upd (turnF (ovk (R (6 + 3 * a + 0))) (R (6 + 3 * a + 1)) R) 37 (turnF (ovk (R (6 + 3 * a + 0))) (R (6 + 3 * a + 1)) R 37 + 1))
def stepF (a c : Nat) (R : Nat → Int32) : Nat → Int32 := if a = c then turnF 0 2 R else lastF a R
def nextF (R : Nat → Int32) : Nat → Int32 := stepF (atOf (skipF (cOf R - atOf R) (atOf R) R)) (cOf R) (skipF (cOf R - atOf R) (atOf R) R)
theorem onceS_low {a p : Nat} {R : Nat → Int32} (h : p < 40) (h2 : p ≠ 36) : onceS a R p = R p := by
  unfold onceS
  rw [updN h2, once_low h]
theorem onceS_36 {a : Nat} {R : Nat → Int32} : onceS a R 36 = R 36 + 1 := by
  unfold onceS
  rw [updS, once_low (by omega)]
theorem wf_onceS {a : Nat} {R : Nat → Int32} (h : wfR R) : wfR (onceS a R) := by
  unfold onceS
  exact wf_keep (wf_once _ h 24 (Nat.le_refl _)) (updN (by omega)) (fun j hj => updN (by omega))
theorem skip_ok {c : Nat} (hc : c ≤ 10) : ∀ (f a : Nat) (R : Nat → Int32), a + f = c → R 36 = nI a → R 5 = nI c → wfR R →
    wfR (skipF f a R) ∧ (∃ a', a ≤ a' ∧ a' ≤ c ∧ skipF f a R 36 = nI a') ∧ ∀ p, p < 40 → p ≠ 36 → skipF f a R p = R p := by
  intro f
  induction f with
  | zero =>
    intro a R h1 h2 h3 h4
    exact ⟨h4, ⟨a, Nat.le_refl _, by omega, h2⟩, fun _ _ _ => rfl⟩
  | succ f ih =>
    intro a R h1 h2 h3 h4
    unfold skipF
    split
    · obtain ⟨q1, ⟨a', q2, q3, q4⟩, q5⟩ := ih (a + 1) (onceS a R) (by omega) (by rw [onceS_36, h2, nI_1]) (by rw [onceS_low (by omega) (by omega)]; exact h3) (wf_onceS h4)
      exact ⟨q1, ⟨a', by omega, q3, q4⟩, fun p hp hp2 => (q5 p hp hp2).trans (onceS_low hp hp2)⟩
    · exact ⟨h4, ⟨a, Nat.le_refl _, by omega, h2⟩, fun _ _ _ => rfl⟩
theorem lastG_low {a p : Nat} {R : Nat → Int32} (h1 : p ≠ 36) (h2 : p ≠ 37) : lastG a R p = R p := by
  unfold lastG
  split
  · rw [updN h1, updN h2]
  · rfl
theorem last_low {a p : Nat} {R : Nat → Int32} (h : p < 36) : lastF a R p = R p := by
  unfold lastF
  rw [lastG_low (by omega) (by omega), updN (by omega), turn_low (by omega)]
theorem wf_last {a : Nat} {R : Nat → Int32} (h : wfR R) : wfR (lastF a R) := by
  unfold lastF
  exact wf_keep (wf_turn (ov := ovk (R (6 + 3 * a + 0))) (w := R (6 + 3 * a + 1)) h) (by rw [lastG_low (by omega) (by omega), updN (by omega)]) (fun j hj => by rw [lastG_low (by omega) (by omega), updN (by omega)])
theorem last_36 {a : Nat} {R : Nat → Int32} : lastF a R 36 = R 36 ∨ lastF a R 36 = R 36 + 1 := by
  unfold lastF lastG
  split
  · right
    rw [updS, updN (by omega), updN (by omega), turn_low (by omega)]
  · left
    rw [updN (by omega), turn_low (by omega)]
theorem next_ok {R : Nat → Int32} (hw : wfR R) (ha : wfA R) : wfR (nextF R) ∧ wfA (nextF R) ∧ cOf (nextF R) = cOf R ∧ ∀ p, p < 36 → nextF R p = R p := by
  obtain ⟨h1, h2, h3, h4⟩ := ha
  obtain ⟨q1, ⟨a', q2, q3, q4⟩, q5⟩ := skip_ok h4 (cOf R - atOf R) (atOf R) R (by omega) h1 h2 hw
  have e36 : atOf (skipF (cOf R - atOf R) (atOf R) R) = a' := by unfold atOf; rw [show skipF (cOf R - (R 36).toNatClampNeg) (R 36).toNatClampNeg R 36 = nI a' from q4, nI_clamp (by omega)]
  unfold nextF
  rw [e36]
  generalize skipF (cOf R - atOf R) (atOf R) R = R' at *
  unfold stepF
  by_cases e : a' = cOf R
  · rw [if_pos e]
    have l : ∀ p, p < 36 → turnF 0 2 R' p = R p := fun p hp => (turn_low (by omega)).trans (q5 p (by omega) (by omega))
    obtain ⟨w1, w2, w3⟩ := wfA_mk (R := turnF 0 2 R') (a := a') (c := cOf R) ((turn_low (by omega)).trans q4) ((l 5 (by omega)).trans h2) q3 h4
    exact ⟨wf_turn q1, w1, w3, l⟩
  · rw [if_neg e]
    have l : ∀ p, p < 36 → lastF a' R' p = R p := fun p hp => (last_low hp).trans (q5 p (by omega) (by omega))
    rcases last_36 (a := a') (R := R') with q | q
    · obtain ⟨w1, w2, w3⟩ := wfA_mk (R := lastF a' R') (a := a') (c := cOf R) (q.trans q4) ((l 5 (by omega)).trans h2) q3 h4
      exact ⟨wf_last q1, w1, w3, l⟩
    · obtain ⟨w1, w2, w3⟩ := wfA_mk (R := lastF a' R') (a := a' + 1) (c := cOf R) (by rw [q, q4, nI_1]) ((l 5 (by omega)).trans h2) (by omega) h4
      exact ⟨wf_last q1, w1, w3, l⟩
def goesF : Nat → (Nat → Int32) → (Nat → Int32)
  | 0, R => R
  | k + 1, R => nextF (goesF k R)
theorem goes_ok {R : Nat → Int32} (hw : wfR R) (ha : wfA R) : ∀ k, wfR (goesF k R) ∧ wfA (goesF k R) ∧ cOf (goesF k R) = cOf R ∧ ∀ p, p < 36 → goesF k R p = R p := by
  intro k
  induction k with
  | zero => exact ⟨hw, ha, rfl, fun _ _ => rfl⟩
  | succ k ih =>
    obtain ⟨i1, i2, i3, i4⟩ := ih
    obtain ⟨j1, j2, j3, j4⟩ := next_ok i1 i2
    exact ⟨j1, j2, j3.trans i3, fun p hp => (j4 p hp).trans (i4 p hp)⟩

set_option maxHeartbeats 1000000 in
theorem c_X12_next {L : Nat} {xs : Nat → Int32} {d : Nat} {m : sM} {n : sN} {Q : sQ} {b : Nat} {R h : Nat → Int32} (hb : bAt m b) (hw : wfR R) (ha : wfA R) (hQ : ∀ h', Q none (stR m h' b (nextF R)) n) : sRun (scT L xs) (d + 6) yX12_next cX12_next 1 none [.ref 239] (stR m h b R) n Q := by
  refine y_run (own := "LoafFallModel") rfl (by decide +kernel) (Nat.le_of_ble_eq_true rfl) rfl ?_
  obtain ⟨h1, h2, h3, h4⟩ := ha
  have kk : ∀ (f a : Nat) (R' : Nat → Int32), a + f = cOf R → R' 36 = nI a → R' 5 = nI (cOf R) → wfR R' → (∀ h', Q none (stR m h' b (stepF (atOf (skipF f a R')) (cOf R) (skipF f a R'))) n) → sV (scT L xs) (d + 5) "LoafFallModel" cX12_next 1 none Q 0 [some (.ref 239)] [] (stR m h b R') n := by
    intro f
    induction f with
    | zero =>
      intro a R' ha e36 e5 hw' hQ'
      have eaf : atOf (skipF 0 a R') = a := by unfold atOf; rw [show skipF 0 a R' 36 = nI a from e36, nI_clamp (by omega)]
      rw [eaf, show stepF a (cOf R) (skipF 0 a R') = turnF 0 2 R' by unfold stepF; rw [if_pos (show a = cOf R by omega)]; rfl] at hQ'
      refine y_aload_n dX12_next_0 rfl rfl ?_
      refine y_bipush (v := 36) dX12_next_1 (by decide) ?_
      refine y_ivI1 dX12_next_3 mv_X12_160 my_X12_v (Or.inl rfl) sh_239 ?_
      refine c_X12_v hb (p := 36) rfl (by omega) ⟨_, rfl, ?_⟩
      rw [e36]
      refine y_aload_n dX12_next_6 rfl rfl ?_
      refine y_iconst (v := 5) dX12_next_7 (by decide) ?_
      refine y_ivI1 dX12_next_8 mv_X12_160 my_X12_v (Or.inl rfl) sh_239 ?_
      refine c_X12_v hb (p := 5) rfl (by omega) ⟨_, rfl, ?_⟩
      rw [e5]
      refine y_icmp_ge (tgt := 61) dX12_next_11 (by decide) (fun h11 => ?_) (fun h11 => absurd (nI_le (a := cOf R) (b := a) (by omega) (by omega)) h11)
      refine y_aload_n dX12_next_61 rfl rfl ?_
      refine y_bipush (v := 36) dX12_next_62 (by decide) ?_
      refine y_ivI1 dX12_next_64 mv_X12_160 my_X12_v (Or.inl rfl) sh_239 ?_
      refine c_X12_v hb (p := 36) rfl (by omega) ⟨_, rfl, ?_⟩
      rw [e36]
      refine y_aload_n dX12_next_67 rfl rfl ?_
      refine y_iconst (v := 5) dX12_next_68 (by decide) ?_
      refine y_ivI1 dX12_next_69 mv_X12_160 my_X12_v (Or.inl rfl) sh_239 ?_
      refine c_X12_v hb (p := 5) rfl (by omega) ⟨_, rfl, ?_⟩
      rw [e5]
      refine y_icmp_ne (tgt := 84) dX12_next_72 (by decide) (fun h72 => absurd (show nI a = nI (cOf R) by rw [show a = cOf R by omega]) h72) (fun h72 => ?_)
      refine y_aload_n dX12_next_75 rfl rfl ?_
      refine y_iconst (v := 0) dX12_next_76 (by decide) ?_
      refine y_iconst (v := 2) dX12_next_77 (by decide) ?_
      refine y_ivV2 dX12_next_78 mv_X12_222 my_X12_turn (Or.inl rfl) sh_239 ?_
      refine c_X12_turn hb hw' (fun h2 => ⟨rfl, ?_⟩)
      refine y_goto (tgt := 174) dX12_next_81 (by decide) ?_
      refine y_return dX12_next_174 rfl ?_
      exact hQ' _
    | succ f ih =>
      intro a R' ha e36 e5 hw' hQ'
      refine y_aload_n dX12_next_0 rfl rfl ?_
      refine y_bipush (v := 36) dX12_next_1 (by decide) ?_
      refine y_ivI1 dX12_next_3 mv_X12_160 my_X12_v (Or.inl rfl) sh_239 ?_
      refine c_X12_v hb (p := 36) rfl (by omega) ⟨_, rfl, ?_⟩
      rw [e36]
      refine y_aload_n dX12_next_6 rfl rfl ?_
      refine y_iconst (v := 5) dX12_next_7 (by decide) ?_
      refine y_ivI1 dX12_next_8 mv_X12_160 my_X12_v (Or.inl rfl) sh_239 ?_
      refine c_X12_v hb (p := 5) rfl (by omega) ⟨_, rfl, ?_⟩
      rw [e5]
      refine y_icmp_ge (tgt := 61) dX12_next_11 (by decide) (fun h11 => absurd h11 (nI_ge (a := a) (b := cOf R) (by omega) (by omega))) (fun h11 => ?_)
      refine y_aload_n dX12_next_14 rfl rfl ?_
      refine y_aload_n dX12_next_15 rfl rfl ?_
      refine y_bipush (v := 36) dX12_next_16 (by decide) ?_
      refine y_ivI1 dX12_next_18 mv_X12_160 my_X12_v (Or.inl rfl) sh_239 ?_
      refine c_X12_v hb (p := 36) rfl (by omega) ⟨_, rfl, ?_⟩
      rw [e36]
      refine y_iconst (v := 0) dX12_next_21 (by decide) ?_
      refine y_ivI2 dX12_next_22 mv_X12_171 my_X12_s (Or.inl rfl) sh_239 ?_
      refine c_X12_s hb (k := a) (j := 0) rfl rfl (by omega) ⟨_, rfl, ?_⟩
      refine y_iconst (v := 2) dX12_next_25 (by decide) ?_
      refine y_icmp_le (tgt := 61) dX12_next_26 (by decide) (fun h26 => ?_) (fun h26 => ?_)
      · have eaf : atOf (skipF (f + 1) a R') = a := by unfold atOf; rw [skipF, if_neg (Int32.not_lt.mpr h26), e36, nI_clamp (by omega)]
        rw [eaf, show skipF (f + 1) a R' = R' by rw [skipF, if_neg (Int32.not_lt.mpr h26)], show stepF a (cOf R) R' = lastF a R' by unfold stepF; rw [if_neg (show ¬ a = cOf R by omega)]] at hQ'
        refine y_aload_n dX12_next_61 rfl rfl ?_
        refine y_bipush (v := 36) dX12_next_62 (by decide) ?_
        refine y_ivI1 dX12_next_64 mv_X12_160 my_X12_v (Or.inl rfl) sh_239 ?_
        refine c_X12_v hb (p := 36) rfl (by omega) ⟨_, rfl, ?_⟩
        rw [e36]
        refine y_aload_n dX12_next_67 rfl rfl ?_
        refine y_iconst (v := 5) dX12_next_68 (by decide) ?_
        refine y_ivI1 dX12_next_69 mv_X12_160 my_X12_v (Or.inl rfl) sh_239 ?_
        refine c_X12_v hb (p := 5) rfl (by omega) ⟨_, rfl, ?_⟩
        rw [e5]
        refine y_icmp_ne (tgt := 84) dX12_next_72 (by decide) (fun h72 => ?_) (fun h72 => absurd h72 (fun z => absurd ((nI_eq (a := a) (b := cOf R) (by omega) (by omega)).mp z) (by omega)))
        refine y_aload_n dX12_next_84 rfl rfl ?_
        refine y_aload_n dX12_next_85 rfl rfl ?_
        refine y_aload_n dX12_next_86 rfl rfl ?_
        refine y_bipush (v := 36) dX12_next_87 (by decide) ?_
        refine y_ivI1 dX12_next_89 mv_X12_160 my_X12_v (Or.inl rfl) sh_239 ?_
        refine c_X12_v hb (p := 36) rfl (by omega) ⟨_, rfl, ?_⟩
        rw [e36]
        refine y_iconst (v := 0) dX12_next_92 (by decide) ?_
        refine y_ivI2 dX12_next_93 mv_X12_171 my_X12_s (Or.inl rfl) sh_239 ?_
        refine c_X12_s hb (k := a) (j := 0) rfl rfl (by omega) ⟨_, rfl, ?_⟩
        refine y_iconst (v := 2) dX12_next_96 (by decide) ?_
        refine y_icmp_ne (tgt := 104) dX12_next_97 (by decide) (fun h97 => ?_) (fun h97 => ?_)
        · refine y_iconst (v := 0) dX12_next_104 (by decide) ?_
          refine y_aload_n dX12_next_105 rfl rfl ?_
          refine y_aload_n dX12_next_106 rfl rfl ?_
          refine y_bipush (v := 36) dX12_next_107 (by decide) ?_
          refine y_ivI1 dX12_next_109 mv_X12_160 my_X12_v (Or.inl rfl) sh_239 ?_
          refine c_X12_v hb (p := 36) rfl (by omega) ⟨_, rfl, ?_⟩
          rw [e36]
          refine y_iconst (v := 1) dX12_next_112 (by decide) ?_
          refine y_ivI2 dX12_next_113 mv_X12_171 my_X12_s (Or.inl rfl) sh_239 ?_
          refine c_X12_s hb (k := a) (j := 1) rfl rfl (by omega) ⟨_, rfl, ?_⟩
          refine y_ivV2 dX12_next_116 mv_X12_222 my_X12_turn (Or.inl rfl) sh_239 ?_
          refine c_X12_turn hb hw' (fun h2 => ⟨rfl, ?_⟩)
          have e2 : ∀ ov w, turnF ov w R' 36 = nI a := fun ov w => (turn_low (by omega)).trans e36
          refine y_aload_n dX12_next_119 rfl rfl ?_
          refine y_bipush (v := 37) dX12_next_120 (by decide) ?_
          refine y_aload_n dX12_next_122 rfl rfl ?_
          refine y_bipush (v := 37) dX12_next_123 (by decide) ?_
          refine y_ivI1 dX12_next_125 mv_X12_160 my_X12_v (Or.inl rfl) sh_239 ?_
          refine c_X12_v hb (p := 37) rfl (by omega) ⟨_, rfl, ?_⟩
          refine y_iconst (v := 1) dX12_next_128 (by decide) ?_
          refine y_iadd dX12_next_129 ?_
          refine y_ivV2 dX12_next_130 mv_X12_163 my_X12_put_ (Or.inl rfl) sh_239 ?_
          refine c_X12_put_ hb (p := 37) rfl (by omega) ⟨rfl, ?_⟩
          refine y_aload_n dX12_next_133 rfl rfl ?_
          refine y_bipush (v := 37) dX12_next_134 (by decide) ?_
          refine y_ivI1 dX12_next_136 mv_X12_160 my_X12_v (Or.inl rfl) sh_239 ?_
          refine c_X12_v hb (p := 37) rfl (by omega) ⟨_, rfl, ?_⟩
          refine y_aload_n dX12_next_139 rfl rfl ?_
          refine y_aload_n dX12_next_140 rfl rfl ?_
          refine y_bipush (v := 36) dX12_next_141 (by decide) ?_
          refine y_ivI1 dX12_next_143 mv_X12_160 my_X12_v (Or.inl rfl) sh_239 ?_
          refine c_X12_v hb (p := 36) rfl (by omega) ⟨_, rfl, ?_⟩
          rw [updN (by omega), e2]
          refine y_iconst (v := 2) dX12_next_146 (by decide) ?_
          refine y_ivI2 dX12_next_147 mv_X12_171 my_X12_s (Or.inl rfl) sh_239 ?_
          refine c_X12_s hb (k := a) (j := 2) rfl rfl (by omega) ⟨_, rfl, ?_⟩
          refine y_icmp_ne (tgt := 174) dX12_next_150 (by decide) (fun h150 => ?_) (fun h150 => ?_)
          · refine y_return dX12_next_174 rfl ?_
            unfold lastF lastG ovk at hQ'
            first
              | (rw [if_pos h97] at hQ'; rw [if_pos h150] at hQ'; exact hQ' _)
              | (rw [if_neg h97] at hQ'; rw [if_pos h150] at hQ'; exact hQ' _)
              | (rw [if_pos h97] at hQ'; rw [if_neg h150] at hQ'; exact hQ' _)
              | (rw [if_neg h97] at hQ'; rw [if_neg h150] at hQ'; exact hQ' _)
          · refine y_aload_n dX12_next_153 rfl rfl ?_
            refine y_bipush (v := 37) dX12_next_154 (by decide) ?_
            refine y_iconst (v := 0) dX12_next_156 (by decide) ?_
            refine y_ivV2 dX12_next_157 mv_X12_163 my_X12_put_ (Or.inl rfl) sh_239 ?_
            refine c_X12_put_ hb (p := 37) rfl (by omega) ⟨rfl, ?_⟩
            refine y_aload_n dX12_next_160 rfl rfl ?_
            refine y_bipush (v := 36) dX12_next_161 (by decide) ?_
            refine y_aload_n dX12_next_163 rfl rfl ?_
            refine y_bipush (v := 36) dX12_next_164 (by decide) ?_
            refine y_ivI1 dX12_next_166 mv_X12_160 my_X12_v (Or.inl rfl) sh_239 ?_
            refine c_X12_v hb (p := 36) rfl (by omega) ⟨_, rfl, ?_⟩
            refine y_iconst (v := 1) dX12_next_169 (by decide) ?_
            refine y_iadd dX12_next_170 ?_
            refine y_ivV2 dX12_next_171 mv_X12_163 my_X12_put_ (Or.inl rfl) sh_239 ?_
            refine c_X12_put_ hb (p := 36) rfl (by omega) ⟨rfl, ?_⟩
            refine y_return dX12_next_174 rfl ?_
            unfold lastF lastG ovk at hQ'
            first
              | (rw [if_pos h97] at hQ'; rw [if_pos h150] at hQ'; exact hQ' _)
              | (rw [if_neg h97] at hQ'; rw [if_pos h150] at hQ'; exact hQ' _)
              | (rw [if_pos h97] at hQ'; rw [if_neg h150] at hQ'; exact hQ' _)
              | (rw [if_neg h97] at hQ'; rw [if_neg h150] at hQ'; exact hQ' _)
        · refine y_iconst (v := 1) dX12_next_100 (by decide) ?_
          refine y_goto (tgt := 105) dX12_next_101 (by decide) ?_
          refine y_aload_n dX12_next_105 rfl rfl ?_
          refine y_aload_n dX12_next_106 rfl rfl ?_
          refine y_bipush (v := 36) dX12_next_107 (by decide) ?_
          refine y_ivI1 dX12_next_109 mv_X12_160 my_X12_v (Or.inl rfl) sh_239 ?_
          refine c_X12_v hb (p := 36) rfl (by omega) ⟨_, rfl, ?_⟩
          rw [e36]
          refine y_iconst (v := 1) dX12_next_112 (by decide) ?_
          refine y_ivI2 dX12_next_113 mv_X12_171 my_X12_s (Or.inl rfl) sh_239 ?_
          refine c_X12_s hb (k := a) (j := 1) rfl rfl (by omega) ⟨_, rfl, ?_⟩
          refine y_ivV2 dX12_next_116 mv_X12_222 my_X12_turn (Or.inl rfl) sh_239 ?_
          refine c_X12_turn hb hw' (fun h2 => ⟨rfl, ?_⟩)
          have e2 : ∀ ov w, turnF ov w R' 36 = nI a := fun ov w => (turn_low (by omega)).trans e36
          refine y_aload_n dX12_next_119 rfl rfl ?_
          refine y_bipush (v := 37) dX12_next_120 (by decide) ?_
          refine y_aload_n dX12_next_122 rfl rfl ?_
          refine y_bipush (v := 37) dX12_next_123 (by decide) ?_
          refine y_ivI1 dX12_next_125 mv_X12_160 my_X12_v (Or.inl rfl) sh_239 ?_
          refine c_X12_v hb (p := 37) rfl (by omega) ⟨_, rfl, ?_⟩
          refine y_iconst (v := 1) dX12_next_128 (by decide) ?_
          refine y_iadd dX12_next_129 ?_
          refine y_ivV2 dX12_next_130 mv_X12_163 my_X12_put_ (Or.inl rfl) sh_239 ?_
          refine c_X12_put_ hb (p := 37) rfl (by omega) ⟨rfl, ?_⟩
          refine y_aload_n dX12_next_133 rfl rfl ?_
          refine y_bipush (v := 37) dX12_next_134 (by decide) ?_
          refine y_ivI1 dX12_next_136 mv_X12_160 my_X12_v (Or.inl rfl) sh_239 ?_
          refine c_X12_v hb (p := 37) rfl (by omega) ⟨_, rfl, ?_⟩
          refine y_aload_n dX12_next_139 rfl rfl ?_
          refine y_aload_n dX12_next_140 rfl rfl ?_
          refine y_bipush (v := 36) dX12_next_141 (by decide) ?_
          refine y_ivI1 dX12_next_143 mv_X12_160 my_X12_v (Or.inl rfl) sh_239 ?_
          refine c_X12_v hb (p := 36) rfl (by omega) ⟨_, rfl, ?_⟩
          rw [updN (by omega), e2]
          refine y_iconst (v := 2) dX12_next_146 (by decide) ?_
          refine y_ivI2 dX12_next_147 mv_X12_171 my_X12_s (Or.inl rfl) sh_239 ?_
          refine c_X12_s hb (k := a) (j := 2) rfl rfl (by omega) ⟨_, rfl, ?_⟩
          refine y_icmp_ne (tgt := 174) dX12_next_150 (by decide) (fun h150 => ?_) (fun h150 => ?_)
          · refine y_return dX12_next_174 rfl ?_
            unfold lastF lastG ovk at hQ'
            first
              | (rw [if_pos h97] at hQ'; rw [if_pos h150] at hQ'; exact hQ' _)
              | (rw [if_neg h97] at hQ'; rw [if_pos h150] at hQ'; exact hQ' _)
              | (rw [if_pos h97] at hQ'; rw [if_neg h150] at hQ'; exact hQ' _)
              | (rw [if_neg h97] at hQ'; rw [if_neg h150] at hQ'; exact hQ' _)
          · refine y_aload_n dX12_next_153 rfl rfl ?_
            refine y_bipush (v := 37) dX12_next_154 (by decide) ?_
            refine y_iconst (v := 0) dX12_next_156 (by decide) ?_
            refine y_ivV2 dX12_next_157 mv_X12_163 my_X12_put_ (Or.inl rfl) sh_239 ?_
            refine c_X12_put_ hb (p := 37) rfl (by omega) ⟨rfl, ?_⟩
            refine y_aload_n dX12_next_160 rfl rfl ?_
            refine y_bipush (v := 36) dX12_next_161 (by decide) ?_
            refine y_aload_n dX12_next_163 rfl rfl ?_
            refine y_bipush (v := 36) dX12_next_164 (by decide) ?_
            refine y_ivI1 dX12_next_166 mv_X12_160 my_X12_v (Or.inl rfl) sh_239 ?_
            refine c_X12_v hb (p := 36) rfl (by omega) ⟨_, rfl, ?_⟩
            refine y_iconst (v := 1) dX12_next_169 (by decide) ?_
            refine y_iadd dX12_next_170 ?_
            refine y_ivV2 dX12_next_171 mv_X12_163 my_X12_put_ (Or.inl rfl) sh_239 ?_
            refine c_X12_put_ hb (p := 36) rfl (by omega) ⟨rfl, ?_⟩
            refine y_return dX12_next_174 rfl ?_
            unfold lastF lastG ovk at hQ'
            first
              | (rw [if_pos h97] at hQ'; rw [if_pos h150] at hQ'; exact hQ' _)
              | (rw [if_neg h97] at hQ'; rw [if_pos h150] at hQ'; exact hQ' _)
              | (rw [if_pos h97] at hQ'; rw [if_neg h150] at hQ'; exact hQ' _)
              | (rw [if_neg h97] at hQ'; rw [if_neg h150] at hQ'; exact hQ' _)
      · refine y_aload_n dX12_next_29 rfl rfl ?_
        refine y_aload_n dX12_next_30 rfl rfl ?_
        refine y_aload_n dX12_next_31 rfl rfl ?_
        refine y_bipush (v := 36) dX12_next_32 (by decide) ?_
        refine y_ivI1 dX12_next_34 mv_X12_160 my_X12_v (Or.inl rfl) sh_239 ?_
        refine c_X12_v hb (p := 36) rfl (by omega) ⟨_, rfl, ?_⟩
        rw [e36]
        refine y_iconst (v := 0) dX12_next_37 (by decide) ?_
        refine y_ivI2 dX12_next_38 mv_X12_171 my_X12_s (Or.inl rfl) sh_239 ?_
        refine c_X12_s hb (k := a) (j := 0) rfl rfl (by omega) ⟨_, rfl, ?_⟩
        refine y_ivV1 dX12_next_41 mv_X12_219 my_X12_atOnce (Or.inl rfl) sh_239 ?_
        refine c_X12_atOnce hb hw' ⟨rfl, ?_⟩
        refine y_aload_n dX12_next_44 rfl rfl ?_
        refine y_bipush (v := 36) dX12_next_45 (by decide) ?_
        refine y_aload_n dX12_next_47 rfl rfl ?_
        refine y_bipush (v := 36) dX12_next_48 (by decide) ?_
        refine y_ivI1 dX12_next_50 mv_X12_160 my_X12_v (Or.inl rfl) sh_239 ?_
        refine c_X12_v hb (p := 36) rfl (by omega) ⟨_, rfl, ?_⟩
        refine y_iconst (v := 1) dX12_next_53 (by decide) ?_
        refine y_iadd dX12_next_54 ?_
        refine y_ivV2 dX12_next_55 mv_X12_163 my_X12_put_ (Or.inl rfl) sh_239 ?_
        refine c_X12_put_ hb (p := 36) rfl (by omega) ⟨rfl, ?_⟩
        refine y_goto (tgt := 0) dX12_next_58 (by decide) ?_
        have e := once_low (kind := R' (6 + 3 * a + 0)) (p := 36) (R := R') (by omega)
        rw [skipF, if_pos (Int32.not_le.mp h26)] at hQ'
        exact ih (a + 1) (onceS a R') (by omega) (by rw [onceS_36, e36, nI_1]) (by rw [onceS_low (by omega) (by omega)]; exact e5) (wf_onceS hw') hQ'
  exact kk (cOf R - atOf R) (atOf R) R (by omega) h1 h2 hw hQ
set_option maxHeartbeats 1000000 in
theorem c_X12_goes {L : Nat} {xs : Nat → Int32} {d : Nat} {m : sM} {n : sN} {Q : sQ} {b : Nat} {R h : Nat → Int32} (hb : bAt m b) {N0 : Nat} {x : Int32} (hx : x = nI N0) (hN : N0 < 1000) (hw : wfR R) (ha : wfA R) (hQ : ∀ h', Q none (stR m h' b (goesF N0 R)) n) : sRun (scT L xs) (d + 7) yX12_goes cX12_goes 3 none [.ref 239, .int x] (stR m h b R) n Q := by
  subst hx
  refine y_run (own := "LoafFallModel") rfl (by decide +kernel) (Nat.le_of_ble_eq_true rfl) rfl ?_
  refine y_iconst (v := 0) dX12_goes_0 (by decide) ?_
  refine y_ist3_2 dX12_goes_1 rfl ?_
  refine cnt (P := fun k => ∀ h' : Nat → Int32, sV (scT L xs) (d + 6) "LoafFallModel" cX12_goes 3 none Q 2 [some (.ref 239), some (.int (nI N0)), some (.int (nI k))] [] (stR m h' b (goesF k R)) n) N0 ?_ ?_ 0 (by omega) _
  · intro h'
    refine y_iload_n dX12_goes_2 rfl rfl ?_
    refine y_iload_n dX12_goes_3 rfl rfl ?_
    refine y_icmp_ge (tgt := 17) dX12_goes_4 (by decide) (fun h4 => ?_) (fun h4 => absurd (nI_le (a := N0) (b := N0) (Nat.le_refl _) (by omega)) h4)
    refine y_return dX12_goes_17 rfl ?_
    exact hQ _
  · intro k hk hP
    intro h'
    refine y_iload_n dX12_goes_2 rfl rfl ?_
    refine y_iload_n dX12_goes_3 rfl rfl ?_
    refine y_icmp_ge (tgt := 17) dX12_goes_4 (by decide) (fun h4 => absurd h4 (nI_ge (a := k) (b := N0) hk (by omega))) (fun h4 => ?_)
    refine y_aload_n dX12_goes_7 rfl rfl ?_
    refine y_ivV0 dX12_goes_8 mv_X12_226 my_X12_next (Or.inl rfl) sh_239 ?_
    refine c_X12_next hb (goes_ok hw ha k).1 (goes_ok hw ha k).2.1 (fun h2 => ⟨rfl, ?_⟩)
    refine y_iinc3_2 dX12_goes_11 (nI_1 _) rfl ?_
    refine y_goto (tgt := 2) dX12_goes_14 (by decide) ?_
    exact hP _
