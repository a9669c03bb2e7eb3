/-! ===== reading: what it comes to; the component ===== -/
def ixP (x : Int32) : Nat := if x = 121 then 0 else if x = 115 then 1 else if x = 101 then 2 else if x = 119 then 3 else if x = 116 then 4 else 5
def ixS (x : Int32) : Nat := if x = 114 then 0 else if x = 111 then 1 else if x = 107 then 2 else if x = 120 then 3 else if x = 100 then 4 else 5
def loP (a : Nat) : Int32 := [1, 10, 0, 0, 0].getD a 0
def hiP (a : Nat) : Int32 := [9, 99, 9, 9, 9].getD a 0
def usP (a : Nat) : Int32 := [3, 40, 1, 4, 2].getD a 0
noncomputable def fgs (c : Nat → Int32) (q : Nat) : Nat := @ite _ (isFig (c q)) (Classical.propDecidable _) (@ite _ (isFig (c (q + 1))) (Classical.propDecidable _) 2 1) 0
theorem fgs_0 {c : Nat → Int32} {q : Nat} (h : ¬ isFig (c q)) : fgs c q = 0 := by unfold fgs; rw [if_neg h]
theorem fgs_1 {c : Nat → Int32} {q : Nat} (h : isFig (c q)) (h2 : ¬ isFig (c (q + 1))) : fgs c q = 1 := by unfold fgs; rw [if_pos h, if_neg h2]
theorem fgs_2 {c : Nat → Int32} {q : Nat} (h : isFig (c q)) (h2 : isFig (c (q + 1))) : fgs c q = 2 := by unfold fgs; rw [if_pos h, if_pos h2]
theorem fgs_le {c : Nat → Int32} {q : Nat} : fgs c q ≤ 2 := by
  by_cases h : isFig (c q)
  · by_cases h2 : isFig (c (q + 1))
    · rw [fgs_2 h h2]; exact Nat.le_refl _
    · rw [fgs_1 h h2]; omega
  · rw [fgs_0 h]; omega
def numC (c : Nat → Int32) (q : Nat) : Nat → Int32
  | 0 => 0
  | f + 1 => 10 * numC c q f + c (q + f) - 48
theorem numA_C {m : sM} {t s q : Nat} : ∀ f, numA m t s q f = numC (sgA m t s) q f := by
  intro f
  induction f with
  | zero => rfl
  | succ f ih => rw [numA, numC, ih]
/-- a flour read from a place on: the fault or none, the parts, the items -/
noncomputable def rdF (c : Nat → Int32) (s : Nat) : Nat → Nat → (Nat → Int32) → Nat → Int32 × (Nat → Int32) × Nat
  | 0, _, P, k => (-9, P, k)
  | n + 1, p, P, k => if s ≤ p then (-9, P, k) else if c p = 32 then rdF c s n (p + 1) P k else if ixP (c p) = 5 then (nI p, P, k) else if fgs c (p + 1) = 0 ∨ numC c (p + 1) (fgs c (p + 1)) < loP (ixP (c p)) ∨ hiP (ixP (c p)) < numC c (p + 1) (fgs c (p + 1)) then (nI (p + 1 + fgs c (p + 1)), P, k) else rdF c s n (p + 1 + fgs c (p + 1)) (upd P (ixP (c p)) (numC c (p + 1) (fgs c (p + 1)))) (k + 1)
theorem ixP_le (x : Int32) : ixP x ≤ 5 := by unfold ixP; repeat (first | omega | split)
theorem ixS_le (x : Int32) : ixS x ≤ 5 := by unfold ixS; repeat (first | omega | split)
theorem ix_spec {L : Nat → Int32} {f : Int32 → Nat} {x : Int32} (hf : f x = if x = L 0 then 0 else if x = L 1 then 1 else if x = L 2 then 2 else if x = L 3 then 3 else if x = L 4 then 4 else 5) : (∀ i, i < 5 → L i = x → (∀ j, j < i → ¬ L j = x) → f x = i) ∧ ((∀ j, j < 5 → ¬ L j = x) → f x = 5) := by
  refine ⟨fun i hi h1 h2 => ?_, fun h => ?_⟩
  · have : i = 0 ∨ i = 1 ∨ i = 2 ∨ i = 3 ∨ i = 4 := by omega
    rw [hf]
    rcases this with rfl | rfl | rfl | rfl | rfl
    · rw [if_pos h1.symm]
    · rw [if_neg (fun e => h2 0 (by omega) e.symm), if_pos h1.symm]
    · rw [if_neg (fun e => h2 0 (by omega) e.symm), if_neg (fun e => h2 1 (by omega) e.symm), if_pos h1.symm]
    · rw [if_neg (fun e => h2 0 (by omega) e.symm), if_neg (fun e => h2 1 (by omega) e.symm), if_neg (fun e => h2 2 (by omega) e.symm), if_pos h1.symm]
    · rw [if_neg (fun e => h2 0 (by omega) e.symm), if_neg (fun e => h2 1 (by omega) e.symm), if_neg (fun e => h2 2 (by omega) e.symm), if_neg (fun e => h2 3 (by omega) e.symm), if_pos h1.symm]
  · rw [hf, if_neg (fun e => h 0 (by omega) e.symm), if_neg (fun e => h 1 (by omega) e.symm), if_neg (fun e => h 2 (by omega) e.symm), if_neg (fun e => h 3 (by omega) e.symm), if_neg (fun e => h 4 (by omega) e.symm)]
theorem rd_fl {c : Nat → Int32} {s : Nat} : ∀ n p P k, flR P → flR (rdF c s n p P k).2.1 := by
  intro n
  induction n with
  | zero => intro p P k h; exact h
  | succ n ih =>
    intro p P k h
    rw [rdF]
    split
    · exact h
    · split
      · exact ih _ _ _ h
      · split
        · exact h
        · split
          · exact h
          · rename_i h5 hz
            refine ih _ _ _ ?_
            have a5 : ixP (c p) < 5 := by have := ixP_le (c p); omega
            generalize ixP (c p) = a at hz a5 ⊢
            generalize numC c (p + 1) (fgs c (p + 1)) = v at hz ⊢
            have z1 : ¬ v < loP a := fun e => hz (Or.inr (Or.inl e))
            have z2 : ¬ hiP a < v := fun e => hz (Or.inr (Or.inr e))
            obtain ⟨f0, f1, f2, f3, f4⟩ := h
            have : a = 0 ∨ a = 1 ∨ a = 2 ∨ a = 3 ∨ a = 4 := by omega
            rcases this with rfl | rfl | rfl | rfl | rfl
            · obtain ⟨u, u1, u2⟩ := (in_le (M := 9) (x := v) (by decide)).mpr ⟨Int32.le_trans (by decide) (Int32.not_lt.mp z1), Int32.not_lt.mp z2⟩
              refine ⟨⟨u, by rw [updS]; exact u2, ?_, by omega⟩, by rw [updN (by omega)]; exact f1, by rw [updN (by omega)]; exact f2, by rw [updN (by omega)]; exact f3, by rw [updN (by omega)]; exact f4⟩
              have := Int32.not_lt.mp z1
              rw [u2] at this
              exact (nI_leI (a := 1) (by decide) (by omega)).mp this
            · obtain ⟨u, u1, u2⟩ := (in_le (M := 99) (x := v) (by decide)).mpr ⟨Int32.le_trans (by decide) (Int32.not_lt.mp z1), Int32.not_lt.mp z2⟩
              refine ⟨by rw [updN (by omega)]; exact f0, ⟨u, by rw [updS]; exact u2, ?_, by omega⟩, by rw [updN (by omega)]; exact f2, by rw [updN (by omega)]; exact f3, by rw [updN (by omega)]; exact f4⟩
              have := Int32.not_lt.mp z1
              rw [u2] at this
              exact (nI_leI (a := 10) (by decide) (by omega)).mp this
            · obtain ⟨u, u1, u2⟩ := (in_le (M := 9) (x := v) (by decide)).mpr ⟨Int32.not_lt.mp z1, Int32.not_lt.mp z2⟩
              exact ⟨by rw [updN (by omega)]; exact f0, by rw [updN (by omega)]; exact f1, ⟨u, by rw [updS]; exact u2, by omega⟩, by rw [updN (by omega)]; exact f3, by rw [updN (by omega)]; exact f4⟩
            · obtain ⟨u, u1, u2⟩ := (in_le (M := 9) (x := v) (by decide)).mpr ⟨Int32.not_lt.mp z1, Int32.not_lt.mp z2⟩
              exact ⟨by rw [updN (by omega)]; exact f0, by rw [updN (by omega)]; exact f1, by rw [updN (by omega)]; exact f2, ⟨u, by rw [updS]; exact u2, by omega⟩, by rw [updN (by omega)]; exact f4⟩
            · obtain ⟨u, u1, u2⟩ := (in_le (M := 9) (x := v) (by decide)).mpr ⟨Int32.not_lt.mp z1, Int32.not_lt.mp z2⟩
              exact ⟨by rw [updN (by omega)]; exact f0, by rw [updN (by omega)]; exact f1, by rw [updN (by omega)]; exact f2, by rw [updN (by omega)]; exact f3, ⟨u, by rw [updS]; exact u2, by omega⟩⟩
theorem us_fl : flR usP := ⟨⟨3, rfl, by omega, by omega⟩, ⟨40, rfl, by omega, by omega⟩, ⟨1, rfl, by omega⟩, ⟨4, rfl, by omega⟩, ⟨2, rfl, by omega⟩⟩
set_option maxHeartbeats 1000000 in
theorem c_X7_indexOfP {L : Nat} {xs : Nat → Int32} {d : Nat} {m : sM} {n : sN} {Q : sQ} {x : Int32} (hQ1 : ixP x < 5 → Q (some (.int (nI (ixP x)))) m n) (hQ0 : ixP x = 5 → Q (some (.int (-1))) m n) : sRun (scT L xs) (d + 1) yX7_indexOf cX7_indexOf 3 (some .int) [.int x, .ref (100000 + 0)] m n Q := by
  obtain ⟨hs1, hs2⟩ := ix_spec (L := (fun j => [121, 115, 101, 119, 116].getD j 0)) (f := ixP) (x := x) rfl
  refine y_run (own := "LoafFall$Reader") rfl (by decide +kernel) (Nat.le_of_ble_eq_true rfl) rfl ?_
  refine y_iconst (v := 0) dX7_indexOf_0 (by decide) ?_
  refine y_ist3_2 dX7_indexOf_1 rfl ?_
  refine cnt (P := fun k => (∀ j, j < k → ¬ (fun j => [121, 115, 101, 119, 116].getD j 0) j = x) → sV (scT L xs) d "LoafFall$Reader" cX7_indexOf 3 (some .int) Q 2 [some (.int x), some (.ref (100000 + 0)), some (.int (nI k))] [] m n) 5 ?_ ?_ 0 (by omega) (fun j hj => absurd hj (by omega))
  · intro hh
    refine y_iload_n dX7_indexOf_2 rfl rfl ?_
    refine y_aload_n dX7_indexOf_3 rfl rfl ?_
    refine y_slen (v := 5) dX7_indexOf_4 rfl (by decide) ?_
    refine y_icmp_ge (tgt := 23) dX7_indexOf_5 (by decide) (fun h5 => ?_) (fun h5 => absurd (nI_le (a := 5) (b := 5) (Nat.le_refl _) (by decide)) h5)
    refine y_iconst (v := -1) dX7_indexOf_23 (by decide) ?_
    refine y_ireturn dX7_indexOf_24 rfl rfl ?_
    exact hQ0 (hs2 hh)
  · intro k hk hP
    intro hh
    refine y_iload_n dX7_indexOf_2 rfl rfl ?_
    refine y_aload_n dX7_indexOf_3 rfl rfl ?_
    refine y_slen (v := 5) dX7_indexOf_4 rfl (by decide) ?_
    refine y_icmp_ge (tgt := 23) dX7_indexOf_5 (by decide) (fun h5 => absurd h5 (nI_ge (a := k) (b := 5) hk (by decide))) (fun h5 => ?_)
    refine y_aload_n dX7_indexOf_8 rfl rfl ?_
    refine y_iload_n dX7_indexOf_9 rfl rfl ?_
    refine y_saldN dX7_indexOf_10 rfl rfl (by first | omega | decide) (by decide) ?_
    refine y_iload_n dX7_indexOf_11 rfl rfl ?_
    refine y_icmp_ne (tgt := 17) dX7_indexOf_12 (by decide) (fun h12 => ?_) (fun h12 => ?_)
    · refine y_iinc3_2 dX7_indexOf_17 (nI_1 _) rfl ?_
      refine y_goto (tgt := 2) dX7_indexOf_20 (by decide) ?_
      refine hP (fun j hj => ?_)
      by_cases e : j = k
      · rw [e]; exact h12
      · exact hh j (by omega)
    · refine y_iload_n dX7_indexOf_15 rfl rfl ?_
      refine y_ireturn dX7_indexOf_16 rfl rfl ?_
      have e := hs1 k hk h12 hh
      rw [← e]
      exact hQ1 (by rw [e]; exact hk)
set_option maxHeartbeats 1000000 in
theorem c_X7_indexOfS {L : Nat} {xs : Nat → Int32} {d : Nat} {m : sM} {n : sN} {Q : sQ} {x : Int32} (hQ1 : ixS x < 5 → Q (some (.int (nI (ixS x)))) m n) (hQ0 : ixS x = 5 → Q (some (.int (-1))) m n) : sRun (scT L xs) (d + 1) yX7_indexOf cX7_indexOf 3 (some .int) [.int x, .ref (100000 + 4)] m n Q := by
  obtain ⟨hs1, hs2⟩ := ix_spec (L := (fun j => [114, 111, 107, 120, 100].getD j 0)) (f := ixS) (x := x) rfl
  refine y_run (own := "LoafFall$Reader") rfl (by decide +kernel) (Nat.le_of_ble_eq_true rfl) rfl ?_
  refine y_iconst (v := 0) dX7_indexOf_0 (by decide) ?_
  refine y_ist3_2 dX7_indexOf_1 rfl ?_
  refine cnt (P := fun k => (∀ j, j < k → ¬ (fun j => [114, 111, 107, 120, 100].getD j 0) j = x) → sV (scT L xs) d "LoafFall$Reader" cX7_indexOf 3 (some .int) Q 2 [some (.int x), some (.ref (100000 + 4)), some (.int (nI k))] [] m n) 5 ?_ ?_ 0 (by omega) (fun j hj => absurd hj (by omega))
  · intro hh
    refine y_iload_n dX7_indexOf_2 rfl rfl ?_
    refine y_aload_n dX7_indexOf_3 rfl rfl ?_
    refine y_slen (v := 5) dX7_indexOf_4 rfl (by decide) ?_
    refine y_icmp_ge (tgt := 23) dX7_indexOf_5 (by decide) (fun h5 => ?_) (fun h5 => absurd (nI_le (a := 5) (b := 5) (Nat.le_refl _) (by decide)) h5)
    refine y_iconst (v := -1) dX7_indexOf_23 (by decide) ?_
    refine y_ireturn dX7_indexOf_24 rfl rfl ?_
    exact hQ0 (hs2 hh)
  · intro k hk hP
    intro hh
    refine y_iload_n dX7_indexOf_2 rfl rfl ?_
    refine y_aload_n dX7_indexOf_3 rfl rfl ?_
    refine y_slen (v := 5) dX7_indexOf_4 rfl (by decide) ?_
    refine y_icmp_ge (tgt := 23) dX7_indexOf_5 (by decide) (fun h5 => absurd h5 (nI_ge (a := k) (b := 5) hk (by decide))) (fun h5 => ?_)
    refine y_aload_n dX7_indexOf_8 rfl rfl ?_
    refine y_iload_n dX7_indexOf_9 rfl rfl ?_
    refine y_saldN dX7_indexOf_10 rfl rfl (by first | omega | decide) (by decide) ?_
    refine y_iload_n dX7_indexOf_11 rfl rfl ?_
    refine y_icmp_ne (tgt := 17) dX7_indexOf_12 (by decide) (fun h12 => ?_) (fun h12 => ?_)
    · refine y_iinc3_2 dX7_indexOf_17 (nI_1 _) rfl ?_
      refine y_goto (tgt := 2) dX7_indexOf_20 (by decide) ?_
      refine hP (fun j hj => ?_)
      by_cases e : j = k
      · rw [e]; exact h12
      · exact hh j (by omega)
    · refine y_iload_n dX7_indexOf_15 rfl rfl ?_
      refine y_ireturn dX7_indexOf_16 rfl rfl ?_
      have e := hs1 k hk h12 hh
      rw [← e]
      exact hQ1 (by rw [e]; exact hk)
set_option maxHeartbeats 1000000 in
theorem c_X4_beUsual {L : Nat} {xs : Nat → Int32} {d : Nat} {m : sM} {n : sN} {Q : sQ} {F0 : Nat} (hF : isFl F0) (hQ : ∀ m', (∀ a, a ≠ F0 + 1 → m' a = m a) → (∀ i, i < 5 → m' (F0 + 1) i = usP i) → Q none m' n) : sRun (scT L xs) (d + 1) yX4_beUsual cX4_beUsual 2 none [.ref F0] m n Q := by
  refine y_run (own := "LoafFall$Flour") rfl (by decide +kernel) (Nat.le_of_ble_eq_true rfl) rfl ?_
  refine y_iconst (v := 0) dX4_beUsual_0 (by decide) ?_
  refine y_ist2_1 dX4_beUsual_1 rfl ?_
  refine cnt (P := fun k => ∀ m', (∀ a, a ≠ F0 + 1 → m' a = m a) → (∀ i, i < k → m' (F0 + 1) i = usP i) → sV (scT L xs) d "LoafFall$Flour" cX4_beUsual 2 none Q 2 [some (.ref F0), some (.int (nI k))] [] m' n) 5 ?_ ?_ 0 (by omega) m (fun _ _ => rfl) (fun i hi => absurd hi (by omega))
  · intro m' b1 b2
    refine y_iload_n dX4_beUsual_2 rfl rfl ?_
    refine y_iconst (v := 5) dX4_beUsual_3 (by decide) ?_
    refine y_icmp_ge (tgt := 24) dX4_beUsual_4 (by decide) (fun h4 => ?_) (fun h4 => absurd (nI_le (a := 5) (b := 5) (Nat.le_refl _) (by decide)) h4)
    refine y_return dX4_beUsual_24 rfl ?_
    exact hQ m' b1 b2
  · intro k hk hP
    intro m' b1 b2
    refine y_iload_n dX4_beUsual_2 rfl rfl ?_
    refine y_iconst (v := 5) dX4_beUsual_3 (by decide) ?_
    refine y_icmp_ge (tgt := 24) dX4_beUsual_4 (by decide) (fun h4 => absurd h4 (nI_ge (a := k) (b := 5) hk (by decide))) (fun h4 => ?_)
    refine y_aload_n dX4_beUsual_7 rfl rfl ?_
    refine y_getr dX4_beUsual_8 gf_X4_9 hF.1 rfl ?_
    refine y_iload_n dX4_beUsual_11 rfl rfl ?_
    refine y_gets dX4_beUsual_12 gs_X4_15 ?_
    refine y_iload_n dX4_beUsual_15 rfl rfl ?_
    refine y_saldN dX4_beUsual_16 rfl rfl (by first | omega | decide) (by decide) ?_
    refine y_iastN dX4_beUsual_17 hF.2 rfl (by first | omega | decide) (by decide) ?_
    refine y_iinc2_1 dX4_beUsual_18 (nI_1 _) rfl ?_
    refine y_goto (tgt := 2) dX4_beUsual_21 (by decide) ?_
    refine hP _ (fun a ha => by rw [s_upN ha]; exact b1 a ha) (fun i hi => ?_)
    rw [s_upS, upd_ap]
    by_cases e : i = k
    · rw [if_pos e, e]; rfl
    · rw [if_neg e]; exact b2 i (by omega)
set_option maxHeartbeats 1000000 in
theorem c_X7_readItem {L : Nat} {xs : Nat → Int32} {d : Nat} {m : sM} {n : sN} {Q : sQ} {W0 s p k : Nat} {P c : Nat → Int32} (hW : isTx W0) (hWo : 122 ≤ W0) (hs : m W0 1 = nI s) (hs2 : s ≤ 80) (hc : c = sgA m W0 s) (hp : m 28 3 = nI p) (hp2 : p < 90) (hk : m 28 2 = nI k) (hP : ∀ i, i < 5 → m 30 i = P i) (hQ1 : ixP (c p) = 5 → Q (some (.int 0)) m n) (hQ2 : ixP (c p) < 5 → (fgs c (p + 1) = 0 ∨ numC c (p + 1) (fgs c (p + 1)) < loP (ixP (c p)) ∨ hiP (ixP (c p)) < numC c (p + 1) (fgs c (p + 1))) → ∀ m', (∀ a, a ≠ 28 → a ≠ 30 → m' a = m a) → m' 28 3 = nI (p + 1 + fgs c (p + 1)) → Q (some (.int 0)) m' n) (hQ3 : ixP (c p) < 5 → ¬ (fgs c (p + 1) = 0 ∨ numC c (p + 1) (fgs c (p + 1)) < loP (ixP (c p)) ∨ hiP (ixP (c p)) < numC c (p + 1) (fgs c (p + 1))) → ∀ m', (∀ a, a ≠ 28 → a ≠ 30 → m' a = m a) → m' 28 3 = nI (p + 1 + fgs c (p + 1)) → m' 28 2 = nI (k + 1) → (∀ i, i < 5 → m' 30 i = upd P (ixP (c p)) (numC c (p + 1) (fgs c (p + 1))) i) → Q (some (.int 1)) m' n) : sRun (scT L xs) (d + 4) yX7_readItem cX7_readItem 5 (some .boolean) [.ref 28, .ref W0] m n Q := by
  have hc : sgA m W0 s = c := hc.symm
  refine y_run (own := "LoafFall$Reader") rfl (by decide +kernel) (Nat.le_of_ble_eq_true rfl) rfl ?_
  refine y_aload_n dX7_readItem_0 rfl rfl ?_
  refine y_aload_n dX7_readItem_1 rfl rfl ?_
  refine y_geti dX7_readItem_2 gf_X7_32 sh_28 rfl ?_
  rw [hp]
  refine y_ivI1 dX7_readItem_5 mv_X7_40 my_X10_signAt (Or.inl rfl) hW.1 ?_
  refine c_X10_signAt (i := p) hW hs hs2 rfl (by omega) ⟨_, rfl, ?_⟩
  rw [hc]
  refine y_gets dX7_readItem_8 gs_X7_57 ?_
  refine y_isI2 dX7_readItem_11 ms_X7_61 my_X7_indexOf (Or.inl rfl) ?_
  refine c_X7_indexOfP (fun a5 => ⟨_, rfl, ?_⟩) (fun a5 => ⟨_, rfl, ?_⟩)
  · obtain ⟨a, ha⟩ : ∃ a, a = ixP (c p) := ⟨_, rfl⟩
    rw [← ha] at a5 hQ2 hQ3 ⊢
    refine y_ist5_2 dX7_readItem_14 rfl ?_
    refine y_iload_n dX7_readItem_15 rfl rfl ?_
    refine y_if_ge (tgt := 21) dX7_readItem_16 (by decide) (fun h16 => ?_) (fun h16 => absurd (nI_pos' (by omega)) h16)
    refine y_aload_n dX7_readItem_21 rfl rfl ?_
    refine y_dup dX7_readItem_22 rfl ?_
    refine y_geti dX7_readItem_23 gf_X7_32 sh_28 rfl ?_
    rw [hp]
    refine y_iconst (v := 1) dX7_readItem_26 (by decide) ?_
    refine y_iaddN (a := p) (b := 1) dX7_readItem_27 rfl rfl ?_
    refine y_puti dX7_readItem_28 pf_X7_32 sh_28 rfl rfl rfl ?_
    generalize hm1 : s_up m 28 (upd (m 28) 3 (nI (p + 1))) = m1
    have o1 : ∀ a, a ≠ 28 → m1 a = m a := fun a ha => by rw [← hm1, s_upN ha]
    have p1 : m1 28 3 = nI (p + 1) := by rw [← hm1, s_upS, updS]
    have k1 : m1 28 2 = nI k := by rw [← hm1, s_upS, updN (by omega)]; exact hk
    have hs1 : m1 W0 1 = nI s := by rw [o1 _ (by omega)]; exact hs
    have c1 : sgA m1 W0 s = c := by rw [← hc]; unfold sgA; rw [o1 _ (by omega)]
    obtain ⟨f, hf⟩ : ∃ f, f = fgs c (p + 1) := ⟨_, rfl⟩
    rw [← hf] at hQ2 hQ3
    have f2 : f ≤ 2 := by rw [hf]; exact fgs_le
    obtain ⟨v, hv⟩ : ∃ v, v = numC c (p + 1) f := ⟨_, rfl⟩
    rw [← hv] at hQ2 hQ3
    suffices hh : sV (scT L xs) (d + 3) "LoafFall$Reader" cX7_readItem 5 (some .boolean) Q 39 [some (.ref 28), some (.ref W0), some (.int (nI a)), none, none] [.int (nI f)] m1 n by
      refine y_aload_n dX7_readItem_31 rfl rfl ?_
      refine y_aload_n dX7_readItem_32 rfl rfl ?_
      refine y_geti dX7_readItem_33 gf_X7_32 sh_28 rfl ?_
      rw [p1]
      refine y_ivI1 dX7_readItem_36 mv_X7_65 my_X10_figuresFrom (Or.inl rfl) hW.1 ?_
      refine c_X10_figuresFrom (i := p + 1) hW hs1 hs2 rfl (by omega) (fun q1 => ⟨_, rfl, ?_⟩) (fun q1 q2 => ⟨_, rfl, ?_⟩) (fun q1 q2 => ⟨_, rfl, ?_⟩)
      · rw [c1] at q1
        rw [show f = 0 from hf.trans (fgs_0 q1)] at hh
        exact hh
      · rw [c1] at q1 q2
        rw [show f = 1 from hf.trans (fgs_1 q1 q2)] at hh
        exact hh
      · rw [c1] at q1 q2
        rw [show f = 2 from hf.trans (fgs_2 q1 q2)] at hh
        exact hh
    refine y_ist5_3 dX7_readItem_39 rfl ?_
    refine y_aload_n dX7_readItem_40 rfl rfl ?_
    refine y_aload_n dX7_readItem_41 rfl rfl ?_
    refine y_geti dX7_readItem_42 gf_X7_32 sh_28 rfl ?_
    rw [p1]
    refine y_iload_n dX7_readItem_45 rfl rfl ?_
    refine y_ivI2 dX7_readItem_46 mv_X7_68 my_X10_numberFrom (Or.inl rfl) hW.1 ?_
    refine c_X10_numberFrom (i := p + 1) (f := f) hW hs1 hs2 rfl (by omega) rfl (by omega) ⟨_, rfl, ?_⟩
    rw [numA_C, c1, ← hv]
    refine y_ist5_4 dX7_readItem_49 rfl ?_
    refine y_aload_n dX7_readItem_51 rfl rfl ?_
    refine y_dup dX7_readItem_52 rfl ?_
    refine y_geti dX7_readItem_53 gf_X7_32 sh_28 rfl ?_
    rw [p1]
    refine y_iload_n dX7_readItem_56 rfl rfl ?_
    refine y_iaddN (a := (p + 1)) (b := f) dX7_readItem_57 rfl rfl ?_
    refine y_puti dX7_readItem_58 pf_X7_32 sh_28 rfl rfl rfl ?_
    refine y_iload_n dX7_readItem_61 rfl rfl ?_
    generalize hm2 : s_up m1 28 (upd (m1 28) 3 (nI (p + 1 + f))) = m2
    have o2 : ∀ a, a ≠ 28 → m2 a = m a := fun a ha => by rw [← hm2, s_upN ha]; exact o1 a ha
    have p2 : m2 28 3 = nI (p + 1 + f) := by rw [← hm2, s_upS, updS]
    have k2 : m2 28 2 = nI k := by rw [← hm2, s_upS, updN (by omega)]; exact k1
    refine y_if_eq (tgt := 85) dX7_readItem_62 (by decide) (fun h62 => ?_) (fun h62 => ?_)
    · refine y_iconst (v := 0) dX7_readItem_85 (by decide) ?_
      refine y_ireturn dX7_readItem_86 rfl rfl ?_
      refine hQ2 a5 ?_ m2 (fun a h1 h2 => o2 a h1) p2
      first
        | exact Or.inl ((nI_eq (b := 0) (by omega) (by decide)).mp h62)
        | exact Or.inr (Or.inl h72)
        | exact Or.inr (Or.inr (Int32.not_le.mp h82))
    · refine y_iload dX7_readItem_65 rfl ?_
      refine y_gets dX7_readItem_67 gs_X7_72 ?_
      refine y_iload_n dX7_readItem_70 rfl rfl ?_
      refine y_saldN dX7_readItem_71 rfl rfl (by first | omega | decide) (by decide) ?_
      refine y_icmp_lt (tgt := 85) dX7_readItem_72 (by decide) (fun h72 => ?_) (fun h72 => ?_)
      · refine y_iconst (v := 0) dX7_readItem_85 (by decide) ?_
        refine y_ireturn dX7_readItem_86 rfl rfl ?_
        refine hQ2 a5 ?_ m2 (fun a h1 h2 => o2 a h1) p2
        first
          | exact Or.inl ((nI_eq (b := 0) (by omega) (by decide)).mp h62)
          | exact Or.inr (Or.inl h72)
          | exact Or.inr (Or.inr (Int32.not_le.mp h82))
      · refine y_iload dX7_readItem_75 rfl ?_
        refine y_gets dX7_readItem_77 gs_X7_75 ?_
        refine y_iload_n dX7_readItem_80 rfl rfl ?_
        refine y_saldN dX7_readItem_81 rfl rfl (by first | omega | decide) (by decide) ?_
        refine y_icmp_le (tgt := 87) dX7_readItem_82 (by decide) (fun h82 => ?_) (fun h82 => ?_)
        · refine y_aload_n dX7_readItem_87 rfl rfl ?_
          refine y_getr dX7_readItem_88 gf_X7_12 sh_28 rfl ?_
          refine y_getr dX7_readItem_91 gf_X7_78 sh_29 rfl ?_
          refine y_iload_n dX7_readItem_94 rfl rfl ?_
          refine y_iload dX7_readItem_95 rfl ?_
          refine y_iastN dX7_readItem_97 sh_30 rfl (by first | omega | decide) (by decide) ?_
          refine y_aload_n dX7_readItem_98 rfl rfl ?_
          refine y_dup dX7_readItem_99 rfl ?_
          refine y_geti dX7_readItem_100 gf_X7_28 sh_28 rfl ?_
          rw [s_upN (show 28 ≠ 30 by omega), k2]
          refine y_iconst (v := 1) dX7_readItem_103 (by decide) ?_
          refine y_iaddN (a := k) (b := 1) dX7_readItem_104 rfl rfl ?_
          refine y_puti dX7_readItem_105 pf_X7_28 sh_28 rfl rfl rfl ?_
          refine y_iconst (v := 1) dX7_readItem_108 (by decide) ?_
          refine y_ireturn dX7_readItem_109 rfl rfl ?_
          refine hQ3 a5 (fun z => z.elim (fun e => h62 (by rw [e]; rfl)) (fun z => z.elim h72 (fun e => absurd h82 (Int32.not_le.mpr e)))) _ (fun a h1 h2 => by rw [s_upN h1, s_upN h2]; exact o2 a h1) (by rw [s_upS, updN (by omega), s_upN (by omega)]; exact p2) (by rw [s_upS, updS]) (fun i hi => ?_)
          rw [s_upN (by omega), s_upS, upd_ap, upd_ap, o2 30 (by omega)]
          by_cases e : i = a
          · rw [if_pos e, if_pos e]
          · rw [if_neg e, if_neg e]; exact hP i hi
        · refine y_iconst (v := 0) dX7_readItem_85 (by decide) ?_
          refine y_ireturn dX7_readItem_86 rfl rfl ?_
          refine hQ2 a5 ?_ m2 (fun a h1 h2 => o2 a h1) p2
          first
            | exact Or.inl ((nI_eq (b := 0) (by omega) (by decide)).mp h62)
            | exact Or.inr (Or.inl h72)
            | exact Or.inr (Or.inr (Int32.not_le.mp h82))
  · refine y_ist5_2 dX7_readItem_14 rfl ?_
    refine y_iload_n dX7_readItem_15 rfl rfl ?_
    refine y_if_ge (tgt := 21) dX7_readItem_16 (by decide) (fun h16 => absurd h16 (by decide)) (fun h16 => ?_)
    refine y_iconst (v := 0) dX7_readItem_19 (by decide) ?_
    refine y_ireturn dX7_readItem_20 rfl rfl ?_
    exact hQ1 a5
set_option maxHeartbeats 1000000 in
theorem c_X7_readFlour {L : Nat} {xs : Nat → Int32} {d : Nat} {m : sM} {n : sN} {Q : sQ} {W0 s : Nat} (hW : isTx W0) (hWo : 122 ≤ W0) (hs : m W0 1 = nI s) (hs2 : s ≤ 80) (hQ : ∀ m', (∀ a, a < 28 ∨ 35 ≤ a → m' a = m a) → ((rdF (sgA m W0 s) s 80 0 usP 0).1 = -9 → (∀ i, i < 5 → m' 30 i = (rdF (sgA m W0 s) s 80 0 usP 0).2.1 i) ∧ m' 28 2 = nI (rdF (sgA m W0 s) s 80 0 usP 0).2.2 ∧ m' 29 1 = 1) → Q (some (.int (rdF (sgA m W0 s) s 80 0 usP 0).1)) m' n) : sRun (scT L xs) (d + 5) yX7_readFlour cX7_readFlour 3 (some .int) [.ref 28, .ref W0] m n Q := by
  obtain ⟨c, hc⟩ : ∃ c, c = sgA m W0 s := ⟨_, rfl⟩
  rw [← hc] at hQ
  refine y_run (own := "LoafFall$Reader") rfl (by decide +kernel) (Nat.le_of_ble_eq_true rfl) rfl ?_
  refine y_aload_n dX7_readFlour_0 rfl rfl ?_
  refine y_getr dX7_readFlour_1 gf_X7_12 sh_28 rfl ?_
  refine y_ivV0 dX7_readFlour_4 mv_X7_25 my_X4_beUsual (Or.inl rfl) sh_29 ?_
  refine c_X4_beUsual fl29 (fun m1 b1 b2 => ⟨rfl, ?_⟩)
  refine y_aload_n dX7_readFlour_7 rfl rfl ?_
  refine y_iconst (v := 0) dX7_readFlour_8 (by decide) ?_
  refine y_puti dX7_readFlour_9 pf_X7_28 sh_28 rfl rfl rfl ?_
  refine y_aload_n dX7_readFlour_12 rfl rfl ?_
  refine y_iconst (v := 0) dX7_readFlour_13 (by decide) ?_
  refine y_puti dX7_readFlour_14 pf_X7_32 sh_28 rfl rfl rfl ?_
  refine y_iconst (v := 0) dX7_readFlour_17 (by decide) ?_
  refine y_ist3_2 dX7_readFlour_18 rfl ?_
  refine cnt (P := fun i => ∀ m' p P k, (∀ a, a < 28 ∨ 31 ≤ a → m' a = m a) → m' 28 3 = nI p → p < 90 → m' 28 2 = nI k → (∀ j, j < 5 → m' 30 j = P j) → (∀ m5, (∀ a, a < 28 ∨ 35 ≤ a → m5 a = m a) → ((rdF c s (80 - i) p P k).1 = -9 → (∀ j0, j0 < 5 → m5 30 j0 = (rdF c s (80 - i) p P k).2.1 j0) ∧ m5 28 2 = nI (rdF c s (80 - i) p P k).2.2 ∧ m5 29 1 = 1) → Q (some (.int (rdF c s (80 - i) p P k).1)) m5 n) → sV (scT L xs) (d + 4) "LoafFall$Reader" cX7_readFlour 3 (some .int) Q 19 [some (.ref 28), some (.ref W0), some (.int (nI i))] [] m' n) 80 ?_ ?_ 0 (by omega) _ 0 usP 0 (fun a ha => by rw [s_upN (by omega), s_upN (by omega)]; exact b1 a (by omega)) (by rw [s_upS, updS]; rfl) (by omega) (by rw [s_upS, updN (by omega), s_upS, updS]; rfl) (fun j hj => by rw [s_upN (by omega), s_upN (by omega)]; exact b2 j hj) hQ
  · intro m' p P k v1 v2 v3 v4 v5 q
    have sz : m' W0 1 = nI s := by rw [v1 _ (by omega)]; exact hs
    have c1 : c = sgA m' W0 s := by rw [hc]; unfold sgA; rw [v1 _ (by omega)]
    refine y_iload_n dX7_readFlour_19 rfl rfl ?_
    refine y_bipush (v := 80) dX7_readFlour_20 (by decide) ?_
    refine y_icmp_ge (tgt := 81) dX7_readFlour_22 (by decide) (fun h22 => ?_) (fun h22 => absurd (nI_le (a := 80) (b := 80) (Nat.le_refl _) (by decide)) h22)
    first
      | (have hle : s ≤ p := (nI_leI (by omega) (by omega)).mp h33
         rw [if_pos hle] at st
         rw [st] at q)
      | (rw [show rdF c s (80 - 80) p P k = (-9, P, k) from rfl] at q)
    refine y_aload_n dX7_readFlour_81 rfl rfl ?_
    refine y_getr dX7_readFlour_82 gf_X7_12 sh_28 rfl ?_
    refine y_iconst (v := 1) dX7_readFlour_85 (by decide) ?_
    refine y_puti dX7_readFlour_86 pf_X7_48 sh_29 rfl rfl rfl ?_
    refine y_bipush (v := -9) dX7_readFlour_89 (by decide) ?_
    refine y_ireturn dX7_readFlour_91 rfl rfl ?_
    refine q _ (fun a ha => by rw [s_upN (by omega)]; exact v1 a (by omega)) ?_
    intro _
    exact ⟨fun i hi => by rw [s_upN (by omega)]; exact v5 i hi, by rw [s_upN (by omega)]; exact v4, by rw [s_upS, updS]⟩
  · intro i hk hP
    intro m' p P k v1 v2 v3 v4 v5 q
    have sz : m' W0 1 = nI s := by rw [v1 _ (by omega)]; exact hs
    have c1 : c = sgA m' W0 s := by rw [hc]; unfold sgA; rw [v1 _ (by omega)]
    have st : ∀ n p P k, rdF c s (n + 1) p P k = if s ≤ p then (-9, P, k) else if c p = 32 then rdF c s n (p + 1) P k else if ixP (c p) = 5 then (nI p, P, k) else if fgs c (p + 1) = 0 ∨ numC c (p + 1) (fgs c (p + 1)) < loP (ixP (c p)) ∨ hiP (ixP (c p)) < numC c (p + 1) (fgs c (p + 1)) then (nI (p + 1 + fgs c (p + 1)), P, k) else rdF c s n (p + 1 + fgs c (p + 1)) (upd P (ixP (c p)) (numC c (p + 1) (fgs c (p + 1)))) (k + 1) := fun n p P k => by rw [rdF]
    have e80 : 80 - i = (80 - (i + 1)) + 1 := by omega
    rw [e80] at q
    have st := st (80 - (i + 1)) p P k
    refine y_iload_n dX7_readFlour_19 rfl rfl ?_
    refine y_bipush (v := 80) dX7_readFlour_20 (by decide) ?_
    refine y_icmp_ge (tgt := 81) dX7_readFlour_22 (by decide) (fun h22 => absurd h22 (nI_ge (a := i) (b := 80) hk (by decide))) (fun h22 => ?_)
    refine y_aload_n dX7_readFlour_25 rfl rfl ?_
    refine y_geti dX7_readFlour_26 gf_X7_32 sh_28 rfl ?_
    rw [v2]
    refine y_aload_n dX7_readFlour_29 rfl rfl ?_
    refine y_geti dX7_readFlour_30 gf_X7_35 hW.1 rfl ?_
    rw [sz]
    refine y_icmp_ge (tgt := 81) dX7_readFlour_33 (by decide) (fun h33 => ?_) (fun h33 => ?_)
    · first
        | (have hle : s ≤ p := (nI_leI (by omega) (by omega)).mp h33
           rw [if_pos hle] at st
           rw [st] at q)
        | (rw [show rdF c s (80 - 80) p P k = (-9, P, k) from rfl] at q)
      refine y_aload_n dX7_readFlour_81 rfl rfl ?_
      refine y_getr dX7_readFlour_82 gf_X7_12 sh_28 rfl ?_
      refine y_iconst (v := 1) dX7_readFlour_85 (by decide) ?_
      refine y_puti dX7_readFlour_86 pf_X7_48 sh_29 rfl rfl rfl ?_
      refine y_bipush (v := -9) dX7_readFlour_89 (by decide) ?_
      refine y_ireturn dX7_readFlour_91 rfl rfl ?_
      refine q _ (fun a ha => by rw [s_upN (by omega)]; exact v1 a (by omega)) ?_
      intro _
      exact ⟨fun i hi => by rw [s_upN (by omega)]; exact v5 i hi, by rw [s_upN (by omega)]; exact v4, by rw [s_upS, updS]⟩
    · have hlt : ¬ s ≤ p := fun z => h33 (nI_le z (by omega))
      rw [if_neg hlt] at st
      refine y_aload_n dX7_readFlour_36 rfl rfl ?_
      refine y_aload_n dX7_readFlour_37 rfl rfl ?_
      refine y_geti dX7_readFlour_38 gf_X7_32 sh_28 rfl ?_
      rw [v2]
      refine y_ivI1 dX7_readFlour_41 mv_X7_40 my_X10_signAt (Or.inl rfl) hW.1 ?_
      refine c_X10_signAt (i := p) hW sz hs2 rfl (by omega) ⟨_, rfl, ?_⟩
      rw [← c1]
      refine y_bipush (v := 32) dX7_readFlour_44 (by decide) ?_
      refine y_icmp_ne (tgt := 62) dX7_readFlour_46 (by decide) (fun h46 => ?_) (fun h46 => ?_)
      · rw [if_neg h46] at st
        refine y_aload_n dX7_readFlour_62 rfl rfl ?_
        refine y_aload_n dX7_readFlour_63 rfl rfl ?_
        refine y_ivI1 dX7_readFlour_64 mv_X7_44 my_X7_readItem (Or.inl rfl) sh_28 ?_
        refine c_X7_readItem (P := P) (c := c) (p := p) (k := k) (s := s) hW hWo sz hs2 c1 v2 (by omega) v4 v5 (fun z5 => ⟨_, rfl, ?_⟩) (fun z5 zf m5 w1 w2 => ⟨_, rfl, ?_⟩) (fun z5 zf m5 w1 w2 w3 w4 => ⟨_, rfl, ?_⟩)
        · refine y_if_ne (tgt := 75) dX7_readFlour_67 (by decide) (fun h67 => absurd (by decide) h67) (fun h67 => ?_)
          refine y_aload_n dX7_readFlour_70 rfl rfl ?_
          refine y_geti dX7_readFlour_71 gf_X7_32 sh_28 rfl ?_
          first | rw [w2] | rw [v2]
          refine y_ireturn dX7_readFlour_74 rfl rfl ?_
          first
            | (rw [if_neg (Nat.ne_of_lt z5), if_pos zf] at st
               rw [st] at q
               exact q m5 (fun a ha => by rw [w1 a (by omega) (by omega)]; exact v1 a (by omega)) (fun e => absurd e (nI_n9' (by have := fgs_le (c := c) (q := p + 1); omega))))
            | (rw [if_pos z5] at st
               rw [st] at q
               exact q m' (fun a ha => v1 a (by omega)) (fun e => absurd e (nI_n9' (by omega))))
        · refine y_if_ne (tgt := 75) dX7_readFlour_67 (by decide) (fun h67 => absurd (by decide) h67) (fun h67 => ?_)
          refine y_aload_n dX7_readFlour_70 rfl rfl ?_
          refine y_geti dX7_readFlour_71 gf_X7_32 sh_28 rfl ?_
          first | rw [w2] | rw [v2]
          refine y_ireturn dX7_readFlour_74 rfl rfl ?_
          first
            | (rw [if_neg (Nat.ne_of_lt z5), if_pos zf] at st
               rw [st] at q
               exact q m5 (fun a ha => by rw [w1 a (by omega) (by omega)]; exact v1 a (by omega)) (fun e => absurd e (nI_n9' (by have := fgs_le (c := c) (q := p + 1); omega))))
            | (rw [if_pos z5] at st
               rw [st] at q
               exact q m' (fun a ha => v1 a (by omega)) (fun e => absurd e (nI_n9' (by omega))))
        · refine y_if_ne (tgt := 75) dX7_readFlour_67 (by decide) (fun h67 => ?_) (fun h67 => absurd h67 (by decide))
          refine y_iinc3_2 dX7_readFlour_75 (nI_1 _) rfl ?_
          refine y_goto (tgt := 19) dX7_readFlour_78 (by decide) ?_
          first
            | (rw [if_neg (Nat.ne_of_lt z5), if_neg zf] at st
               rw [st] at q
               exact hP m5 _ _ _ (fun a ha => by rw [w1 a (by omega) (by omega)]; exact v1 a ha) w2 (by have := fgs_le (c := c) (q := p + 1); omega) w3 w4 q)
            | exact hP _ (p + 1) P k (fun a ha => by rw [s_upN (by omega)]; exact v1 a ha) (by rw [s_upS, updS]) (by omega) (by rw [s_upS, updN (by omega)]; exact v4) (fun j hj => by rw [s_upN (by omega)]; exact v5 j hj) q
      · rw [if_pos h46] at st
        rw [st] at q
        refine y_aload_n dX7_readFlour_49 rfl rfl ?_
        refine y_dup dX7_readFlour_50 rfl ?_
        refine y_geti dX7_readFlour_51 gf_X7_32 sh_28 rfl ?_
        rw [v2]
        refine y_iconst (v := 1) dX7_readFlour_54 (by decide) ?_
        refine y_iaddN (a := p) (b := 1) dX7_readFlour_55 rfl rfl ?_
        refine y_puti dX7_readFlour_56 pf_X7_32 sh_28 rfl rfl rfl ?_
        refine y_goto (tgt := 75) dX7_readFlour_59 (by decide) ?_
        refine y_iinc3_2 dX7_readFlour_75 (nI_1 _) rfl ?_
        refine y_goto (tgt := 19) dX7_readFlour_78 (by decide) ?_
        first
          | (rw [if_neg (Nat.ne_of_lt z5), if_neg zf] at st
             rw [st] at q
             exact hP m5 _ _ _ (fun a ha => by rw [w1 a (by omega) (by omega)]; exact v1 a ha) w2 (by have := fgs_le (c := c) (q := p + 1); omega) w3 w4 q)
          | exact hP _ (p + 1) P k (fun a ha => by rw [s_upN (by omega)]; exact v1 a ha) (by rw [s_upS, updS]) (by omega) (by rw [s_upS, updN (by omega)]; exact v4) (fun j hj => by rw [s_upN (by omega)]; exact v5 j hj) q
