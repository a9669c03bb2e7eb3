/-! ===== reading, the reference ===== -/
def fq (m M : sM) : Prop := (∀ a, a ≠ 239 → a ≠ 251 → a ≠ 252 → M a = m a) ∧ ∀ j, (j < 15 ∨ 19 ≤ j) → M 239 j = m 239 j
theorem fq.rf {m : sM} : fq m m := ⟨fun _ _ _ _ => rfl, fun _ _ => rfl⟩
theorem fq.tr {m m1 m2 : sM} (h : fq m m1) (h' : fq m1 m2) : fq m m2 := ⟨fun a x y z => (h'.1 a x y z).trans (h.1 a x y z), fun j hj => (h'.2 j hj).trans (h.2 j hj)⟩
theorem fq.fr {m M : sM} (h : fq m M) : frM m M := ⟨fun a ha => h.1 a (by omega) (by omega) (by omega), ⟨h.2 0 (by omega), h.2 2 (by omega), h.2 28 (by omega)⟩, fun p _ => by rw [h.1 254 (by omega) (by omega) (by omega)]⟩
theorem fq.up9 {m : sM} {j : Nat} {v : Int32} (h : 15 ≤ j) (h2 : j < 19) : fq m (s_up m 239 (upd (m 239) j v)) := ⟨fun a h1 _ _ => s_upN h1, fun i hi => by rw [s_upS, updN (by omega)]⟩
theorem fq.up1 {m : sM} {f : Nat → Int32} {a : Nat} (h : a = 251 ∨ a = 252) : fq m (s_up m a f) := ⟨fun b h1 h2 h3 => s_upN (by omega), fun j _ => by rw [s_upN (by omega)]⟩
/-- the text t of size s has the signs c -/
def tX (m : sM) (t s : Nat) (c : Nat → Int32) : Prop := t < 4 ∧ s ≤ 80 ∧ m 244 t = nI s ∧ (∀ i, i < s → m 245 (80 * t + i) = c i) ∧ ∀ i, s ≤ i → c i = 1000
theorem tX.m {m M : sM} {t s : Nat} {c : Nat → Int32} (h : tX m t s c) (f : fq m M) : tX M t s c := by
  obtain ⟨a, b, e, g, k⟩ := h
  refine ⟨a, b, ?_, fun i hi => ?_, k⟩
  · rw [f.1 244 (by omega) (by omega) (by omega)]; exact e
  · rw [f.1 245 (by omega) (by omega) (by omega)]; exact g i hi
def btC (c : Nat → Int32) (s i : Nat) : Int32 := if i < s then c i else 0
theorem bt_in {c : Nat → Int32} {s i : Nat} (h : i < s) : btC c s i = c i := if_pos h
theorem bt_fig {c : Nat → Int32} {s i : Nat} (hc : ∀ i, s ≤ i → c i = 1000) : (48 ≤ btC c s i ∧ btC c s i ≤ 57) ↔ isFig (c i) := by
  by_cases h : i < s
  · rw [bt_in h]; exact Iff.rfl
  · unfold btC isFig
    rw [if_neg h, hc i (by omega)]
    decide
theorem bt_eq {c : Nat → Int32} {s i : Nat} {x : Int32} (hc : ∀ i, s ≤ i → c i = 1000) (h0 : ¬ (0 : Int32) = x) (h1 : ¬ (1000 : Int32) = x) : btC c s i = x ↔ c i = x := by
  by_cases h : i < s
  · rw [bt_in h]
  · unfold btC
    rw [if_neg h, hc i (by omega)]
    exact ⟨fun z => absurd z h0, fun z => absurd z h1⟩
theorem fig_9 {x : Int32} : (0 ≤ x - 48 ∧ x - 48 ≤ 9) ↔ isFig x := by
  constructor
  · rintro ⟨h1, h2⟩
    obtain ⟨k, k1, k2⟩ := (in_le (M := 9) (x := x - 48) (by decide)).mpr ⟨h1, h2⟩
    have e : x = nI (k + 48) := by
      rw [← nI_add, ← k2]
      show x = x - 48 + 48
      rw [Int32.sub_add_cancel]
    rw [e]
    exact ⟨nI_le (a := 48) (by omega) (by omega), nI_le (b := 57) (by omega) (by decide)⟩
  · intro h
    obtain ⟨u, u1, u2⟩ := fig_n h
    rw [u1]
    exact ⟨nI_pos' (by omega), nI_le (b := 9) u2 (by decide)⟩
theorem c_byteAt {L : Nat} {xs : Nat → Int32} {d : Nat} {m : sM} {n : sN} {Q : sQ} {t i s : Nat} {c : Nat → Int32} {x z : Int32} (ht : tX m t s c) (hx : x = nI t) (hz : z = nI i) (hi : i < 1000) (hQ : Q (some (.int (btC c s i))) m n) : sRun (scT L xs) (d + 1) yX12_byteAt cX12_byteAt 3 (some .int) [.ref 239, .int x, .int z] m n Q := by
  obtain ⟨a, b, e, g, k⟩ := ht
  refine c_X12_byteAt hx a hz hi e b ?_
  unfold btC at hQ
  by_cases h : i < s
  · rw [if_pos h] at hQ ⊢; rw [g i h]; exact hQ
  · rw [if_neg h] at hQ ⊢; exact hQ
set_option maxHeartbeats 1000000 in
theorem c_X12_itemOf {L : Nat} {xs : Nat → Int32} {d : Nat} {m : sM} {n : sN} {Q : sQ} {x : Int32} (hQ1 : ixP x < 5 → Q (some (.int (nI (ixP x)))) m n) (hQ0 : ixP x = 5 → Q (some (.int (-9))) m n) : sRun (scT L xs) (d + 1) yX12_itemOf cX12_itemOf 1 (some .int) [.int x] m n Q := by
  refine y_run (own := "LoafFallModel") rfl (by decide +kernel) (Nat.le_of_ble_eq_true rfl) rfl ?_
  refine y_iload_n dX12_itemOf_0 rfl rfl ?_
  refine y_bipush (v := 121) dX12_itemOf_1 (by decide) ?_
  refine y_icmp_ne (tgt := 10) dX12_itemOf_3 (by decide) (fun h3 => ?_) (fun h3 => ?_)
  · refine y_iload_n dX12_itemOf_10 rfl rfl ?_
    refine y_bipush (v := 115) dX12_itemOf_11 (by decide) ?_
    refine y_icmp_ne (tgt := 20) dX12_itemOf_13 (by decide) (fun h13 => ?_) (fun h13 => ?_)
    · refine y_iload_n dX12_itemOf_20 rfl rfl ?_
      refine y_bipush (v := 101) dX12_itemOf_21 (by decide) ?_
      refine y_icmp_ne (tgt := 30) dX12_itemOf_23 (by decide) (fun h23 => ?_) (fun h23 => ?_)
      · refine y_iload_n dX12_itemOf_30 rfl rfl ?_
        refine y_bipush (v := 119) dX12_itemOf_31 (by decide) ?_
        refine y_icmp_ne (tgt := 40) dX12_itemOf_33 (by decide) (fun h33 => ?_) (fun h33 => ?_)
        · refine y_iload_n dX12_itemOf_40 rfl rfl ?_
          refine y_bipush (v := 116) dX12_itemOf_41 (by decide) ?_
          refine y_icmp_ne (tgt := 50) dX12_itemOf_43 (by decide) (fun h43 => ?_) (fun h43 => ?_)
          · have e : ixP x = 5 := by unfold ixP; rw [if_neg h3, if_neg h13, if_neg h23, if_neg h33, if_neg h43]
            refine y_bipush (v := -9) dX12_itemOf_50 (by decide) ?_
            refine y_ireturn dX12_itemOf_52 rfl rfl ?_
            first
              | exact hQ0 e
              | (rw [e] at hQ1; exact hQ1 (by omega))
          · have e : ixP x = 4 := by unfold ixP; rw [if_neg h3, if_neg h13, if_neg h23, if_neg h33, if_pos h43]
            refine y_iconst (v := 4) dX12_itemOf_46 (by decide) ?_
            refine y_goto (tgt := 52) dX12_itemOf_47 (by decide) ?_
            refine y_ireturn dX12_itemOf_52 rfl rfl ?_
            first
              | exact hQ0 e
              | (rw [e] at hQ1; exact hQ1 (by omega))
        · have e : ixP x = 3 := by unfold ixP; rw [if_neg h3, if_neg h13, if_neg h23, if_pos h33]
          refine y_iconst (v := 3) dX12_itemOf_36 (by decide) ?_
          refine y_goto (tgt := 52) dX12_itemOf_37 (by decide) ?_
          refine y_ireturn dX12_itemOf_52 rfl rfl ?_
          first
            | exact hQ0 e
            | (rw [e] at hQ1; exact hQ1 (by omega))
      · have e : ixP x = 2 := by unfold ixP; rw [if_neg h3, if_neg h13, if_pos h23]
        refine y_iconst (v := 2) dX12_itemOf_26 (by decide) ?_
        refine y_goto (tgt := 52) dX12_itemOf_27 (by decide) ?_
        refine y_ireturn dX12_itemOf_52 rfl rfl ?_
        first
          | exact hQ0 e
          | (rw [e] at hQ1; exact hQ1 (by omega))
    · have e : ixP x = 1 := by unfold ixP; rw [if_neg h3, if_pos h13]
      refine y_iconst (v := 1) dX12_itemOf_16 (by decide) ?_
      refine y_goto (tgt := 52) dX12_itemOf_17 (by decide) ?_
      refine y_ireturn dX12_itemOf_52 rfl rfl ?_
      first
        | exact hQ0 e
        | (rw [e] at hQ1; exact hQ1 (by omega))
  · have e : ixP x = 0 := by unfold ixP; rw [if_pos h3]
    refine y_iconst (v := 0) dX12_itemOf_6 (by decide) ?_
    refine y_goto (tgt := 52) dX12_itemOf_7 (by decide) ?_
    refine y_ireturn dX12_itemOf_52 rfl rfl ?_
    first
      | exact hQ0 e
      | (rw [e] at hQ1; exact hQ1 (by omega))
set_option maxHeartbeats 1000000 in
theorem c_X12_stepOf {L : Nat} {xs : Nat → Int32} {d : Nat} {m : sM} {n : sN} {Q : sQ} {x : Int32} (hQ1 : ixS x < 5 → Q (some (.int (nI (1 + ixS x)))) m n) (hQ0 : ixS x = 5 → Q (some (.int (-9))) m n) : sRun (scT L xs) (d + 1) yX12_stepOf cX12_stepOf 1 (some .int) [.int x] m n Q := by
  refine y_run (own := "LoafFallModel") rfl (by decide +kernel) (Nat.le_of_ble_eq_true rfl) rfl ?_
  refine y_iload_n dX12_stepOf_0 rfl rfl ?_
  refine y_bipush (v := 114) dX12_stepOf_1 (by decide) ?_
  refine y_icmp_ne (tgt := 10) dX12_stepOf_3 (by decide) (fun h3 => ?_) (fun h3 => ?_)
  · refine y_iload_n dX12_stepOf_10 rfl rfl ?_
    refine y_bipush (v := 111) dX12_stepOf_11 (by decide) ?_
    refine y_icmp_ne (tgt := 20) dX12_stepOf_13 (by decide) (fun h13 => ?_) (fun h13 => ?_)
    · refine y_iload_n dX12_stepOf_20 rfl rfl ?_
      refine y_bipush (v := 107) dX12_stepOf_21 (by decide) ?_
      refine y_icmp_ne (tgt := 30) dX12_stepOf_23 (by decide) (fun h23 => ?_) (fun h23 => ?_)
      · refine y_iload_n dX12_stepOf_30 rfl rfl ?_
        refine y_bipush (v := 120) dX12_stepOf_31 (by decide) ?_
        refine y_icmp_ne (tgt := 40) dX12_stepOf_33 (by decide) (fun h33 => ?_) (fun h33 => ?_)
        · refine y_iload_n dX12_stepOf_40 rfl rfl ?_
          refine y_bipush (v := 100) dX12_stepOf_41 (by decide) ?_
          refine y_icmp_ne (tgt := 50) dX12_stepOf_43 (by decide) (fun h43 => ?_) (fun h43 => ?_)
          · have e : ixS x = 5 := by unfold ixS; rw [if_neg h3, if_neg h13, if_neg h23, if_neg h33, if_neg h43]
            refine y_bipush (v := -9) dX12_stepOf_50 (by decide) ?_
            refine y_ireturn dX12_stepOf_52 rfl rfl ?_
            first
              | exact hQ0 e
              | (rw [e] at hQ1; exact hQ1 (by omega))
          · have e : ixS x = 4 := by unfold ixS; rw [if_neg h3, if_neg h13, if_neg h23, if_neg h33, if_pos h43]
            refine y_iconst (v := 5) dX12_stepOf_46 (by decide) ?_
            refine y_goto (tgt := 52) dX12_stepOf_47 (by decide) ?_
            refine y_ireturn dX12_stepOf_52 rfl rfl ?_
            first
              | exact hQ0 e
              | (rw [e] at hQ1; exact hQ1 (by omega))
        · have e : ixS x = 3 := by unfold ixS; rw [if_neg h3, if_neg h13, if_neg h23, if_pos h33]
          refine y_iconst (v := 4) dX12_stepOf_36 (by decide) ?_
          refine y_goto (tgt := 52) dX12_stepOf_37 (by decide) ?_
          refine y_ireturn dX12_stepOf_52 rfl rfl ?_
          first
            | exact hQ0 e
            | (rw [e] at hQ1; exact hQ1 (by omega))
      · have e : ixS x = 2 := by unfold ixS; rw [if_neg h3, if_neg h13, if_pos h23]
        refine y_iconst (v := 3) dX12_stepOf_26 (by decide) ?_
        refine y_goto (tgt := 52) dX12_stepOf_27 (by decide) ?_
        refine y_ireturn dX12_stepOf_52 rfl rfl ?_
        first
          | exact hQ0 e
          | (rw [e] at hQ1; exact hQ1 (by omega))
    · have e : ixS x = 1 := by unfold ixS; rw [if_neg h3, if_pos h13]
      refine y_iconst (v := 2) dX12_stepOf_16 (by decide) ?_
      refine y_goto (tgt := 52) dX12_stepOf_17 (by decide) ?_
      refine y_ireturn dX12_stepOf_52 rfl rfl ?_
      first
        | exact hQ0 e
        | (rw [e] at hQ1; exact hQ1 (by omega))
  · have e : ixS x = 0 := by unfold ixS; rw [if_pos h3]
    refine y_iconst (v := 1) dX12_stepOf_6 (by decide) ?_
    refine y_goto (tgt := 52) dX12_stepOf_7 (by decide) ?_
    refine y_ireturn dX12_stepOf_52 rfl rfl ?_
    first
      | exact hQ0 e
      | (rw [e] at hQ1; exact hQ1 (by omega))
theorem fgsk {c : Nat → Int32} {q k : Nat} (hk : k < 2) (fg : ∀ i, i < k → isFig (c (q + i))) (h : ¬ isFig (c (q + k))) : fgs c q = k := by
  have : k = 0 ∨ k = 1 := by omega
  rcases this with rfl | rfl
  · exact fgs_0 h
  · exact fgs_1 (fg 0 (by omega)) h
theorem inBad {v lo hi : Int32} (h : ¬ (lo ≤ v ∧ v ≤ hi)) : v < lo ∨ hi < v := by
  by_cases z : v < lo
  · exact Or.inl z
  · exact Or.inr (Int32.not_le.mp (fun e => h ⟨Int32.not_lt.mp z, e⟩))
theorem z0 {F : Nat} (h : nI F ≤ 0) (hF : F < 100) : F = 0 := by
  have := (nI_leI (b := 0) (by omega) (by decide)).mp h
  omega
set_option maxHeartbeats 1000000 in
theorem c_X12_number {L : Nat} {xs : Nat → Int32} {d : Nat} {m : sM} {n : sN} {Q : sQ} {t s q : Nat} {c : Nat → Int32} {x lo hi : Int32} (ht : tX m t s c) (hx : x = nI t) (hq : m 239 15 = nI q) (hq2 : q < 200) (hQ1 : ¬ (fgs c q = 0 ∨ numC c q (fgs c q) < lo ∨ hi < numC c q (fgs c q)) → ∀ M', fq m M' → M' 251 = m 251 → M' 252 = m 252 → M' 239 15 = nI (q + fgs c q) → M' 239 16 = numC c q (fgs c q) → M' 239 17 = m 239 17 → M' 239 18 = m 239 18 → Q (some (.int 1)) M' n) (hQ0 : (fgs c q = 0 ∨ numC c q (fgs c q) < lo ∨ hi < numC c q (fgs c q)) → ∀ M', fq m M' → M' 251 = m 251 → M' 252 = m 252 → M' 239 15 = nI (q + fgs c q) → M' 239 16 = numC c q (fgs c q) → M' 239 17 = m 239 17 → M' 239 18 = m 239 18 → Q (some (.int 0)) M' n) : sRun (scT L xs) (d + 2) yX12_number cX12_number 6 (some .boolean) [.ref 239, .int x, .int lo, .int hi] m n Q := by
  subst hx
  refine y_run (own := "LoafFallModel") rfl (by decide +kernel) (Nat.le_of_ble_eq_true rfl) rfl ?_
  refine y_iconst (v := 0) dX12_number_0 (by decide) ?_
  refine y_ist6_4 dX12_number_1 rfl ?_
  refine y_iconst (v := 0) dX12_number_3 (by decide) ?_
  refine y_ist6_5 dX12_number_4 rfl ?_
  refine cnt (P := fun k => ∀ M', fq m M' → M' 251 = m 251 → M' 252 = m 252 → M' 239 15 = nI (q + k) → M' 239 17 = m 239 17 → M' 239 18 = m 239 18 → (∀ i, i < k → isFig (c (q + i))) → sV (scT L xs) (d + 1) "LoafFallModel" cX12_number 6 (some .boolean) Q 6 [some (.ref 239), some (.int (nI t)), some (.int lo), some (.int hi), some (.int (nI k)), some (.int (numC c q k))] [] M' n) 2 ?_ ?_ 0 (by omega) m fq.rf rfl rfl (by rw [Nat.add_zero]; exact hq) rfl rfl (fun i hi => absurd hi (by omega))
  · intro M' f1 f2 f3 f4 f5 f6 fg
    have ht' := ht.m f1
    refine y_iload dX12_number_6 rfl ?_
    refine y_iconst (v := 2) dX12_number_8 (by decide) ?_
    refine y_icmp_ge (tgt := 67) dX12_number_9 (by decide) (fun h9 => ?_) (fun h9 => absurd (by decide) h9)
    obtain ⟨F, hF⟩ : ∃ F, F = fgs c q := ⟨_, rfl⟩
    rw [← hF] at hQ0 hQ1
    have ef : 2 = F := hF ▸ (fgs_2 (fg 0 (by omega)) (fg 1 (by omega))).symm
    rw [ef] at f4 ⊢
    have F2 : F ≤ 2 := by rw [hF]; exact fgs_le
    refine y_aload_n dX12_number_67 rfl rfl ?_
    refine y_iload dX12_number_68 rfl ?_
    refine y_puti dX12_number_70 pf_X12_120 sh_239 rfl rfl rfl ?_
    refine y_iload dX12_number_73 rfl ?_
    refine y_if_le (tgt := 92) dX12_number_75 (by decide) (fun h75 => ?_) (fun h75 => ?_)
    · refine y_iconst (v := 0) dX12_number_92 (by decide) ?_
      refine y_ireturn dX12_number_93 rfl rfl ?_
      have G : ∀ (W : sM), W = s_up M' 239 (upd (M' 239) 16 (numC c q F)) → fq m W ∧ W 251 = m 251 ∧ W 252 = m 252 ∧ W 239 15 = nI (q + F) ∧ W 239 16 = numC c q F ∧ W 239 17 = m 239 17 ∧ W 239 18 = m 239 18 := fun W hW => by
        rw [hW]
        refine ⟨f1.tr (fq.up9 (by omega) (by omega)), ?_, ?_, ?_, ?_, ?_, ?_⟩
        · rw [s_upN (by omega)]; exact f2
        · rw [s_upN (by omega)]; exact f3
        · rw [s_upS, updN (by omega)]; exact f4
        · rw [s_upS, updS]
        · rw [s_upS, updN (by omega)]; exact f5
        · rw [s_upS, updN (by omega)]; exact f6
      obtain ⟨g1, g2, g3, g4, g5, g6, g7⟩ := G _ rfl
      first
        | exact hQ1 (fun z => z.elim (fun e => h75 (by rw [e]; exact Int32.le_refl _)) (fun z => z.elim (fun e => absurd a (Int32.not_le.mpr e)) (fun e => absurd b (Int32.not_le.mpr e)))) _ g1 g2 g3 g4 g5 g6 g7
        | exact hQ0 (Or.inr (inBad a)) _ g1 g2 g3 g4 g5 g6 g7
        | exact hQ0 (Or.inl (z0 h75 (by omega))) _ g1 g2 g3 g4 g5 g6 g7
    · refine y_iload dX12_number_78 rfl ?_
      refine y_iload_n dX12_number_80 rfl rfl ?_
      refine y_iload_n dX12_number_81 rfl rfl ?_
      refine y_isI3 dX12_number_82 ms_X12_86 my_X12_in (Or.inl rfl) ?_
      refine c_X12_in (fun a b => ⟨_, rfl, ?_⟩) (fun a => ⟨_, rfl, ?_⟩)
      · refine y_if_eq (tgt := 92) dX12_number_85 (by decide) (fun h85 => absurd h85 (by decide)) (fun h85 => ?_)
        refine y_iconst (v := 1) dX12_number_88 (by decide) ?_
        refine y_goto (tgt := 93) dX12_number_89 (by decide) ?_
        refine y_ireturn dX12_number_93 rfl rfl ?_
        have G : ∀ (W : sM), W = s_up M' 239 (upd (M' 239) 16 (numC c q F)) → fq m W ∧ W 251 = m 251 ∧ W 252 = m 252 ∧ W 239 15 = nI (q + F) ∧ W 239 16 = numC c q F ∧ W 239 17 = m 239 17 ∧ W 239 18 = m 239 18 := fun W hW => by
          rw [hW]
          refine ⟨f1.tr (fq.up9 (by omega) (by omega)), ?_, ?_, ?_, ?_, ?_, ?_⟩
          · rw [s_upN (by omega)]; exact f2
          · rw [s_upN (by omega)]; exact f3
          · rw [s_upS, updN (by omega)]; exact f4
          · rw [s_upS, updS]
          · rw [s_upS, updN (by omega)]; exact f5
          · rw [s_upS, updN (by omega)]; exact f6
        obtain ⟨g1, g2, g3, g4, g5, g6, g7⟩ := G _ rfl
        first
          | exact hQ1 (fun z => z.elim (fun e => h75 (by rw [e]; exact Int32.le_refl _)) (fun z => z.elim (fun e => absurd a (Int32.not_le.mpr e)) (fun e => absurd b (Int32.not_le.mpr e)))) _ g1 g2 g3 g4 g5 g6 g7
          | exact hQ0 (Or.inr (inBad a)) _ g1 g2 g3 g4 g5 g6 g7
          | exact hQ0 (Or.inl (z0 h75 (by omega))) _ g1 g2 g3 g4 g5 g6 g7
      · refine y_if_eq (tgt := 92) dX12_number_85 (by decide) (fun h85 => ?_) (fun h85 => absurd (by decide) h85)
        refine y_iconst (v := 0) dX12_number_92 (by decide) ?_
        refine y_ireturn dX12_number_93 rfl rfl ?_
        have G : ∀ (W : sM), W = s_up M' 239 (upd (M' 239) 16 (numC c q F)) → fq m W ∧ W 251 = m 251 ∧ W 252 = m 252 ∧ W 239 15 = nI (q + F) ∧ W 239 16 = numC c q F ∧ W 239 17 = m 239 17 ∧ W 239 18 = m 239 18 := fun W hW => by
          rw [hW]
          refine ⟨f1.tr (fq.up9 (by omega) (by omega)), ?_, ?_, ?_, ?_, ?_, ?_⟩
          · rw [s_upN (by omega)]; exact f2
          · rw [s_upN (by omega)]; exact f3
          · rw [s_upS, updN (by omega)]; exact f4
          · rw [s_upS, updS]
          · rw [s_upS, updN (by omega)]; exact f5
          · rw [s_upS, updN (by omega)]; exact f6
        obtain ⟨g1, g2, g3, g4, g5, g6, g7⟩ := G _ rfl
        first
          | exact hQ1 (fun z => z.elim (fun e => h75 (by rw [e]; exact Int32.le_refl _)) (fun z => z.elim (fun e => absurd a (Int32.not_le.mpr e)) (fun e => absurd b (Int32.not_le.mpr e)))) _ g1 g2 g3 g4 g5 g6 g7
          | exact hQ0 (Or.inr (inBad a)) _ g1 g2 g3 g4 g5 g6 g7
          | exact hQ0 (Or.inl (z0 h75 (by omega))) _ g1 g2 g3 g4 g5 g6 g7
  · intro k hk hP
    intro M' f1 f2 f3 f4 f5 f6 fg
    have ht' := ht.m f1
    refine y_iload dX12_number_6 rfl ?_
    refine y_iconst (v := 2) dX12_number_8 (by decide) ?_
    refine y_icmp_ge (tgt := 67) dX12_number_9 (by decide) (fun h9 => absurd h9 (nI_ge (a := k) (b := 2) hk (by decide))) (fun h9 => ?_)
    refine y_aload_n dX12_number_12 rfl rfl ?_
    refine y_iload_n dX12_number_13 rfl rfl ?_
    refine y_aload_n dX12_number_14 rfl rfl ?_
    refine y_geti dX12_number_15 gf_X12_114 sh_239 rfl ?_
    rw [f4]
    refine y_ivI2 dX12_number_18 mv_X12_117 my_X12_byteAt (Or.inl rfl) sh_239 ?_
    refine c_byteAt (i := q + k) ht' rfl rfl (by omega) ⟨_, rfl, ?_⟩
    refine y_bipush (v := 48) dX12_number_21 (by decide) ?_
    refine y_bipush (v := 57) dX12_number_23 (by decide) ?_
    refine y_isI3 dX12_number_25 ms_X12_86 my_X12_in (Or.inl rfl) ?_
    refine c_X12_in (fun a b => ⟨_, rfl, ?_⟩) (fun a => ⟨_, rfl, ?_⟩)
    · have fk := (bt_fig ht'.2.2.2.2).mp ⟨a, b⟩
      have hlt : q + k < s := Classical.byContradiction (fun z => by have := fk.1; rw [ht.2.2.2.2 _ (by omega)] at fk; exact absurd fk.2 (by decide))
      refine y_if_eq (tgt := 67) dX12_number_28 (by decide) (fun h28 => absurd h28 (by decide)) (fun h28 => ?_)
      refine y_bipush (v := 10) dX12_number_31 (by decide) ?_
      refine y_iload dX12_number_33 rfl ?_
      refine y_imul dX12_number_35 ?_
      refine y_aload_n dX12_number_36 rfl rfl ?_
      refine y_iload_n dX12_number_37 rfl rfl ?_
      refine y_aload_n dX12_number_38 rfl rfl ?_
      refine y_geti dX12_number_39 gf_X12_114 sh_239 rfl ?_
      rw [f4]
      refine y_ivI2 dX12_number_42 mv_X12_117 my_X12_byteAt (Or.inl rfl) sh_239 ?_
      refine c_byteAt (i := q + k) ht' rfl rfl (by omega) ⟨_, rfl, ?_⟩
      rw [bt_in hlt]
      refine y_iadd dX12_number_45 ?_
      refine y_bipush (v := 48) dX12_number_46 (by decide) ?_
      refine y_isub dX12_number_48 ?_
      refine y_ist6_5 dX12_number_49 rfl ?_
      refine y_aload_n dX12_number_51 rfl rfl ?_
      refine y_dup dX12_number_52 rfl ?_
      refine y_geti dX12_number_53 gf_X12_114 sh_239 rfl ?_
      rw [f4]
      refine y_iconst (v := 1) dX12_number_56 (by decide) ?_
      refine y_iaddN (a := (q + k)) (b := 1) dX12_number_57 rfl rfl ?_
      refine y_puti dX12_number_58 pf_X12_114 sh_239 rfl rfl rfl ?_
      refine y_iinc6_4 dX12_number_61 (nI_1 _) rfl ?_
      refine y_goto (tgt := 6) dX12_number_64 (by decide) ?_
      refine hP _ (f1.tr (fq.up9 (by omega) (by omega))) (by rw [s_upN (by omega)]; exact f2) (by rw [s_upN (by omega)]; exact f3) (by rw [s_upS, updS]; rfl) (by rw [s_upS, updN (by omega)]; exact f5) (by rw [s_upS, updN (by omega)]; exact f6) (fun i hi => ?_)
      by_cases e : i = k
      · rw [e]; exact fk
      · exact fg i (by omega)
    · have fk : ¬ isFig (c (q + k)) := fun z => a ((bt_fig ht'.2.2.2.2).mpr z)
      refine y_if_eq (tgt := 67) dX12_number_28 (by decide) (fun h28 => ?_) (fun h28 => absurd (by decide) h28)
      obtain ⟨F, hF⟩ : ∃ F, F = fgs c q := ⟨_, rfl⟩
      rw [← hF] at hQ0 hQ1
      have ef : k = F := hF ▸ (fgsk (by omega) fg fk).symm
      rw [ef] at f4 ⊢
      have F2 : F ≤ 2 := by rw [hF]; exact fgs_le
      refine y_aload_n dX12_number_67 rfl rfl ?_
      refine y_iload dX12_number_68 rfl ?_
      refine y_puti dX12_number_70 pf_X12_120 sh_239 rfl rfl rfl ?_
      refine y_iload dX12_number_73 rfl ?_
      refine y_if_le (tgt := 92) dX12_number_75 (by decide) (fun h75 => ?_) (fun h75 => ?_)
      · refine y_iconst (v := 0) dX12_number_92 (by decide) ?_
        refine y_ireturn dX12_number_93 rfl rfl ?_
        have G : ∀ (W : sM), W = s_up M' 239 (upd (M' 239) 16 (numC c q F)) → fq m W ∧ W 251 = m 251 ∧ W 252 = m 252 ∧ W 239 15 = nI (q + F) ∧ W 239 16 = numC c q F ∧ W 239 17 = m 239 17 ∧ W 239 18 = m 239 18 := fun W hW => by
          rw [hW]
          refine ⟨f1.tr (fq.up9 (by omega) (by omega)), ?_, ?_, ?_, ?_, ?_, ?_⟩
          · rw [s_upN (by omega)]; exact f2
          · rw [s_upN (by omega)]; exact f3
          · rw [s_upS, updN (by omega)]; exact f4
          · rw [s_upS, updS]
          · rw [s_upS, updN (by omega)]; exact f5
          · rw [s_upS, updN (by omega)]; exact f6
        obtain ⟨g1, g2, g3, g4, g5, g6, g7⟩ := G _ rfl
        first
          | exact hQ1 (fun z => z.elim (fun e => h75 (by rw [e]; exact Int32.le_refl _)) (fun z => z.elim (fun e => absurd a (Int32.not_le.mpr e)) (fun e => absurd b (Int32.not_le.mpr e)))) _ g1 g2 g3 g4 g5 g6 g7
          | exact hQ0 (Or.inr (inBad a)) _ g1 g2 g3 g4 g5 g6 g7
          | exact hQ0 (Or.inl (z0 h75 (by omega))) _ g1 g2 g3 g4 g5 g6 g7
      · refine y_iload dX12_number_78 rfl ?_
        refine y_iload_n dX12_number_80 rfl rfl ?_
        refine y_iload_n dX12_number_81 rfl rfl ?_
        refine y_isI3 dX12_number_82 ms_X12_86 my_X12_in (Or.inl rfl) ?_
        refine c_X12_in (fun a b => ⟨_, rfl, ?_⟩) (fun a => ⟨_, rfl, ?_⟩)
        · refine y_if_eq (tgt := 92) dX12_number_85 (by decide) (fun h85 => absurd h85 (by decide)) (fun h85 => ?_)
          refine y_iconst (v := 1) dX12_number_88 (by decide) ?_
          refine y_goto (tgt := 93) dX12_number_89 (by decide) ?_
          refine y_ireturn dX12_number_93 rfl rfl ?_
          have G : ∀ (W : sM), W = s_up M' 239 (upd (M' 239) 16 (numC c q F)) → fq m W ∧ W 251 = m 251 ∧ W 252 = m 252 ∧ W 239 15 = nI (q + F) ∧ W 239 16 = numC c q F ∧ W 239 17 = m 239 17 ∧ W 239 18 = m 239 18 := fun W hW => by
            rw [hW]
            refine ⟨f1.tr (fq.up9 (by omega) (by omega)), ?_, ?_, ?_, ?_, ?_, ?_⟩
            · rw [s_upN (by omega)]; exact f2
            · rw [s_upN (by omega)]; exact f3
            · rw [s_upS, updN (by omega)]; exact f4
            · rw [s_upS, updS]
            · rw [s_upS, updN (by omega)]; exact f5
            · rw [s_upS, updN (by omega)]; exact f6
          obtain ⟨g1, g2, g3, g4, g5, g6, g7⟩ := G _ rfl
          first
            | exact hQ1 (fun z => z.elim (fun e => h75 (by rw [e]; exact Int32.le_refl _)) (fun z => z.elim (fun e => absurd a (Int32.not_le.mpr e)) (fun e => absurd b (Int32.not_le.mpr e)))) _ g1 g2 g3 g4 g5 g6 g7
            | exact hQ0 (Or.inr (inBad a)) _ g1 g2 g3 g4 g5 g6 g7
            | exact hQ0 (Or.inl (z0 h75 (by omega))) _ g1 g2 g3 g4 g5 g6 g7
        · refine y_if_eq (tgt := 92) dX12_number_85 (by decide) (fun h85 => ?_) (fun h85 => absurd (by decide) h85)
          refine y_iconst (v := 0) dX12_number_92 (by decide) ?_
          refine y_ireturn dX12_number_93 rfl rfl ?_
          have G : ∀ (W : sM), W = s_up M' 239 (upd (M' 239) 16 (numC c q F)) → fq m W ∧ W 251 = m 251 ∧ W 252 = m 252 ∧ W 239 15 = nI (q + F) ∧ W 239 16 = numC c q F ∧ W 239 17 = m 239 17 ∧ W 239 18 = m 239 18 := fun W hW => by
            rw [hW]
            refine ⟨f1.tr (fq.up9 (by omega) (by omega)), ?_, ?_, ?_, ?_, ?_, ?_⟩
            · rw [s_upN (by omega)]; exact f2
            · rw [s_upN (by omega)]; exact f3
            · rw [s_upS, updN (by omega)]; exact f4
            · rw [s_upS, updS]
            · rw [s_upS, updN (by omega)]; exact f5
            · rw [s_upS, updN (by omega)]; exact f6
          obtain ⟨g1, g2, g3, g4, g5, g6, g7⟩ := G _ rfl
          first
            | exact hQ1 (fun z => z.elim (fun e => h75 (by rw [e]; exact Int32.le_refl _)) (fun z => z.elim (fun e => absurd a (Int32.not_le.mpr e)) (fun e => absurd b (Int32.not_le.mpr e)))) _ g1 g2 g3 g4 g5 g6 g7
            | exact hQ0 (Or.inr (inBad a)) _ g1 g2 g3 g4 g5 g6 g7
            | exact hQ0 (Or.inl (z0 h75 (by omega))) _ g1 g2 g3 g4 g5 g6 g7
set_option maxHeartbeats 1000000 in
theorem c_X12_flourFault {L : Nat} {xs : Nat → Int32} {d : Nat} {m : sM} {n : sN} {Q : sQ} {t s : Nat} {c : Nat → Int32} {x : Int32} (ht : tX m t s c) (hx : x = nI t) (hQ : ∀ M, fq m M → ((rdF c s 80 0 usP 0).1 = -9 → (∀ i, i < 5 → M 251 i = (rdF c s 80 0 usP 0).2.1 i) ∧ M 239 17 = nI (rdF c s 80 0 usP 0).2.2) → Q (some (.int (rdF c s 80 0 usP 0).1)) M n) : sRun (scT L xs) (d + 3) yX12_flourFault cX12_flourFault 3 (some .int) [.ref 239, .int x] m n Q := by
  subst hx
  refine y_run (own := "LoafFallModel") rfl (by decide +kernel) (Nat.le_of_ble_eq_true rfl) rfl ?_
  refine y_aload_n dX12_flourFault_0 rfl rfl ?_
  refine y_iconst (v := 0) dX12_flourFault_1 (by decide) ?_
  refine y_puti dX12_flourFault_2 pf_X12_114 sh_239 rfl rfl rfl ?_
  refine y_aload_n dX12_flourFault_5 rfl rfl ?_
  refine y_iconst (v := 0) dX12_flourFault_6 (by decide) ?_
  refine y_puti dX12_flourFault_7 pf_X12_123 sh_239 rfl rfl rfl ?_
  refine y_aload_n dX12_flourFault_10 rfl rfl ?_
  refine y_getr dX12_flourFault_11 gf_X12_45 sh_239 rfl ?_
  refine y_iconst (v := 0) dX12_flourFault_14 (by decide) ?_
  refine y_iconst (v := 3) dX12_flourFault_15 (by decide) ?_
  refine y_iastN (j := 0) dX12_flourFault_16 sh_251 rfl (by first | omega | decide) (by decide) ?_
  refine y_aload_n dX12_flourFault_17 rfl rfl ?_
  refine y_getr dX12_flourFault_18 gf_X12_45 sh_239 rfl ?_
  refine y_iconst (v := 1) dX12_flourFault_21 (by decide) ?_
  refine y_bipush (v := 40) dX12_flourFault_22 (by decide) ?_
  refine y_iastN (j := 1) dX12_flourFault_24 sh_251 rfl (by first | omega | decide) (by decide) ?_
  refine y_aload_n dX12_flourFault_25 rfl rfl ?_
  refine y_getr dX12_flourFault_26 gf_X12_45 sh_239 rfl ?_
  refine y_iconst (v := 2) dX12_flourFault_29 (by decide) ?_
  refine y_iconst (v := 1) dX12_flourFault_30 (by decide) ?_
  refine y_iastN (j := 2) dX12_flourFault_31 sh_251 rfl (by first | omega | decide) (by decide) ?_
  refine y_aload_n dX12_flourFault_32 rfl rfl ?_
  refine y_getr dX12_flourFault_33 gf_X12_45 sh_239 rfl ?_
  refine y_iconst (v := 3) dX12_flourFault_36 (by decide) ?_
  refine y_iconst (v := 4) dX12_flourFault_37 (by decide) ?_
  refine y_iastN (j := 3) dX12_flourFault_38 sh_251 rfl (by first | omega | decide) (by decide) ?_
  refine y_aload_n dX12_flourFault_39 rfl rfl ?_
  refine y_getr dX12_flourFault_40 gf_X12_45 sh_239 rfl ?_
  refine y_iconst (v := 4) dX12_flourFault_43 (by decide) ?_
  refine y_iconst (v := 2) dX12_flourFault_44 (by decide) ?_
  refine y_iastN (j := 4) dX12_flourFault_45 sh_251 rfl (by first | omega | decide) (by decide) ?_
  suffices hs : ∀ n0 p P k M, ∀ a2 : Option Value, 80 ≤ p + n0 → p < 90 → fq m M → M 239 15 = nI p → M 239 17 = nI k → (∀ i, i < 5 → M 251 i = P i) → (∀ M5, fq m M5 → ((rdF c s n0 p P k).1 = -9 → (∀ i, i < 5 → M5 251 i = (rdF c s n0 p P k).2.1 i) ∧ M5 239 17 = nI (rdF c s n0 p P k).2.2) → Q (some (.int (rdF c s n0 p P k).1)) M5 n) → sV (scT L xs) (d + 2) "LoafFallModel" cX12_flourFault 3 (some .int) Q 46 [some (.ref 239), some (.int (nI t)), a2] [] M n by
    refine hs 80 0 usP 0 _ none (by omega) (by omega) ?_ ?_ ?_ ?_ hQ
    · exact (fq.up9 (by omega) (by omega)).tr ((fq.up9 (by omega) (by omega)).tr ((fq.up1 (Or.inl rfl)).tr ((fq.up1 (Or.inl rfl)).tr ((fq.up1 (Or.inl rfl)).tr ((fq.up1 (Or.inl rfl)).tr (fq.up1 (Or.inl rfl)))))))
    · rw [s_upN (by omega), s_upN (by omega), s_upN (by omega), s_upN (by omega), s_upN (by omega), s_upS, updN (by omega), s_upS, updS]; rfl
    · rw [s_upN (by omega), s_upN (by omega), s_upN (by omega), s_upN (by omega), s_upN (by omega), s_upS, updS]; rfl
    · intro i hi
      rw [s_upS, s_upS, s_upS, s_upS, s_upS]
      have : i = 0 ∨ i = 1 ∨ i = 2 ∨ i = 3 ∨ i = 4 := by omega
      rcases this with rfl | rfl | rfl | rfl | rfl
      · rw [updN (by omega), updN (by omega), updN (by omega), updN (by omega), updS]; rfl
      · rw [updN (by omega), updN (by omega), updN (by omega), updS]; rfl
      · rw [updN (by omega), updN (by omega), updS]; rfl
      · rw [updN (by omega), updS]; rfl
      · rw [updS]; rfl
  intro n0
  induction n0 with
  | zero =>
    intro p P k M a2 hn hp f1 f2 f3 f4 q
    have ht' := ht.m f1
    have hle : s ≤ p := by have := ht.2.1; omega
    have t4 := ht.1
    refine y_aload_n dX12_flourFault_46 rfl rfl ?_
    refine y_geti dX12_flourFault_47 gf_X12_114 sh_239 rfl ?_
    rw [f2]
    refine y_aload_n dX12_flourFault_50 rfl rfl ?_
    refine y_getr dX12_flourFault_51 gf_X12_22 sh_239 rfl ?_
    refine y_iload_n dX12_flourFault_54 rfl rfl ?_
    refine y_ialdN dX12_flourFault_55 sh_244 rfl (by first | omega | decide) (by decide) ?_
    rw [ht'.2.2.1]
    refine y_icmp_ge (tgt := 187) dX12_flourFault_56 (by decide) (fun h56 => ?_) (fun h56 => absurd (nI_le hle (by omega)) h56)
    refine y_bipush (v := -9) dX12_flourFault_187 (by decide) ?_
    refine y_ireturn dX12_flourFault_189 rfl rfl ?_
    exact q M f1 (fun _ => ⟨f4, f3⟩)
  | succ n0 ih =>
    intro p P k M a2 hn hp f1 f2 f3 f4 q
    have ht' := ht.m f1
    have s80 := ht.2.1
    have t4 := ht.1
    have st : rdF c s (n0 + 1) p P k = if s ≤ p then (-9, P, k) else if c p = 32 then rdF c s n0 (p + 1) P k else if ixP (c p) = 5 then (nI p, P, k) else if fgs c (p + 1) = 0 ∨ numC c (p + 1) (fgs c (p + 1)) < loP (ixP (c p)) ∨ hiP (ixP (c p)) < numC c (p + 1) (fgs c (p + 1)) then (nI (p + 1 + fgs c (p + 1)), P, k) else rdF c s n0 (p + 1 + fgs c (p + 1)) (upd P (ixP (c p)) (numC c (p + 1) (fgs c (p + 1)))) (k + 1) := by rw [rdF]
    by_cases hle : s ≤ p
    · rw [if_pos hle] at st
      rw [st] at q
      refine y_aload_n dX12_flourFault_46 rfl rfl ?_
      refine y_geti dX12_flourFault_47 gf_X12_114 sh_239 rfl ?_
      rw [f2]
      refine y_aload_n dX12_flourFault_50 rfl rfl ?_
      refine y_getr dX12_flourFault_51 gf_X12_22 sh_239 rfl ?_
      refine y_iload_n dX12_flourFault_54 rfl rfl ?_
      refine y_ialdN dX12_flourFault_55 sh_244 rfl (by first | omega | decide) (by decide) ?_
      rw [ht'.2.2.1]
      refine y_icmp_ge (tgt := 187) dX12_flourFault_56 (by decide) (fun h56 => ?_) (fun h56 => absurd (nI_le hle (by omega)) h56)
      refine y_bipush (v := -9) dX12_flourFault_187 (by decide) ?_
      refine y_ireturn dX12_flourFault_189 rfl rfl ?_
      exact q M f1 (fun _ => ⟨f4, f3⟩)
    · rw [if_neg hle] at st
      refine y_aload_n dX12_flourFault_46 rfl rfl ?_
      refine y_geti dX12_flourFault_47 gf_X12_114 sh_239 rfl ?_
      rw [f2]
      refine y_aload_n dX12_flourFault_50 rfl rfl ?_
      refine y_getr dX12_flourFault_51 gf_X12_22 sh_239 rfl ?_
      refine y_iload_n dX12_flourFault_54 rfl rfl ?_
      refine y_ialdN dX12_flourFault_55 sh_244 rfl (by first | omega | decide) (by decide) ?_
      rw [ht'.2.2.1]
      refine y_icmp_ge (tgt := 187) dX12_flourFault_56 (by decide) (fun h56 => absurd h56 (nI_ge (by omega) (by omega))) (fun h56 => ?_)
      refine y_aload_n dX12_flourFault_59 rfl rfl ?_
      refine y_iload_n dX12_flourFault_60 rfl rfl ?_
      refine y_aload_n dX12_flourFault_61 rfl rfl ?_
      refine y_geti dX12_flourFault_62 gf_X12_114 sh_239 rfl ?_
      rw [f2]
      refine y_ivI2 dX12_flourFault_65 mv_X12_117 my_X12_byteAt (Or.inl rfl) sh_239 ?_
      refine c_byteAt (i := p) ht' rfl rfl (by omega) ⟨_, rfl, ?_⟩
      rw [bt_in (by omega)]
      refine y_isI1 dX12_flourFault_68 ms_X12_126 my_X12_itemOf (Or.inl rfl) ?_
      refine c_X12_itemOf (fun a5 => ⟨_, rfl, ?_⟩) (fun a5 => ⟨_, rfl, ?_⟩)
      · obtain ⟨a, ha⟩ : ∃ a, a = ixP (c p) := ⟨_, rfl⟩
        rw [← ha] at a5 st ⊢
        refine y_ist3_2 dX12_flourFault_71 rfl ?_
        refine y_aload_n dX12_flourFault_72 rfl rfl ?_
        refine y_iload_n dX12_flourFault_73 rfl rfl ?_
        refine y_aload_n dX12_flourFault_74 rfl rfl ?_
        refine y_geti dX12_flourFault_75 gf_X12_114 sh_239 rfl ?_
        rw [f2]
        refine y_ivI2 dX12_flourFault_78 mv_X12_117 my_X12_byteAt (Or.inl rfl) sh_239 ?_
        refine c_byteAt (i := p) ht' rfl rfl (by omega) ⟨_, rfl, ?_⟩
        rw [bt_in (by omega)]
        refine y_bipush (v := 32) dX12_flourFault_81 (by decide) ?_
        refine y_icmp_ne (tgt := 99) dX12_flourFault_83 (by decide) (fun h83 => ?_) (fun h83 => ?_)
        · refine y_iload_n dX12_flourFault_99 rfl rfl ?_
          refine y_bipush (v := -9) dX12_flourFault_100 (by decide) ?_
          refine y_icmp_ne (tgt := 110) dX12_flourFault_102 (by decide) (fun h102 => ?_) (fun h102 => absurd h102 (nI_n9' (by omega)))
          refine y_aload_n dX12_flourFault_110 rfl rfl ?_
          refine y_dup dX12_flourFault_111 rfl ?_
          refine y_geti dX12_flourFault_112 gf_X12_114 sh_239 rfl ?_
          rw [f2]
          refine y_iconst (v := 1) dX12_flourFault_115 (by decide) ?_
          refine y_iaddN (a := p) (b := 1) dX12_flourFault_116 rfl rfl ?_
          refine y_puti dX12_flourFault_117 pf_X12_114 sh_239 rfl rfl rfl ?_
          generalize hm1 : s_up M 239 (upd (M 239) 15 (nI (p + 1))) = M1
          have e1 : fq M M1 := by rw [← hm1]; exact fq.up9 (by omega) (by omega)
          have e2 : M1 239 15 = nI (p + 1) := by rw [← hm1, s_upS, updS]
          have e3 : M1 239 17 = nI k := by rw [← hm1, s_upS, updN (by omega)]; exact f3
          have e4 : ∀ i, i < 5 → M1 251 i = P i := fun i hi => by rw [← hm1, s_upN (by omega)]; exact f4 i hi
          refine y_aload_n dX12_flourFault_120 rfl rfl ?_
          refine y_iload_n dX12_flourFault_121 rfl rfl ?_
          refine y_iload_n dX12_flourFault_122 rfl rfl ?_
          refine y_if_ne (tgt := 130) dX12_flourFault_123 (by decide) (fun h123 => ?_) (fun h123 => ?_)
          · refine y_iload_n dX12_flourFault_130 rfl rfl ?_
            refine y_iconst (v := 1) dX12_flourFault_131 (by decide) ?_
            refine y_icmp_ne (tgt := 140) dX12_flourFault_132 (by decide) (fun h132 => ?_) (fun h132 => ?_)
            · have elo : loP a = 0 := by
                have x0 : ¬ a = 0 := fun e => h123 (by rw [e]; rfl)
                have x1 : ¬ a = 1 := fun e => h132 (by rw [e]; rfl)
                have : a = 2 ∨ a = 3 ∨ a = 4 := by omega
                rcases this with e | e | e <;> rw [e] <;> rfl
              refine y_iconst (v := 0) dX12_flourFault_140 (by decide) ?_
              refine y_iload_n dX12_flourFault_141 rfl rfl ?_
              refine y_iconst (v := 1) dX12_flourFault_142 (by decide) ?_
              refine y_icmp_ne (tgt := 151) dX12_flourFault_143 (by decide) (fun h143 => ?_) (fun h143 => ?_)
              · have ehi : hiP a = 9 := by
                  have x1 : ¬ a = 1 := fun e => h143 (by rw [e]; rfl)
                  have : a = 0 ∨ a = 2 ∨ a = 3 ∨ a = 4 := by omega
                  rcases this with e | e | e | e <;> rw [e] <;> rfl
                refine y_bipush (v := 9) dX12_flourFault_151 (by decide) ?_
                refine y_ivI3 dX12_flourFault_153 mv_X12_129 my_X12_number (Or.inl rfl) sh_239 ?_
                refine c_X12_number (q := p + 1) (c := c) (t := t) (s := s) (ht'.m e1) rfl e2 (by omega) (fun zf M2 g1 g2 g3 g4 g5 g6 g7 => ⟨_, rfl, ?_⟩) (fun zf M2 g1 g2 g3 g4 g5 g6 g7 => ⟨_, rfl, ?_⟩)
                · rw [← elo, ← ehi] at zf
                  have fl := fgs_le (c := c) (q := p + 1)
                  refine y_if_ne (tgt := 164) dX12_flourFault_156 (by decide) (fun h156 => ?_) (fun h156 => absurd h156 (by decide))
                  refine y_aload_n dX12_flourFault_164 rfl rfl ?_
                  refine y_getr dX12_flourFault_165 gf_X12_45 sh_239 rfl ?_
                  refine y_iload_n dX12_flourFault_168 rfl rfl ?_
                  refine y_aload_n dX12_flourFault_169 rfl rfl ?_
                  refine y_geti dX12_flourFault_170 gf_X12_120 sh_239 rfl ?_
                  refine y_iastN dX12_flourFault_173 sh_251 rfl (by first | omega | decide) (by decide) ?_
                  refine y_aload_n dX12_flourFault_174 rfl rfl ?_
                  refine y_dup dX12_flourFault_175 rfl ?_
                  refine y_geti dX12_flourFault_176 gf_X12_123 sh_239 rfl ?_
                  rw [s_upN (show 239 ≠ 251 by omega), g6, e3]
                  refine y_iconst (v := 1) dX12_flourFault_179 (by decide) ?_
                  refine y_iaddN (a := k) (b := 1) dX12_flourFault_180 rfl rfl ?_
                  refine y_puti dX12_flourFault_181 pf_X12_123 sh_239 rfl rfl rfl ?_
                  refine y_goto (tgt := 46) dX12_flourFault_184 (by decide) ?_
                  first
                    | (rw [if_neg h83, if_neg (by omega), if_neg zf] at st
                       rw [st] at q
                       rw [g5]
                       refine ih (p + 1 + fgs c (p + 1)) _ (k + 1) _ _ (by omega) (by omega) (f1.tr (e1.tr (g1.tr ((fq.up1 (Or.inl rfl)).tr (fq.up9 (by omega) (by omega)))))) ?_ ?_ (fun i hi => ?_) q
                       · rw [s_upS, updN (by omega), s_upN (by omega)]; exact g4
                       · rw [s_upS, updS]
                       · rw [s_upN (by omega), s_upS, upd_ap, upd_ap, g2]
                         by_cases e : i = a
                         · rw [if_pos e, if_pos e]
                         · rw [if_neg e, if_neg e]; exact e4 i hi)
                    | (rw [if_pos h83] at st
                       rw [st] at q
                       exact ih (p + 1) P k _ _ (by omega) (by omega) (f1.tr (fq.up9 (by omega) (by omega))) (by rw [s_upS, updS]) (by rw [s_upS, updN (by omega)]; exact f3) (fun i hi => by rw [s_upN (by omega)]; exact f4 i hi) q)
                · rw [← elo, ← ehi] at zf
                  have fl := fgs_le (c := c) (q := p + 1)
                  refine y_if_ne (tgt := 164) dX12_flourFault_156 (by decide) (fun h156 => absurd (by decide) h156) (fun h156 => ?_)
                  refine y_aload_n dX12_flourFault_159 rfl rfl ?_
                  refine y_geti dX12_flourFault_160 gf_X12_114 sh_239 rfl ?_
                  rw [g4]
                  refine y_ireturn dX12_flourFault_163 rfl rfl ?_
                  rw [if_neg h83, if_neg (by omega), if_pos zf] at st
                  rw [st] at q
                  exact q M2 (f1.tr (e1.tr g1)) (fun e => absurd e (nI_n9' (by omega)))
              · have ehi : hiP a = 99 := by rw [show a = 1 from (nI_eq (b := 1) (by omega) (by decide)).mp h143]; rfl
                refine y_bipush (v := 99) dX12_flourFault_146 (by decide) ?_
                refine y_goto (tgt := 153) dX12_flourFault_148 (by decide) ?_
                refine y_ivI3 dX12_flourFault_153 mv_X12_129 my_X12_number (Or.inl rfl) sh_239 ?_
                refine c_X12_number (q := p + 1) (c := c) (t := t) (s := s) (ht'.m e1) rfl e2 (by omega) (fun zf M2 g1 g2 g3 g4 g5 g6 g7 => ⟨_, rfl, ?_⟩) (fun zf M2 g1 g2 g3 g4 g5 g6 g7 => ⟨_, rfl, ?_⟩)
                · rw [← elo, ← ehi] at zf
                  have fl := fgs_le (c := c) (q := p + 1)
                  refine y_if_ne (tgt := 164) dX12_flourFault_156 (by decide) (fun h156 => ?_) (fun h156 => absurd h156 (by decide))
                  refine y_aload_n dX12_flourFault_164 rfl rfl ?_
                  refine y_getr dX12_flourFault_165 gf_X12_45 sh_239 rfl ?_
                  refine y_iload_n dX12_flourFault_168 rfl rfl ?_
                  refine y_aload_n dX12_flourFault_169 rfl rfl ?_
                  refine y_geti dX12_flourFault_170 gf_X12_120 sh_239 rfl ?_
                  refine y_iastN dX12_flourFault_173 sh_251 rfl (by first | omega | decide) (by decide) ?_
                  refine y_aload_n dX12_flourFault_174 rfl rfl ?_
                  refine y_dup dX12_flourFault_175 rfl ?_
                  refine y_geti dX12_flourFault_176 gf_X12_123 sh_239 rfl ?_
                  rw [s_upN (show 239 ≠ 251 by omega), g6, e3]
                  refine y_iconst (v := 1) dX12_flourFault_179 (by decide) ?_
                  refine y_iaddN (a := k) (b := 1) dX12_flourFault_180 rfl rfl ?_
                  refine y_puti dX12_flourFault_181 pf_X12_123 sh_239 rfl rfl rfl ?_
                  refine y_goto (tgt := 46) dX12_flourFault_184 (by decide) ?_
                  first
                    | (rw [if_neg h83, if_neg (by omega), if_neg zf] at st
                       rw [st] at q
                       rw [g5]
                       refine ih (p + 1 + fgs c (p + 1)) _ (k + 1) _ _ (by omega) (by omega) (f1.tr (e1.tr (g1.tr ((fq.up1 (Or.inl rfl)).tr (fq.up9 (by omega) (by omega)))))) ?_ ?_ (fun i hi => ?_) q
                       · rw [s_upS, updN (by omega), s_upN (by omega)]; exact g4
                       · rw [s_upS, updS]
                       · rw [s_upN (by omega), s_upS, upd_ap, upd_ap, g2]
                         by_cases e : i = a
                         · rw [if_pos e, if_pos e]
                         · rw [if_neg e, if_neg e]; exact e4 i hi)
                    | (rw [if_pos h83] at st
                       rw [st] at q
                       exact ih (p + 1) P k _ _ (by omega) (by omega) (f1.tr (fq.up9 (by omega) (by omega))) (by rw [s_upS, updS]) (by rw [s_upS, updN (by omega)]; exact f3) (fun i hi => by rw [s_upN (by omega)]; exact f4 i hi) q)
                · rw [← elo, ← ehi] at zf
                  have fl := fgs_le (c := c) (q := p + 1)
                  refine y_if_ne (tgt := 164) dX12_flourFault_156 (by decide) (fun h156 => absurd (by decide) h156) (fun h156 => ?_)
                  refine y_aload_n dX12_flourFault_159 rfl rfl ?_
                  refine y_geti dX12_flourFault_160 gf_X12_114 sh_239 rfl ?_
                  rw [g4]
                  refine y_ireturn dX12_flourFault_163 rfl rfl ?_
                  rw [if_neg h83, if_neg (by omega), if_pos zf] at st
                  rw [st] at q
                  exact q M2 (f1.tr (e1.tr g1)) (fun e => absurd e (nI_n9' (by omega)))
            · have elo : loP a = 10 := by rw [show a = 1 from (nI_eq (b := 1) (by omega) (by decide)).mp h132]; rfl
              refine y_bipush (v := 10) dX12_flourFault_135 (by decide) ?_
              refine y_goto (tgt := 141) dX12_flourFault_137 (by decide) ?_
              refine y_iload_n dX12_flourFault_141 rfl rfl ?_
              refine y_iconst (v := 1) dX12_flourFault_142 (by decide) ?_
              refine y_icmp_ne (tgt := 151) dX12_flourFault_143 (by decide) (fun h143 => ?_) (fun h143 => ?_)
              · have ehi : hiP a = 9 := by
                  have x1 : ¬ a = 1 := fun e => h143 (by rw [e]; rfl)
                  have : a = 0 ∨ a = 2 ∨ a = 3 ∨ a = 4 := by omega
                  rcases this with e | e | e | e <;> rw [e] <;> rfl
                refine y_bipush (v := 9) dX12_flourFault_151 (by decide) ?_
                refine y_ivI3 dX12_flourFault_153 mv_X12_129 my_X12_number (Or.inl rfl) sh_239 ?_
                refine c_X12_number (q := p + 1) (c := c) (t := t) (s := s) (ht'.m e1) rfl e2 (by omega) (fun zf M2 g1 g2 g3 g4 g5 g6 g7 => ⟨_, rfl, ?_⟩) (fun zf M2 g1 g2 g3 g4 g5 g6 g7 => ⟨_, rfl, ?_⟩)
                · rw [← elo, ← ehi] at zf
                  have fl := fgs_le (c := c) (q := p + 1)
                  refine y_if_ne (tgt := 164) dX12_flourFault_156 (by decide) (fun h156 => ?_) (fun h156 => absurd h156 (by decide))
                  refine y_aload_n dX12_flourFault_164 rfl rfl ?_
                  refine y_getr dX12_flourFault_165 gf_X12_45 sh_239 rfl ?_
                  refine y_iload_n dX12_flourFault_168 rfl rfl ?_
                  refine y_aload_n dX12_flourFault_169 rfl rfl ?_
                  refine y_geti dX12_flourFault_170 gf_X12_120 sh_239 rfl ?_
                  refine y_iastN dX12_flourFault_173 sh_251 rfl (by first | omega | decide) (by decide) ?_
                  refine y_aload_n dX12_flourFault_174 rfl rfl ?_
                  refine y_dup dX12_flourFault_175 rfl ?_
                  refine y_geti dX12_flourFault_176 gf_X12_123 sh_239 rfl ?_
                  rw [s_upN (show 239 ≠ 251 by omega), g6, e3]
                  refine y_iconst (v := 1) dX12_flourFault_179 (by decide) ?_
                  refine y_iaddN (a := k) (b := 1) dX12_flourFault_180 rfl rfl ?_
                  refine y_puti dX12_flourFault_181 pf_X12_123 sh_239 rfl rfl rfl ?_
                  refine y_goto (tgt := 46) dX12_flourFault_184 (by decide) ?_
                  first
                    | (rw [if_neg h83, if_neg (by omega), if_neg zf] at st
                       rw [st] at q
                       rw [g5]
                       refine ih (p + 1 + fgs c (p + 1)) _ (k + 1) _ _ (by omega) (by omega) (f1.tr (e1.tr (g1.tr ((fq.up1 (Or.inl rfl)).tr (fq.up9 (by omega) (by omega)))))) ?_ ?_ (fun i hi => ?_) q
                       · rw [s_upS, updN (by omega), s_upN (by omega)]; exact g4
                       · rw [s_upS, updS]
                       · rw [s_upN (by omega), s_upS, upd_ap, upd_ap, g2]
                         by_cases e : i = a
                         · rw [if_pos e, if_pos e]
                         · rw [if_neg e, if_neg e]; exact e4 i hi)
                    | (rw [if_pos h83] at st
                       rw [st] at q
                       exact ih (p + 1) P k _ _ (by omega) (by omega) (f1.tr (fq.up9 (by omega) (by omega))) (by rw [s_upS, updS]) (by rw [s_upS, updN (by omega)]; exact f3) (fun i hi => by rw [s_upN (by omega)]; exact f4 i hi) q)
                · rw [← elo, ← ehi] at zf
                  have fl := fgs_le (c := c) (q := p + 1)
                  refine y_if_ne (tgt := 164) dX12_flourFault_156 (by decide) (fun h156 => absurd (by decide) h156) (fun h156 => ?_)
                  refine y_aload_n dX12_flourFault_159 rfl rfl ?_
                  refine y_geti dX12_flourFault_160 gf_X12_114 sh_239 rfl ?_
                  rw [g4]
                  refine y_ireturn dX12_flourFault_163 rfl rfl ?_
                  rw [if_neg h83, if_neg (by omega), if_pos zf] at st
                  rw [st] at q
                  exact q M2 (f1.tr (e1.tr g1)) (fun e => absurd e (nI_n9' (by omega)))
              · have ehi : hiP a = 99 := by rw [show a = 1 from (nI_eq (b := 1) (by omega) (by decide)).mp h143]; rfl
                refine y_bipush (v := 99) dX12_flourFault_146 (by decide) ?_
                refine y_goto (tgt := 153) dX12_flourFault_148 (by decide) ?_
                refine y_ivI3 dX12_flourFault_153 mv_X12_129 my_X12_number (Or.inl rfl) sh_239 ?_
                refine c_X12_number (q := p + 1) (c := c) (t := t) (s := s) (ht'.m e1) rfl e2 (by omega) (fun zf M2 g1 g2 g3 g4 g5 g6 g7 => ⟨_, rfl, ?_⟩) (fun zf M2 g1 g2 g3 g4 g5 g6 g7 => ⟨_, rfl, ?_⟩)
                · rw [← elo, ← ehi] at zf
                  have fl := fgs_le (c := c) (q := p + 1)
                  refine y_if_ne (tgt := 164) dX12_flourFault_156 (by decide) (fun h156 => ?_) (fun h156 => absurd h156 (by decide))
                  refine y_aload_n dX12_flourFault_164 rfl rfl ?_
                  refine y_getr dX12_flourFault_165 gf_X12_45 sh_239 rfl ?_
                  refine y_iload_n dX12_flourFault_168 rfl rfl ?_
                  refine y_aload_n dX12_flourFault_169 rfl rfl ?_
                  refine y_geti dX12_flourFault_170 gf_X12_120 sh_239 rfl ?_
                  refine y_iastN dX12_flourFault_173 sh_251 rfl (by first | omega | decide) (by decide) ?_
                  refine y_aload_n dX12_flourFault_174 rfl rfl ?_
                  refine y_dup dX12_flourFault_175 rfl ?_
                  refine y_geti dX12_flourFault_176 gf_X12_123 sh_239 rfl ?_
                  rw [s_upN (show 239 ≠ 251 by omega), g6, e3]
                  refine y_iconst (v := 1) dX12_flourFault_179 (by decide) ?_
                  refine y_iaddN (a := k) (b := 1) dX12_flourFault_180 rfl rfl ?_
                  refine y_puti dX12_flourFault_181 pf_X12_123 sh_239 rfl rfl rfl ?_
                  refine y_goto (tgt := 46) dX12_flourFault_184 (by decide) ?_
                  first
                    | (rw [if_neg h83, if_neg (by omega), if_neg zf] at st
                       rw [st] at q
                       rw [g5]
                       refine ih (p + 1 + fgs c (p + 1)) _ (k + 1) _ _ (by omega) (by omega) (f1.tr (e1.tr (g1.tr ((fq.up1 (Or.inl rfl)).tr (fq.up9 (by omega) (by omega)))))) ?_ ?_ (fun i hi => ?_) q
                       · rw [s_upS, updN (by omega), s_upN (by omega)]; exact g4
                       · rw [s_upS, updS]
                       · rw [s_upN (by omega), s_upS, upd_ap, upd_ap, g2]
                         by_cases e : i = a
                         · rw [if_pos e, if_pos e]
                         · rw [if_neg e, if_neg e]; exact e4 i hi)
                    | (rw [if_pos h83] at st
                       rw [st] at q
                       exact ih (p + 1) P k _ _ (by omega) (by omega) (f1.tr (fq.up9 (by omega) (by omega))) (by rw [s_upS, updS]) (by rw [s_upS, updN (by omega)]; exact f3) (fun i hi => by rw [s_upN (by omega)]; exact f4 i hi) q)
                · rw [← elo, ← ehi] at zf
                  have fl := fgs_le (c := c) (q := p + 1)
                  refine y_if_ne (tgt := 164) dX12_flourFault_156 (by decide) (fun h156 => absurd (by decide) h156) (fun h156 => ?_)
                  refine y_aload_n dX12_flourFault_159 rfl rfl ?_
                  refine y_geti dX12_flourFault_160 gf_X12_114 sh_239 rfl ?_
                  rw [g4]
                  refine y_ireturn dX12_flourFault_163 rfl rfl ?_
                  rw [if_neg h83, if_neg (by omega), if_pos zf] at st
                  rw [st] at q
                  exact q M2 (f1.tr (e1.tr g1)) (fun e => absurd e (nI_n9' (by omega)))
          · have elo : loP a = 1 := by rw [show a = 0 from (nI_eq (b := 0) (by omega) (by decide)).mp h123]; rfl
            refine y_iconst (v := 1) dX12_flourFault_126 (by decide) ?_
            refine y_goto (tgt := 141) dX12_flourFault_127 (by decide) ?_
            refine y_iload_n dX12_flourFault_141 rfl rfl ?_
            refine y_iconst (v := 1) dX12_flourFault_142 (by decide) ?_
            refine y_icmp_ne (tgt := 151) dX12_flourFault_143 (by decide) (fun h143 => ?_) (fun h143 => ?_)
            · have ehi : hiP a = 9 := by
                have x1 : ¬ a = 1 := fun e => h143 (by rw [e]; rfl)
                have : a = 0 ∨ a = 2 ∨ a = 3 ∨ a = 4 := by omega
                rcases this with e | e | e | e <;> rw [e] <;> rfl
              refine y_bipush (v := 9) dX12_flourFault_151 (by decide) ?_
              refine y_ivI3 dX12_flourFault_153 mv_X12_129 my_X12_number (Or.inl rfl) sh_239 ?_
              refine c_X12_number (q := p + 1) (c := c) (t := t) (s := s) (ht'.m e1) rfl e2 (by omega) (fun zf M2 g1 g2 g3 g4 g5 g6 g7 => ⟨_, rfl, ?_⟩) (fun zf M2 g1 g2 g3 g4 g5 g6 g7 => ⟨_, rfl, ?_⟩)
              · rw [← elo, ← ehi] at zf
                have fl := fgs_le (c := c) (q := p + 1)
                refine y_if_ne (tgt := 164) dX12_flourFault_156 (by decide) (fun h156 => ?_) (fun h156 => absurd h156 (by decide))
                refine y_aload_n dX12_flourFault_164 rfl rfl ?_
                refine y_getr dX12_flourFault_165 gf_X12_45 sh_239 rfl ?_
                refine y_iload_n dX12_flourFault_168 rfl rfl ?_
                refine y_aload_n dX12_flourFault_169 rfl rfl ?_
                refine y_geti dX12_flourFault_170 gf_X12_120 sh_239 rfl ?_
                refine y_iastN dX12_flourFault_173 sh_251 rfl (by first | omega | decide) (by decide) ?_
                refine y_aload_n dX12_flourFault_174 rfl rfl ?_
                refine y_dup dX12_flourFault_175 rfl ?_
                refine y_geti dX12_flourFault_176 gf_X12_123 sh_239 rfl ?_
                rw [s_upN (show 239 ≠ 251 by omega), g6, e3]
                refine y_iconst (v := 1) dX12_flourFault_179 (by decide) ?_
                refine y_iaddN (a := k) (b := 1) dX12_flourFault_180 rfl rfl ?_
                refine y_puti dX12_flourFault_181 pf_X12_123 sh_239 rfl rfl rfl ?_
                refine y_goto (tgt := 46) dX12_flourFault_184 (by decide) ?_
                first
                  | (rw [if_neg h83, if_neg (by omega), if_neg zf] at st
                     rw [st] at q
                     rw [g5]
                     refine ih (p + 1 + fgs c (p + 1)) _ (k + 1) _ _ (by omega) (by omega) (f1.tr (e1.tr (g1.tr ((fq.up1 (Or.inl rfl)).tr (fq.up9 (by omega) (by omega)))))) ?_ ?_ (fun i hi => ?_) q
                     · rw [s_upS, updN (by omega), s_upN (by omega)]; exact g4
                     · rw [s_upS, updS]
                     · rw [s_upN (by omega), s_upS, upd_ap, upd_ap, g2]
                       by_cases e : i = a
                       · rw [if_pos e, if_pos e]
                       · rw [if_neg e, if_neg e]; exact e4 i hi)
                  | (rw [if_pos h83] at st
                     rw [st] at q
                     exact ih (p + 1) P k _ _ (by omega) (by omega) (f1.tr (fq.up9 (by omega) (by omega))) (by rw [s_upS, updS]) (by rw [s_upS, updN (by omega)]; exact f3) (fun i hi => by rw [s_upN (by omega)]; exact f4 i hi) q)
              · rw [← elo, ← ehi] at zf
                have fl := fgs_le (c := c) (q := p + 1)
                refine y_if_ne (tgt := 164) dX12_flourFault_156 (by decide) (fun h156 => absurd (by decide) h156) (fun h156 => ?_)
                refine y_aload_n dX12_flourFault_159 rfl rfl ?_
                refine y_geti dX12_flourFault_160 gf_X12_114 sh_239 rfl ?_
                rw [g4]
                refine y_ireturn dX12_flourFault_163 rfl rfl ?_
                rw [if_neg h83, if_neg (by omega), if_pos zf] at st
                rw [st] at q
                exact q M2 (f1.tr (e1.tr g1)) (fun e => absurd e (nI_n9' (by omega)))
            · have ehi : hiP a = 99 := by rw [show a = 1 from (nI_eq (b := 1) (by omega) (by decide)).mp h143]; rfl
              refine y_bipush (v := 99) dX12_flourFault_146 (by decide) ?_
              refine y_goto (tgt := 153) dX12_flourFault_148 (by decide) ?_
              refine y_ivI3 dX12_flourFault_153 mv_X12_129 my_X12_number (Or.inl rfl) sh_239 ?_
              refine c_X12_number (q := p + 1) (c := c) (t := t) (s := s) (ht'.m e1) rfl e2 (by omega) (fun zf M2 g1 g2 g3 g4 g5 g6 g7 => ⟨_, rfl, ?_⟩) (fun zf M2 g1 g2 g3 g4 g5 g6 g7 => ⟨_, rfl, ?_⟩)
              · rw [← elo, ← ehi] at zf
                have fl := fgs_le (c := c) (q := p + 1)
                refine y_if_ne (tgt := 164) dX12_flourFault_156 (by decide) (fun h156 => ?_) (fun h156 => absurd h156 (by decide))
                refine y_aload_n dX12_flourFault_164 rfl rfl ?_
                refine y_getr dX12_flourFault_165 gf_X12_45 sh_239 rfl ?_
                refine y_iload_n dX12_flourFault_168 rfl rfl ?_
                refine y_aload_n dX12_flourFault_169 rfl rfl ?_
                refine y_geti dX12_flourFault_170 gf_X12_120 sh_239 rfl ?_
                refine y_iastN dX12_flourFault_173 sh_251 rfl (by first | omega | decide) (by decide) ?_
                refine y_aload_n dX12_flourFault_174 rfl rfl ?_
                refine y_dup dX12_flourFault_175 rfl ?_
                refine y_geti dX12_flourFault_176 gf_X12_123 sh_239 rfl ?_
                rw [s_upN (show 239 ≠ 251 by omega), g6, e3]
                refine y_iconst (v := 1) dX12_flourFault_179 (by decide) ?_
                refine y_iaddN (a := k) (b := 1) dX12_flourFault_180 rfl rfl ?_
                refine y_puti dX12_flourFault_181 pf_X12_123 sh_239 rfl rfl rfl ?_
                refine y_goto (tgt := 46) dX12_flourFault_184 (by decide) ?_
                first
                  | (rw [if_neg h83, if_neg (by omega), if_neg zf] at st
                     rw [st] at q
                     rw [g5]
                     refine ih (p + 1 + fgs c (p + 1)) _ (k + 1) _ _ (by omega) (by omega) (f1.tr (e1.tr (g1.tr ((fq.up1 (Or.inl rfl)).tr (fq.up9 (by omega) (by omega)))))) ?_ ?_ (fun i hi => ?_) q
                     · rw [s_upS, updN (by omega), s_upN (by omega)]; exact g4
                     · rw [s_upS, updS]
                     · rw [s_upN (by omega), s_upS, upd_ap, upd_ap, g2]
                       by_cases e : i = a
                       · rw [if_pos e, if_pos e]
                       · rw [if_neg e, if_neg e]; exact e4 i hi)
                  | (rw [if_pos h83] at st
                     rw [st] at q
                     exact ih (p + 1) P k _ _ (by omega) (by omega) (f1.tr (fq.up9 (by omega) (by omega))) (by rw [s_upS, updS]) (by rw [s_upS, updN (by omega)]; exact f3) (fun i hi => by rw [s_upN (by omega)]; exact f4 i hi) q)
              · rw [← elo, ← ehi] at zf
                have fl := fgs_le (c := c) (q := p + 1)
                refine y_if_ne (tgt := 164) dX12_flourFault_156 (by decide) (fun h156 => absurd (by decide) h156) (fun h156 => ?_)
                refine y_aload_n dX12_flourFault_159 rfl rfl ?_
                refine y_geti dX12_flourFault_160 gf_X12_114 sh_239 rfl ?_
                rw [g4]
                refine y_ireturn dX12_flourFault_163 rfl rfl ?_
                rw [if_neg h83, if_neg (by omega), if_pos zf] at st
                rw [st] at q
                exact q M2 (f1.tr (e1.tr g1)) (fun e => absurd e (nI_n9' (by omega)))
        · refine y_aload_n dX12_flourFault_86 rfl rfl ?_
          refine y_dup dX12_flourFault_87 rfl ?_
          refine y_geti dX12_flourFault_88 gf_X12_114 sh_239 rfl ?_
          rw [f2]
          refine y_iconst (v := 1) dX12_flourFault_91 (by decide) ?_
          refine y_iaddN (a := p) (b := 1) dX12_flourFault_92 rfl rfl ?_
          refine y_puti dX12_flourFault_93 pf_X12_114 sh_239 rfl rfl rfl ?_
          refine y_goto (tgt := 184) dX12_flourFault_96 (by decide) ?_
          refine y_goto (tgt := 46) dX12_flourFault_184 (by decide) ?_
          first
            | (rw [if_neg h83, if_neg (by omega), if_neg zf] at st
               rw [st] at q
               rw [g5]
               refine ih (p + 1 + fgs c (p + 1)) _ (k + 1) _ _ (by omega) (by omega) (f1.tr (e1.tr (g1.tr ((fq.up1 (Or.inl rfl)).tr (fq.up9 (by omega) (by omega)))))) ?_ ?_ (fun i hi => ?_) q
               · rw [s_upS, updN (by omega), s_upN (by omega)]; exact g4
               · rw [s_upS, updS]
               · rw [s_upN (by omega), s_upS, upd_ap, upd_ap, g2]
                 by_cases e : i = a
                 · rw [if_pos e, if_pos e]
                 · rw [if_neg e, if_neg e]; exact e4 i hi)
            | (rw [if_pos h83] at st
               rw [st] at q
               exact ih (p + 1) P k _ _ (by omega) (by omega) (f1.tr (fq.up9 (by omega) (by omega))) (by rw [s_upS, updS]) (by rw [s_upS, updN (by omega)]; exact f3) (fun i hi => by rw [s_upN (by omega)]; exact f4 i hi) q)
      · refine y_ist3_2 dX12_flourFault_71 rfl ?_
        refine y_aload_n dX12_flourFault_72 rfl rfl ?_
        refine y_iload_n dX12_flourFault_73 rfl rfl ?_
        refine y_aload_n dX12_flourFault_74 rfl rfl ?_
        refine y_geti dX12_flourFault_75 gf_X12_114 sh_239 rfl ?_
        rw [f2]
        refine y_ivI2 dX12_flourFault_78 mv_X12_117 my_X12_byteAt (Or.inl rfl) sh_239 ?_
        refine c_byteAt (i := p) ht' rfl rfl (by omega) ⟨_, rfl, ?_⟩
        rw [bt_in (by omega)]
        refine y_bipush (v := 32) dX12_flourFault_81 (by decide) ?_
        refine y_icmp_ne (tgt := 99) dX12_flourFault_83 (by decide) (fun h83 => ?_) (fun h83 => ?_)
        · refine y_iload_n dX12_flourFault_99 rfl rfl ?_
          refine y_bipush (v := -9) dX12_flourFault_100 (by decide) ?_
          refine y_icmp_ne (tgt := 110) dX12_flourFault_102 (by decide) (fun h102 => absurd (by decide) h102) (fun h102 => ?_)
          refine y_aload_n dX12_flourFault_105 rfl rfl ?_
          refine y_geti dX12_flourFault_106 gf_X12_114 sh_239 rfl ?_
          rw [f2]
          refine y_ireturn dX12_flourFault_109 rfl rfl ?_
          rw [if_neg h83, if_pos a5] at st
          rw [st] at q
          exact q M f1 (fun e => absurd e (nI_n9' (by omega)))
        · refine y_aload_n dX12_flourFault_86 rfl rfl ?_
          refine y_dup dX12_flourFault_87 rfl ?_
          refine y_geti dX12_flourFault_88 gf_X12_114 sh_239 rfl ?_
          rw [f2]
          refine y_iconst (v := 1) dX12_flourFault_91 (by decide) ?_
          refine y_iaddN (a := p) (b := 1) dX12_flourFault_92 rfl rfl ?_
          refine y_puti dX12_flourFault_93 pf_X12_114 sh_239 rfl rfl rfl ?_
          refine y_goto (tgt := 184) dX12_flourFault_96 (by decide) ?_
          refine y_goto (tgt := 46) dX12_flourFault_184 (by decide) ?_
          first
            | (rw [if_neg h83, if_neg (by omega), if_neg zf] at st
               rw [st] at q
               rw [g5]
               refine ih (p + 1 + fgs c (p + 1)) _ (k + 1) _ _ (by omega) (by omega) (f1.tr (e1.tr (g1.tr ((fq.up1 (Or.inl rfl)).tr (fq.up9 (by omega) (by omega)))))) ?_ ?_ (fun i hi => ?_) q
               · rw [s_upS, updN (by omega), s_upN (by omega)]; exact g4
               · rw [s_upS, updS]
               · rw [s_upN (by omega), s_upS, upd_ap, upd_ap, g2]
                 by_cases e : i = a
                 · rw [if_pos e, if_pos e]
                 · rw [if_neg e, if_neg e]; exact e4 i hi)
            | (rw [if_pos h83] at st
               rw [st] at q
               exact ih (p + 1) P k _ _ (by omega) (by omega) (f1.tr (fq.up9 (by omega) (by omega))) (by rw [s_upS, updS]) (by rw [s_upS, updN (by omega)]; exact f3) (fun i hi => by rw [s_upN (by omega)]; exact f4 i hi) q)
