/-! ===== the law: its head ===== -/
set_option maxRecDepth 10000 in
theorem M11_len : ([] ++ b_11 0 : aH).length = 239 := by decide +kernel
theorem law_head {L : Nat} {xs : Nat → Int32} {d : Nat} {Q : aQ} (hL : L ≤ 3072) (hQ : ∀ M : aH, M.length = 262 → a_sum M = 6726 → Q (some (.int 1)) M) : aV (scT L xs) (aRun (scT L xs) (d + 11)) "LoafFallLaw" cL_law 4 (some .boolean) false 262 6726 Q 0 [some (.ref (100000 + 6)), none, none, none] [] [] := by
  refine x_new dL_law_0 nw_L_7 (Nat.le_of_ble_eq_true rfl) (Nat.le_of_ble_eq_true rfl) ?_
  refine x_dup dL_law_3 rfl ?_
  refine x_ii (mc := 238) (ms := 4017) (aRun_mono _ _) dL_law_4 mi_L_9 my_X11_init (Nat.le_of_ble_eq_true rfl) (Nat.le_of_ble_eq_true rfl) (Nat.le_of_ble_eq_true rfl) ?_
  refine i_X11_init (M1 := []) (a := 0) rfl ⟨rfl, ?_⟩
  refine x_astore_n dL_law_7 rfl (by decide) ?_
  change aV _ _ _ _ _ _ _ _ _ _ _ [some (.ref (100000 + 6)), some (.ref 0), none, none] _ _
  obtain ⟨M11, e11⟩ : ∃ M : aH, M = [] ++ b_11 0 := ⟨_, rfl⟩
  rw [← e11]
  have l11 : M11.length = 239 := by rw [e11]; exact M11_len
  have hb : M11 ++ b_12 239 = bld m0 n0 := by rw [e11]; exact bld_of ok_m0
  have s12 : a_sum (b_12 239) = 2689 := sum_of (l := [33, 6, 6, 240, 40, 4, 320, 4, 20, 4, 4, 120, 5, 30, 4, 1645, 24, 24, 16, 31, 24, 81, 4]) rfl (by decide +kernel)
  have s11 : a_sum M11 + 2689 = 6726 := by
    have h : a_sum (M11 ++ b_12 239) = 6726 := by rw [hb]; exact bld_sum m0 n0
    rw [sum_app, s12] at h
    exact h
  refine x_new dL_law_8 nw_L_10 (by rw [l11]; decide) (by show a_sum M11 + 33 ≤ 6726; omega) ?_
  refine x_dup dL_law_11 rfl ?_
  rw [l11]
  refine x_ii (mc := 22) (ms := 2656) (aRun_mono _ _) dL_law_12 mi_L_12 my_X12_init (Nat.le_of_ble_eq_true rfl) (by rw [List.length_append, l11]; decide) (by rw [sum_app]; show a_sum M11 + 33 + 2656 ≤ 6726; omega) ?_
  refine i_X12_init (M1 := M11) (a := 239) l11 ⟨rfl, ?_⟩
  rw [hb]
  refine x_astore_n dL_law_15 rfl (by decide) ?_
  change aV _ _ _ _ _ _ _ _ _ _ _ [some (.ref (100000 + 6)), some (.ref 0), some (.ref 239), none] _ _
  refine x_iconst (v := 0) dL_law_16 (by decide) ?_
  refine x_istore_n dL_law_17 rfl (by decide) ?_
  change aV _ _ _ _ _ _ _ _ _ _ _ [some (.ref (100000 + 6)), some (.ref 0), some (.ref 239), some (.int (nI 0))] _ _
  have h := lw_loop (L := L) (xs := xs) (d := d) (Q := fun r _ _ => r = some (.int 1)) hL (fun _ _ => rfl) 3072 0 m0 n0 (by omega) (by omega) rel0
  refine aV_mono (fun r M z => ?_) h
  obtain ⟨z1, z2, m', n', -, z3⟩ := z
  rw [z3]
  exact hQ M z1 z2
