/-! ===== a doing changed by one thing is well formed ===== -/
theorem d_change {R : Nat → Int32} {q : Nat} (h : dOK R) (z : canC R (cOf R) q) : dOK (changeR (cOf R) q R) := by
  have hi : q / 10 < cOf R := z.1
  have h2 := h.2.1
  have hs := h.2.2.1 (q / 10) hi
  have hl : lst R (q / 10) → lastsR R (q / 10) := fun y => hs.resolve_left (fun e => lst_gt (once_n e) y)
  have hk : q % 10 = 0 ∨ q % 10 = 1 ∨ q % 10 = 2 ∨ q % 10 = 3 ∨ q % 10 = 4 := by rcases z.2 with e | e | e | e | e <;> omega
  rcases hk with hr | hr | hr | hr | hr
  · obtain ⟨c1, c2⟩ := can0 hr z
    obtain ⟨w, w1, w2⟩ := (hl c1).2.1
    rw [w1, show (0 : Int32) = nI 0 from nI_0.symm, nI_ltI (by omega) (by omega)] at c2
    unfold changeR
    rw [if_pos hr]
    exact d_warm (w := w - 1) h hi (by rw [w1]; exact pk_sub (a := w) (b := 1) (by omega)) (by omega)
  · obtain ⟨c1, c2⟩ := can1 hr z
    obtain ⟨w, w1, w2⟩ := (hl c1).2.1
    rw [w1] at c2
    have c2 : w < 9 := (nI_ltI (b := 9) (by omega) (by omega)).mp c2
    unfold changeR
    rw [if_neg (by omega), if_pos hr]
    exact d_warm (w := w + 1) h hi (by rw [w1, nI_1]) (by omega)
  · obtain ⟨c1, c2, c3, c4⟩ := can2 hr z
    obtain ⟨t, t1, t2, t3⟩ := (hl c1).2.2
    have e : nI t - 1 = nI (t - 1) := pk_sub (a := t) (b := 1) t2
    rw [t1, e] at c2
    have c2 : 1 ≤ t - 1 := (nI_leI (a := 1) (by omega) (by omega)).mp c2
    have et : tOf R (q / 10) = t := by unfold tOf; rw [t1, nI_clamp (by omega)]
    have hT := h.2.2.2.2
    unfold changeR
    rw [if_neg (by omega), if_neg (by omega), if_pos hr]
    exact d_turn (t := t - 1) h hi (hl c1) (by rw [t1, e]) c2 (by omega) (by omega)
  · obtain ⟨c1, c2, c3, c4⟩ := can3 hr z
    obtain ⟨t, t1, t2, t3⟩ := (hl c1).2.2
    rw [t1, nI_1] at c3
    have c3 : t + 1 ≤ 30 := (nI_leI (b := 30) (by omega) (by omega)).mp c3
    have et : tOf R (q / 10) = t := by unfold tOf; rw [t1, nI_clamp (by omega)]
    have hT := h.2.2.2.2
    rw [← Int32.add_assoc, Int32.sub_add_cancel, rsum_Tn h.2.2.1 h.2.2.2.1 (cOf R) (Nat.le_refl _), nI_1] at c4
    have c4 : Tn R (cOf R) + 1 ≤ 90 := (nI_leI (b := 90) (by omega) (by omega)).mp c4
    unfold changeR
    rw [if_neg (by omega), if_neg (by omega), if_neg (by omega), if_pos hr]
    exact d_turn (t := t + 1) h hi (hl c1) (by rw [t1, nI_1]) (by omega) c3 (by omega)
  · unfold changeR
    rw [if_neg (by omega), if_neg (by omega), if_neg (by omega), if_neg (by omega)]
    exact d_leave h hi
