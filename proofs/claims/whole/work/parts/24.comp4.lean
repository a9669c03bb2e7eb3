/-! ===== what is done at once ===== -/
theorem once3 {c : Nat} {R : Nat → Int32} : onceC 3 c R = upd (upd R (41 + 5 * c + 1) (lsr 99 (R (41 + 5 * c + 1) + 10))) (41 + 5 * c + 0) (R (41 + 5 * c + 0) / 2) := by unfold onceC; rw [if_pos rfl]
theorem once5 {c : Nat} {R : Nat → Int32} : onceC 5 c R = (if isOut c then upd R (41 + 5 * c + 2) (gtr 0 (R (41 + 5 * c + 2) - 20)) else upd R (41 + 5 * c + 2) (R (41 + 5 * c + 2))) := by unfold onceC; rw [if_neg (by decide), if_pos rfl]
theorem once4 {c : Nat} {R : Nat → Int32} : onceC 4 c R = (if R (41 + 5 * c + 4) = 0 ∧ R (41 + 5 * c + 1) < R (41 + 5 * c + 0) then tearF (qOf R) c 3 R else upd R (41 + 5 * c + 0) (R (41 + 5 * c + 0) - R (41 + 5 * c + 0) / 4)) := by unfold onceC; rw [if_neg (by decide), if_neg (by decide)]
theorem updId {f : Nat → Int32} {k : Nat} : upd f k (f k) = f := by
  funext j
  unfold upd
  by_cases h : j = k
  · rw [if_pos h, h]
  · rw [if_neg h]
/-- gas less stretch does not wrap around, and torn cells have no gas -/
def kOK (R : Nat → Int32) : Prop := ∀ k, k < 24 → (¬ foldR (onceC 4) k R (41 + 5 * k + 0) - foldR (onceC 4) k R (41 + 5 * k + 1) ≤ 0 ↔ foldR (onceC 4) k R (41 + 5 * k + 1) < foldR (onceC 4) k R (41 + 5 * k + 0)) ∧ (¬ foldR (onceC 4) k R (41 + 5 * k + 4) = 0 → foldR (onceC 4) k R (41 + 5 * k + 0) = 0)

set_option maxHeartbeats 1000000 in
theorem c_X2_knead {L : Nat} {xs : Nat → Int32} {d : Nat} {m : sM} {n : sN} {Q : sQ} {L0 : Nat} {R : Nat → Int32} (hL : isLf L0) (hLR : LR m L0 R) (hQ : ∀ m', LR m' L0 (atOnceF 3 R) → LF m m' L0 → Q none m' n) : sRun (scT L xs) (d + 1) yX2_knead cX2_knead 2 none [.ref (L0 + 7)] m n Q := by
  refine y_run (own := "LoafFall$Dough") rfl (by decide +kernel) (Nat.le_of_ble_eq_true rfl) rfl ?_
  refine y_iconst (v := 0) dX2_knead_0 (by decide) ?_
  refine y_ist2_1 dX2_knead_1 rfl ?_
  have step : ∀ (k : Nat) (m' : sM) (Rk : Nat → Int32) (x y : Int32), k < 24 → LR m' L0 Rk → x = lsr 99 (Rk (41 + 5 * k + 1) + 10) → y = Rk (41 + 5 * k + 0) / 2 → LR (s_up (s_up m' (L0 + 9) (upd (m' (L0 + 9)) k x)) (L0 + 8) (upd (m' (L0 + 8)) k y)) L0 (onceC 3 k Rk) ∧ LF m' (s_up (s_up m' (L0 + 9) (upd (m' (L0 + 9)) k x)) (L0 + 8) (upd (m' (L0 + 8)) k y)) L0 := by
    intro k m' Rk x y hk h1 ex ey
    refine LR_once (kind := 3) h1 hk (fun a j hn => ?_) (fun p p0 p1 p2 => by rw [once3, updN p0, updN p1]) ?_ ?_ ?_
    · by_cases e1 : a = L0 + 8
      · rw [e1] at hn ⊢
        rw [s_upS, updN (fun z => hn ⟨Or.inl rfl, z⟩)]
      · rw [s_upN e1]
        by_cases e2 : a = L0 + 9
        · rw [e2] at hn ⊢
          rw [s_upS, updN (fun z => hn ⟨Or.inr (Or.inl rfl), z⟩)]
        · rw [s_upN e2]
    · rw [s_upS, updS, once3, updS, ey]
    · rw [s_upN (by omega), s_upS, updS, once3, updN (by omega), updS, ex]
    · rw [s_upN (by omega), s_upN (by omega), h1.h hk, once3, updN (by omega), updN (by omega)]
  refine cnt (P := fun k => ∀ m' : sM, LR m' L0 (foldR (onceC 3) k R) → LF m m' L0 → sV (scT L xs) d "LoafFall$Dough" cX2_knead 2 none Q 2 [some (.ref (L0 + 7)), some (.int (nI k))] [] m' n) 24 ?_ ?_ 0 (by omega) m hLR LF.rf
  · intro m' h1 h2
    refine y_iload_n dX2_knead_2 rfl rfl ?_
    refine y_bipush (v := 24) dX2_knead_3 (by decide) ?_
    refine y_icmp_ge (tgt := 44) dX2_knead_5 (by decide) (fun h5 => ?_) (fun h5 => absurd (nI_le (a := 24) (b := 24) (Nat.le_refl _) (by decide)) h5)
    refine y_return dX2_knead_44 rfl ?_
    exact hQ _ h1 h2
  · intro k hk hP
    intro m' h1 h2
    generalize hRk : foldR (onceC 3) k R = Rk at h1
    replace hP : ∀ m' : sM, LR m' L0 (onceC 3 k Rk) → LF m m' L0 → sV (scT L xs) d "LoafFall$Dough" cX2_knead 2 none Q 2 [some (.ref (L0 + 7)), some (.int (nI (k + 1)))] [] m' n := by rw [← hRk]; exact hP
    refine y_iload_n dX2_knead_2 rfl rfl ?_
    refine y_bipush (v := 24) dX2_knead_3 (by decide) ?_
    refine y_icmp_ge (tgt := 44) dX2_knead_5 (by decide) (fun h5 => absurd h5 (nI_ge (a := k) (b := 24) hk (by decide))) (fun h5 => ?_)
    refine y_aload_n dX2_knead_8 rfl rfl ?_
    refine y_getr dX2_knead_9 gf_X2_15 hL.2.2.2.1.1 rfl ?_
    refine y_iload_n dX2_knead_12 rfl rfl ?_
    refine y_bipush (v := 99) dX2_knead_13 (by decide) ?_
    refine y_aload_n dX2_knead_15 rfl rfl ?_
    refine y_getr dX2_knead_16 gf_X2_15 hL.2.2.2.1.1 rfl ?_
    refine y_iload_n dX2_knead_19 rfl rfl ?_
    refine y_ialdN dX2_knead_20 hL.2.2.2.1.2.2.1 rfl (by first | omega | decide) (by decide) ?_
    rw [h1.t hk]
    refine y_bipush (v := 10) dX2_knead_21 (by decide) ?_
    refine y_iadd dX2_knead_23 ?_
    refine y_mmin dX2_knead_24 mm_X2_74 (Nat.le_of_ble_eq_true rfl) ?_
    rw [min99]
    refine y_iastN dX2_knead_27 hL.2.2.2.1.2.2.1 rfl (by first | omega | decide) (by decide) ?_
    refine y_aload_n dX2_knead_28 rfl rfl ?_
    refine y_getr dX2_knead_29 gf_X2_9 hL.2.2.2.1.1 rfl ?_
    refine y_iload_n dX2_knead_32 rfl rfl ?_
    refine y_dup2 dX2_knead_33 rfl rfl ?_
    refine y_ialdN dX2_knead_34 hL.2.2.2.1.2.1 rfl (by first | omega | decide) (by decide) ?_
    rw [s_upN (by omega), h1.g hk]
    refine y_iconst (v := 2) dX2_knead_35 (by decide) ?_
    refine y_idiv dX2_knead_36 (by decide) ?_
    refine y_iastN dX2_knead_37 hL.2.2.2.1.2.1 rfl (by first | omega | decide) (by decide) ?_
    refine y_iinc2_1 dX2_knead_38 (nI_1 _) rfl ?_
    refine y_goto (tgt := 2) dX2_knead_41 (by decide) ?_
    rw [s_upN (show L0 + 8 ≠ L0 + 9 by omega)]
    exact hP _ (step k m' Rk _ _ hk h1 rfl rfl).1 (h2.tr (step k m' Rk _ _ hk h1 rfl rfl).2)
set_option maxHeartbeats 1000000 in
theorem c_X2_openDoor {L : Nat} {xs : Nat → Int32} {d : Nat} {m : sM} {n : sN} {Q : sQ} {L0 : Nat} {R : Nat → Int32} (hL : isLf L0) (hLR : LR m L0 R) (hQ : ∀ m', LR m' L0 (atOnceF 5 R) → LF m m' L0 → Q none m' n) : sRun (scT L xs) (d + 1) yX2_openDoor cX2_openDoor 2 none [.ref (L0 + 7)] m n Q := by
  refine y_run (own := "LoafFall$Dough") rfl (by decide +kernel) (Nat.le_of_ble_eq_true rfl) rfl ?_
  refine y_iconst (v := 0) dX2_openDoor_0 (by decide) ?_
  refine y_ist2_1 dX2_openDoor_1 rfl ?_
  have step : ∀ (k : Nat) (m' : sM) (Rk : Nat → Int32) (x : Int32), k < 24 → LR m' L0 Rk → isOut k → x = gtr 0 (Rk (41 + 5 * k + 2) - 20) → LR (s_up m' (L0 + 10) (upd (m' (L0 + 10)) k x)) L0 (onceC 5 k Rk) ∧ LF m' (s_up m' (L0 + 10) (upd (m' (L0 + 10)) k x)) L0 := by
    intro k m' Rk x hk h1 hO ex
    refine LR_once (kind := 5) h1 hk (fun a j hn => ?_) (fun p p0 p1 p2 => by rw [once5, if_pos hO, updN p2]) ?_ ?_ ?_
    · by_cases e1 : a = L0 + 10
      · rw [e1] at hn ⊢
        rw [s_upS, updN (fun z => hn ⟨Or.inr (Or.inr rfl), z⟩)]
      · rw [s_upN e1]
    · rw [s_upN (by omega), h1.g hk, once5, if_pos hO, updN (by omega)]
    · rw [s_upN (by omega), h1.t hk, once5, if_pos hO, updN (by omega)]
    · rw [s_upS, updS, once5, if_pos hO, updS, ex]
  refine cnt (P := fun k => ∀ m' : sM, LR m' L0 (foldR (onceC 5) k R) → LF m m' L0 → sV (scT L xs) d "LoafFall$Dough" cX2_openDoor 2 none Q 2 [some (.ref (L0 + 7)), some (.int (nI k))] [] m' n) 24 ?_ ?_ 0 (by omega) m hLR LF.rf
  · intro m' h1 h2
    refine y_iload_n dX2_openDoor_2 rfl rfl ?_
    refine y_bipush (v := 24) dX2_openDoor_3 (by decide) ?_
    refine y_icmp_ge (tgt := 50) dX2_openDoor_5 (by decide) (fun h5 => ?_) (fun h5 => absurd (nI_le (a := 24) (b := 24) (Nat.le_refl _) (by decide)) h5)
    refine y_return dX2_openDoor_50 rfl ?_
    exact hQ _ h1 h2
  · intro k hk hP
    intro m' h1 h2
    generalize hRk : foldR (onceC 5) k R = Rk at h1
    replace hP : ∀ m' : sM, LR m' L0 (onceC 5 k Rk) → LF m m' L0 → sV (scT L xs) d "LoafFall$Dough" cX2_openDoor 2 none Q 2 [some (.ref (L0 + 7)), some (.int (nI (k + 1)))] [] m' n := by rw [← hRk]; exact hP
    refine y_iload_n dX2_openDoor_2 rfl rfl ?_
    refine y_bipush (v := 24) dX2_openDoor_3 (by decide) ?_
    refine y_icmp_ge (tgt := 50) dX2_openDoor_5 (by decide) (fun h5 => absurd h5 (nI_ge (a := k) (b := 24) hk (by decide))) (fun h5 => ?_)
    refine y_iload_n dX2_openDoor_8 rfl rfl ?_
    refine y_iconst (v := 2) dX2_openDoor_9 (by decide) ?_
    refine y_iremN (a := k) (b := 2) dX2_openDoor_10 rfl rfl (by omega) (by decide) (by decide) ?_
    refine y_if_eq (tgt := 25) dX2_openDoor_11 (by decide) (fun h11 => ?_) (fun h11 => ?_)
    · refine y_aload_n dX2_openDoor_25 rfl rfl ?_
      refine y_getr dX2_openDoor_26 gf_X2_18 hL.2.2.2.1.1 rfl ?_
      refine y_iload_n dX2_openDoor_29 rfl rfl ?_
      refine y_iconst (v := 0) dX2_openDoor_30 (by decide) ?_
      refine y_aload_n dX2_openDoor_31 rfl rfl ?_
      refine y_getr dX2_openDoor_32 gf_X2_18 hL.2.2.2.1.1 rfl ?_
      refine y_iload_n dX2_openDoor_35 rfl rfl ?_
      refine y_ialdN dX2_openDoor_36 hL.2.2.2.1.2.2.2.1 rfl (by first | omega | decide) (by decide) ?_
      rw [h1.h hk]
      refine y_bipush (v := 20) dX2_openDoor_37 (by decide) ?_
      refine y_isub dX2_openDoor_39 ?_
      refine y_mmax dX2_openDoor_40 mm_X2_54 (Nat.le_of_ble_eq_true rfl) ?_
      rw [max0]
      refine y_iastN dX2_openDoor_43 hL.2.2.2.1.2.2.2.1 rfl (by first | omega | decide) (by decide) ?_
      refine y_iinc2_1 dX2_openDoor_44 (nI_1 _) rfl ?_
      refine y_goto (tgt := 2) dX2_openDoor_47 (by decide) ?_
      first
        | (have hN : ¬ isOut k := (by
             have q1 : ¬ k % 2 = 0 := fun z => h11 ((nI_eq (a := k % 2) (b := 0) (by omega) (by decide)).mpr z)
             have q2 : ¬ k < 2 := fun z => h16 (nI_lt (a := k) (b := 2) z (by decide))
             have q3 := (nI_ltI (a := k) (b := 22) (by omega) (by decide)).mp h22
             show ¬ (k % 2 = 0 ∨ k / 2 = 0 ∨ k / 2 = 11)
             omega); rw [once5, if_neg hN, updId] at hP; exact hP _ h1 h2)
        | (have hO : isOut k := (by
             have q1 := (nI_eq (a := k % 2) (b := 0) (by omega) (by decide)).mp h11
             show k % 2 = 0 ∨ k / 2 = 0 ∨ k / 2 = 11
             omega); exact hP _ (step k m' Rk _ hk h1 hO rfl).1 (h2.tr (step k m' Rk _ hk h1 hO rfl).2))
        | (have hO : isOut k := (by
             have q1 := (nI_ltI (a := k) (b := 2) (by omega) (by decide)).mp h16
             show k % 2 = 0 ∨ k / 2 = 0 ∨ k / 2 = 11
             omega); exact hP _ (step k m' Rk _ hk h1 hO rfl).1 (h2.tr (step k m' Rk _ hk h1 hO rfl).2))
        | (have hO : isOut k := (by
             have q1 : ¬ k < 22 := fun z => h22 (nI_lt (a := k) (b := 22) z (by decide))
             show k % 2 = 0 ∨ k / 2 = 0 ∨ k / 2 = 11
             omega); exact hP _ (step k m' Rk _ hk h1 hO rfl).1 (h2.tr (step k m' Rk _ hk h1 hO rfl).2))
    · refine y_iload_n dX2_openDoor_14 rfl rfl ?_
      refine y_iconst (v := 2) dX2_openDoor_15 (by decide) ?_
      refine y_icmp_lt (tgt := 25) dX2_openDoor_16 (by decide) (fun h16 => ?_) (fun h16 => ?_)
      · refine y_aload_n dX2_openDoor_25 rfl rfl ?_
        refine y_getr dX2_openDoor_26 gf_X2_18 hL.2.2.2.1.1 rfl ?_
        refine y_iload_n dX2_openDoor_29 rfl rfl ?_
        refine y_iconst (v := 0) dX2_openDoor_30 (by decide) ?_
        refine y_aload_n dX2_openDoor_31 rfl rfl ?_
        refine y_getr dX2_openDoor_32 gf_X2_18 hL.2.2.2.1.1 rfl ?_
        refine y_iload_n dX2_openDoor_35 rfl rfl ?_
        refine y_ialdN dX2_openDoor_36 hL.2.2.2.1.2.2.2.1 rfl (by first | omega | decide) (by decide) ?_
        rw [h1.h hk]
        refine y_bipush (v := 20) dX2_openDoor_37 (by decide) ?_
        refine y_isub dX2_openDoor_39 ?_
        refine y_mmax dX2_openDoor_40 mm_X2_54 (Nat.le_of_ble_eq_true rfl) ?_
        rw [max0]
        refine y_iastN dX2_openDoor_43 hL.2.2.2.1.2.2.2.1 rfl (by first | omega | decide) (by decide) ?_
        refine y_iinc2_1 dX2_openDoor_44 (nI_1 _) rfl ?_
        refine y_goto (tgt := 2) dX2_openDoor_47 (by decide) ?_
        first
          | (have hN : ¬ isOut k := (by
               have q1 : ¬ k % 2 = 0 := fun z => h11 ((nI_eq (a := k % 2) (b := 0) (by omega) (by decide)).mpr z)
               have q2 : ¬ k < 2 := fun z => h16 (nI_lt (a := k) (b := 2) z (by decide))
               have q3 := (nI_ltI (a := k) (b := 22) (by omega) (by decide)).mp h22
               show ¬ (k % 2 = 0 ∨ k / 2 = 0 ∨ k / 2 = 11)
               omega); rw [once5, if_neg hN, updId] at hP; exact hP _ h1 h2)
          | (have hO : isOut k := (by
               have q1 := (nI_eq (a := k % 2) (b := 0) (by omega) (by decide)).mp h11
               show k % 2 = 0 ∨ k / 2 = 0 ∨ k / 2 = 11
               omega); exact hP _ (step k m' Rk _ hk h1 hO rfl).1 (h2.tr (step k m' Rk _ hk h1 hO rfl).2))
          | (have hO : isOut k := (by
               have q1 := (nI_ltI (a := k) (b := 2) (by omega) (by decide)).mp h16
               show k % 2 = 0 ∨ k / 2 = 0 ∨ k / 2 = 11
               omega); exact hP _ (step k m' Rk _ hk h1 hO rfl).1 (h2.tr (step k m' Rk _ hk h1 hO rfl).2))
          | (have hO : isOut k := (by
               have q1 : ¬ k < 22 := fun z => h22 (nI_lt (a := k) (b := 22) z (by decide))
               show k % 2 = 0 ∨ k / 2 = 0 ∨ k / 2 = 11
               omega); exact hP _ (step k m' Rk _ hk h1 hO rfl).1 (h2.tr (step k m' Rk _ hk h1 hO rfl).2))
      · refine y_iload_n dX2_openDoor_19 rfl rfl ?_
        refine y_bipush (v := 22) dX2_openDoor_20 (by decide) ?_
        refine y_icmp_lt (tgt := 44) dX2_openDoor_22 (by decide) (fun h22 => ?_) (fun h22 => ?_)
        · refine y_iinc2_1 dX2_openDoor_44 (nI_1 _) rfl ?_
          refine y_goto (tgt := 2) dX2_openDoor_47 (by decide) ?_
          first
            | (have hN : ¬ isOut k := (by
                 have q1 : ¬ k % 2 = 0 := fun z => h11 ((nI_eq (a := k % 2) (b := 0) (by omega) (by decide)).mpr z)
                 have q2 : ¬ k < 2 := fun z => h16 (nI_lt (a := k) (b := 2) z (by decide))
                 have q3 := (nI_ltI (a := k) (b := 22) (by omega) (by decide)).mp h22
                 show ¬ (k % 2 = 0 ∨ k / 2 = 0 ∨ k / 2 = 11)
                 omega); rw [once5, if_neg hN, updId] at hP; exact hP _ h1 h2)
            | (have hO : isOut k := (by
                 have q1 := (nI_eq (a := k % 2) (b := 0) (by omega) (by decide)).mp h11
                 show k % 2 = 0 ∨ k / 2 = 0 ∨ k / 2 = 11
                 omega); exact hP _ (step k m' Rk _ hk h1 hO rfl).1 (h2.tr (step k m' Rk _ hk h1 hO rfl).2))
            | (have hO : isOut k := (by
                 have q1 := (nI_ltI (a := k) (b := 2) (by omega) (by decide)).mp h16
                 show k % 2 = 0 ∨ k / 2 = 0 ∨ k / 2 = 11
                 omega); exact hP _ (step k m' Rk _ hk h1 hO rfl).1 (h2.tr (step k m' Rk _ hk h1 hO rfl).2))
            | (have hO : isOut k := (by
                 have q1 : ¬ k < 22 := fun z => h22 (nI_lt (a := k) (b := 22) z (by decide))
                 show k % 2 = 0 ∨ k / 2 = 0 ∨ k / 2 = 11
                 omega); exact hP _ (step k m' Rk _ hk h1 hO rfl).1 (h2.tr (step k m' Rk _ hk h1 hO rfl).2))
        · refine y_aload_n dX2_openDoor_25 rfl rfl ?_
          refine y_getr dX2_openDoor_26 gf_X2_18 hL.2.2.2.1.1 rfl ?_
          refine y_iload_n dX2_openDoor_29 rfl rfl ?_
          refine y_iconst (v := 0) dX2_openDoor_30 (by decide) ?_
          refine y_aload_n dX2_openDoor_31 rfl rfl ?_
          refine y_getr dX2_openDoor_32 gf_X2_18 hL.2.2.2.1.1 rfl ?_
          refine y_iload_n dX2_openDoor_35 rfl rfl ?_
          refine y_ialdN dX2_openDoor_36 hL.2.2.2.1.2.2.2.1 rfl (by first | omega | decide) (by decide) ?_
          rw [h1.h hk]
          refine y_bipush (v := 20) dX2_openDoor_37 (by decide) ?_
          refine y_isub dX2_openDoor_39 ?_
          refine y_mmax dX2_openDoor_40 mm_X2_54 (Nat.le_of_ble_eq_true rfl) ?_
          rw [max0]
          refine y_iastN dX2_openDoor_43 hL.2.2.2.1.2.2.2.1 rfl (by first | omega | decide) (by decide) ?_
          refine y_iinc2_1 dX2_openDoor_44 (nI_1 _) rfl ?_
          refine y_goto (tgt := 2) dX2_openDoor_47 (by decide) ?_
          first
            | (have hN : ¬ isOut k := (by
                 have q1 : ¬ k % 2 = 0 := fun z => h11 ((nI_eq (a := k % 2) (b := 0) (by omega) (by decide)).mpr z)
                 have q2 : ¬ k < 2 := fun z => h16 (nI_lt (a := k) (b := 2) z (by decide))
                 have q3 := (nI_ltI (a := k) (b := 22) (by omega) (by decide)).mp h22
                 show ¬ (k % 2 = 0 ∨ k / 2 = 0 ∨ k / 2 = 11)
                 omega); rw [once5, if_neg hN, updId] at hP; exact hP _ h1 h2)
            | (have hO : isOut k := (by
                 have q1 := (nI_eq (a := k % 2) (b := 0) (by omega) (by decide)).mp h11
                 show k % 2 = 0 ∨ k / 2 = 0 ∨ k / 2 = 11
                 omega); exact hP _ (step k m' Rk _ hk h1 hO rfl).1 (h2.tr (step k m' Rk _ hk h1 hO rfl).2))
            | (have hO : isOut k := (by
                 have q1 := (nI_ltI (a := k) (b := 2) (by omega) (by decide)).mp h16
                 show k % 2 = 0 ∨ k / 2 = 0 ∨ k / 2 = 11
                 omega); exact hP _ (step k m' Rk _ hk h1 hO rfl).1 (h2.tr (step k m' Rk _ hk h1 hO rfl).2))
            | (have hO : isOut k := (by
                 have q1 : ¬ k < 22 := fun z => h22 (nI_lt (a := k) (b := 22) z (by decide))
                 show k % 2 = 0 ∨ k / 2 = 0 ∨ k / 2 = 11
                 omega); exact hP _ (step k m' Rk _ hk h1 hO rfl).1 (h2.tr (step k m' Rk _ hk h1 hO rfl).2))
set_option maxHeartbeats 1000000 in
theorem c_X6_knockDown {L : Nat} {xs : Nat → Int32} {d : Nat} {m : sM} {n : sN} {Q : sQ} {L0 : Nat} {R : Nat → Int32} (hL : isLf L0) (hLR : LR m L0 R) (hw : wfR R) (hko : kOK R) (hQ : ∀ m', LR m' L0 (atOnceF 4 R) → LF m m' L0 → Q none m' n) : sRun (scT L xs) (d + 3) yX6_knockDown cX6_knockDown 3 none [.ref L0] m n Q := by
  refine y_run (own := "LoafFall$Loaf") rfl (by decide +kernel) (Nat.le_of_ble_eq_true rfl) rfl ?_
  refine y_iconst (v := 0) dX6_knockDown_0 (by decide) ?_
  refine y_ist3_1 dX6_knockDown_1 rfl ?_
  have step : ∀ (k : Nat) (m' : sM) (Rk : Nat → Int32) (x : Int32), k < 24 → LR m' L0 Rk → ¬ (Rk (41 + 5 * k + 4) = 0 ∧ Rk (41 + 5 * k + 1) < Rk (41 + 5 * k + 0)) → x = Rk (41 + 5 * k + 0) - Rk (41 + 5 * k + 0) / 4 → LR (s_up m' (L0 + 8) (upd (m' (L0 + 8)) k x)) L0 (onceC 4 k Rk) ∧ LF m' (s_up m' (L0 + 8) (upd (m' (L0 + 8)) k x)) L0 := by
    intro k m' Rk x hk h1 hO ex
    refine LR_once (kind := 4) h1 hk (fun a j hn => ?_) (fun p p0 p1 p2 => by rw [once4, if_neg hO, updN p0]) ?_ ?_ ?_
    · by_cases e1 : a = L0 + 8
      · rw [e1] at hn ⊢
        rw [s_upS, updN (fun z => hn ⟨Or.inl rfl, z⟩)]
      · rw [s_upN e1]
    · rw [s_upS, updS, once4, if_neg hO, updS, ex]
    · rw [s_upN (by omega), h1.t hk, once4, if_neg hO, updN (by omega)]
    · rw [s_upN (by omega), h1.h hk, once4, if_neg hO, updN (by omega)]
  refine cnt (P := fun k => ∀ (m' : sM) (a2 : Option Value), LR m' L0 (foldR (onceC 4) k R) → LF m m' L0 → sV (scT L xs) (d + 2) "LoafFall$Loaf" cX6_knockDown 3 none Q 2 [some (.ref L0), some (.int (nI k)), a2] [] m' n) 24 ?_ ?_ 0 (by omega) m _ hLR LF.rf
  · intro m' a2 h1 h2
    refine y_iload_n dX6_knockDown_2 rfl rfl ?_
    refine y_bipush (v := 24) dX6_knockDown_3 (by decide) ?_
    refine y_icmp_ge (tgt := 86) dX6_knockDown_5 (by decide) (fun h5 => ?_) (fun h5 => absurd (nI_le (a := 24) (b := 24) (Nat.le_refl _) (by decide)) h5)
    refine y_return dX6_knockDown_86 rfl ?_
    exact hQ _ h1 h2
  · intro k hk hP
    intro m' a2 h1 h2
    have hwk := wf_once 4 hw k (by omega)
    obtain ⟨ho1, ho2⟩ := hko k hk
    generalize hRk : foldR (onceC 4) k R = Rk at hwk h1 ho1 ho2
    replace hP : ∀ (m' : sM) (a2 : Option Value), LR m' L0 (onceC 4 k Rk) → LF m m' L0 → sV (scT L xs) (d + 2) "LoafFall$Loaf" cX6_knockDown 3 none Q 2 [some (.ref L0), some (.int (nI (k + 1))), a2] [] m' n := by rw [← hRk]; exact hP
    refine y_iload_n dX6_knockDown_2 rfl rfl ?_
    refine y_bipush (v := 24) dX6_knockDown_3 (by decide) ?_
    refine y_icmp_ge (tgt := 86) dX6_knockDown_5 (by decide) (fun h5 => absurd h5 (nI_ge (a := k) (b := 24) hk (by decide))) (fun h5 => ?_)
    refine y_aload_n dX6_knockDown_8 rfl rfl ?_
    refine y_getr dX6_knockDown_9 gf_X6_28 hL.1 rfl ?_
    refine y_getr dX6_knockDown_12 gf_X6_142 hL.2.2.2.1.1 rfl ?_
    refine y_iload_n dX6_knockDown_15 rfl rfl ?_
    refine y_ialdN dX6_knockDown_16 hL.2.2.2.1.2.2.2.2.2 rfl (by first | omega | decide) (by decide) ?_
    rw [h1.o hk]
    refine y_if_eq (tgt := 23) dX6_knockDown_17 (by decide) (fun h17 => ?_) (fun h17 => ?_)
    · refine y_aload_n dX6_knockDown_23 rfl rfl ?_
      refine y_getr dX6_knockDown_24 gf_X6_28 hL.1 rfl ?_
      refine y_getr dX6_knockDown_27 gf_X6_133 hL.2.2.2.1.1 rfl ?_
      refine y_iload_n dX6_knockDown_30 rfl rfl ?_
      refine y_ialdN dX6_knockDown_31 hL.2.2.2.1.2.1 rfl (by first | omega | decide) (by decide) ?_
      rw [h1.g hk]
      refine y_aload_n dX6_knockDown_32 rfl rfl ?_
      refine y_getr dX6_knockDown_33 gf_X6_28 hL.1 rfl ?_
      refine y_getr dX6_knockDown_36 gf_X6_136 hL.2.2.2.1.1 rfl ?_
      refine y_iload_n dX6_knockDown_39 rfl rfl ?_
      refine y_ialdN dX6_knockDown_40 hL.2.2.2.1.2.2.1 rfl (by first | omega | decide) (by decide) ?_
      rw [h1.t hk]
      refine y_isub dX6_knockDown_41 ?_
      refine y_ist3_2 dX6_knockDown_42 rfl ?_
      refine y_iload_n dX6_knockDown_43 rfl rfl ?_
      refine y_if_le (tgt := 57) dX6_knockDown_44 (by decide) (fun h44 => ?_) (fun h44 => ?_)
      · refine y_aload_n dX6_knockDown_57 rfl rfl ?_
        refine y_getr dX6_knockDown_58 gf_X6_28 hL.1 rfl ?_
        refine y_getr dX6_knockDown_61 gf_X6_133 hL.2.2.2.1.1 rfl ?_
        refine y_iload_n dX6_knockDown_64 rfl rfl ?_
        refine y_dup2 dX6_knockDown_65 rfl rfl ?_
        refine y_ialdN dX6_knockDown_66 hL.2.2.2.1.2.1 rfl (by first | omega | decide) (by decide) ?_
        rw [h1.g hk]
        refine y_aload_n dX6_knockDown_67 rfl rfl ?_
        refine y_getr dX6_knockDown_68 gf_X6_28 hL.1 rfl ?_
        refine y_getr dX6_knockDown_71 gf_X6_133 hL.2.2.2.1.1 rfl ?_
        refine y_iload_n dX6_knockDown_74 rfl rfl ?_
        refine y_ialdN dX6_knockDown_75 hL.2.2.2.1.2.1 rfl (by first | omega | decide) (by decide) ?_
        rw [h1.g hk]
        refine y_iconst (v := 4) dX6_knockDown_76 (by decide) ?_
        refine y_idiv dX6_knockDown_77 (by decide) ?_
        refine y_isub dX6_knockDown_78 ?_
        refine y_iastN dX6_knockDown_79 hL.2.2.2.1.2.1 rfl (by first | omega | decide) (by decide) ?_
        refine y_iinc3_1 dX6_knockDown_80 (nI_1 _) rfl ?_
        refine y_goto (tgt := 2) dX6_knockDown_83 (by decide) ?_
        first
          | (rw [once4, if_neg (fun z => h17 z.1), ho2 h17, show (0 : Int32) - 0 / 4 = 0 by decide, ← ho2 h17, updId] at hP; exact hP _ _ h1 h2)
          | (rw [once4, if_pos ⟨h17, ho1.mp h44⟩] at hP; exact hP _ _ hm2 (h2.tr hf2))
          | exact hP _ _ (step k m' Rk _ hk h1 (fun z => absurd h44 (ho1.mpr z.2)) rfl).1 (h2.tr (step k m' Rk _ hk h1 (fun z => absurd h44 (ho1.mpr z.2)) rfl).2)
      · refine y_aload_n dX6_knockDown_47 rfl rfl ?_
        refine y_iload_n dX6_knockDown_48 rfl rfl ?_
        refine y_iconst (v := 3) dX6_knockDown_49 (by decide) ?_
        refine y_iload_n dX6_knockDown_50 rfl rfl ?_
        refine y_ivV3 dX6_knockDown_51 mv_X6_145 my_X6_tearAs (Or.inl rfl) hL.1 ?_
        refine c_X6_tearAs (c := k) (R := Rk) hL h1 hwk rfl hk h17 (by unfold mkOf; rw [if_neg (by decide), if_pos rfl]) (fun m2 hm2 hf2 => ⟨rfl, ?_⟩)
        refine y_goto (tgt := 80) dX6_knockDown_54 (by decide) ?_
        refine y_iinc3_1 dX6_knockDown_80 (nI_1 _) rfl ?_
        refine y_goto (tgt := 2) dX6_knockDown_83 (by decide) ?_
        first
          | (rw [once4, if_neg (fun z => h17 z.1), ho2 h17, show (0 : Int32) - 0 / 4 = 0 by decide, ← ho2 h17, updId] at hP; exact hP _ _ h1 h2)
          | (rw [once4, if_pos ⟨h17, ho1.mp h44⟩] at hP; exact hP _ _ hm2 (h2.tr hf2))
          | exact hP _ _ (step k m' Rk _ hk h1 (fun z => absurd h44 (ho1.mpr z.2)) rfl).1 (h2.tr (step k m' Rk _ hk h1 (fun z => absurd h44 (ho1.mpr z.2)) rfl).2)
    · refine y_goto (tgt := 80) dX6_knockDown_20 (by decide) ?_
      refine y_iinc3_1 dX6_knockDown_80 (nI_1 _) rfl ?_
      refine y_goto (tgt := 2) dX6_knockDown_83 (by decide) ?_
      first
        | (rw [once4, if_neg (fun z => h17 z.1), ho2 h17, show (0 : Int32) - 0 / 4 = 0 by decide, ← ho2 h17, updId] at hP; exact hP _ _ h1 h2)
        | (rw [once4, if_pos ⟨h17, ho1.mp h44⟩] at hP; exact hP _ _ hm2 (h2.tr hf2))
        | exact hP _ _ (step k m' Rk _ hk h1 (fun z => absurd h44 (ho1.mpr z.2)) rfl).1 (h2.tr (step k m' Rk _ hk h1 (fun z => absurd h44 (ho1.mpr z.2)) rfl).2)
set_option maxHeartbeats 1000000 in
theorem c_X6_handle {L : Nat} {xs : Nat → Int32} {d : Nat} {m : sM} {n : sN} {Q : sQ} {L0 : Nat} {R : Nat → Int32} (hL : isLf L0) (hLR : LR m L0 R) {kd : Int32} (hw : wfR R) (hko : kOK R) (hkd : kd = 3 ∨ kd = 4 ∨ kd = 5) (hQ : ∀ m', LR m' L0 (atOnceF kd R) → LF m m' L0 → Q none m' n) : sRun (scT L xs) (d + 4) yX6_handle cX6_handle 2 none [.ref L0, .int kd] m n Q := by
  refine y_run (own := "LoafFall$Loaf") rfl (by decide +kernel) (Nat.le_of_ble_eq_true rfl) rfl ?_
  refine y_iload_n dX6_handle_0 rfl rfl ?_
  refine y_iconst (v := 3) dX6_handle_1 (by decide) ?_
  refine y_icmp_ne (tgt := 15) dX6_handle_2 (by decide) (fun h2 => ?_) (fun h2 => ?_)
  · refine y_iload_n dX6_handle_15 rfl rfl ?_
    refine y_iconst (v := 4) dX6_handle_16 (by decide) ?_
    refine y_icmp_ne (tgt := 27) dX6_handle_17 (by decide) (fun h17 => ?_) (fun h17 => ?_)
    · refine y_iload_n dX6_handle_27 rfl rfl ?_
      refine y_iconst (v := 5) dX6_handle_28 (by decide) ?_
      refine y_icmp_ne (tgt := 39) dX6_handle_29 (by decide) (fun h29 => absurd (hkd.resolve_left h2 |>.resolve_left h17) h29) (fun h29 => ?_)
      refine y_aload_n dX6_handle_32 rfl rfl ?_
      refine y_getr dX6_handle_33 gf_X6_28 hL.1 rfl ?_
      refine y_ivV0 dX6_handle_36 mv_X6_130 my_X2_openDoor (Or.inl rfl) hL.2.2.2.1.1 ?_
      refine c_X2_openDoor hL hLR (fun m2 a2 b2 => ⟨rfl, ?_⟩)
      refine y_return dX6_handle_39 rfl ?_
      first | (subst h2; exact hQ _ a2 b2) | (subst h17; exact hQ _ a2 b2) | (subst h29; exact hQ _ a2 b2)
    · refine y_aload_n dX6_handle_20 rfl rfl ?_
      refine y_ivV0 dX6_handle_21 mv_X6_127 my_X6_knockDown (Or.inl rfl) hL.1 ?_
      refine c_X6_knockDown hL hLR hw hko (fun m2 a2 b2 => ⟨rfl, ?_⟩)
      refine y_goto (tgt := 39) dX6_handle_24 (by decide) ?_
      refine y_return dX6_handle_39 rfl ?_
      first | (subst h2; exact hQ _ a2 b2) | (subst h17; exact hQ _ a2 b2) | (subst h29; exact hQ _ a2 b2)
  · refine y_aload_n dX6_handle_5 rfl rfl ?_
    refine y_getr dX6_handle_6 gf_X6_28 hL.1 rfl ?_
    refine y_ivV0 dX6_handle_9 mv_X6_124 my_X2_knead (Or.inl rfl) hL.2.2.2.1.1 ?_
    refine c_X2_knead hL hLR (fun m2 a2 b2 => ⟨rfl, ?_⟩)
    refine y_goto (tgt := 39) dX6_handle_12 (by decide) ?_
    refine y_return dX6_handle_39 rfl ?_
    first | (subst h2; exact hQ _ a2 b2) | (subst h17; exact hQ _ a2 b2) | (subst h29; exact hQ _ a2 b2)
