/-! ===== holes: the reference ===== -/
def LBs (m : sM) (T : Nat → Prop) (l : Nat → Nat) : Prop := ∀ c, c < 24 → (T c → m 256 c = nI (l c)) ∧ (¬ T c → m 256 c = -9)
def okL (T : Nat → Prop) (l : Nat → Nat) : Prop := ∀ c, T c → RcH T c (l c) ∧ l c ≤ c
def jnL (l : Nat → Nat) (i j : Nat) : Nat → Nat := fun x => if x = i ∨ x = j then (if l i < l j then l i else l j) else l x
def sLo (l : Nat → Nat) : Nat → Nat
  | 0 => 0
  | k + 1 => sLo l k + l k
theorem sLo_le {l l' : Nat → Nat} : ∀ k, (∀ c, c < k → l' c ≤ l c) → sLo l' k ≤ sLo l k := by
  intro k
  induction k with
  | zero => intro _; exact Nat.le_refl _
  | succ k ih =>
    intro h
    have h1 := ih (fun c hc => h c (by omega))
    have h2 := h k (by omega)
    rw [sLo, sLo]; omega
theorem sLo_lt {l l' : Nat → Nat} {b : Nat} (hb : l' b < l b) : ∀ k, b < k → (∀ c, c < k → l' c ≤ l c) → sLo l' k < sLo l k := by
  intro k
  induction k with
  | zero => intro h; omega
  | succ k ih =>
    intro h1 h
    rw [sLo, sLo]
    by_cases e : b = k
    · have h1 := sLo_le k (fun c hc => h c (by omega))
      rw [e] at hb; omega
    · have h1 := ih (by omega) (fun c hc => h c (by omega))
      have h2 := h k (by omega)
      omega
theorem jn_le {l : Nat → Nat} {i j x : Nat} : jnL l i j x ≤ l x := by
  unfold jnL
  by_cases h : x = i ∨ x = j
  · rw [if_pos h]
    rcases h with h | h <;> rw [h] <;> split <;> omega
  · rw [if_neg h]; exact Nat.le_refl _
theorem jn_s {l : Nat → Nat} {i j : Nat} (hi : i < 24) (hj : j < 24) (h : ¬ l i = l j) : sLo (jnL l i j) 24 < sLo l 24 := by
  by_cases z : l i < l j
  · refine sLo_lt (b := j) ?_ 24 hj (fun _ _ => jn_le)
    unfold jnL
    rw [if_pos (Or.inr rfl), if_pos z]; exact z
  · refine sLo_lt (b := i) ?_ 24 hi (fun _ _ => jn_le)
    unfold jnL
    rw [if_pos (Or.inl rfl), if_neg z]; omega
theorem jn_ok {T : Nat → Prop} {l : Nat → Nat} {i j : Nat} (h : okL T l) (ti : T i) (tj : T j) (e : nbH i j) : okL T (jnL l i j) := by
  intro c tc
  refine ⟨?_, Nat.le_trans jn_le (h c tc).2⟩
  unfold jnL
  by_cases z : c = i ∨ c = j
  · rw [if_pos z]
    have rij : RcH T i j := (RcH.rf ti).st tj e
    have ci : RcH T c i := by
      rcases z with z | z
      · rw [z]; exact RcH.rf ti
      · rw [z]; exact rij.sy
    split
    · exact ci.tr (h i ti).1
    · exact ci.tr (rij.tr (h j tj).1)
  · rw [if_neg z]; exact (h c tc).1
def fxL (T : Nat → Prop) (l : Nat → Nat) (x y : Nat) : Prop := T x → T y → l x = l y
theorem fx_all {T : Nat → Prop} {l : Nat → Nat} (h24 : ∀ c, T c → c < 24) (h : ∀ i, i < 24 → fxL T l i (i + 2) ∧ (i % 2 = 0 → fxL T l i (i + 1))) {a b : Nat} (r : RcH T a b) : l b = l a := by
  refine r.ind (fun x => l x = l a) rfl (fun x y rx e ty nb => ?_)
  have tx := rx.t2
  have x24 := h24 x tx
  have y24 := h24 y ty
  rw [← e]
  rcases nb with nb | nb | ⟨p, nb⟩ | ⟨p, nb⟩
  · subst nb; exact ((h x x24).1 tx ty).symm
  · subst nb; exact (h y y24).1 ty tx
  · subst nb; exact ((h x x24).2 p tx ty).symm
  · subst nb; exact (h y y24).2 p ty tx
theorem fx_H {T : Nat → Prop} {l : Nat → Nat} (h24 : ∀ c, T c → c < 24) (ok : okL T l) (h : ∀ i, i < 24 → fxL T l i (i + 2) ∧ (i % 2 = 0 → fxL T l i (i + 1))) (a : Nat) : cP (fun b => T b ∧ l b = a) 24 = HH T a := by
  by_cases z : hdH T a
  · have la : l a = a := by
      have h1 := ok a z.1
      have h2 := z.2 _ h1.1
      omega
    rw [HH_y z]
    refine cP_congr 24 (fun b hb => ⟨fun q => ?_, fun q => ⟨q.t2, (fx_all h24 h q).trans la⟩⟩)
    have := (ok b q.1).1
    rw [q.2] at this
    exact this.sy
  · rw [HH_n z]
    refine cP_0 24 (fun b hb q => z ?_)
    have r := (ok b q.1).1
    rw [q.2] at r
    have la : l a = a := (fx_all h24 h r).trans q.2
    refine ⟨r.t2, fun x rx => ?_⟩
    have h1 := (ok x rx.t2).2
    rw [fx_all h24 h rx, la] at h1
    exact h1
set_option maxHeartbeats 1000000 in
theorem c_X12_joins {L : Nat} {xs : Nat → Int32} {d : Nat} {m : sM} {n : sN} {Q : sQ} {T : Nat → Prop} {l : Nat → Nat} {i j : Nat} {x z : Int32} (hx : x = nI i) (hz : z = nI j) (hi : i < 24) (hj : j < 100) (h24 : ∀ c, T c → c < 24) (hl : LBs m T l) (h100 : ∀ c, T c → l c < 100) (hQ0 : fxL T l i j → Q (some (.int 0)) m n) (hQ1 : T i → T j → ¬ l i = l j → ∀ m', (∀ a, a ≠ 256 → m' a = m a) → LBs m' T (jnL l i j) → Q (some (.int 1)) m' n) : sRun (scT L xs) (d + 2) yX12_joins cX12_joins 4 (some .boolean) [.ref 239, .int x, .int z] m n Q := by
  subst hx hz
  by_cases j24 : j < 24
  · by_cases ti : T i
    · by_cases tj : T j
      · by_cases e : l i = l j
        · refine y_run (own := "LoafFallModel") rfl (by decide +kernel) (Nat.le_of_ble_eq_true rfl) rfl ?_
          refine y_iload_n dX12_joins_0 rfl rfl ?_
          refine y_bipush (v := 24) dX12_joins_1 (by decide) ?_
          refine y_icmp_ge (tgt := 43) dX12_joins_3 (by decide) (fun h3 => absurd h3 (nI_ge (b := 24) j24 (by decide))) (fun h3 => ?_)
          refine y_aload_n dX12_joins_6 rfl rfl ?_
          refine y_getr dX12_joins_7 gf_X12_60 sh_239 rfl ?_
          refine y_iload_n dX12_joins_10 rfl rfl ?_
          refine y_ialdN dX12_joins_11 sh_256 rfl (by first | omega | decide) (by decide) ?_
          rw [(hl i hi).1 ti]
          refine y_bipush (v := -9) dX12_joins_12 (by decide) ?_
          refine y_icmp_eq (tgt := 43) dX12_joins_14 (by decide) (fun h14 => absurd h14 (nI_n9' (by have := h100 i ti; omega))) (fun h14 => ?_)
          refine y_aload_n dX12_joins_17 rfl rfl ?_
          refine y_getr dX12_joins_18 gf_X12_60 sh_239 rfl ?_
          refine y_iload_n dX12_joins_21 rfl rfl ?_
          refine y_ialdN dX12_joins_22 sh_256 rfl (by first | omega | decide) (by decide) ?_
          rw [(hl j j24).1 tj]
          refine y_bipush (v := -9) dX12_joins_23 (by decide) ?_
          refine y_icmp_eq (tgt := 43) dX12_joins_25 (by decide) (fun h25 => absurd h25 (nI_n9' (by have := h100 j tj; omega))) (fun h25 => ?_)
          refine y_aload_n dX12_joins_28 rfl rfl ?_
          refine y_getr dX12_joins_29 gf_X12_60 sh_239 rfl ?_
          refine y_iload_n dX12_joins_32 rfl rfl ?_
          refine y_ialdN dX12_joins_33 sh_256 rfl (by first | omega | decide) (by decide) ?_
          rw [(hl i hi).1 ti]
          refine y_aload_n dX12_joins_34 rfl rfl ?_
          refine y_getr dX12_joins_35 gf_X12_60 sh_239 rfl ?_
          refine y_iload_n dX12_joins_38 rfl rfl ?_
          refine y_ialdN dX12_joins_39 sh_256 rfl (by first | omega | decide) (by decide) ?_
          rw [(hl j j24).1 tj]
          refine y_icmp_ne (tgt := 45) dX12_joins_40 (by decide) (fun h40 => absurd (by rw [e]) h40) (fun h40 => ?_)
          refine y_iconst (v := 0) dX12_joins_43 (by decide) ?_
          refine y_ireturn dX12_joins_44 rfl rfl ?_
          exact hQ0 (fun _ _ => e)
        · refine y_run (own := "LoafFallModel") rfl (by decide +kernel) (Nat.le_of_ble_eq_true rfl) rfl ?_
          refine y_iload_n dX12_joins_0 rfl rfl ?_
          refine y_bipush (v := 24) dX12_joins_1 (by decide) ?_
          refine y_icmp_ge (tgt := 43) dX12_joins_3 (by decide) (fun h3 => absurd h3 (nI_ge (b := 24) j24 (by decide))) (fun h3 => ?_)
          refine y_aload_n dX12_joins_6 rfl rfl ?_
          refine y_getr dX12_joins_7 gf_X12_60 sh_239 rfl ?_
          refine y_iload_n dX12_joins_10 rfl rfl ?_
          refine y_ialdN dX12_joins_11 sh_256 rfl (by first | omega | decide) (by decide) ?_
          rw [(hl i hi).1 ti]
          refine y_bipush (v := -9) dX12_joins_12 (by decide) ?_
          refine y_icmp_eq (tgt := 43) dX12_joins_14 (by decide) (fun h14 => absurd h14 (nI_n9' (by have := h100 i ti; omega))) (fun h14 => ?_)
          refine y_aload_n dX12_joins_17 rfl rfl ?_
          refine y_getr dX12_joins_18 gf_X12_60 sh_239 rfl ?_
          refine y_iload_n dX12_joins_21 rfl rfl ?_
          refine y_ialdN dX12_joins_22 sh_256 rfl (by first | omega | decide) (by decide) ?_
          rw [(hl j j24).1 tj]
          refine y_bipush (v := -9) dX12_joins_23 (by decide) ?_
          refine y_icmp_eq (tgt := 43) dX12_joins_25 (by decide) (fun h25 => absurd h25 (nI_n9' (by have := h100 j tj; omega))) (fun h25 => ?_)
          refine y_aload_n dX12_joins_28 rfl rfl ?_
          refine y_getr dX12_joins_29 gf_X12_60 sh_239 rfl ?_
          refine y_iload_n dX12_joins_32 rfl rfl ?_
          refine y_ialdN dX12_joins_33 sh_256 rfl (by first | omega | decide) (by decide) ?_
          rw [(hl i hi).1 ti]
          refine y_aload_n dX12_joins_34 rfl rfl ?_
          refine y_getr dX12_joins_35 gf_X12_60 sh_239 rfl ?_
          refine y_iload_n dX12_joins_38 rfl rfl ?_
          refine y_ialdN dX12_joins_39 sh_256 rfl (by first | omega | decide) (by decide) ?_
          rw [(hl j j24).1 tj]
          refine y_icmp_ne (tgt := 45) dX12_joins_40 (by decide) (fun h40 => ?_) (fun h40 => absurd h40 (fun z => e ((nI_eq (by have := h100 i ti; omega) (by have := h100 j tj; omega)).mp z)))
          refine y_aload_n dX12_joins_45 rfl rfl ?_
          refine y_getr dX12_joins_46 gf_X12_60 sh_239 rfl ?_
          refine y_iload_n dX12_joins_49 rfl rfl ?_
          refine y_ialdN dX12_joins_50 sh_256 rfl (by first | omega | decide) (by decide) ?_
          rw [(hl i hi).1 ti]
          refine y_aload_n dX12_joins_51 rfl rfl ?_
          refine y_getr dX12_joins_52 gf_X12_60 sh_239 rfl ?_
          refine y_iload_n dX12_joins_55 rfl rfl ?_
          refine y_ialdN dX12_joins_56 sh_256 rfl (by first | omega | decide) (by decide) ?_
          rw [(hl j j24).1 tj]
          refine y_isI2 dX12_joins_57 ms_X12_200 my_X12_lesser (Or.inl rfl) ?_
          refine c_X12_lesser ⟨_, rfl, ?_⟩
          refine y_ist4_3 dX12_joins_60 rfl ?_
          refine y_aload_n dX12_joins_61 rfl rfl ?_
          refine y_getr dX12_joins_62 gf_X12_60 sh_239 rfl ?_
          refine y_iload_n dX12_joins_65 rfl rfl ?_
          refine y_iload_n dX12_joins_66 rfl rfl ?_
          refine y_iastN dX12_joins_67 sh_256 rfl (by first | omega | decide) (by decide) ?_
          refine y_aload_n dX12_joins_68 rfl rfl ?_
          refine y_getr dX12_joins_69 gf_X12_60 sh_239 rfl ?_
          refine y_iload_n dX12_joins_72 rfl rfl ?_
          refine y_iload_n dX12_joins_73 rfl rfl ?_
          refine y_iastN dX12_joins_74 sh_256 rfl (by first | omega | decide) (by decide) ?_
          refine y_iconst (v := 1) dX12_joins_75 (by decide) ?_
          refine y_ireturn dX12_joins_76 rfl rfl ?_
          have lv : lsr (nI (l i)) (nI (l j)) = nI (if l i < l j then l i else l j) := by
            have a1 := h100 i ti
            have a2 := h100 j tj
            unfold lsr
            by_cases y : l i < l j
            · rw [if_pos y, if_pos (nI_lt y (by omega))]
            · rw [if_neg y, if_neg (fun z => y ((nI_ltI (by omega) (by omega)).mp z))]
          rw [lv]
          refine hQ1 ti tj e _ (fun a ha => by rw [s_upN ha, s_upN ha]) (fun c hc => ?_)
          rw [s_upS, upd_ap, s_upS, upd_ap]
          unfold jnL
          by_cases cj : c = j
          · rw [if_pos cj, if_pos (Or.inr cj)]
            exact ⟨fun _ => rfl, fun z => absurd (cj ▸ tj) z⟩
          · rw [if_neg cj]
            by_cases ci : c = i
            · rw [if_pos ci, if_pos (Or.inl ci)]
              exact ⟨fun _ => rfl, fun z => absurd (ci ▸ ti) z⟩
            · rw [if_neg ci, if_neg (fun z => z.elim ci cj)]
              exact hl c hc
      · refine y_run (own := "LoafFallModel") rfl (by decide +kernel) (Nat.le_of_ble_eq_true rfl) rfl ?_
        refine y_iload_n dX12_joins_0 rfl rfl ?_
        refine y_bipush (v := 24) dX12_joins_1 (by decide) ?_
        refine y_icmp_ge (tgt := 43) dX12_joins_3 (by decide) (fun h3 => absurd h3 (nI_ge (b := 24) j24 (by decide))) (fun h3 => ?_)
        refine y_aload_n dX12_joins_6 rfl rfl ?_
        refine y_getr dX12_joins_7 gf_X12_60 sh_239 rfl ?_
        refine y_iload_n dX12_joins_10 rfl rfl ?_
        refine y_ialdN dX12_joins_11 sh_256 rfl (by first | omega | decide) (by decide) ?_
        rw [(hl i hi).1 ti]
        refine y_bipush (v := -9) dX12_joins_12 (by decide) ?_
        refine y_icmp_eq (tgt := 43) dX12_joins_14 (by decide) (fun h14 => absurd h14 (nI_n9' (by have := h100 i ti; omega))) (fun h14 => ?_)
        refine y_aload_n dX12_joins_17 rfl rfl ?_
        refine y_getr dX12_joins_18 gf_X12_60 sh_239 rfl ?_
        refine y_iload_n dX12_joins_21 rfl rfl ?_
        refine y_ialdN dX12_joins_22 sh_256 rfl (by first | omega | decide) (by decide) ?_
        refine y_bipush (v := -9) dX12_joins_23 (by decide) ?_
        refine y_icmp_eq (tgt := 43) dX12_joins_25 (by decide) (fun h25 => ?_) (fun h25 => absurd ((hl j j24).2 tj) h25)
        refine y_iconst (v := 0) dX12_joins_43 (by decide) ?_
        refine y_ireturn dX12_joins_44 rfl rfl ?_
        exact hQ0 (fun _ z => absurd z tj)
    · refine y_run (own := "LoafFallModel") rfl (by decide +kernel) (Nat.le_of_ble_eq_true rfl) rfl ?_
      refine y_iload_n dX12_joins_0 rfl rfl ?_
      refine y_bipush (v := 24) dX12_joins_1 (by decide) ?_
      refine y_icmp_ge (tgt := 43) dX12_joins_3 (by decide) (fun h3 => absurd h3 (nI_ge (b := 24) j24 (by decide))) (fun h3 => ?_)
      refine y_aload_n dX12_joins_6 rfl rfl ?_
      refine y_getr dX12_joins_7 gf_X12_60 sh_239 rfl ?_
      refine y_iload_n dX12_joins_10 rfl rfl ?_
      refine y_ialdN dX12_joins_11 sh_256 rfl (by first | omega | decide) (by decide) ?_
      refine y_bipush (v := -9) dX12_joins_12 (by decide) ?_
      refine y_icmp_eq (tgt := 43) dX12_joins_14 (by decide) (fun h14 => ?_) (fun h14 => absurd ((hl i hi).2 ti) h14)
      refine y_iconst (v := 0) dX12_joins_43 (by decide) ?_
      refine y_ireturn dX12_joins_44 rfl rfl ?_
      exact hQ0 (fun z _ => absurd z ti)
  · refine y_run (own := "LoafFallModel") rfl (by decide +kernel) (Nat.le_of_ble_eq_true rfl) rfl ?_
    refine y_iload_n dX12_joins_0 rfl rfl ?_
    refine y_bipush (v := 24) dX12_joins_1 (by decide) ?_
    refine y_icmp_ge (tgt := 43) dX12_joins_3 (by decide) (fun h3 => ?_) (fun h3 => absurd (nI_le (a := 24) (by omega) (by omega)) h3)
    refine y_iconst (v := 0) dX12_joins_43 (by decide) ?_
    refine y_ireturn dX12_joins_44 rfl rfl ?_
    exact hQ0 (fun _ z => absurd (h24 j z) j24)
set_option maxHeartbeats 1000000 in
theorem c_X12_holes_ok {L : Nat} {xs : Nat → Int32} {d : Nat} {m : sM} {n : sN} {Q : sQ} {R : Nat → Int32} (l1 : m 253 0 = 1) (hR : ∀ p, p < 329 → m 254 (329 * 0 + p) = R p) (hQ : ∀ m', frM m m' → Q (some (.int (nI (cHo (HH (tH R)) 24)))) (tellsM m' (nI (mHo (HH (tH R)) 24))) n) : sRun (scT L xs) (d + 4) yX12_holes cX12_holes 7 (some .int) [.ref 239] m n Q := by
  obtain ⟨T, eT⟩ : ∃ T, T = tH R := ⟨_, rfl⟩
  rw [← eT] at hQ
  have h24 : ∀ b, T b → b < 24 := fun b z => by rw [eT] at z; exact z.1
  refine y_run (own := "LoafFallModel") rfl (by decide +kernel) (Nat.le_of_ble_eq_true rfl) rfl ?_
  refine y_aload_n dX12_holes_0 rfl rfl ?_
  refine y_getr dX12_holes_1 gf_X12_51 sh_239 rfl ?_
  refine y_iconst (v := 0) dX12_holes_4 (by decide) ?_
  refine y_zaldN dX12_holes_5 sh_253 rfl (by first | omega | decide) (by decide) ?_
  refine y_if_ne (tgt := 12) dX12_holes_6 (by decide) (fun h6 => ?_) (fun h6 => absurd h6 (by rw [l1]; decide))
  refine y_aload_n dX12_holes_12 rfl rfl ?_
  refine y_iconst (v := 0) dX12_holes_13 (by decide) ?_
  refine y_ivV1 dX12_holes_14 mv_X12_174 my_X12_look (Or.inl rfl) sh_239 ?_
  refine c_X12_look (j := 0) rfl ⟨rfl, ?_⟩
  refine y_iconst (v := 0) dX12_holes_17 (by decide) ?_
  refine y_ist7_1 dX12_holes_18 rfl ?_
  have fin : ∀ m1 l, frM m m1 → LBs m1 T l → okL T l → (∀ i, i < 24 → fxL T l i (i + 2) ∧ (i % 2 = 0 → fxL T l i (i + 1))) → ∀ (b1 : Int32) (b2 b3 b4 b5 b6 : Option Value), sV (scT L xs) (d + 3) "LoafFallModel" cX12_holes 7 (some .int) Q 126 [some (.ref 239), some (.int b1), b2, b3, b4, b5, b6] [] m1 n := by
    intro m1 l f1 hl ok fx b1 b2 b3 b4 b5 b6
    refine y_iconst (v := 0) dX12_holes_126 (by decide) ?_
    refine y_ist7_2 dX12_holes_127 rfl ?_
    refine y_iconst (v := 0) dX12_holes_128 (by decide) ?_
    refine y_ist7_3 dX12_holes_129 rfl ?_
    refine y_iconst (v := 0) dX12_holes_130 (by decide) ?_
    refine y_ist7_4 dX12_holes_131 rfl ?_
    refine cnt (P := fun a => ∀ c5 c6 : Option Value, sV (scT L xs) (d + 3) "LoafFallModel" cX12_holes 7 (some .int) Q 133 [some (.ref 239), some (.int b1), some (.int (nI (cHo (HH T) a))), some (.int (nI (mHo (HH T) a))), some (.int (nI a)), c5, c6] [] m1 n) 24 ?_ ?_ 0 (by omega) _ _
    · intro c5 c6
      refine y_iload dX12_holes_133 rfl ?_
      refine y_bipush (v := 24) dX12_holes_135 (by decide) ?_
      refine y_icmp_ge (tgt := 207) dX12_holes_137 (by decide) (fun h137 => ?_) (fun h137 => absurd (by decide) h137)
      refine y_aload_n dX12_holes_207 rfl rfl ?_
      refine y_iload_n dX12_holes_208 rfl rfl ?_
      refine y_iload_n dX12_holes_209 rfl rfl ?_
      refine y_ivI2 dX12_holes_210 mv_X12_108 my_X12_tells (Or.inl rfl) sh_239 ?_
      refine c_X12_tells ⟨_, rfl, ?_⟩
      refine y_ireturn dX12_holes_213 rfl rfl ?_
      exact hQ m1 f1
    · intro a ha hP c5 c6
      refine y_iload dX12_holes_133 rfl ?_
      refine y_bipush (v := 24) dX12_holes_135 (by decide) ?_
      refine y_icmp_ge (tgt := 207) dX12_holes_137 (by decide) (fun h137 => absurd h137 (nI_ge (a := a) (b := 24) ha (by decide))) (fun h137 => ?_)
      refine y_iconst (v := 0) dX12_holes_140 (by decide) ?_
      refine y_ist7_5 dX12_holes_141 rfl ?_
      refine y_iconst (v := 0) dX12_holes_143 (by decide) ?_
      refine y_ist7_6 dX12_holes_144 rfl ?_
      refine cnt (P := fun b => sV (scT L xs) (d + 3) "LoafFallModel" cX12_holes 7 (some .int) Q 146 [some (.ref 239), some (.int b1), some (.int (nI (cHo (HH T) a))), some (.int (nI (mHo (HH T) a))), some (.int (nI a)), some (.int (nI (cP (fun b => T b ∧ l b = a) b))), some (.int (nI b))] [] m1 n) 24 ?_ ?_ 0 (by omega)
      · rw [show cP (fun b => T b ∧ l b = a) 24 = HH T a from fx_H h24 ok fx a]
        refine y_iload dX12_holes_146 rfl ?_
        refine y_bipush (v := 24) dX12_holes_148 (by decide) ?_
        refine y_icmp_ge (tgt := 181) dX12_holes_150 (by decide) (fun h150 => ?_) (fun h150 => absurd (by decide) h150)
        refine y_iload_n dX12_holes_181 rfl rfl ?_
        refine y_iload dX12_holes_182 rfl ?_
        refine y_if_le (tgt := 191) dX12_holes_184 (by decide) (fun h184 => ?_) (fun h184 => ?_)
        · refine y_iconst (v := 0) dX12_holes_191 (by decide) ?_
          refine y_iaddN (a := (cHo (HH T) a)) (b := 0) dX12_holes_192 rfl rfl ?_
          refine y_ist7_2 dX12_holes_193 rfl ?_
          refine y_iload_n dX12_holes_194 rfl rfl ?_
          refine y_iload dX12_holes_195 rfl ?_
          refine y_isI2 dX12_holes_197 ms_X12_197 my_X12_greater (Or.inl rfl) ?_
          refine c_X12_greater ⟨_, rfl, ?_⟩
          rw [show gtr (nI (mHo (HH T) a)) (nI (HH T a)) = nI (mHo (HH T) (a + 1)) from by
            have a1 : mHo (HH T) a ≤ 24 := mHo_le (fun _ => HH_le) a
            have a2 : HH T a ≤ 24 := HH_le
            rw [mHo]
            by_cases z : mHo (HH T) a < HH T a
            · rw [if_pos z]; exact gtr_b (fun y => absurd ((nI_leI (by omega) (by omega)).mp y) (by omega))
            · rw [if_neg z]; exact gtr_a (nI_le (by omega) (by omega))]
          refine y_ist7_3 dX12_holes_200 rfl ?_
          refine y_iinc7_4 dX12_holes_201 (nI_1 _) rfl ?_
          refine y_goto (tgt := 133) dX12_holes_204 (by decide) ?_
          have h24' : HH T a ≤ 24 := HH_le
          first
            | (have e : cHo (HH T) (a + 1) = cHo (HH T) a + 1 := by
                 rw [cHo, if_pos (Nat.pos_of_ne_zero (fun z => h184 (by rw [z]; exact Int32.le_refl _)))]
               have P0 := hP
               rw [e] at P0
               exact P0 _ _)
            | (have e : cHo (HH T) (a + 1) = cHo (HH T) a := by
                 have := (nI_leI (b := 0) (by omega) (by decide)).mp h184
                 rw [cHo, if_neg (by omega), Nat.add_zero]
               have P0 := hP
               rw [e] at P0
               exact P0 _ _)
        · refine y_iconst (v := 1) dX12_holes_187 (by decide) ?_
          refine y_goto (tgt := 192) dX12_holes_188 (by decide) ?_
          refine y_iaddN (a := (cHo (HH T) a)) (b := 1) dX12_holes_192 rfl rfl ?_
          refine y_ist7_2 dX12_holes_193 rfl ?_
          refine y_iload_n dX12_holes_194 rfl rfl ?_
          refine y_iload dX12_holes_195 rfl ?_
          refine y_isI2 dX12_holes_197 ms_X12_197 my_X12_greater (Or.inl rfl) ?_
          refine c_X12_greater ⟨_, rfl, ?_⟩
          rw [show gtr (nI (mHo (HH T) a)) (nI (HH T a)) = nI (mHo (HH T) (a + 1)) from by
            have a1 : mHo (HH T) a ≤ 24 := mHo_le (fun _ => HH_le) a
            have a2 : HH T a ≤ 24 := HH_le
            rw [mHo]
            by_cases z : mHo (HH T) a < HH T a
            · rw [if_pos z]; exact gtr_b (fun y => absurd ((nI_leI (by omega) (by omega)).mp y) (by omega))
            · rw [if_neg z]; exact gtr_a (nI_le (by omega) (by omega))]
          refine y_ist7_3 dX12_holes_200 rfl ?_
          refine y_iinc7_4 dX12_holes_201 (nI_1 _) rfl ?_
          refine y_goto (tgt := 133) dX12_holes_204 (by decide) ?_
          have h24' : HH T a ≤ 24 := HH_le
          first
            | (have e : cHo (HH T) (a + 1) = cHo (HH T) a + 1 := by
                 rw [cHo, if_pos (Nat.pos_of_ne_zero (fun z => h184 (by rw [z]; exact Int32.le_refl _)))]
               have P0 := hP
               rw [e] at P0
               exact P0 _ _)
            | (have e : cHo (HH T) (a + 1) = cHo (HH T) a := by
                 have := (nI_leI (b := 0) (by omega) (by decide)).mp h184
                 rw [cHo, if_neg (by omega), Nat.add_zero]
               have P0 := hP
               rw [e] at P0
               exact P0 _ _)
      · intro b hb hB
        refine y_iload dX12_holes_146 rfl ?_
        refine y_bipush (v := 24) dX12_holes_148 (by decide) ?_
        refine y_icmp_ge (tgt := 181) dX12_holes_150 (by decide) (fun h150 => absurd h150 (nI_ge (a := b) (b := 24) hb (by decide))) (fun h150 => ?_)
        refine y_iload dX12_holes_153 rfl ?_
        refine y_aload_n dX12_holes_155 rfl rfl ?_
        refine y_getr dX12_holes_156 gf_X12_60 sh_239 rfl ?_
        refine y_iload dX12_holes_159 rfl ?_
        refine y_ialdN dX12_holes_161 sh_256 rfl (by first | omega | decide) (by decide) ?_
        refine y_iload dX12_holes_162 rfl ?_
        refine y_icmp_ne (tgt := 171) dX12_holes_164 (by decide) (fun h164 => ?_) (fun h164 => ?_)
        · refine y_iconst (v := 0) dX12_holes_171 (by decide) ?_
          refine y_iaddN (a := (cP (fun b => T b ∧ l b = a) b)) (b := 0) dX12_holes_172 rfl rfl ?_
          refine y_ist7_5 dX12_holes_173 rfl ?_
          refine y_iinc7_6 dX12_holes_175 (nI_1 _) rfl ?_
          refine y_goto (tgt := 146) dX12_holes_178 (by decide) ?_
          have eb : (T b ∧ l b = a) ↔ m1 256 b = nI a := by
            constructor
            · intro z; rw [(hl b hb).1 z.1, z.2]
            · intro z
              by_cases t : T b
              · rw [(hl b hb).1 t] at z
                exact ⟨t, (nI_eq (by have := (ok b t).2; omega) (by omega)).mp z⟩
              · rw [(hl b hb).2 t] at z
                exact absurd z.symm (nI_n9' (by omega))
          first
            | (rw [cP_y (eb.mpr h164)] at hB
               exact hB)
            | (rw [cP_n (fun z => h164 (eb.mp z))] at hB
               exact hB)
        · refine y_iconst (v := 1) dX12_holes_167 (by decide) ?_
          refine y_goto (tgt := 172) dX12_holes_168 (by decide) ?_
          refine y_iaddN (a := (cP (fun b => T b ∧ l b = a) b)) (b := 1) dX12_holes_172 rfl rfl ?_
          refine y_ist7_5 dX12_holes_173 rfl ?_
          refine y_iinc7_6 dX12_holes_175 (nI_1 _) rfl ?_
          refine y_goto (tgt := 146) dX12_holes_178 (by decide) ?_
          have eb : (T b ∧ l b = a) ↔ m1 256 b = nI a := by
            constructor
            · intro z; rw [(hl b hb).1 z.1, z.2]
            · intro z
              by_cases t : T b
              · rw [(hl b hb).1 t] at z
                exact ⟨t, (nI_eq (by have := (ok b t).2; omega) (by omega)).mp z⟩
              · rw [(hl b hb).2 t] at z
                exact absurd z.symm (nI_n9' (by omega))
          first
            | (rw [cP_y (eb.mpr h164)] at hB
               exact hB)
            | (rw [cP_n (fun z => h164 (eb.mp z))] at hB
               exact hB)
  have rounds : ∀ N l m1, sLo l 24 < N → frM m m1 → LBs m1 T l → okL T l → ∀ b2 b3 b4 b5 b6 : Option Value, sV (scT L xs) (d + 3) "LoafFallModel" cX12_holes 7 (some .int) Q 55 [some (.ref 239), some (.int 1), b2, b3, b4, b5, b6] [] m1 n := by
    intro N
    induction N with
    | zero => intro l m1 h; exact absurd h (Nat.not_lt_zero _)
    | succ N ih =>
      intro l m1 hN f1 hl ok b2 b3 b4 b5 b6
      refine y_iload_n dX12_holes_55 rfl rfl ?_
      refine y_if_eq (tgt := 126) dX12_holes_56 (by decide) (fun h56 => absurd h56 (by decide)) (fun h56 => ?_)
      refine y_iconst (v := 0) dX12_holes_59 (by decide) ?_
      refine y_ist7_1 dX12_holes_60 rfl ?_
      refine y_iconst (v := 0) dX12_holes_61 (by decide) ?_
      refine y_ist7_2 dX12_holes_62 rfl ?_
      refine cnt (P := fun i => ∀ m2 l2, ∀ ch : Int32, frM m m2 → LBs m2 T l2 → okL T l2 → ((ch = 0 ∧ sLo l2 24 ≤ sLo l 24 ∧ ∀ i', i' < i → fxL T l2 i' (i' + 2) ∧ (i' % 2 = 0 → fxL T l2 i' (i' + 1))) ∨ (ch = 1 ∧ sLo l2 24 < sLo l 24)) → sV (scT L xs) (d + 3) "LoafFallModel" cX12_holes 7 (some .int) Q 63 [some (.ref 239), some (.int ch), some (.int (nI i)), b3, b4, b5, b6] [] m2 n) 24 ?_ ?_ 0 (by omega) m1 l 0 f1 hl ok (Or.inl ⟨rfl, Nat.le_refl _, fun i' hi => absurd hi (by omega)⟩)
      · intro m2 l2 ch g1 g2 g3 g4
        rcases g4 with ⟨rfl, g5, g6⟩ | ⟨rfl, g5⟩
        · refine y_iload_n dX12_holes_63 rfl rfl ?_
          refine y_bipush (v := 24) dX12_holes_64 (by decide) ?_
          refine y_icmp_ge (tgt := 123) dX12_holes_66 (by decide) (fun h66 => ?_) (fun h66 => absurd (by decide) h66)
          refine y_goto (tgt := 55) dX12_holes_123 (by decide) ?_
          refine y_iload_n dX12_holes_55 rfl rfl ?_
          refine y_if_eq (tgt := 126) dX12_holes_56 (by decide) (fun h56 => ?_) (fun h56 => absurd (by decide) h56)
          exact fin m2 l2 g1 g2 g3 g6 _ _ _ _ _ _
        · refine y_iload_n dX12_holes_63 rfl rfl ?_
          refine y_bipush (v := 24) dX12_holes_64 (by decide) ?_
          refine y_icmp_ge (tgt := 123) dX12_holes_66 (by decide) (fun h66 => ?_) (fun h66 => absurd (by decide) h66)
          refine y_goto (tgt := 55) dX12_holes_123 (by decide) ?_
          exact ih l2 m2 (by omega) g1 g2 g3 _ _ _ _ _
      · intro i hk hP m2 l2 ch g1 g2 g3 g4
        rcases g4 with ⟨rfl, g5, g6⟩ | ⟨rfl, g5⟩
        · refine y_iload_n dX12_holes_63 rfl rfl ?_
          refine y_bipush (v := 24) dX12_holes_64 (by decide) ?_
          refine y_icmp_ge (tgt := 123) dX12_holes_66 (by decide) (fun h66 => absurd h66 (nI_ge (a := i) (b := 24) hk (by decide))) (fun h66 => ?_)
          refine y_aload_n dX12_holes_69 rfl rfl ?_
          refine y_iload_n dX12_holes_70 rfl rfl ?_
          refine y_iload_n dX12_holes_71 rfl rfl ?_
          refine y_iconst (v := 2) dX12_holes_72 (by decide) ?_
          refine y_iaddN (a := i) (b := 2) dX12_holes_73 rfl rfl ?_
          refine y_ivI2 dX12_holes_74 mv_X12_250 my_X12_joins (Or.inl rfl) sh_239 ?_
          refine c_X12_joins (T := T) (l := l2) (i := i) (j := i + 2) rfl rfl hk (by omega) h24 g2 (fun c tc => by have := (g3 c tc).2; have := h24 c tc; omega) (fun x3 => ⟨_, rfl, ?_⟩) (fun y31 y32 y33 m3 z31 z32 => ⟨_, rfl, ?_⟩)
          · refine y_if_ne (tgt := 84) dX12_holes_77 (by decide) (fun h77 => absurd (by decide) h77) (fun h77 => ?_)
            refine y_iload_n dX12_holes_80 rfl rfl ?_
            refine y_if_eq (tgt := 88) dX12_holes_81 (by decide) (fun h81 => ?_) (fun h81 => absurd (by decide) h81)
            refine y_iconst (v := 0) dX12_holes_88 (by decide) ?_
            refine y_ist7_1 dX12_holes_89 rfl ?_
            refine y_iload_n dX12_holes_90 rfl rfl ?_
            refine y_iconst (v := 2) dX12_holes_91 (by decide) ?_
            refine y_iremN (a := i) (b := 2) dX12_holes_92 rfl rfl (by omega) (by first | decide | omega) (by first | decide | omega) ?_
            refine y_if_ne (tgt := 107) dX12_holes_93 (by decide) (fun h93 => ?_) (fun h93 => ?_)
            · refine y_iload_n dX12_holes_107 rfl rfl ?_
              refine y_if_eq (tgt := 115) dX12_holes_108 (by decide) (fun h108 => ?_) (fun h108 => absurd (by decide) h108)
              refine y_iconst (v := 0) dX12_holes_115 (by decide) ?_
              refine y_ist7_1 dX12_holes_116 rfl ?_
              refine y_iinc7_2 dX12_holes_117 (nI_1 _) rfl ?_
              refine y_goto (tgt := 63) dX12_holes_120 (by decide) ?_
              first
                | exact hP m4 _ 1 n1 z42 n3 (Or.inr ⟨rfl, by omega⟩)
                | exact hP m3 _ 1 k1 z32 k3 (Or.inr ⟨rfl, by omega⟩)
                | (have FXe : i % 2 = 0 → fxL T l2 i (i + 1) := by
                     first
                       | exact fun _ => x4
                       | exact fun z => absurd (by rw [z]; rfl) h93
                   exact hP m2 l2 0 g1 g2 g3 (Or.inl ⟨rfl, g5, fun i' hi => by
                     by_cases e : i' = i
                     · rw [e]; exact ⟨x3, FXe⟩
                     · exact g6 i' (by omega)⟩))
            · have evn : i % 2 = 0 := (nI_eq (b := 0) (by omega) (by decide)).mp h93
              refine y_aload_n dX12_holes_96 rfl rfl ?_
              refine y_iload_n dX12_holes_97 rfl rfl ?_
              refine y_iload_n dX12_holes_98 rfl rfl ?_
              refine y_iconst (v := 1) dX12_holes_99 (by decide) ?_
              refine y_iaddN (a := i) (b := 1) dX12_holes_100 rfl rfl ?_
              refine y_ivI2 dX12_holes_101 mv_X12_250 my_X12_joins (Or.inl rfl) sh_239 ?_
              refine c_X12_joins (T := T) (l := l2) (i := i) (j := i + 1) rfl rfl hk (by omega) h24 g2 (fun c tc => by have := (g3 c tc).2; have := h24 c tc; omega) (fun x4 => ⟨_, rfl, ?_⟩) (fun y41 y42 y43 m4 z41 z42 => ⟨_, rfl, ?_⟩)
              · refine y_if_ne (tgt := 111) dX12_holes_104 (by decide) (fun h104 => absurd (by decide) h104) (fun h104 => ?_)
                refine y_iload_n dX12_holes_107 rfl rfl ?_
                refine y_if_eq (tgt := 115) dX12_holes_108 (by decide) (fun h108 => ?_) (fun h108 => absurd (by decide) h108)
                refine y_iconst (v := 0) dX12_holes_115 (by decide) ?_
                refine y_ist7_1 dX12_holes_116 rfl ?_
                refine y_iinc7_2 dX12_holes_117 (nI_1 _) rfl ?_
                refine y_goto (tgt := 63) dX12_holes_120 (by decide) ?_
                first
                  | exact hP m4 _ 1 n1 z42 n3 (Or.inr ⟨rfl, by omega⟩)
                  | exact hP m3 _ 1 k1 z32 k3 (Or.inr ⟨rfl, by omega⟩)
                  | (have FXe : i % 2 = 0 → fxL T l2 i (i + 1) := by
                       first
                         | exact fun _ => x4
                         | exact fun z => absurd (by rw [z]; rfl) h93
                     exact hP m2 l2 0 g1 g2 g3 (Or.inl ⟨rfl, g5, fun i' hi => by
                       by_cases e : i' = i
                       · rw [e]; exact ⟨x3, FXe⟩
                       · exact g6 i' (by omega)⟩))
              · have n1 : frM m m4 := g1.tr ⟨fun a ha => z41 a (by omega), ⟨by rw [z41 _ (by omega)], by rw [z41 _ (by omega)], by rw [z41 _ (by omega)]⟩, fun p hp => by rw [z41 _ (by omega)]⟩
                have n3 : okL T (jnL l2 i (i + 1)) := jn_ok g3 y41 y42 (Or.inr (Or.inr (Or.inl ⟨evn, rfl⟩)))
                have n4 := jn_s hk (h24 _ y42) y43
                refine y_if_ne (tgt := 111) dX12_holes_104 (by decide) (fun h104 => ?_) (fun h104 => absurd h104 (by decide))
                refine y_iconst (v := 1) dX12_holes_111 (by decide) ?_
                refine y_goto (tgt := 116) dX12_holes_112 (by decide) ?_
                refine y_ist7_1 dX12_holes_116 rfl ?_
                refine y_iinc7_2 dX12_holes_117 (nI_1 _) rfl ?_
                refine y_goto (tgt := 63) dX12_holes_120 (by decide) ?_
                first
                  | exact hP m4 _ 1 n1 z42 n3 (Or.inr ⟨rfl, by omega⟩)
                  | exact hP m3 _ 1 k1 z32 k3 (Or.inr ⟨rfl, by omega⟩)
                  | (have FXe : i % 2 = 0 → fxL T l2 i (i + 1) := by
                       first
                         | exact fun _ => x4
                         | exact fun z => absurd (by rw [z]; rfl) h93
                     exact hP m2 l2 0 g1 g2 g3 (Or.inl ⟨rfl, g5, fun i' hi => by
                       by_cases e : i' = i
                       · rw [e]; exact ⟨x3, FXe⟩
                       · exact g6 i' (by omega)⟩))
          · have k1 : frM m m3 := g1.tr ⟨fun a ha => z31 a (by omega), ⟨by rw [z31 _ (by omega)], by rw [z31 _ (by omega)], by rw [z31 _ (by omega)]⟩, fun p hp => by rw [z31 _ (by omega)]⟩
            have k3 : okL T (jnL l2 i (i + 2)) := jn_ok g3 y31 y32 (Or.inl rfl)
            have k4 := jn_s hk (h24 _ y32) y33
            refine y_if_ne (tgt := 84) dX12_holes_77 (by decide) (fun h77 => ?_) (fun h77 => absurd h77 (by decide))
            refine y_iconst (v := 1) dX12_holes_84 (by decide) ?_
            refine y_goto (tgt := 89) dX12_holes_85 (by decide) ?_
            refine y_ist7_1 dX12_holes_89 rfl ?_
            refine y_iload_n dX12_holes_90 rfl rfl ?_
            refine y_iconst (v := 2) dX12_holes_91 (by decide) ?_
            refine y_iremN (a := i) (b := 2) dX12_holes_92 rfl rfl (by omega) (by first | decide | omega) (by first | decide | omega) ?_
            refine y_if_ne (tgt := 107) dX12_holes_93 (by decide) (fun h93 => ?_) (fun h93 => ?_)
            · refine y_iload_n dX12_holes_107 rfl rfl ?_
              refine y_if_eq (tgt := 115) dX12_holes_108 (by decide) (fun h108 => absurd h108 (by decide)) (fun h108 => ?_)
              refine y_iconst (v := 1) dX12_holes_111 (by decide) ?_
              refine y_goto (tgt := 116) dX12_holes_112 (by decide) ?_
              refine y_ist7_1 dX12_holes_116 rfl ?_
              refine y_iinc7_2 dX12_holes_117 (nI_1 _) rfl ?_
              refine y_goto (tgt := 63) dX12_holes_120 (by decide) ?_
              first
                | exact hP m4 _ 1 n1 z42 n3 (Or.inr ⟨rfl, by omega⟩)
                | exact hP m3 _ 1 k1 z32 k3 (Or.inr ⟨rfl, by omega⟩)
                | (have FXe : i % 2 = 0 → fxL T l2 i (i + 1) := by
                     first
                       | exact fun _ => x4
                       | exact fun z => absurd (by rw [z]; rfl) h93
                   exact hP m2 l2 0 g1 g2 g3 (Or.inl ⟨rfl, g5, fun i' hi => by
                     by_cases e : i' = i
                     · rw [e]; exact ⟨x3, FXe⟩
                     · exact g6 i' (by omega)⟩))
            · have evn : i % 2 = 0 := (nI_eq (b := 0) (by omega) (by decide)).mp h93
              refine y_aload_n dX12_holes_96 rfl rfl ?_
              refine y_iload_n dX12_holes_97 rfl rfl ?_
              refine y_iload_n dX12_holes_98 rfl rfl ?_
              refine y_iconst (v := 1) dX12_holes_99 (by decide) ?_
              refine y_iaddN (a := i) (b := 1) dX12_holes_100 rfl rfl ?_
              refine y_ivI2 dX12_holes_101 mv_X12_250 my_X12_joins (Or.inl rfl) sh_239 ?_
              refine c_X12_joins (T := T) (l := (jnL l2 i (i + 2))) (i := i) (j := i + 1) rfl rfl hk (by omega) h24 z32 (fun c tc => by have := (k3 c tc).2; have := h24 c tc; omega) (fun x4 => ⟨_, rfl, ?_⟩) (fun y41 y42 y43 m4 z41 z42 => ⟨_, rfl, ?_⟩)
              · refine y_if_ne (tgt := 111) dX12_holes_104 (by decide) (fun h104 => absurd (by decide) h104) (fun h104 => ?_)
                refine y_iload_n dX12_holes_107 rfl rfl ?_
                refine y_if_eq (tgt := 115) dX12_holes_108 (by decide) (fun h108 => absurd h108 (by decide)) (fun h108 => ?_)
                refine y_iconst (v := 1) dX12_holes_111 (by decide) ?_
                refine y_goto (tgt := 116) dX12_holes_112 (by decide) ?_
                refine y_ist7_1 dX12_holes_116 rfl ?_
                refine y_iinc7_2 dX12_holes_117 (nI_1 _) rfl ?_
                refine y_goto (tgt := 63) dX12_holes_120 (by decide) ?_
                first
                  | exact hP m4 _ 1 n1 z42 n3 (Or.inr ⟨rfl, by omega⟩)
                  | exact hP m3 _ 1 k1 z32 k3 (Or.inr ⟨rfl, by omega⟩)
                  | (have FXe : i % 2 = 0 → fxL T l2 i (i + 1) := by
                       first
                         | exact fun _ => x4
                         | exact fun z => absurd (by rw [z]; rfl) h93
                     exact hP m2 l2 0 g1 g2 g3 (Or.inl ⟨rfl, g5, fun i' hi => by
                       by_cases e : i' = i
                       · rw [e]; exact ⟨x3, FXe⟩
                       · exact g6 i' (by omega)⟩))
              · have n1 : frM m m4 := k1.tr ⟨fun a ha => z41 a (by omega), ⟨by rw [z41 _ (by omega)], by rw [z41 _ (by omega)], by rw [z41 _ (by omega)]⟩, fun p hp => by rw [z41 _ (by omega)]⟩
                have n3 : okL T (jnL (jnL l2 i (i + 2)) i (i + 1)) := jn_ok k3 y41 y42 (Or.inr (Or.inr (Or.inl ⟨evn, rfl⟩)))
                have n4 := jn_s hk (h24 _ y42) y43
                refine y_if_ne (tgt := 111) dX12_holes_104 (by decide) (fun h104 => ?_) (fun h104 => absurd h104 (by decide))
                refine y_iconst (v := 1) dX12_holes_111 (by decide) ?_
                refine y_goto (tgt := 116) dX12_holes_112 (by decide) ?_
                refine y_ist7_1 dX12_holes_116 rfl ?_
                refine y_iinc7_2 dX12_holes_117 (nI_1 _) rfl ?_
                refine y_goto (tgt := 63) dX12_holes_120 (by decide) ?_
                first
                  | exact hP m4 _ 1 n1 z42 n3 (Or.inr ⟨rfl, by omega⟩)
                  | exact hP m3 _ 1 k1 z32 k3 (Or.inr ⟨rfl, by omega⟩)
                  | (have FXe : i % 2 = 0 → fxL T l2 i (i + 1) := by
                       first
                         | exact fun _ => x4
                         | exact fun z => absurd (by rw [z]; rfl) h93
                     exact hP m2 l2 0 g1 g2 g3 (Or.inl ⟨rfl, g5, fun i' hi => by
                       by_cases e : i' = i
                       · rw [e]; exact ⟨x3, FXe⟩
                       · exact g6 i' (by omega)⟩))
        · refine y_iload_n dX12_holes_63 rfl rfl ?_
          refine y_bipush (v := 24) dX12_holes_64 (by decide) ?_
          refine y_icmp_ge (tgt := 123) dX12_holes_66 (by decide) (fun h66 => absurd h66 (nI_ge (a := i) (b := 24) hk (by decide))) (fun h66 => ?_)
          refine y_aload_n dX12_holes_69 rfl rfl ?_
          refine y_iload_n dX12_holes_70 rfl rfl ?_
          refine y_iload_n dX12_holes_71 rfl rfl ?_
          refine y_iconst (v := 2) dX12_holes_72 (by decide) ?_
          refine y_iaddN (a := i) (b := 2) dX12_holes_73 rfl rfl ?_
          refine y_ivI2 dX12_holes_74 mv_X12_250 my_X12_joins (Or.inl rfl) sh_239 ?_
          refine c_X12_joins (T := T) (l := l2) (i := i) (j := i + 2) rfl rfl hk (by omega) h24 g2 (fun c tc => by have := (g3 c tc).2; have := h24 c tc; omega) (fun x3 => ⟨_, rfl, ?_⟩) (fun y31 y32 y33 m3 z31 z32 => ⟨_, rfl, ?_⟩)
          · refine y_if_ne (tgt := 84) dX12_holes_77 (by decide) (fun h77 => absurd (by decide) h77) (fun h77 => ?_)
            refine y_iload_n dX12_holes_80 rfl rfl ?_
            refine y_if_eq (tgt := 88) dX12_holes_81 (by decide) (fun h81 => absurd h81 (by decide)) (fun h81 => ?_)
            refine y_iconst (v := 1) dX12_holes_84 (by decide) ?_
            refine y_goto (tgt := 89) dX12_holes_85 (by decide) ?_
            refine y_ist7_1 dX12_holes_89 rfl ?_
            refine y_iload_n dX12_holes_90 rfl rfl ?_
            refine y_iconst (v := 2) dX12_holes_91 (by decide) ?_
            refine y_iremN (a := i) (b := 2) dX12_holes_92 rfl rfl (by omega) (by first | decide | omega) (by first | decide | omega) ?_
            refine y_if_ne (tgt := 107) dX12_holes_93 (by decide) (fun h93 => ?_) (fun h93 => ?_)
            · refine y_iload_n dX12_holes_107 rfl rfl ?_
              refine y_if_eq (tgt := 115) dX12_holes_108 (by decide) (fun h108 => absurd h108 (by decide)) (fun h108 => ?_)
              refine y_iconst (v := 1) dX12_holes_111 (by decide) ?_
              refine y_goto (tgt := 116) dX12_holes_112 (by decide) ?_
              refine y_ist7_1 dX12_holes_116 rfl ?_
              refine y_iinc7_2 dX12_holes_117 (nI_1 _) rfl ?_
              refine y_goto (tgt := 63) dX12_holes_120 (by decide) ?_
              first
                | exact hP m4 _ 1 n1 z42 n3 (Or.inr ⟨rfl, by omega⟩)
                | exact hP m3 _ 1 k1 z32 k3 (Or.inr ⟨rfl, by omega⟩)
                | (exact hP m2 l2 1 g1 g2 g3 (Or.inr ⟨rfl, g5⟩))
            · have evn : i % 2 = 0 := (nI_eq (b := 0) (by omega) (by decide)).mp h93
              refine y_aload_n dX12_holes_96 rfl rfl ?_
              refine y_iload_n dX12_holes_97 rfl rfl ?_
              refine y_iload_n dX12_holes_98 rfl rfl ?_
              refine y_iconst (v := 1) dX12_holes_99 (by decide) ?_
              refine y_iaddN (a := i) (b := 1) dX12_holes_100 rfl rfl ?_
              refine y_ivI2 dX12_holes_101 mv_X12_250 my_X12_joins (Or.inl rfl) sh_239 ?_
              refine c_X12_joins (T := T) (l := l2) (i := i) (j := i + 1) rfl rfl hk (by omega) h24 g2 (fun c tc => by have := (g3 c tc).2; have := h24 c tc; omega) (fun x4 => ⟨_, rfl, ?_⟩) (fun y41 y42 y43 m4 z41 z42 => ⟨_, rfl, ?_⟩)
              · refine y_if_ne (tgt := 111) dX12_holes_104 (by decide) (fun h104 => absurd (by decide) h104) (fun h104 => ?_)
                refine y_iload_n dX12_holes_107 rfl rfl ?_
                refine y_if_eq (tgt := 115) dX12_holes_108 (by decide) (fun h108 => absurd h108 (by decide)) (fun h108 => ?_)
                refine y_iconst (v := 1) dX12_holes_111 (by decide) ?_
                refine y_goto (tgt := 116) dX12_holes_112 (by decide) ?_
                refine y_ist7_1 dX12_holes_116 rfl ?_
                refine y_iinc7_2 dX12_holes_117 (nI_1 _) rfl ?_
                refine y_goto (tgt := 63) dX12_holes_120 (by decide) ?_
                first
                  | exact hP m4 _ 1 n1 z42 n3 (Or.inr ⟨rfl, by omega⟩)
                  | exact hP m3 _ 1 k1 z32 k3 (Or.inr ⟨rfl, by omega⟩)
                  | (exact hP m2 l2 1 g1 g2 g3 (Or.inr ⟨rfl, g5⟩))
              · have n1 : frM m m4 := g1.tr ⟨fun a ha => z41 a (by omega), ⟨by rw [z41 _ (by omega)], by rw [z41 _ (by omega)], by rw [z41 _ (by omega)]⟩, fun p hp => by rw [z41 _ (by omega)]⟩
                have n3 : okL T (jnL l2 i (i + 1)) := jn_ok g3 y41 y42 (Or.inr (Or.inr (Or.inl ⟨evn, rfl⟩)))
                have n4 := jn_s hk (h24 _ y42) y43
                refine y_if_ne (tgt := 111) dX12_holes_104 (by decide) (fun h104 => ?_) (fun h104 => absurd h104 (by decide))
                refine y_iconst (v := 1) dX12_holes_111 (by decide) ?_
                refine y_goto (tgt := 116) dX12_holes_112 (by decide) ?_
                refine y_ist7_1 dX12_holes_116 rfl ?_
                refine y_iinc7_2 dX12_holes_117 (nI_1 _) rfl ?_
                refine y_goto (tgt := 63) dX12_holes_120 (by decide) ?_
                first
                  | exact hP m4 _ 1 n1 z42 n3 (Or.inr ⟨rfl, by omega⟩)
                  | exact hP m3 _ 1 k1 z32 k3 (Or.inr ⟨rfl, by omega⟩)
                  | (exact hP m2 l2 1 g1 g2 g3 (Or.inr ⟨rfl, g5⟩))
          · have k1 : frM m m3 := g1.tr ⟨fun a ha => z31 a (by omega), ⟨by rw [z31 _ (by omega)], by rw [z31 _ (by omega)], by rw [z31 _ (by omega)]⟩, fun p hp => by rw [z31 _ (by omega)]⟩
            have k3 : okL T (jnL l2 i (i + 2)) := jn_ok g3 y31 y32 (Or.inl rfl)
            have k4 := jn_s hk (h24 _ y32) y33
            refine y_if_ne (tgt := 84) dX12_holes_77 (by decide) (fun h77 => ?_) (fun h77 => absurd h77 (by decide))
            refine y_iconst (v := 1) dX12_holes_84 (by decide) ?_
            refine y_goto (tgt := 89) dX12_holes_85 (by decide) ?_
            refine y_ist7_1 dX12_holes_89 rfl ?_
            refine y_iload_n dX12_holes_90 rfl rfl ?_
            refine y_iconst (v := 2) dX12_holes_91 (by decide) ?_
            refine y_iremN (a := i) (b := 2) dX12_holes_92 rfl rfl (by omega) (by first | decide | omega) (by first | decide | omega) ?_
            refine y_if_ne (tgt := 107) dX12_holes_93 (by decide) (fun h93 => ?_) (fun h93 => ?_)
            · refine y_iload_n dX12_holes_107 rfl rfl ?_
              refine y_if_eq (tgt := 115) dX12_holes_108 (by decide) (fun h108 => absurd h108 (by decide)) (fun h108 => ?_)
              refine y_iconst (v := 1) dX12_holes_111 (by decide) ?_
              refine y_goto (tgt := 116) dX12_holes_112 (by decide) ?_
              refine y_ist7_1 dX12_holes_116 rfl ?_
              refine y_iinc7_2 dX12_holes_117 (nI_1 _) rfl ?_
              refine y_goto (tgt := 63) dX12_holes_120 (by decide) ?_
              first
                | exact hP m4 _ 1 n1 z42 n3 (Or.inr ⟨rfl, by omega⟩)
                | exact hP m3 _ 1 k1 z32 k3 (Or.inr ⟨rfl, by omega⟩)
                | (exact hP m2 l2 1 g1 g2 g3 (Or.inr ⟨rfl, g5⟩))
            · have evn : i % 2 = 0 := (nI_eq (b := 0) (by omega) (by decide)).mp h93
              refine y_aload_n dX12_holes_96 rfl rfl ?_
              refine y_iload_n dX12_holes_97 rfl rfl ?_
              refine y_iload_n dX12_holes_98 rfl rfl ?_
              refine y_iconst (v := 1) dX12_holes_99 (by decide) ?_
              refine y_iaddN (a := i) (b := 1) dX12_holes_100 rfl rfl ?_
              refine y_ivI2 dX12_holes_101 mv_X12_250 my_X12_joins (Or.inl rfl) sh_239 ?_
              refine c_X12_joins (T := T) (l := (jnL l2 i (i + 2))) (i := i) (j := i + 1) rfl rfl hk (by omega) h24 z32 (fun c tc => by have := (k3 c tc).2; have := h24 c tc; omega) (fun x4 => ⟨_, rfl, ?_⟩) (fun y41 y42 y43 m4 z41 z42 => ⟨_, rfl, ?_⟩)
              · refine y_if_ne (tgt := 111) dX12_holes_104 (by decide) (fun h104 => absurd (by decide) h104) (fun h104 => ?_)
                refine y_iload_n dX12_holes_107 rfl rfl ?_
                refine y_if_eq (tgt := 115) dX12_holes_108 (by decide) (fun h108 => absurd h108 (by decide)) (fun h108 => ?_)
                refine y_iconst (v := 1) dX12_holes_111 (by decide) ?_
                refine y_goto (tgt := 116) dX12_holes_112 (by decide) ?_
                refine y_ist7_1 dX12_holes_116 rfl ?_
                refine y_iinc7_2 dX12_holes_117 (nI_1 _) rfl ?_
                refine y_goto (tgt := 63) dX12_holes_120 (by decide) ?_
                first
                  | exact hP m4 _ 1 n1 z42 n3 (Or.inr ⟨rfl, by omega⟩)
                  | exact hP m3 _ 1 k1 z32 k3 (Or.inr ⟨rfl, by omega⟩)
                  | (exact hP m2 l2 1 g1 g2 g3 (Or.inr ⟨rfl, g5⟩))
              · have n1 : frM m m4 := k1.tr ⟨fun a ha => z41 a (by omega), ⟨by rw [z41 _ (by omega)], by rw [z41 _ (by omega)], by rw [z41 _ (by omega)]⟩, fun p hp => by rw [z41 _ (by omega)]⟩
                have n3 : okL T (jnL (jnL l2 i (i + 2)) i (i + 1)) := jn_ok k3 y41 y42 (Or.inr (Or.inr (Or.inl ⟨evn, rfl⟩)))
                have n4 := jn_s hk (h24 _ y42) y43
                refine y_if_ne (tgt := 111) dX12_holes_104 (by decide) (fun h104 => ?_) (fun h104 => absurd h104 (by decide))
                refine y_iconst (v := 1) dX12_holes_111 (by decide) ?_
                refine y_goto (tgt := 116) dX12_holes_112 (by decide) ?_
                refine y_ist7_1 dX12_holes_116 rfl ?_
                refine y_iinc7_2 dX12_holes_117 (nI_1 _) rfl ?_
                refine y_goto (tgt := 63) dX12_holes_120 (by decide) ?_
                first
                  | exact hP m4 _ 1 n1 z42 n3 (Or.inr ⟨rfl, by omega⟩)
                  | exact hP m3 _ 1 k1 z32 k3 (Or.inr ⟨rfl, by omega⟩)
                  | (exact hP m2 l2 1 g1 g2 g3 (Or.inr ⟨rfl, g5⟩))
  refine cnt (P := fun i => ∀ m', (∀ a, a ≠ 256 → m' a = wkM m (329 * 0) a) → (∀ b, b < i → (T b → m' 256 b = nI b) ∧ (¬ T b → m' 256 b = -9)) → sV (scT L xs) (d + 3) "LoafFallModel" cX12_holes 7 (some .int) Q 19 [some (.ref 239), some (.int (nI i)), none, none, none, none, none] [] m' n) 24 ?_ ?_ 0 (by omega) _ (fun _ _ => rfl) (fun b hb => absurd hb (by omega))
  · intro m' q1 q2
    refine y_iload_n dX12_holes_19 rfl rfl ?_
    refine y_bipush (v := 24) dX12_holes_20 (by decide) ?_
    refine y_icmp_ge (tgt := 53) dX12_holes_22 (by decide) (fun h22 => ?_) (fun h22 => absurd (nI_le (a := 24) (b := 24) (Nat.le_refl _) (by decide)) h22)
    refine y_iconst (v := 1) dX12_holes_53 (by decide) ?_
    refine y_ist7_1 dX12_holes_54 rfl ?_
    exact rounds _ (fun c => c) m' (Nat.lt_succ_self _) (frM.wk.tr ⟨fun a ha => q1 a (by omega), ⟨by rw [q1 _ (by omega)], by rw [q1 _ (by omega)], by rw [q1 _ (by omega)]⟩, fun p hp => by rw [q1 _ (by omega)]⟩) q2 (fun c tc => ⟨RcH.rf tc, Nat.le_refl _⟩) _ _ _ _ _
  · intro i hk hP
    intro m' q1 q2
    refine y_iload_n dX12_holes_19 rfl rfl ?_
    refine y_bipush (v := 24) dX12_holes_20 (by decide) ?_
    refine y_icmp_ge (tgt := 53) dX12_holes_22 (by decide) (fun h22 => absurd h22 (nI_ge (a := i) (b := 24) hk (by decide))) (fun h22 => ?_)
    refine y_aload_n dX12_holes_25 rfl rfl ?_
    refine y_getr dX12_holes_26 gf_X12_60 sh_239 rfl ?_
    refine y_iload_n dX12_holes_29 rfl rfl ?_
    refine y_aload_n dX12_holes_30 rfl rfl ?_
    refine y_iload_n dX12_holes_31 rfl rfl ?_
    refine y_iconst (v := 4) dX12_holes_32 (by decide) ?_
    refine y_ivI2 dX12_holes_33 mv_X12_191 my_X12_c (Or.inl rfl) sh_239 ?_
    refine e_c (b := 329 * 0) (k := i) (j := 4) ⟨by rw [q1 239 (by omega)]; exact (wk_b (m := m) (b := 329 * 0) (by omega)).1, by omega⟩ rfl rfl (by omega) ⟨_, rfl, ?_⟩
    rw [q1 254 (by omega), wk_o (by omega), hR _ (by omega)]
    refine y_iconst (v := 1) dX12_holes_36 (by decide) ?_
    refine y_icmp_ne (tgt := 44) dX12_holes_37 (by decide) (fun h37 => ?_) (fun h37 => ?_)
    · refine y_bipush (v := -9) dX12_holes_44 (by decide) ?_
      refine y_iastN dX12_holes_46 sh_256 rfl (by first | omega | decide) (by decide) ?_
      refine y_iinc7_1 dX12_holes_47 (nI_1 _) rfl ?_
      refine y_goto (tgt := 19) dX12_holes_50 (by decide) ?_
      have tI : T i ↔ R (41 + 5 * i + 4) = 1 := by rw [eT]; exact ⟨fun z => z.2, fun z => ⟨hk, z⟩⟩
      refine hP _ (fun a ha => by rw [s_upN ha]; exact q1 a ha) (fun b hb => ?_)
      rw [s_upS, upd_ap]
      by_cases e : b = i
      · rw [if_pos e, e]
        first
          | exact ⟨fun _ => rfl, fun z => absurd (tI.mpr h37) z⟩
          | exact ⟨fun z => absurd (tI.mp z) h37, fun _ => rfl⟩
      · rw [if_neg e]; exact q2 b (by omega)
    · refine y_iload_n dX12_holes_40 rfl rfl ?_
      refine y_goto (tgt := 46) dX12_holes_41 (by decide) ?_
      refine y_iastN dX12_holes_46 sh_256 rfl (by first | omega | decide) (by decide) ?_
      refine y_iinc7_1 dX12_holes_47 (nI_1 _) rfl ?_
      refine y_goto (tgt := 19) dX12_holes_50 (by decide) ?_
      have tI : T i ↔ R (41 + 5 * i + 4) = 1 := by rw [eT]; exact ⟨fun z => z.2, fun z => ⟨hk, z⟩⟩
      refine hP _ (fun a ha => by rw [s_upN ha]; exact q1 a ha) (fun b hb => ?_)
      rw [s_upS, upd_ap]
      by_cases e : b = i
      · rw [if_pos e, e]
        first
          | exact ⟨fun _ => rfl, fun z => absurd (tI.mpr h37) z⟩
          | exact ⟨fun z => absurd (tI.mp z) h37, fun _ => rfl⟩
      · rw [if_neg e]; exact q2 b (by omega)
set_option maxHeartbeats 2000000 in
theorem p_holes {L : Nat} {xs : Nat → Int32} {d : Nat} {m : sM} {n : sN} (h : Rel m n) : PI L xs (d + 11) yX11_holes cX11_holes 1 yX12_holes cX12_holes 7 [] m n := by
  unfold PI
  rcases h.l.1 with ⟨l1, l2⟩ | ⟨l1, l2, l3, l4, l5, l6, l7⟩
  · refine y_run (own := "LoafFall") rfl (by decide +kernel) (Nat.le_of_ble_eq_true rfl) rfl ?_
    refine y_aload_n dX11_holes_0 rfl rfl ?_
    refine y_getr dX11_holes_1 gf_X11_40 sh_0 rfl ?_
    refine y_geti dX11_holes_4 gf_X11_211 sh_6 rfl ?_
    refine y_if_ne (tgt := 13) dX11_holes_7 (by decide) (fun h7 => absurd l2 h7) (fun h7 => ?_)
    refine y_bipush (v := -4) dX11_holes_10 (by decide) ?_
    refine y_ireturn dX11_holes_12 rfl rfl ?_
    refine ⟨_, rfl, ?_⟩
    refine y_run (own := "LoafFallModel") rfl (by decide +kernel) (Nat.le_of_ble_eq_true rfl) rfl ?_
    refine y_aload_n dX12_holes_0 rfl rfl ?_
    refine y_getr dX12_holes_1 gf_X12_51 sh_239 rfl ?_
    refine y_iconst (v := 0) dX12_holes_4 (by decide) ?_
    refine y_zaldN dX12_holes_5 sh_253 rfl (by first | omega | decide) (by decide) ?_
    refine y_if_ne (tgt := 12) dX12_holes_6 (by decide) (fun h6 => absurd l1 h6) (fun h6 => ?_)
    refine y_bipush (v := -4) dX12_holes_9 (by decide) ?_
    refine y_ireturn dX12_holes_11 rfl rfl ?_
    exact ⟨rfl, h⟩
  · refine y_run (own := "LoafFall") rfl (by decide +kernel) (Nat.le_of_ble_eq_true rfl) rfl ?_
    refine y_aload_n dX11_holes_0 rfl rfl ?_
    refine y_getr dX11_holes_1 gf_X11_40 sh_0 rfl ?_
    refine y_geti dX11_holes_4 gf_X11_211 sh_6 rfl ?_
    refine y_if_ne (tgt := 13) dX11_holes_7 (by decide) (fun h7 => ?_) (fun h7 => absurd h7 (by rw [l2]; decide))
    refine y_aload_n dX11_holes_13 rfl rfl ?_
    refine y_getr dX11_holes_14 gf_X11_68 sh_0 rfl ?_
    refine y_aload_n dX11_holes_17 rfl rfl ?_
    refine y_getr dX11_holes_18 gf_X11_40 sh_0 rfl ?_
    refine y_getr dX11_holes_21 gf_X11_212 sh_6 rfl ?_
    refine y_ivV1 dX11_holes_24 mv_X11_261 my_X5_search (Or.inl rfl) sh_122 ?_
    refine c_X5_search (R := lfR m 0) l3.1.d.2 l4.1.2.2.1 (fun m1 f1 f2 f3 => ⟨rfl, ?_⟩)
    refine y_aload_n dX11_holes_27 rfl rfl ?_
    refine y_aload_n dX11_holes_28 rfl rfl ?_
    refine y_getr dX11_holes_29 gf_X11_68 sh_0 rfl ?_
    refine y_geti dX11_holes_32 gf_X11_265 sh_122 rfl ?_
    rw [f3]
    refine y_puti dX11_holes_35 pf_X11_194 sh_0 rfl rfl rfl ?_
    refine y_aload_n dX11_holes_38 rfl rfl ?_
    refine y_getr dX11_holes_39 gf_X11_68 sh_0 rfl ?_
    refine y_geti dX11_holes_42 gf_X11_268 sh_122 rfl ?_
    rw [s_upN (show 122 ≠ 0 by omega), f2]
    change sV _ _ _ _ _ _ _ _ _ _ (tellM m1 (nI (mHo (HH (tH (lfR m 0))) 24))) n
    refine y_ireturn dX11_holes_45 rfl rfl ?_
    refine ⟨_, rfl, ?_⟩
    refine c_X12_holes_ok (R := lfR m 0) (by rw [tell_o (by omega), f1 _ (by omega) (by omega) (by omega)]; exact l1) (fun p hp => by rw [tell_o (by omega), f1 _ (by omega) (by omega) (by omega)]; rfl) (fun m2 g1 => ?_)
    exact ⟨rfl, Rel_tell h (fun a ha => f1 a (by omega) (by omega) (by omega)) (BK_m h.bk (fun c h1 h2 => f1 c (by omega) (by omega) (by omega))) g1⟩
