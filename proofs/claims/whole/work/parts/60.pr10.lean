/-! ===== digest ===== -/
def mx (h v : Int64) : Int64 := 31 * h + v
def mxs (f : Nat → Int32) (h : Int64) : Nat → Int64
  | 0 => h
  | k + 1 => mx (mxs f h k) (f k).toInt64
def mx2 (f g : Nat → Int32) (h : Int64) : Nat → Int64
  | 0 => h
  | k + 1 => mx (mx (mx2 f g h k) (f k).toInt64) (g k).toInt64
theorem mxs_eq {f g : Nat → Int32} {h : Int64} : ∀ k, (∀ i, i < k → f i = g i) → mxs f h k = mxs g h k := by
  intro k
  induction k with
  | zero => intro _; rfl
  | succ k ih => intro e; rw [mxs, mxs, ih (fun i hi => e i (by omega)), e k (by omega)]
theorem mxs_add {f : Nat → Int32} {h : Int64} (c : Nat) : ∀ k, mxs f h (c + k) = mxs (fun i => f (c + i)) (mxs f h c) k := by
  intro k
  induction k with
  | zero => rfl
  | succ k ih => rw [← Nat.add_assoc, mxs, mxs, ih]
def flD (m : sM) (h : Int64) : Nat → Int64
  | 0 => h
  | k + 1 => if m 246 k = 0 then mx (flD m h k) (-1) else mxs (fun i => m 247 (5 * k + i)) (flD m h k) 5
def dgD (m : sM) (h : Int64) : Nat → Int64
  | 0 => h
  | k + 1 => if m 248 k = 0 then mx (dgD m h k) (-1) else mx2 (fun i => m 250 (30 * k + 3 * i)) (fun i => 100 * m 250 (30 * k + 3 * i + 1) + m 250 (30 * k + 3 * i + 2)) (dgD m h k) (cOf (dgR m k))
def faD (R : Nat → Int32) (h : Int64) : Nat → Int64
  | 0 => h
  | k + 1 => mxs (fun q => R (161 + 7 * k + q)) (faD R h k) 4
def lfD (m : sM) (h : Int64) : Int64 := if m 253 0 = 0 then mx h (-1) else faD (lfR m 0) (mxs (fun k => lfR m 0 (41 + k)) h 120) (qOf (lfR m 0))
def rwD (m : sM) (x y M : Nat) (h : Int64) : Nat → Int64
  | 0 => h
  | r + 1 => mxs (fun i => m y (M * r + i)) (mx (rwD m x y M h r) (m x r).toInt64) (m x r).toNatClampNeg
def slN (m : sM) : Nat := (m 239 28).toNatClampNeg
def DG (m : sM) : Int64 := rwD m 244 245 80 (rwD m 241 242 40 (mxs (m 259) (lfD m (dgD m (flD m (mxs (CNT m) 17 9) 4) 4)) (2 * slN m)) 6) 4
theorem flD_p {m : sM} {h : Int64} {k : Nat} (e : m 246 k = 0) : flD m h (k + 1) = mx (flD m h k) (-1) := by rw [flD, if_pos e]
theorem flD_n {m : sM} {h : Int64} {k : Nat} (e : m 246 k = 1) : flD m h (k + 1) = mxs (fun i => m 247 (5 * k + i)) (flD m h k) 5 := by rw [flD, if_neg (by rw [e]; decide)]
theorem dgD_p {m : sM} {h : Int64} {k : Nat} (e : m 248 k = 0) : dgD m h (k + 1) = mx (dgD m h k) (-1) := by rw [dgD, if_pos e]
theorem dgD_n {m : sM} {h : Int64} {k : Nat} (e : m 248 k = 1) : dgD m h (k + 1) = mx2 (fun i => m 250 (30 * k + 3 * i)) (fun i => 100 * m 250 (30 * k + 3 * i + 1) + m 250 (30 * k + 3 * i + 2)) (dgD m h k) (cOf (dgR m k)) := by rw [dgD, if_neg (by rw [e]; decide)]
theorem clampm1 : (-1 : Int32).toNatClampNeg = 0 := by decide
theorem Rel.fx {m : sM} {n : sN} (h : Rel m n) {k : Nat} (hk : k < 4) : (m (158 + 2 * k) 1 = 0 → m 246 k = 0) ∧ (¬ m (158 + 2 * k) 1 = 0 → m 246 k = 1 ∧ ∀ i, i < 5 → m (158 + 2 * k + 1) i = m 247 (5 * k + i)) := by
  rcases h.f k hk with ⟨a, b⟩ | ⟨a, b, c, e⟩
  · exact ⟨fun _ => a, fun z => absurd b z⟩
  · exact ⟨fun z => absurd z (by rw [b]; decide), fun _ => ⟨a, c⟩⟩
theorem Rel.dx {m : sM} {n : sN} (h : Rel m n) {k : Nat} (hk : k < 4) : (m (166 + 4 * k) 4 = 0 → m 248 k = 0) ∧ (¬ m (166 + 4 * k) 4 = 0 → m 248 k = 1 ∧ DR m (166 + 4 * k) (dgR m k) ∧ dOK (dgR m k)) := by
  rcases h.d k hk with ⟨a, b⟩ | ⟨a, b, c, e⟩
  · exact ⟨fun _ => a, fun z => absurd b z⟩
  · exact ⟨fun z => absurd z (by rw [b]; decide), fun _ => ⟨a, c, e⟩⟩
/-- so far as the look of the reference goes -/
def fw (m m' : sM) : Prop := (∀ a, a ≠ 239 → m' a = m a) ∧ ∀ j, j ≠ 23 → m' 239 j = m 239 j
theorem fw.rf {m : sM} : fw m m := ⟨fun _ _ => rfl, fun _ _ => rfl⟩
theorem fw.wk {m : sM} {b : Nat} : fw m (wkM m b) := ⟨fun a ha => wk_o ha, fun j hj => wk_j hj⟩
theorem fw.tr {m m1 m2 : sM} (h : fw m m1) (h' : fw m1 m2) : fw m m2 := ⟨fun a ha => (h'.1 a ha).trans (h.1 a ha), fun j hj => (h'.2 j hj).trans (h.2 j hj)⟩
theorem fw.fr {m m' : sM} (h : fw m m') : frM m m' := ⟨fun a ha => h.1 a (by omega), ⟨h.2 0 (by omega), h.2 2 (by omega), h.2 28 (by omega)⟩, fun p _ => by rw [h.1 254 (by omega)]⟩
theorem CNT_fw {m m' : sM} (h : fw m m') (q : Nat) : CNT m' q = CNT m q := by
  unfold CNT
  rw [lfR_m (h.1 254 (by omega)), h.1 246 (by omega), h.1 248 (by omega), h.1 253 (by omega), h.1 241 (by omega), h.1 244 (by omega), h.2 28 (by omega)]
def hN (n : sN) (v : Int64) : sN := s_upL n 239 32 v
theorem hN_2 {n : sN} {a b : Int64} : hN (hN n a) b = hN n b := by
  funext x y
  unfold hN s_upL
  split <;> rfl
theorem hN_g {n : sN} {v : Int64} : hN n v 239 32 = v := by unfold hN s_upL; exact if_pos ⟨rfl, rfl⟩
theorem hN_o {n : sN} {v : Int64} {a j : Nat} (h : ¬ (a = 239 ∧ j = 32)) : hN n v a j = n a j := by unfold hN s_upL; exact if_neg h
theorem Rel_hN {m : sM} {n : sN} {v : Int64} (h : Rel m n) : Rel m (hN n v) := by
  obtain ⟨⟨a, b, c, e, f⟩, r⟩ := h
  exact ⟨⟨a, b, c, by rw [hN_o (by omega), hN_o (by omega)]; exact e, by rw [hN_o (by omega), hN_o (by omega)]; exact f⟩, r⟩
set_option maxHeartbeats 1000000 in
theorem c_X11_digestFlours {L : Nat} {xs : Nat → Int32} {d : Nat} {m : sM} {n : sN} {Q : sQ} {h0 : Int64} (h : Rel m n) (hQ : Q (some (.long (flD m h0 4))) m n) : sRun (scT L xs) (d + 2) yX11_digestFlours cX11_digestFlours 7 (some .long) [.ref 0, .long h0] m n Q := by
  refine y_run (own := "LoafFall") rfl (by decide +kernel) (Nat.le_of_ble_eq_true rfl) rfl ?_
  refine y_lload_n dX11_digestFlours_0 rfl rfl ?_
  refine y_lst7_3 dX11_digestFlours_1 rfl ?_
  refine y_iconst (v := 0) dX11_digestFlours_2 (by decide) ?_
  refine y_ist7_5 dX11_digestFlours_3 rfl ?_
  refine cnt (P := fun k => ∀ a6 : Option Value, sV (scT L xs) (d + 1) "LoafFall" cX11_digestFlours 7 (some .long) Q 5 [some (.ref 0), some (.long h0), none, some (.long (flD m h0 k)), none, some (.int (nI k)), a6] [] m n) 4 ?_ ?_ 0 (by omega) none
  · intro a6
    refine y_iload dX11_digestFlours_5 rfl ?_
    refine y_iconst (v := 4) dX11_digestFlours_7 (by decide) ?_
    refine y_icmp_ge (tgt := 79) dX11_digestFlours_8 (by decide) (fun h8 => ?_) (fun h8 => absurd (nI_le (a := 4) (b := 4) (Nat.le_refl _) (by decide)) h8)
    refine y_lload_n dX11_digestFlours_79 rfl rfl ?_
    refine y_lreturn dX11_digestFlours_80 rfl ?_
    exact hQ
  · intro k hk hP
    intro a6
    have hk4 := hk
    refine y_iload dX11_digestFlours_5 rfl ?_
    refine y_iconst (v := 4) dX11_digestFlours_7 (by decide) ?_
    refine y_icmp_ge (tgt := 79) dX11_digestFlours_8 (by decide) (fun h8 => absurd h8 (nI_ge (a := k) (b := 4) hk (by decide))) (fun h8 => ?_)
    refine y_aload_n dX11_digestFlours_11 rfl rfl ?_
    refine y_getr dX11_digestFlours_12 gf_X11_23 sh_0 rfl ?_
    refine y_iload dX11_digestFlours_15 rfl ?_
    refine y_aaldN dX11_digestFlours_17 (by decide) sh_3 rfl (flA (k := k) (by omega)) (by decide) ?_
    refine y_geti dX11_digestFlours_18 gf_X11_183 (flI (k := k) (by omega)).1 rfl ?_
    refine y_if_ne (tgt := 37) dX11_digestFlours_21 (by decide) (fun h21 => ?_) (fun h21 => ?_)
    · obtain ⟨g1, g2⟩ := (h.fx hk4).2 h21
      refine y_iconst (v := 0) dX11_digestFlours_37 (by decide) ?_
      refine y_ist7_6 dX11_digestFlours_38 rfl ?_
      refine cnt (P := fun j => sV (scT L xs) (d + 1) "LoafFall" cX11_digestFlours 7 (some .long) Q 40 [some (.ref 0), some (.long h0), none, some (.long (mxs (fun i => m 247 (5 * k + i)) (flD m h0 k) j)), none, some (.int (nI k)), some (.int (nI j))] [] m n) 5 ?_ ?_ 0 (by omega)
      · refine y_iload dX11_digestFlours_40 rfl ?_
        refine y_iconst (v := 5) dX11_digestFlours_42 (by decide) ?_
        refine y_icmp_ge (tgt := 73) dX11_digestFlours_43 (by decide) (fun h43 => ?_) (fun h43 => absurd (nI_le (a := 5) (b := 5) (Nat.le_refl _) (by decide)) h43)
        refine y_iinc7_5 dX11_digestFlours_73 (nI_1 _) rfl ?_
        refine y_goto (tgt := 5) dX11_digestFlours_76 (by decide) ?_
        have := hP (some (.int (nI 5)))
        rw [flD_n g1] at this
        exact this
      · intro j hk hP
        refine y_iload dX11_digestFlours_40 rfl ?_
        refine y_iconst (v := 5) dX11_digestFlours_42 (by decide) ?_
        refine y_icmp_ge (tgt := 73) dX11_digestFlours_43 (by decide) (fun h43 => absurd h43 (nI_ge (a := j) (b := 5) hk (by decide))) (fun h43 => ?_)
        refine y_ldc2 dX11_digestFlours_46 tw_1004 ?_
        refine y_lload_n dX11_digestFlours_49 rfl rfl ?_
        refine y_lmul dX11_digestFlours_50 ?_
        refine y_aload_n dX11_digestFlours_51 rfl rfl ?_
        refine y_getr dX11_digestFlours_52 gf_X11_23 sh_0 rfl ?_
        refine y_iload dX11_digestFlours_55 rfl ?_
        refine y_aaldN dX11_digestFlours_57 (by decide) sh_3 rfl (flA (k := k) (by omega)) (by decide) ?_
        refine y_getr dX11_digestFlours_58 gf_X11_187 (flI (k := k) (by omega)).1 rfl ?_
        refine y_iload dX11_digestFlours_61 rfl ?_
        refine y_ialdN dX11_digestFlours_63 (flI (k := k) (by omega)).2 rfl (by first | omega | decide) (by decide) ?_
        rw [g2 j (by omega)]
        refine y_i2l dX11_digestFlours_64 ?_
        refine y_ladd dX11_digestFlours_65 ?_
        refine y_lst7_3 dX11_digestFlours_66 rfl ?_
        refine y_iinc7_6 dX11_digestFlours_67 (nI_1 _) rfl ?_
        refine y_goto (tgt := 40) dX11_digestFlours_70 (by decide) ?_
        exact hP
    · refine y_ldc2 dX11_digestFlours_24 tw_1004 ?_
      refine y_lload_n dX11_digestFlours_27 rfl rfl ?_
      refine y_lmul dX11_digestFlours_28 ?_
      refine y_ldc2 dX11_digestFlours_29 tw_1010 ?_
      refine y_ladd dX11_digestFlours_32 ?_
      refine y_lst7_3 dX11_digestFlours_33 rfl ?_
      refine y_goto (tgt := 73) dX11_digestFlours_34 (by decide) ?_
      refine y_iinc7_5 dX11_digestFlours_73 (nI_1 _) rfl ?_
      refine y_goto (tgt := 5) dX11_digestFlours_76 (by decide) ?_
      have := hP a6
      rw [flD_p ((h.fx hk).1 h21)] at this
      exact this
set_option maxHeartbeats 1000000 in
theorem c_X11_digestDoings {L : Nat} {xs : Nat → Int32} {d : Nat} {m : sM} {n : sN} {Q : sQ} {h0 : Int64} (h : Rel m n) (hQ : Q (some (.long (dgD m h0 4))) m n) : sRun (scT L xs) (d + 2) yX11_digestDoings cX11_digestDoings 7 (some .long) [.ref 0, .long h0] m n Q := by
  refine y_run (own := "LoafFall") rfl (by decide +kernel) (Nat.le_of_ble_eq_true rfl) rfl ?_
  refine y_lload_n dX11_digestDoings_0 rfl rfl ?_
  refine y_lst7_3 dX11_digestDoings_1 rfl ?_
  refine y_iconst (v := 0) dX11_digestDoings_2 (by decide) ?_
  refine y_ist7_5 dX11_digestDoings_3 rfl ?_
  refine cnt (P := fun k => ∀ a6 : Option Value, sV (scT L xs) (d + 1) "LoafFall" cX11_digestDoings 7 (some .long) Q 5 [some (.ref 0), some (.long h0), none, some (.long (dgD m h0 k)), none, some (.int (nI k)), a6] [] m n) 4 ?_ ?_ 0 (by omega) none
  · intro a6
    refine y_iload dX11_digestDoings_5 rfl ?_
    refine y_iconst (v := 4) dX11_digestDoings_7 (by decide) ?_
    refine y_icmp_ge (tgt := 108) dX11_digestDoings_8 (by decide) (fun h8 => ?_) (fun h8 => absurd (nI_le (a := 4) (b := 4) (Nat.le_refl _) (by decide)) h8)
    refine y_lload_n dX11_digestDoings_108 rfl rfl ?_
    refine y_lreturn dX11_digestDoings_109 rfl ?_
    exact hQ
  · intro k hk hP
    intro a6
    have hk4 := hk
    refine y_iload dX11_digestDoings_5 rfl ?_
    refine y_iconst (v := 4) dX11_digestDoings_7 (by decide) ?_
    refine y_icmp_ge (tgt := 108) dX11_digestDoings_8 (by decide) (fun h8 => absurd h8 (nI_ge (a := k) (b := 4) hk (by decide))) (fun h8 => ?_)
    refine y_aload_n dX11_digestDoings_11 rfl rfl ?_
    refine y_getr dX11_digestDoings_12 gf_X11_29 sh_0 rfl ?_
    refine y_iload dX11_digestDoings_15 rfl ?_
    refine y_aaldN dX11_digestDoings_17 (by decide) sh_4 rfl (dgA (k := k) (by omega)) (by decide) ?_
    refine y_geti dX11_digestDoings_18 gf_X11_190 (dgI (k := k) (by omega)).1 rfl ?_
    refine y_if_ne (tgt := 37) dX11_digestDoings_21 (by decide) (fun h21 => ?_) (fun h21 => ?_)
    · obtain ⟨g1, g2, g3⟩ := (h.dx hk4).2 h21
      obtain ⟨c, hc⟩ : ∃ c, c = cOf (dgR m k) := ⟨_, rfl⟩
      have c2 : m (166 + 4 * k) 3 = nI c := by rw [g2.2, hc]; exact g3.1
      have c3 : c ≤ 10 := by rw [hc]; exact g3.2.1
      refine y_iconst (v := 0) dX11_digestDoings_37 (by decide) ?_
      refine y_ist7_6 dX11_digestDoings_38 rfl ?_
      refine cnt (P := fun j => sV (scT L xs) (d + 1) "LoafFall" cX11_digestDoings 7 (some .long) Q 40 [some (.ref 0), some (.long h0), none, some (.long (mx2 (fun i => m 250 (30 * k + 3 * i)) (fun i => 100 * m 250 (30 * k + 3 * i + 1) + m 250 (30 * k + 3 * i + 2)) (dgD m h0 k) j)), none, some (.int (nI k)), some (.int (nI j))] [] m n) c ?_ ?_ 0 (by omega)
      · refine y_iload dX11_digestDoings_40 rfl ?_
        refine y_aload_n dX11_digestDoings_42 rfl rfl ?_
        refine y_getr dX11_digestDoings_43 gf_X11_29 sh_0 rfl ?_
        refine y_iload dX11_digestDoings_46 rfl ?_
        refine y_aaldN dX11_digestDoings_48 (by decide) sh_4 rfl (dgA (k := k) (by omega)) (by decide) ?_
        refine y_geti dX11_digestDoings_49 gf_X11_182 (dgI (k := k) (by omega)).1 rfl ?_
        rw [c2]
        refine y_icmp_ge (tgt := 102) dX11_digestDoings_52 (by decide) (fun h52 => ?_) (fun h52 => absurd (nI_le (a := c) (b := c) (Nat.le_refl _) (by omega)) h52)
        refine y_iinc7_5 dX11_digestDoings_102 (nI_1 _) rfl ?_
        refine y_goto (tgt := 5) dX11_digestDoings_105 (by decide) ?_
        have := hP (some (.int (nI c)))
        rw [dgD_n g1, ← hc] at this
        exact this
      · intro j hk hP
        refine y_iload dX11_digestDoings_40 rfl ?_
        refine y_aload_n dX11_digestDoings_42 rfl rfl ?_
        refine y_getr dX11_digestDoings_43 gf_X11_29 sh_0 rfl ?_
        refine y_iload dX11_digestDoings_46 rfl ?_
        refine y_aaldN dX11_digestDoings_48 (by decide) sh_4 rfl (dgA (k := k) (by omega)) (by decide) ?_
        refine y_geti dX11_digestDoings_49 gf_X11_182 (dgI (k := k) (by omega)).1 rfl ?_
        rw [c2]
        refine y_icmp_ge (tgt := 102) dX11_digestDoings_52 (by decide) (fun h52 => absurd h52 (nI_ge (a := j) (b := c) hk (by omega))) (fun h52 => ?_)
        refine y_ldc2 dX11_digestDoings_55 tw_1004 ?_
        refine y_lload_n dX11_digestDoings_58 rfl rfl ?_
        refine y_lmul dX11_digestDoings_59 ?_
        refine y_aload_n dX11_digestDoings_60 rfl rfl ?_
        refine y_getr dX11_digestDoings_61 gf_X11_29 sh_0 rfl ?_
        refine y_iload dX11_digestDoings_64 rfl ?_
        refine y_aaldN dX11_digestDoings_66 (by decide) sh_4 rfl (dgA (k := k) (by omega)) (by decide) ?_
        refine y_getr dX11_digestDoings_67 gf_X11_197 (dgI (k := k) (by omega)).1 rfl ?_
        refine y_iload dX11_digestDoings_70 rfl ?_
        refine y_ialdN dX11_digestDoings_72 (dgI (k := k) (by omega)).2.1 rfl (by first | omega | decide) (by decide) ?_
        rw [(g2.1 j (by omega)).1, dg_s (j := 0), Nat.add_zero]
        refine y_i2l dX11_digestDoings_73 ?_
        refine y_ladd dX11_digestDoings_74 ?_
        refine y_lst7_3 dX11_digestDoings_75 rfl ?_
        refine y_ldc2 dX11_digestDoings_76 tw_1004 ?_
        refine y_lload_n dX11_digestDoings_79 rfl rfl ?_
        refine y_lmul dX11_digestDoings_80 ?_
        refine y_aload_n dX11_digestDoings_81 rfl rfl ?_
        refine y_getr dX11_digestDoings_82 gf_X11_29 sh_0 rfl ?_
        refine y_iload dX11_digestDoings_85 rfl ?_
        refine y_aaldN dX11_digestDoings_87 (by decide) sh_4 rfl (dgA (k := k) (by omega)) (by decide) ?_
        refine y_iload dX11_digestDoings_88 rfl ?_
        refine y_ivI1 dX11_digestDoings_90 mv_X11_191 my_X1_warmthAndTurns (Or.inl rfl) (dgI (k := k) (by omega)).1 ?_
        refine c_X1_warmthAndTurns (i := j) (dgI (by omega)) g2 (by omega) rfl (by omega) ⟨_, rfl, ?_⟩
        rw [dg_s, dg_s]
        refine y_i2l dX11_digestDoings_93 ?_
        refine y_ladd dX11_digestDoings_94 ?_
        refine y_lst7_3 dX11_digestDoings_95 rfl ?_
        refine y_iinc7_6 dX11_digestDoings_96 (nI_1 _) rfl ?_
        refine y_goto (tgt := 40) dX11_digestDoings_99 (by decide) ?_
        exact hP
    · refine y_ldc2 dX11_digestDoings_24 tw_1004 ?_
      refine y_lload_n dX11_digestDoings_27 rfl rfl ?_
      refine y_lmul dX11_digestDoings_28 ?_
      refine y_ldc2 dX11_digestDoings_29 tw_1010 ?_
      refine y_ladd dX11_digestDoings_32 ?_
      refine y_lst7_3 dX11_digestDoings_33 rfl ?_
      refine y_goto (tgt := 102) dX11_digestDoings_34 (by decide) ?_
      refine y_iinc7_5 dX11_digestDoings_102 (nI_1 _) rfl ?_
      refine y_goto (tgt := 5) dX11_digestDoings_105 (by decide) ?_
      have := hP a6
      rw [dgD_p ((h.dx hk).1 h21)] at this
      exact this
set_option maxHeartbeats 1000000 in
theorem c_X11_digestLoaf {L : Nat} {xs : Nat → Int32} {d : Nat} {m : sM} {n : sN} {Q : sQ} {h0 : Int64} (h : Rel m n) (hQ : Q (some (.long (lfD m h0))) m n) : sRun (scT L xs) (d + 2) yX11_digestLoaf cX11_digestLoaf 7 (some .long) [.ref 0, .long h0] m n Q := by
  rcases h.l.1 with ⟨l1, l2⟩ | ⟨l1, l2, l3, l4, l5, l6, l7⟩
  · refine y_run (own := "LoafFall") rfl (by decide +kernel) (Nat.le_of_ble_eq_true rfl) rfl ?_
    refine y_aload_n dX11_digestLoaf_0 rfl rfl ?_
    refine y_getr dX11_digestLoaf_1 gf_X11_40 sh_0 rfl ?_
    refine y_geti dX11_digestLoaf_4 gf_X11_211 sh_6 rfl ?_
    refine y_if_ne (tgt := 20) dX11_digestLoaf_7 (by decide) (fun h7 => absurd l2 h7) (fun h7 => ?_)
    refine y_ldc2 dX11_digestLoaf_10 tw_1004 ?_
    refine y_lload_n dX11_digestLoaf_13 rfl rfl ?_
    refine y_lmul dX11_digestLoaf_14 ?_
    refine y_ldc2 dX11_digestLoaf_15 tw_1010 ?_
    refine y_ladd dX11_digestLoaf_18 ?_
    refine y_lreturn dX11_digestLoaf_19 rfl ?_
    rw [show lfD m h0 = mx h0 (-1) from if_pos l1] at hQ
    exact hQ
  · rw [show lfD m h0 = faD (lfR m 0) (mxs (fun k => lfR m 0 (41 + k)) h0 120) (qOf (lfR m 0)) from if_neg (by rw [l1]; decide)] at hQ
    obtain ⟨q1, q2⟩ := q40 l4
    refine y_run (own := "LoafFall") rfl (by decide +kernel) (Nat.le_of_ble_eq_true rfl) rfl ?_
    refine y_aload_n dX11_digestLoaf_0 rfl rfl ?_
    refine y_getr dX11_digestLoaf_1 gf_X11_40 sh_0 rfl ?_
    refine y_geti dX11_digestLoaf_4 gf_X11_211 sh_6 rfl ?_
    refine y_if_ne (tgt := 20) dX11_digestLoaf_7 (by decide) (fun h7 => ?_) (fun h7 => absurd h7 (by rw [l2]; decide))
    refine y_lload_n dX11_digestLoaf_20 rfl rfl ?_
    refine y_lst7_3 dX11_digestLoaf_21 rfl ?_
    refine y_iconst (v := 0) dX11_digestLoaf_22 (by decide) ?_
    refine y_ist7_5 dX11_digestLoaf_23 rfl ?_
    refine cnt (P := fun k => ∀ a6 : Option Value, sV (scT L xs) (d + 1) "LoafFall" cX11_digestLoaf 7 (some .long) Q 25 [some (.ref 0), some (.long h0), none, some (.long (mxs (fun k => lfR m 0 (41 + k)) h0 (5 * k))), none, some (.int (nI k)), a6] [] m n) 24 ?_ ?_ 0 (by omega) none
    · intro a6
      refine y_iload dX11_digestLoaf_25 rfl ?_
      refine y_bipush (v := 24) dX11_digestLoaf_27 (by decide) ?_
      refine y_icmp_ge (tgt := 75) dX11_digestLoaf_29 (by decide) (fun h29 => ?_) (fun h29 => absurd (nI_le (a := 24) (b := 24) (Nat.le_refl _) (by decide)) h29)
      refine y_iconst (v := 0) dX11_digestLoaf_75 (by decide) ?_
      refine y_ist7_5 dX11_digestLoaf_76 rfl ?_
      refine cnt (P := fun k => ∀ a6 : Option Value, sV (scT L xs) (d + 1) "LoafFall" cX11_digestLoaf 7 (some .long) Q 78 [some (.ref 0), some (.long h0), none, some (.long (faD (lfR m 0) (mxs (fun k => lfR m 0 (41 + k)) h0 120) k)), none, some (.int (nI k)), a6] [] m n) (qOf (lfR m 0)) ?_ ?_ 0 (by omega) _
      · intro a6
        refine y_iload dX11_digestLoaf_78 rfl ?_
        refine y_aload_n dX11_digestLoaf_80 rfl rfl ?_
        refine y_getr dX11_digestLoaf_81 gf_X11_40 sh_0 rfl ?_
        refine y_getr dX11_digestLoaf_84 gf_X11_212 sh_6 rfl ?_
        refine y_geti dX11_digestLoaf_87 gf_X11_273 sh_13 rfl ?_
        rw [show m 13 5 = nI (qOf (lfR m 0)) from l3.1.2.2.1.trans q1]
        refine y_icmp_ge (tgt := 136) dX11_digestLoaf_90 (by decide) (fun h90 => ?_) (fun h90 => absurd (nI_le (a := (qOf (lfR m 0))) (b := (qOf (lfR m 0))) (Nat.le_refl _) (by omega)) h90)
        refine y_lload_n dX11_digestLoaf_136 rfl rfl ?_
        refine y_lreturn dX11_digestLoaf_137 rfl ?_
        exact hQ
      · intro k hk hP
        intro a6
        refine y_iload dX11_digestLoaf_78 rfl ?_
        refine y_aload_n dX11_digestLoaf_80 rfl rfl ?_
        refine y_getr dX11_digestLoaf_81 gf_X11_40 sh_0 rfl ?_
        refine y_getr dX11_digestLoaf_84 gf_X11_212 sh_6 rfl ?_
        refine y_geti dX11_digestLoaf_87 gf_X11_273 sh_13 rfl ?_
        rw [show m 13 5 = nI (qOf (lfR m 0)) from l3.1.2.2.1.trans q1]
        refine y_icmp_ge (tgt := 136) dX11_digestLoaf_90 (by decide) (fun h90 => absurd h90 (nI_ge (a := k) (b := (qOf (lfR m 0))) hk (by omega))) (fun h90 => ?_)
        refine y_iconst (v := 0) dX11_digestLoaf_93 (by decide) ?_
        refine y_ist7_6 dX11_digestLoaf_94 rfl ?_
        refine cnt (P := fun j => sV (scT L xs) (d + 1) "LoafFall" cX11_digestLoaf 7 (some .long) Q 96 [some (.ref 0), some (.long h0), none, some (.long (mxs (fun q => lfR m 0 (161 + 7 * k + q)) (faD (lfR m 0) (mxs (fun k => lfR m 0 (41 + k)) h0 120) k) j)), none, some (.int (nI k)), some (.int (nI j))] [] m n) 4 ?_ ?_ 0 (by omega)
        · refine y_iload dX11_digestLoaf_96 rfl ?_
          refine y_iconst (v := 4) dX11_digestLoaf_98 (by decide) ?_
          refine y_icmp_ge (tgt := 130) dX11_digestLoaf_99 (by decide) (fun h99 => ?_) (fun h99 => absurd (nI_le (a := 4) (b := 4) (Nat.le_refl _) (by decide)) h99)
          refine y_iinc7_5 dX11_digestLoaf_130 (nI_1 _) rfl ?_
          refine y_goto (tgt := 78) dX11_digestLoaf_133 (by decide) ?_
          exact hP (some (.int (nI 4)))
        · intro j hk hP
          refine y_iload dX11_digestLoaf_96 rfl ?_
          refine y_iconst (v := 4) dX11_digestLoaf_98 (by decide) ?_
          refine y_icmp_ge (tgt := 130) dX11_digestLoaf_99 (by decide) (fun h99 => absurd h99 (nI_ge (a := j) (b := 4) hk (by decide))) (fun h99 => ?_)
          refine y_ldc2 dX11_digestLoaf_102 tw_1004 ?_
          refine y_lload_n dX11_digestLoaf_105 rfl rfl ?_
          refine y_lmul dX11_digestLoaf_106 ?_
          refine y_aload_n dX11_digestLoaf_107 rfl rfl ?_
          refine y_getr dX11_digestLoaf_108 gf_X11_40 sh_0 rfl ?_
          refine y_getr dX11_digestLoaf_111 gf_X11_230 sh_6 rfl ?_
          refine y_iload dX11_digestLoaf_114 rfl ?_
          refine y_iload dX11_digestLoaf_116 rfl ?_
          refine y_ivI2 dX11_digestLoaf_118 mv_X11_234 my_X3_factOf (Or.inl rfl) sh_19 ?_
          refine c_X3_factOf (k := k) (q := j) lf6.2.2.2.2 rfl (by omega) rfl hk ⟨_, rfl, ?_⟩
          rw [show m (6 + 13 + 1 + j) k = lfR m 0 (161 + 7 * k + j) from l3.1.fall (by omega) hk]
          refine y_i2l dX11_digestLoaf_121 ?_
          refine y_ladd dX11_digestLoaf_122 ?_
          refine y_lst7_3 dX11_digestLoaf_123 rfl ?_
          refine y_iinc7_6 dX11_digestLoaf_124 (nI_1 _) rfl ?_
          refine y_goto (tgt := 96) dX11_digestLoaf_127 (by decide) ?_
          exact hP
    · intro k hk hP
      intro a6
      refine y_iload dX11_digestLoaf_25 rfl ?_
      refine y_bipush (v := 24) dX11_digestLoaf_27 (by decide) ?_
      refine y_icmp_ge (tgt := 75) dX11_digestLoaf_29 (by decide) (fun h29 => absurd h29 (nI_ge (a := k) (b := 24) hk (by decide))) (fun h29 => ?_)
      refine y_iconst (v := 0) dX11_digestLoaf_32 (by decide) ?_
      refine y_ist7_6 dX11_digestLoaf_33 rfl ?_
      refine cnt (P := fun j => sV (scT L xs) (d + 1) "LoafFall" cX11_digestLoaf 7 (some .long) Q 35 [some (.ref 0), some (.long h0), none, some (.long (mxs (fun q => lfR m 0 (41 + (5 * k + q))) (mxs (fun k => lfR m 0 (41 + k)) h0 (5 * k)) j)), none, some (.int (nI k)), some (.int (nI j))] [] m n) 5 ?_ ?_ 0 (by omega)
      · refine y_iload dX11_digestLoaf_35 rfl ?_
        refine y_iconst (v := 5) dX11_digestLoaf_37 (by decide) ?_
        refine y_icmp_ge (tgt := 69) dX11_digestLoaf_38 (by decide) (fun h38 => ?_) (fun h38 => absurd (nI_le (a := 5) (b := 5) (Nat.le_refl _) (by decide)) h38)
        refine y_iinc7_5 dX11_digestLoaf_69 (nI_1 _) rfl ?_
        refine y_goto (tgt := 25) dX11_digestLoaf_72 (by decide) ?_
        have := hP (some (.int (nI 5)))
        rw [show 5 * (k + 1) = 5 * k + 5 by omega, mxs_add] at this
        exact this
      · intro j hk hP
        refine y_iload dX11_digestLoaf_35 rfl ?_
        refine y_iconst (v := 5) dX11_digestLoaf_37 (by decide) ?_
        refine y_icmp_ge (tgt := 69) dX11_digestLoaf_38 (by decide) (fun h38 => absurd h38 (nI_ge (a := j) (b := 5) hk (by decide))) (fun h38 => ?_)
        refine y_ldc2 dX11_digestLoaf_41 tw_1004 ?_
        refine y_lload_n dX11_digestLoaf_44 rfl rfl ?_
        refine y_lmul dX11_digestLoaf_45 ?_
        refine y_aload_n dX11_digestLoaf_46 rfl rfl ?_
        refine y_getr dX11_digestLoaf_47 gf_X11_40 sh_0 rfl ?_
        refine y_getr dX11_digestLoaf_50 gf_X11_212 sh_6 rfl ?_
        refine y_iload dX11_digestLoaf_53 rfl ?_
        refine y_iload dX11_digestLoaf_55 rfl ?_
        refine y_ivI2 dX11_digestLoaf_57 mv_X11_224 my_X2_factOf (Or.inl rfl) sh_13 ?_
        refine c_X2_factOf (k := k) (q := j) lf6.2.2.2.1 rfl (by omega) rfl hk ⟨_, rfl, ?_⟩
        rw [show m (6 + 7 + 1 + j) k = lfR m 0 (41 + (5 * k + j)) from by rw [l3.1.fact (by omega) hk, Nat.add_assoc]]
        refine y_i2l dX11_digestLoaf_60 ?_
        refine y_ladd dX11_digestLoaf_61 ?_
        refine y_lst7_3 dX11_digestLoaf_62 rfl ?_
        refine y_iinc7_6 dX11_digestLoaf_63 (nI_1 _) rfl ?_
        refine y_goto (tgt := 35) dX11_digestLoaf_66 (by decide) ?_
        exact hP
set_option maxHeartbeats 1000000 in
theorem c_X11_digestRows {L : Nat} {xs : Nat → Int32} {d : Nat} {m : sM} {n : sN} {Q : sQ} {h0 : Int64} (h : Rel m n) (hQ : Q (some (.long (rwD m 241 242 40 h0 6))) m n) : sRun (scT L xs) (d + 2) yX11_digestRows cX11_digestRows 7 (some .long) [.ref 0, .long h0] m n Q := by
  refine y_run (own := "LoafFall") rfl (by decide +kernel) (Nat.le_of_ble_eq_true rfl) rfl ?_
  refine y_lload_n dX11_digestRows_0 rfl rfl ?_
  refine y_lst7_3 dX11_digestRows_1 rfl ?_
  refine y_iconst (v := 0) dX11_digestRows_2 (by decide) ?_
  refine y_ist7_5 dX11_digestRows_3 rfl ?_
  refine cnt (P := fun k => ∀ a6 : Option Value, sV (scT L xs) (d + 1) "LoafFall" cX11_digestRows 7 (some .long) Q 5 [some (.ref 0), some (.long h0), none, some (.long (rwD m 241 242 40 h0 k)), none, some (.int (nI k)), a6] [] m n) 6 ?_ ?_ 0 (by omega) none
  · intro a6
    refine y_iload dX11_digestRows_5 rfl ?_
    refine y_bipush (v := 6) dX11_digestRows_7 (by decide) ?_
    refine y_icmp_ge (tgt := 81) dX11_digestRows_9 (by decide) (fun h9 => ?_) (fun h9 => absurd (nI_le (a := 6) (b := 6) (Nat.le_refl _) (by decide)) h9)
    refine y_lload_n dX11_digestRows_81 rfl rfl ?_
    refine y_lreturn dX11_digestRows_82 rfl ?_
    exact hQ
  · intro k hk hP
    intro a6
    have hk4 := hk
    refine y_iload dX11_digestRows_5 rfl ?_
    refine y_bipush (v := 6) dX11_digestRows_7 (by decide) ?_
    refine y_icmp_ge (tgt := 81) dX11_digestRows_9 (by decide) (fun h9 => absurd h9 (nI_ge (a := k) (b := 6) hk (by decide))) (fun h9 => ?_)
    refine y_ldc2 dX11_digestRows_12 tw_1004 ?_
    refine y_lload_n dX11_digestRows_15 rfl rfl ?_
    refine y_lmul dX11_digestRows_16 ?_
    refine y_aload_n dX11_digestRows_17 rfl rfl ?_
    refine y_getr dX11_digestRows_18 gf_X11_11 sh_0 rfl ?_
    refine y_iload dX11_digestRows_21 rfl ?_
    refine y_aaldN dX11_digestRows_23 (by decide) sh_1 rfl (rwA (k := k) (by omega)) (by decide) ?_
    refine y_geti dX11_digestRows_24 gf_X11_127 (rwI (k := k) (by omega)).1 rfl ?_
    rw [show m (138 + 2 * k) 1 = m 241 k from by rcases h.w k hk with ⟨s1, s2⟩ | ⟨s, hs, s1, s2, s3⟩ <;> rw [s1, s2]]
    refine y_i2l dX11_digestRows_27 ?_
    refine y_ladd dX11_digestRows_28 ?_
    refine y_lst7_3 dX11_digestRows_29 rfl ?_
    refine y_iconst (v := 0) dX11_digestRows_30 (by decide) ?_
    refine y_ist7_6 dX11_digestRows_31 rfl ?_
    rcases h.w k hk4 with ⟨s1, s2⟩ | ⟨s, hs, s1, s2, s3⟩
    · have := hP (some (.int (nI 0)))
      rw [rwD, s1, clampm1] at this
      refine y_iload dX11_digestRows_33 rfl ?_
      refine y_aload_n dX11_digestRows_35 rfl rfl ?_
      refine y_getr dX11_digestRows_36 gf_X11_11 sh_0 rfl ?_
      refine y_iload dX11_digestRows_39 rfl ?_
      refine y_aaldN dX11_digestRows_41 (by decide) sh_1 rfl (rwA (k := k) (by omega)) (by decide) ?_
      refine y_geti dX11_digestRows_42 gf_X11_127 (rwI (k := k) (by omega)).1 rfl ?_
      refine y_icmp_ge (tgt := 75) dX11_digestRows_45 (by decide) (fun h45 => ?_) (fun h45 => absurd (by rw [s2]; decide) h45)
      refine y_iinc7_5 dX11_digestRows_75 (nI_1 _) rfl ?_
      refine y_goto (tgt := 5) dX11_digestRows_78 (by decide) ?_
      rw [s1]
      exact this
    · have := hP (some (.int (nI s)))
      rw [rwD, show (m 241 k).toNatClampNeg = s from by rw [s1, nI_clamp (by omega)]] at this
      refine cnt (P := fun j => sV (scT L xs) (d + 1) "LoafFall" cX11_digestRows 7 (some .long) Q 33 [some (.ref 0), some (.long h0), none, some (.long (mxs (fun i => m 242 (40 * k + i)) (mx (rwD m 241 242 40 h0 k) (m 241 k).toInt64) j)), none, some (.int (nI k)), some (.int (nI j))] [] m n) s ?_ ?_ 0 (by omega)
      · refine y_iload dX11_digestRows_33 rfl ?_
        refine y_aload_n dX11_digestRows_35 rfl rfl ?_
        refine y_getr dX11_digestRows_36 gf_X11_11 sh_0 rfl ?_
        refine y_iload dX11_digestRows_39 rfl ?_
        refine y_aaldN dX11_digestRows_41 (by decide) sh_1 rfl (rwA (k := k) (by omega)) (by decide) ?_
        refine y_geti dX11_digestRows_42 gf_X11_127 (rwI (k := k) (by omega)).1 rfl ?_
        rw [s2]
        refine y_icmp_ge (tgt := 75) dX11_digestRows_45 (by decide) (fun h45 => ?_) (fun h45 => absurd (nI_le (a := s) (b := s) (Nat.le_refl _) (by omega)) h45)
        refine y_iinc7_5 dX11_digestRows_75 (nI_1 _) rfl ?_
        refine y_goto (tgt := 5) dX11_digestRows_78 (by decide) ?_
        exact this
      · intro j hk hP
        refine y_iload dX11_digestRows_33 rfl ?_
        refine y_aload_n dX11_digestRows_35 rfl rfl ?_
        refine y_getr dX11_digestRows_36 gf_X11_11 sh_0 rfl ?_
        refine y_iload dX11_digestRows_39 rfl ?_
        refine y_aaldN dX11_digestRows_41 (by decide) sh_1 rfl (rwA (k := k) (by omega)) (by decide) ?_
        refine y_geti dX11_digestRows_42 gf_X11_127 (rwI (k := k) (by omega)).1 rfl ?_
        rw [s2]
        refine y_icmp_ge (tgt := 75) dX11_digestRows_45 (by decide) (fun h45 => absurd h45 (nI_ge (a := j) (b := s) hk (by omega))) (fun h45 => ?_)
        refine y_ldc2 dX11_digestRows_48 tw_1004 ?_
        refine y_lload_n dX11_digestRows_51 rfl rfl ?_
        refine y_lmul dX11_digestRows_52 ?_
        refine y_aload_n dX11_digestRows_53 rfl rfl ?_
        refine y_getr dX11_digestRows_54 gf_X11_11 sh_0 rfl ?_
        refine y_iload dX11_digestRows_57 rfl ?_
        refine y_aaldN dX11_digestRows_59 (by decide) sh_1 rfl (rwA (k := k) (by omega)) (by decide) ?_
        refine y_getr dX11_digestRows_60 gf_X11_117 (rwI (k := k) (by omega)).1 rfl ?_
        refine y_iload dX11_digestRows_63 rfl ?_
        refine y_ialdN dX11_digestRows_65 (rwI (k := k) (by omega)).2 rfl (by first | omega | decide) (by decide) ?_
        rw [s3 j (by omega)]
        refine y_i2l dX11_digestRows_66 ?_
        refine y_ladd dX11_digestRows_67 ?_
        refine y_lst7_3 dX11_digestRows_68 rfl ?_
        refine y_iinc7_6 dX11_digestRows_69 (nI_1 _) rfl ?_
        refine y_goto (tgt := 33) dX11_digestRows_72 (by decide) ?_
        exact hP
set_option maxHeartbeats 1000000 in
theorem c_X11_digestTexts {L : Nat} {xs : Nat → Int32} {d : Nat} {m : sM} {n : sN} {Q : sQ} {h0 : Int64} (h : Rel m n) (hQ : Q (some (.long (rwD m 244 245 80 h0 4))) m n) : sRun (scT L xs) (d + 2) yX11_digestTexts cX11_digestTexts 7 (some .long) [.ref 0, .long h0] m n Q := by
  refine y_run (own := "LoafFall") rfl (by decide +kernel) (Nat.le_of_ble_eq_true rfl) rfl ?_
  refine y_lload_n dX11_digestTexts_0 rfl rfl ?_
  refine y_lst7_3 dX11_digestTexts_1 rfl ?_
  refine y_iconst (v := 0) dX11_digestTexts_2 (by decide) ?_
  refine y_ist7_5 dX11_digestTexts_3 rfl ?_
  refine cnt (P := fun k => ∀ a6 : Option Value, sV (scT L xs) (d + 1) "LoafFall" cX11_digestTexts 7 (some .long) Q 5 [some (.ref 0), some (.long h0), none, some (.long (rwD m 244 245 80 h0 k)), none, some (.int (nI k)), a6] [] m n) 4 ?_ ?_ 0 (by omega) none
  · intro a6
    refine y_iload dX11_digestTexts_5 rfl ?_
    refine y_iconst (v := 4) dX11_digestTexts_7 (by decide) ?_
    refine y_icmp_ge (tgt := 80) dX11_digestTexts_8 (by decide) (fun h8 => ?_) (fun h8 => absurd (nI_le (a := 4) (b := 4) (Nat.le_refl _) (by decide)) h8)
    refine y_lload_n dX11_digestTexts_80 rfl rfl ?_
    refine y_lreturn dX11_digestTexts_81 rfl ?_
    exact hQ
  · intro k hk hP
    intro a6
    have hk4 := hk
    refine y_iload dX11_digestTexts_5 rfl ?_
    refine y_iconst (v := 4) dX11_digestTexts_7 (by decide) ?_
    refine y_icmp_ge (tgt := 80) dX11_digestTexts_8 (by decide) (fun h8 => absurd h8 (nI_ge (a := k) (b := 4) hk (by decide))) (fun h8 => ?_)
    refine y_ldc2 dX11_digestTexts_11 tw_1004 ?_
    refine y_lload_n dX11_digestTexts_14 rfl rfl ?_
    refine y_lmul dX11_digestTexts_15 ?_
    refine y_aload_n dX11_digestTexts_16 rfl rfl ?_
    refine y_getr dX11_digestTexts_17 gf_X11_17 sh_0 rfl ?_
    refine y_iload dX11_digestTexts_20 rfl ?_
    refine y_aaldN dX11_digestTexts_22 (by decide) sh_2 rfl (txA (k := k) (by omega)) (by decide) ?_
    refine y_geti dX11_digestTexts_23 gf_X11_435 (txI (k := k) (by omega)).1 rfl ?_
    rw [show m (150 + 2 * k) 1 = m 244 k from by rcases h.t k hk with ⟨s1, s2⟩ | ⟨s, hs, s1, s2, s3⟩ <;> rw [s1, s2]]
    refine y_i2l dX11_digestTexts_26 ?_
    refine y_ladd dX11_digestTexts_27 ?_
    refine y_lst7_3 dX11_digestTexts_28 rfl ?_
    refine y_iconst (v := 0) dX11_digestTexts_29 (by decide) ?_
    refine y_ist7_6 dX11_digestTexts_30 rfl ?_
    rcases h.t k hk4 with ⟨s1, s2⟩ | ⟨s, hs, s1, s2, s3⟩
    · have := hP (some (.int (nI 0)))
      rw [rwD, s1, clampm1] at this
      refine y_iload dX11_digestTexts_32 rfl ?_
      refine y_aload_n dX11_digestTexts_34 rfl rfl ?_
      refine y_getr dX11_digestTexts_35 gf_X11_17 sh_0 rfl ?_
      refine y_iload dX11_digestTexts_38 rfl ?_
      refine y_aaldN dX11_digestTexts_40 (by decide) sh_2 rfl (txA (k := k) (by omega)) (by decide) ?_
      refine y_geti dX11_digestTexts_41 gf_X11_435 (txI (k := k) (by omega)).1 rfl ?_
      refine y_icmp_ge (tgt := 74) dX11_digestTexts_44 (by decide) (fun h44 => ?_) (fun h44 => absurd (by rw [s2]; decide) h44)
      refine y_iinc7_5 dX11_digestTexts_74 (nI_1 _) rfl ?_
      refine y_goto (tgt := 5) dX11_digestTexts_77 (by decide) ?_
      rw [s1]
      exact this
    · have := hP (some (.int (nI s)))
      rw [rwD, show (m 244 k).toNatClampNeg = s from by rw [s1, nI_clamp (by omega)]] at this
      refine cnt (P := fun j => sV (scT L xs) (d + 1) "LoafFall" cX11_digestTexts 7 (some .long) Q 32 [some (.ref 0), some (.long h0), none, some (.long (mxs (fun i => m 245 (80 * k + i)) (mx (rwD m 244 245 80 h0 k) (m 244 k).toInt64) j)), none, some (.int (nI k)), some (.int (nI j))] [] m n) s ?_ ?_ 0 (by omega)
      · refine y_iload dX11_digestTexts_32 rfl ?_
        refine y_aload_n dX11_digestTexts_34 rfl rfl ?_
        refine y_getr dX11_digestTexts_35 gf_X11_17 sh_0 rfl ?_
        refine y_iload dX11_digestTexts_38 rfl ?_
        refine y_aaldN dX11_digestTexts_40 (by decide) sh_2 rfl (txA (k := k) (by omega)) (by decide) ?_
        refine y_geti dX11_digestTexts_41 gf_X11_435 (txI (k := k) (by omega)).1 rfl ?_
        rw [s2]
        refine y_icmp_ge (tgt := 74) dX11_digestTexts_44 (by decide) (fun h44 => ?_) (fun h44 => absurd (nI_le (a := s) (b := s) (Nat.le_refl _) (by omega)) h44)
        refine y_iinc7_5 dX11_digestTexts_74 (nI_1 _) rfl ?_
        refine y_goto (tgt := 5) dX11_digestTexts_77 (by decide) ?_
        exact this
      · intro j hk hP
        refine y_iload dX11_digestTexts_32 rfl ?_
        refine y_aload_n dX11_digestTexts_34 rfl rfl ?_
        refine y_getr dX11_digestTexts_35 gf_X11_17 sh_0 rfl ?_
        refine y_iload dX11_digestTexts_38 rfl ?_
        refine y_aaldN dX11_digestTexts_40 (by decide) sh_2 rfl (txA (k := k) (by omega)) (by decide) ?_
        refine y_geti dX11_digestTexts_41 gf_X11_435 (txI (k := k) (by omega)).1 rfl ?_
        rw [s2]
        refine y_icmp_ge (tgt := 74) dX11_digestTexts_44 (by decide) (fun h44 => absurd h44 (nI_ge (a := j) (b := s) hk (by omega))) (fun h44 => ?_)
        refine y_ldc2 dX11_digestTexts_47 tw_1004 ?_
        refine y_lload_n dX11_digestTexts_50 rfl rfl ?_
        refine y_lmul dX11_digestTexts_51 ?_
        refine y_aload_n dX11_digestTexts_52 rfl rfl ?_
        refine y_getr dX11_digestTexts_53 gf_X11_17 sh_0 rfl ?_
        refine y_iload dX11_digestTexts_56 rfl ?_
        refine y_aaldN dX11_digestTexts_58 (by decide) sh_2 rfl (txA (k := k) (by omega)) (by decide) ?_
        refine y_getr dX11_digestTexts_59 gf_X11_149 (txI (k := k) (by omega)).1 rfl ?_
        refine y_iload dX11_digestTexts_62 rfl ?_
        refine y_baldN dX11_digestTexts_64 (txI (k := k) (by omega)).2 rfl (by first | omega | decide) (by decide) ?_
        rw [s3 j (by omega)]
        refine y_i2l dX11_digestTexts_65 ?_
        refine y_ladd dX11_digestTexts_66 ?_
        refine y_lst7_3 dX11_digestTexts_67 rfl ?_
        refine y_iinc7_6 dX11_digestTexts_68 (nI_1 _) rfl ?_
        refine y_goto (tgt := 32) dX11_digestTexts_71 (by decide) ?_
        exact hP
set_option maxHeartbeats 1000000 in
theorem c_X11_digest {L : Nat} {xs : Nat → Int32} {d : Nat} {m : sM} {n : sN} {Q : sQ} (h : Rel m n) (hQ : Q (some (.long (DG m))) m n) : sRun (scT L xs) (d + 4) yX11_digest cX11_digest 4 (some .long) [.ref 0] m n Q := by
  obtain ⟨s, hs, s1, s2, s3⟩ := h.s
  unfold DG slN at hQ
  rw [s2, nI_clamp (by omega)] at hQ
  refine y_run (own := "LoafFall") rfl (by decide +kernel) (Nat.le_of_ble_eq_true rfl) rfl ?_
  refine y_ldc2 dX11_digest_0 tw_1003 ?_
  refine y_lst4_1 dX11_digest_3 rfl ?_
  refine y_iconst (v := 0) dX11_digest_4 (by decide) ?_
  refine y_ist4_3 dX11_digest_5 rfl ?_
  refine cnt (P := fun k => sV (scT L xs) (d + 3) "LoafFall" cX11_digest 4 (some .long) Q 6 [some (.ref 0), some (.long (mxs (CNT m) 17 k)), none, some (.int (nI k))] [] m n) 9 ?_ ?_ 0 (by omega)
  · refine y_iload_n dX11_digest_6 rfl rfl ?_
    refine y_bipush (v := 9) dX11_digest_7 (by decide) ?_
    refine y_icmp_ge (tgt := 31) dX11_digest_9 (by decide) (fun h9 => ?_) (fun h9 => absurd (nI_le (a := 9) (b := 9) (Nat.le_refl _) (by decide)) h9)
    refine y_aload_n dX11_digest_31 rfl rfl ?_
    refine y_lload_n dX11_digest_32 rfl rfl ?_
    refine y_ivL1 dX11_digest_33 mv_X11_407 my_X11_digestFlours (Or.inl rfl) sh_0 ?_
    refine c_X11_digestFlours h ⟨_, rfl, ?_⟩
    refine y_lst4_1 dX11_digest_36 rfl ?_
    refine y_aload_n dX11_digest_37 rfl rfl ?_
    refine y_lload_n dX11_digest_38 rfl rfl ?_
    refine y_ivL1 dX11_digest_39 mv_X11_411 my_X11_digestDoings (Or.inl rfl) sh_0 ?_
    refine c_X11_digestDoings h ⟨_, rfl, ?_⟩
    refine y_lst4_1 dX11_digest_42 rfl ?_
    refine y_aload_n dX11_digest_43 rfl rfl ?_
    refine y_lload_n dX11_digest_44 rfl rfl ?_
    refine y_ivL1 dX11_digest_45 mv_X11_414 my_X11_digestLoaf (Or.inl rfl) sh_0 ?_
    refine c_X11_digestLoaf h ⟨_, rfl, ?_⟩
    refine y_lst4_1 dX11_digest_48 rfl ?_
    refine y_iconst (v := 0) dX11_digest_49 (by decide) ?_
    refine y_ist4_3 dX11_digest_50 rfl ?_
    refine cnt (P := fun k => sV (scT L xs) (d + 3) "LoafFall" cX11_digest 4 (some .long) Q 51 [some (.ref 0), some (.long (mxs (m 259) (lfD m (dgD m (flD m (mxs (CNT m) 17 9) 4) 4)) (2 * k))), none, some (.int (nI k))] [] m n) s ?_ ?_ 0 (by omega)
    · refine y_iload_n dX11_digest_51 rfl rfl ?_
      refine y_aload_n dX11_digest_52 rfl rfl ?_
      refine y_getr dX11_digest_53 gf_X11_47 sh_0 rfl ?_
      refine y_geti dX11_digest_56 gf_X11_355 sh_25 rfl ?_
      rw [s1]
      refine y_icmp_ge (tgt := 102) dX11_digest_59 (by decide) (fun h59 => ?_) (fun h59 => absurd (nI_le (a := s) (b := s) (Nat.le_refl _) (by omega)) h59)
      refine y_aload_n dX11_digest_102 rfl rfl ?_
      refine y_lload_n dX11_digest_103 rfl rfl ?_
      refine y_ivL1 dX11_digest_104 mv_X11_417 my_X11_digestRows (Or.inl rfl) sh_0 ?_
      refine c_X11_digestRows h ⟨_, rfl, ?_⟩
      refine y_lst4_1 dX11_digest_107 rfl ?_
      refine y_aload_n dX11_digest_108 rfl rfl ?_
      refine y_lload_n dX11_digest_109 rfl rfl ?_
      refine y_ivL1 dX11_digest_110 mv_X11_420 my_X11_digestTexts (Or.inl rfl) sh_0 ?_
      refine c_X11_digestTexts h ⟨_, rfl, ?_⟩
      refine y_lreturn dX11_digest_113 rfl ?_
      exact hQ
    · intro k hk hP
      obtain ⟨⟨g1, -, a1, a2⟩, g2, -, a3, a4⟩ := s3 k hk
      have e1 : m 26 k = m 259 (2 * k) := a1.trans a2.symm
      have e2 : m 27 k = m 259 (2 * k + 1) := a3.trans a4.symm
      refine y_iload_n dX11_digest_51 rfl rfl ?_
      refine y_aload_n dX11_digest_52 rfl rfl ?_
      refine y_getr dX11_digest_53 gf_X11_47 sh_0 rfl ?_
      refine y_geti dX11_digest_56 gf_X11_355 sh_25 rfl ?_
      rw [s1]
      refine y_icmp_ge (tgt := 102) dX11_digest_59 (by decide) (fun h59 => absurd h59 (nI_ge (a := k) (b := s) hk (by omega))) (fun h59 => ?_)
      refine y_ldc2 dX11_digest_62 tw_1004 ?_
      refine y_lload_n dX11_digest_65 rfl rfl ?_
      refine y_lmul dX11_digest_66 ?_
      refine y_aload_n dX11_digest_67 rfl rfl ?_
      refine y_getr dX11_digest_68 gf_X11_47 sh_0 rfl ?_
      refine y_getr dX11_digest_71 gf_X11_359 sh_25 rfl ?_
      refine y_iload_n dX11_digest_74 rfl rfl ?_
      refine y_ialdN dX11_digest_75 sh_26 rfl (by first | omega | decide) (by decide) ?_
      rw [e1]
      refine y_i2l dX11_digest_76 ?_
      refine y_ladd dX11_digest_77 ?_
      refine y_lst4_1 dX11_digest_78 rfl ?_
      refine y_ldc2 dX11_digest_79 tw_1004 ?_
      refine y_lload_n dX11_digest_82 rfl rfl ?_
      refine y_lmul dX11_digest_83 ?_
      refine y_aload_n dX11_digest_84 rfl rfl ?_
      refine y_getr dX11_digest_85 gf_X11_47 sh_0 rfl ?_
      refine y_getr dX11_digest_88 gf_X11_361 sh_25 rfl ?_
      refine y_iload_n dX11_digest_91 rfl rfl ?_
      refine y_ialdN dX11_digest_92 sh_27 rfl (by first | omega | decide) (by decide) ?_
      rw [e2]
      refine y_i2l dX11_digest_93 ?_
      refine y_ladd dX11_digest_94 ?_
      refine y_lst4_1 dX11_digest_95 rfl ?_
      refine y_iinc4_3 dX11_digest_96 (nI_1 _) rfl ?_
      refine y_goto (tgt := 51) dX11_digest_99 (by decide) ?_
      exact hP
  · intro k hk hP
    refine y_iload_n dX11_digest_6 rfl rfl ?_
    refine y_bipush (v := 9) dX11_digest_7 (by decide) ?_
    refine y_icmp_ge (tgt := 31) dX11_digest_9 (by decide) (fun h9 => absurd h9 (nI_ge (a := k) (b := 9) hk (by decide))) (fun h9 => ?_)
    refine y_ldc2 dX11_digest_12 tw_1004 ?_
    refine y_lload_n dX11_digest_15 rfl rfl ?_
    refine y_lmul dX11_digest_16 ?_
    refine y_aload_n dX11_digest_17 rfl rfl ?_
    refine y_iload_n dX11_digest_18 rfl rfl ?_
    refine y_ivI1 dX11_digest_19 mv_X11_404 my_X11_count (Or.inl rfl) sh_0 ?_
    refine c_X11_count h rfl hk ⟨_, rfl, ?_⟩
    refine y_i2l dX11_digest_22 ?_
    refine y_ladd dX11_digest_23 ?_
    refine y_lst4_1 dX11_digest_24 rfl ?_
    refine y_iinc4_3 dX11_digest_25 (nI_1 _) rfl ?_
    refine y_goto (tgt := 6) dX11_digest_28 (by decide) ?_
    exact hP
