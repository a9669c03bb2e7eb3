/-! ===== wide, begin ===== -/
theorem Tn_ge {R : Nat → Int32} {a : Nat} : ∀ k, a < k → tOf R a ≤ Tn R k := by
  intro k
  induction k with
  | zero => intro h; omega
  | succ k ih =>
    intro h
    rw [Tn]
    by_cases z : a = k
    · rw [z]; omega
    · have := ih (by omega); omega
theorem tOf_l {R : Nat → Int32} {a t : Nat} (h : R (6 + 3 * a + 2) = nI t) (ht : t ≤ 30) : tOf R a = t := by unfold tOf; rw [h, nI_clamp (by omega)]
theorem may_T {R : Nat → Int32} {a n : Nat} (h : dOK R) (ha : a < cOf R) (hl : lastsR R a) (hn : n ≤ 30) (hm : rsum R (cOf R) - R (6 + 3 * a + 2) + nI n ≤ 90) : Tn R (cOf R) + n ≤ 90 + tOf R a := by
  obtain ⟨t, t1, t2, t3⟩ := hl.2.2
  have e := tOf_l t1 t3
  have g := Tn_ge (R := R) (cOf R) ha
  have hT := h.2.2.2.2
  rw [rsum_Tn h.2.2.1 h.2.2.2.1 _ (Nat.le_refl _), t1, pk_sub (by omega), nI_add] at hm
  have := (nI_leI (b := 90) (by omega) (by decide)).mp hm
  omega
theorem may_T' {R : Nat → Int32} {a n : Nat} (h : dOK R) (ha : a < cOf R) (hl : lastsR R a) (hn : n ≤ 30) (hm : Tn R (cOf R) + n ≤ 90 + tOf R a) : rsum R (cOf R) - R (6 + 3 * a + 2) + nI n ≤ 90 := by
  obtain ⟨t, t1, t2, t3⟩ := hl.2.2
  have e := tOf_l t1 t3
  have g := Tn_ge (R := R) (cOf R) ha
  have hT := h.2.2.2.2
  rw [rsum_Tn h.2.2.1 h.2.2.2.1 _ (Nat.le_refl _), t1, pk_sub (by omega), nI_add]
  exact nI_le (b := 90) (by omega) (by decide)
def tR (R : Nat → Int32) (a n : Nat) : Nat → Int32 := upd R (6 + 3 * a + 2) (nI n)
def oTn (R : Nat → Int32) (a n : Nat) : Prop := mayL R (cOf R) a (nI n)
theorem oTn_0 {R : Nat → Int32} {a : Nat} : ¬ oTn R a 0 := fun h => absurd h.1 (by decide)
theorem oTn_i {R : Nat → Int32} {a n : Nat} (h1 : 1 ≤ n) (h : n ≤ 30) : oTn R a n ↔ rsum R (cOf R) - R (6 + 3 * a + 2) + nI n ≤ 90 := ⟨fun z => z.2.2, fun z => ⟨nI_le (a := 1) h1 (by omega), nI_le (b := 30) h (by decide), z⟩⟩
theorem tR_d {R : Nat → Int32} {a n : Nat} (h : dOK R) (ha : a < cOf R) (hl : lastsR R a) (h1 : 1 ≤ n) (hn : n ≤ 30) (hm : oTn R a n) : dOK (tR R a n) := d_turn h ha hl rfl h1 hn (may_T h ha hl hn hm.2.2)
theorem tR_lo {R : Nat → Int32} {a n p : Nat} (hp : p < 6) : tR R a n p = R p := updN (by omega)
theorem tR_tR {R : Nat → Int32} {a n : Nat} {v : Int32} : upd (upd R (6 + 3 * a + 2) v) (6 + 3 * a + 2) (nI n) = tR R a n := by
  funext p
  unfold tR
  rw [upd_ap, upd_ap, upd_ap]
  split <;> rfl
noncomputable def wdF (ok : Nat → Prop) : Nat → Int32 × Int32
  | 0 => (-9, -9)
  | k + 1 => @ite _ (ok k) (Classical.propDecidable _) (if (wdF ok k).1 = -9 then nI k else (wdF ok k).1, nI k) (wdF ok k)
theorem wd_n {ok : Nat → Prop} {k : Nat} (h : ¬ ok k) : wdF ok (k + 1) = wdF ok k := by rw [wdF, if_neg h]
theorem wd_1 {ok : Nat → Prop} {k : Nat} (h : ok k) (h2 : (wdF ok k).1 = -9) : wdF ok (k + 1) = (nI k, nI k) := by rw [wdF, if_pos h, if_pos h2]
theorem wd_2 {ok : Nat → Prop} {k : Nat} (h : ok k) (h2 : ¬ (wdF ok k).1 = -9) : wdF ok (k + 1) = ((wdF ok k).1, nI k) := by rw [wdF, if_pos h, if_neg h2]
def oWd (R : Nat → Int32) (a n : Nat) : Prop := oTn R a n ∧ NV (tR R a n) = 0
theorem lst_d {R : Nat → Int32} {a : Nat} (h : dOK R) (ha : a < cOf R) (hl : R (6 + 3 * a + 0) = 1 ∨ R (6 + 3 * a + 0) = 2) : lastsR R a := by
  rcases h.2.2.1 a ha with z | z
  · rcases z with z | z | z <;> rcases hl with y | y <;> rw [z] at y <;> exact absurd y (by decide)
  · exact z
theorem lst_i {R : Nat → Int32} {a : Nat} (h : dOK R) (ha : a < cOf R) : (R (6 + 3 * a + 0) = 1 ∨ R (6 + 3 * a + 0) = 2) ↔ R (6 + 3 * a + 0) ≤ 2 := by
  constructor
  · rintro (z | z) <;> rw [z] <;> decide
  · intro z
    rcases h.2.2.1 a ha with y | y
    · exact absurd (once_n y) (Int32.not_lt.mpr z)
    · exact y.1
set_option maxHeartbeats 1000000 in
theorem c_X11_wide_ok {L : Nat} {xs : Nat → Int32} {d : Nat} {m : sM} {n : sN} {Q : sQ} (h : Rel m n) (l : ¬ m 253 0 = 0) {a : Nat} {x : Int32} (hx : x = nI a) (ha : a < cOf (lfR m 0)) (hl : lastsR (lfR m 0) a) (hQ : ∀ m', frC m m' → BK m' → ((wdF (oWd (lfR m 0) a) 31).1 = -9 → Q (some (.int (wdF (oWd (lfR m 0) a) 31).1)) m' n) ∧ (¬ (wdF (oWd (lfR m 0) a) 31).1 = -9 → Q (some (.int (wdF (oWd (lfR m 0) a) 31).1)) (tellM m' (wdF (oWd (lfR m 0) a) 31).2) n)) : sRun (scT L xs) (d + 7) yX11_wide cX11_wide 5 (some .int) [.ref 0, .int x] m n Q := by
  subst hx
  obtain ⟨l1, l2, l3, l4, l5, l6, l7, lf⟩ := h.own l
  obtain ⟨R, hR⟩ : ∃ R, R = lfR m 0 := ⟨_, rfl⟩
  obtain ⟨c, hc⟩ : ∃ c, c = cOf R := ⟨_, rfl⟩
  rw [← hR] at l3 l4 l5 lf ha hl hQ
  have c5 : R 5 = nI c := by rw [hc]; exact l5.1
  have c10 : c ≤ 10 := by rw [hc]; exact l5.2.1
  obtain ⟨G, hG⟩ : ∃ G, G = oWd R a := ⟨_, rfl⟩
  rw [← hG] at hQ
  have ha2 : a < c := by omega
  refine y_run (own := "LoafFall") rfl (by decide +kernel) (Nat.le_of_ble_eq_true rfl) rfl ?_
  refine y_iload_n dX11_wide_0 rfl rfl ?_
  refine y_if_lt (tgt := 10) dX11_wide_1 (by decide) (fun h1 => absurd h1 (nI_pos (by omega))) (fun h1 => ?_)
  refine y_iload_n dX11_wide_4 rfl rfl ?_
  refine y_bipush (v := 10) dX11_wide_5 (by decide) ?_
  refine y_icmp_lt (tgt := 12) dX11_wide_7 (by decide) (fun h7 => ?_) (fun h7 => absurd (nI_lt (b := 10) (by omega) (by omega)) h7)
  refine y_aload_n dX11_wide_12 rfl rfl ?_
  refine y_getr dX11_wide_13 gf_X11_40 sh_0 rfl ?_
  refine y_geti dX11_wide_16 gf_X11_211 sh_6 rfl ?_
  refine y_if_ne (tgt := 25) dX11_wide_19 (by decide) (fun h19 => ?_) (fun h19 => absurd h19 (by rw [l2]; decide))
  refine y_iload_n dX11_wide_25 rfl rfl ?_
  refine y_aload_n dX11_wide_26 rfl rfl ?_
  refine y_getr dX11_wide_27 gf_X11_40 sh_0 rfl ?_
  refine y_getr dX11_wide_30 gf_X11_204 sh_6 rfl ?_
  refine y_geti dX11_wide_33 gf_X11_182 sh_9 rfl ?_
  refine y_icmp_lt (tgt := 41) dX11_wide_36 (by decide) (fun h36 => ?_) (fun h36 => absurd (by rw [show m 9 3 = nI c from l3.2.2.1.trans c5]; exact nI_lt ha2 (by omega)) h36)
  refine y_aload_n dX11_wide_41 rfl rfl ?_
  refine y_getr dX11_wide_42 gf_X11_40 sh_0 rfl ?_
  refine y_getr dX11_wide_45 gf_X11_204 sh_6 rfl ?_
  refine y_iload_n dX11_wide_48 rfl rfl ?_
  refine y_ivI1 dX11_wide_49 mv_X11_323 my_X1_lasts (Or.inl rfl) sh_9 ?_
  refine c_X1_lasts lf6.2.2.1 rfl (by omega) (fun _ => ⟨_, rfl, ?_⟩) (fun z => absurd (by rw [(l3.2.1 a ha).1]; exact hl.1) z)
  refine y_if_ne (tgt := 61) dX11_wide_52 (by decide) (fun h52 => ?_) (fun h52 => absurd h52 (by decide))
  refine y_bipush (v := -9) dX11_wide_61 (by decide) ?_
  refine y_ist5_2 dX11_wide_63 rfl ?_
  refine y_bipush (v := -9) dX11_wide_64 (by decide) ?_
  refine y_ist5_3 dX11_wide_66 rfl ?_
  refine y_aload_n dX11_wide_67 rfl rfl ?_
  refine y_getr dX11_wide_68 gf_X11_78 sh_0 rfl ?_
  refine y_aload_n dX11_wide_71 rfl rfl ?_
  refine y_getr dX11_wide_72 gf_X11_40 sh_0 rfl ?_
  refine y_getr dX11_wide_75 gf_X11_204 sh_6 rfl ?_
  refine y_ivV1 dX11_wide_78 mv_X11_179 my_X1_take (Or.inl rfl) sh_127 ?_
  refine c_X1_take (s := c) dg127 lf6.2.2.1 (by omega) (l3.2.2.1.trans c5) c10 (Or.inr l7) (fun m1 s1 => ⟨rfl, ?_⟩)
  refine y_iconst (v := 1) dX11_wide_81 (by decide) ?_
  refine y_ist5_4 dX11_wide_82 rfl ?_
  have w1 : wdF G 1 = (-9, -9) := wd_n (by rw [hG]; exact fun z => oTn_0 z.1)
  suffices hs : sV (scT L xs) (d + 6) "LoafFall" cX11_wide 5 (some .int) Q 84 [some (.ref 0), some (.int (nI a)), some (.int (wdF G 1).1), some (.int (wdF G 1).2), some (.int (nI 1))] [] m1 n by
    rw [w1] at hs
    exact hs
  refine cnt2 (P := fun k => ∀ m' v, frC m m' → BK m' → DR m' 127 (upd R (6 + 3 * a + 2) v) → m' 127 4 = 1 → sV (scT L xs) (d + 6) "LoafFall" cX11_wide 5 (some .int) Q 84 [some (.ref 0), some (.int (nI a)), some (.int (wdF G k).1), some (.int (wdF G k).2), some (.int (nI k))] [] m' n) 1 31 ?_ ?_ 1 (Nat.le_refl _) (by omega) m1 (R (6 + 3 * a + 2)) (fun q hq => s1.1 q (by omega)) (BK_m h.bk (fun c h1 h2 => s1.1 c (by omega))) (by rw [updId]; exact DR_t2 l3.dr hc s1) (s1.2.2.2.trans l7)
  · intro m' v v1 v2 v3 v4
    have e93 : m' 9 3 = nI c := by rw [v1 _ (by omega)]; exact l3.2.2.1.trans c5
    have tD : DR m' 9 R := DR_m l3.dr (fun c h1 h2 => v1 c (by omega))
    refine y_iload dX11_wide_84 rfl ?_
    refine y_bipush (v := 30) dX11_wide_86 (by decide) ?_
    refine y_icmp_gt (tgt := 167) dX11_wide_88 (by decide) (fun h88 => ?_) (fun h88 => absurd (by decide) h88)
    refine y_iload_n dX11_wide_167 rfl rfl ?_
    refine y_bipush (v := -9) dX11_wide_168 (by decide) ?_
    refine y_icmp_eq (tgt := 178) dX11_wide_170 (by decide) (fun h170 => ?_) (fun h170 => ?_)
    · refine y_iload_n dX11_wide_178 rfl rfl ?_
      refine y_ireturn dX11_wide_179 rfl rfl ?_
      first
        | exact (hQ m' v1 v2).1 h170
        | exact (hQ m' v1 v2).2 h170
    · refine y_aload_n dX11_wide_173 rfl rfl ?_
      refine y_iload_n dX11_wide_174 rfl rfl ?_
      refine y_puti dX11_wide_175 pf_X11_194 sh_0 rfl rfl rfl ?_
      refine y_iload_n dX11_wide_178 rfl rfl ?_
      refine y_ireturn dX11_wide_179 rfl rfl ?_
      first
        | exact (hQ m' v1 v2).1 h170
        | exact (hQ m' v1 v2).2 h170
  · intro k hk0 hk hP
    intro m' v v1 v2 v3 v4
    have e93 : m' 9 3 = nI c := by rw [v1 _ (by omega)]; exact l3.2.2.1.trans c5
    have tD : DR m' 9 R := DR_m l3.dr (fun c h1 h2 => v1 c (by omega))
    refine y_iload dX11_wide_84 rfl ?_
    refine y_bipush (v := 30) dX11_wide_86 (by decide) ?_
    refine y_icmp_gt (tgt := 167) dX11_wide_88 (by decide) (fun h88 => absurd h88 (Int32.not_lt.mpr (nI_le (b := 30) (by omega) (by decide)))) (fun h88 => ?_)
    refine y_aload_n dX11_wide_91 rfl rfl ?_
    refine y_getr dX11_wide_92 gf_X11_40 sh_0 rfl ?_
    refine y_getr dX11_wide_95 gf_X11_204 sh_6 rfl ?_
    refine y_iload_n dX11_wide_98 rfl rfl ?_
    refine y_iload dX11_wide_99 rfl ?_
    refine y_ivI2 dX11_wide_101 mv_X11_326 my_X1_mayLast (Or.inl rfl) sh_9 ?_
    refine c_X1_mayLast (R := R) (c := c) (i := a) lf6.2.2.1 tD c5 c10 rfl ha2 (fun ok => ⟨_, rfl, ?_⟩) (fun ok => ⟨_, rfl, ?_⟩)
    · refine y_if_ne (tgt := 110) dX11_wide_104 (by decide) (fun h104 => ?_) (fun h104 => absurd h104 (by decide))
      refine y_aload_n dX11_wide_110 rfl rfl ?_
      refine y_getr dX11_wide_111 gf_X11_78 sh_0 rfl ?_
      refine y_getr dX11_wide_114 gf_X11_329 sh_127 rfl ?_
      refine y_iload_n dX11_wide_117 rfl rfl ?_
      refine y_iload dX11_wide_118 rfl ?_
      refine y_iastN dX11_wide_120 sh_130 rfl (by first | omega | decide) (by decide) ?_
      have okt : oTn R a k := by unfold oTn mayL; rw [← hc]; exact ok
      have hD : dOK (tR R a k) := tR_d l5 ha hl (by omega) (by omega) okt
      have lfn : flR (tR R a k) := fl_low lf (fun p hp => tR_lo (by omega))
      have v3' : DR (s_up m' 130 (upd (m' 130) a (nI k))) 127 (tR R a k) := by
        have := DR_t (k := a) (v := nI k) v3 (by rw [cOf_upd (by omega)]; exact l5.2.1) (by omega)
        rw [tR_tR] at this
        exact this
      have loR : ∀ i, i < 5 → tR R a k i = R i := fun i hi => tR_lo (by omega)
      refine y_aload_n dX11_wide_121 rfl rfl ?_
      refine y_getr dX11_wide_122 gf_X11_61 sh_0 rfl ?_
      refine y_aload_n dX11_wide_125 rfl rfl ?_
      refine y_getr dX11_wide_126 gf_X11_40 sh_0 rfl ?_
      refine y_getr dX11_wide_129 gf_X11_240 sh_6 rfl ?_
      refine y_aload_n dX11_wide_132 rfl rfl ?_
      refine y_getr dX11_wide_133 gf_X11_78 sh_0 rfl ?_
      refine y_ivR2 dX11_wide_136 mv_X11_303 my_X0_bake (Or.inl rfl) sh_35 ?_
      refine c_bakeV (R := tR R a k) lf6.2.1 dg127 (by omega) (by omega) (fun i hi => by rw [s_upN (by omega), v1 _ (by omega), show tR R a k i = R i from loR i hi]; exact l3.fr i hi) v3' lfn hD (Or.inr (by rw [s_upN (by omega), v1 _ (by omega)]; exact l6)) (Or.inr (by rw [s_upN (by omega)]; exact v4)) (BK_m v2 (fun c h1 h2 => s_upN (by omega))) (fun m4 A a1 a2 a3 a4' a5 => ⟨_, rfl, ?_⟩)
      refine y_geti dX11_wide_139 gf_X11_273 dh43.1 rfl ?_
      have en : m4 43 5 = NV (tR R a k) := a1.2.1.trans (a3.t lfn hD)
      have en2 : G k → m4 43 5 = 0 := fun z => by rw [hG] at z; rw [en]; exact z.2
      refine y_if_ne (tgt := 161) dX11_wide_142 (by decide) (fun h142 => ?_) (fun h142 => ?_)
      · refine y_iinc5_4 dX11_wide_161 (nI_1 _) rfl ?_
        refine y_goto (tgt := 84) dX11_wide_164 (by decide) ?_
        first
          | (rw [wd_1 okk h148] at hP; exact hP m4 _ (fun q hq => by rw [a5 q (by omega), s_upN (by omega)]; exact v1 q hq) a4' (DR_m v3' (fun c h1 h2 => a5 c (by omega))) (by rw [a5 _ (by omega), s_upN (by omega)]; exact v4))
          | (rw [wd_2 okk h148] at hP; exact hP m4 _ (fun q hq => by rw [a5 q (by omega), s_upN (by omega)]; exact v1 q hq) a4' (DR_m v3' (fun c h1 h2 => a5 c (by omega))) (by rw [a5 _ (by omega), s_upN (by omega)]; exact v4))
          | (rw [wd_n (fun z => h142 (en2 z))] at hP; exact hP m4 _ (fun q hq => by rw [a5 q (by omega), s_upN (by omega)]; exact v1 q hq) a4' (DR_m v3' (fun c h1 h2 => a5 c (by omega))) (by rw [a5 _ (by omega), s_upN (by omega)]; exact v4))
          | (rw [wd_n nok] at hP; exact hP m' v v1 v2 v3 v4)
      · have okk : G k := by rw [hG]; exact ⟨okt, by rw [← en]; exact h142⟩
        refine y_iload_n dX11_wide_145 rfl rfl ?_
        refine y_bipush (v := -9) dX11_wide_146 (by decide) ?_
        refine y_icmp_ne (tgt := 156) dX11_wide_148 (by decide) (fun h148 => ?_) (fun h148 => ?_)
        · refine y_iload_n dX11_wide_156 rfl rfl ?_
          refine y_ist5_2 dX11_wide_157 rfl ?_
          refine y_iload dX11_wide_158 rfl ?_
          refine y_ist5_3 dX11_wide_160 rfl ?_
          refine y_iinc5_4 dX11_wide_161 (nI_1 _) rfl ?_
          refine y_goto (tgt := 84) dX11_wide_164 (by decide) ?_
          first
            | (rw [wd_1 okk h148] at hP; exact hP m4 _ (fun q hq => by rw [a5 q (by omega), s_upN (by omega)]; exact v1 q hq) a4' (DR_m v3' (fun c h1 h2 => a5 c (by omega))) (by rw [a5 _ (by omega), s_upN (by omega)]; exact v4))
            | (rw [wd_2 okk h148] at hP; exact hP m4 _ (fun q hq => by rw [a5 q (by omega), s_upN (by omega)]; exact v1 q hq) a4' (DR_m v3' (fun c h1 h2 => a5 c (by omega))) (by rw [a5 _ (by omega), s_upN (by omega)]; exact v4))
            | (rw [wd_n (fun z => h142 (en2 z))] at hP; exact hP m4 _ (fun q hq => by rw [a5 q (by omega), s_upN (by omega)]; exact v1 q hq) a4' (DR_m v3' (fun c h1 h2 => a5 c (by omega))) (by rw [a5 _ (by omega), s_upN (by omega)]; exact v4))
            | (rw [wd_n nok] at hP; exact hP m' v v1 v2 v3 v4)
        · refine y_iload dX11_wide_151 rfl ?_
          refine y_goto (tgt := 157) dX11_wide_153 (by decide) ?_
          refine y_ist5_2 dX11_wide_157 rfl ?_
          refine y_iload dX11_wide_158 rfl ?_
          refine y_ist5_3 dX11_wide_160 rfl ?_
          refine y_iinc5_4 dX11_wide_161 (nI_1 _) rfl ?_
          refine y_goto (tgt := 84) dX11_wide_164 (by decide) ?_
          first
            | (rw [wd_1 okk h148] at hP; exact hP m4 _ (fun q hq => by rw [a5 q (by omega), s_upN (by omega)]; exact v1 q hq) a4' (DR_m v3' (fun c h1 h2 => a5 c (by omega))) (by rw [a5 _ (by omega), s_upN (by omega)]; exact v4))
            | (rw [wd_2 okk h148] at hP; exact hP m4 _ (fun q hq => by rw [a5 q (by omega), s_upN (by omega)]; exact v1 q hq) a4' (DR_m v3' (fun c h1 h2 => a5 c (by omega))) (by rw [a5 _ (by omega), s_upN (by omega)]; exact v4))
            | (rw [wd_n (fun z => h142 (en2 z))] at hP; exact hP m4 _ (fun q hq => by rw [a5 q (by omega), s_upN (by omega)]; exact v1 q hq) a4' (DR_m v3' (fun c h1 h2 => a5 c (by omega))) (by rw [a5 _ (by omega), s_upN (by omega)]; exact v4))
            | (rw [wd_n nok] at hP; exact hP m' v v1 v2 v3 v4)
    · refine y_if_ne (tgt := 110) dX11_wide_104 (by decide) (fun h104 => absurd (by decide) h104) (fun h104 => ?_)
      have nok : ¬ G k := by rw [hG]; exact fun z => ok (by have := z.1; unfold oTn mayL at this; rw [← hc] at this; exact this)
      refine y_goto (tgt := 161) dX11_wide_107 (by decide) ?_
      refine y_iinc5_4 dX11_wide_161 (nI_1 _) rfl ?_
      refine y_goto (tgt := 84) dX11_wide_164 (by decide) ?_
      first
        | (rw [wd_1 okk h148] at hP; exact hP m4 _ (fun q hq => by rw [a5 q (by omega), s_upN (by omega)]; exact v1 q hq) a4' (DR_m v3' (fun c h1 h2 => a5 c (by omega))) (by rw [a5 _ (by omega), s_upN (by omega)]; exact v4))
        | (rw [wd_2 okk h148] at hP; exact hP m4 _ (fun q hq => by rw [a5 q (by omega), s_upN (by omega)]; exact v1 q hq) a4' (DR_m v3' (fun c h1 h2 => a5 c (by omega))) (by rw [a5 _ (by omega), s_upN (by omega)]; exact v4))
        | (rw [wd_n (fun z => h142 (en2 z))] at hP; exact hP m4 _ (fun q hq => by rw [a5 q (by omega), s_upN (by omega)]; exact v1 q hq) a4' (DR_m v3' (fun c h1 h2 => a5 c (by omega))) (by rw [a5 _ (by omega), s_upN (by omega)]; exact v4))
        | (rw [wd_n nok] at hP; exact hP m' v v1 v2 v3 v4)
set_option maxHeartbeats 1000000 in
theorem c_X12_wide_ok {L : Nat} {xs : Nat → Int32} {d : Nat} {m : sM} {n : sN} {Q : sQ} (l1 : m 253 0 = 1) (l5 : dOK (lfR m 0)) {a : Nat} {x : Int32} (hx : x = nI a) (ha : a < cOf (lfR m 0)) (hl : lastsR (lfR m 0) a) (hQ : ∀ M, WM m M → ((wdF (oWd (lfR m 0) a) 31).1 = -9 → Q (some (.int (-9))) M n) ∧ (¬ (wdF (oWd (lfR m 0) a) 31).1 = -9 → Q (some (.int (wdF (oWd (lfR m 0) a) 31).1)) (tellsM M (wdF (oWd (lfR m 0) a) 31).2) n)) : sRun (scT L xs) (d + 10) yX12_wide cX12_wide 5 (some .int) [.ref 239, .int x] m n Q := by
  subst hx
  obtain ⟨R, hR⟩ : ∃ R, R = lfR m 0 := ⟨_, rfl⟩
  obtain ⟨c, hc⟩ : ∃ c, c = cOf R := ⟨_, rfl⟩
  rw [← hR] at l5 ha hl hQ
  have c5 : R 5 = nI c := by rw [hc]; exact l5.1
  have c10 : c ≤ 10 := by rw [hc]; exact l5.2.1
  obtain ⟨G, hG⟩ : ∃ G, G = oWd R a := ⟨_, rfl⟩
  rw [← hG] at hQ
  have ha2 : a < c := by omega
  have hin : inN (nI a) 10 := ⟨a, by omega, rfl⟩
  refine y_run (own := "LoafFallModel") rfl (by decide +kernel) (Nat.le_of_ble_eq_true rfl) rfl ?_
  refine y_iload_n dX12_wide_0 rfl rfl ?_
  refine y_iconst (v := 0) dX12_wide_1 (by decide) ?_
  refine y_bipush (v := 9) dX12_wide_2 (by decide) ?_
  refine y_isI3 dX12_wide_4 ms_X12_86 my_X12_in (Or.inl rfl) ?_
  refine c_X12_in (fun _ _ => ⟨_, rfl, ?_⟩) (fun a => absurd ((in_le (M := 9) (by decide)).mp hin) a)
  refine y_if_ne (tgt := 12) dX12_wide_7 (by decide) (fun h7 => ?_) (fun h7 => absurd h7 (by decide))
  refine y_aload_n dX12_wide_12 rfl rfl ?_
  refine y_getr dX12_wide_13 gf_X12_51 sh_239 rfl ?_
  refine y_iconst (v := 0) dX12_wide_16 (by decide) ?_
  refine y_zaldN dX12_wide_17 sh_253 rfl (by first | omega | decide) (by decide) ?_
  refine y_if_ne (tgt := 24) dX12_wide_18 (by decide) (fun h18 => ?_) (fun h18 => absurd h18 (by rw [l1]; decide))
  refine y_aload_n dX12_wide_24 rfl rfl ?_
  refine y_ivV0 dX12_wide_25 mv_X12_289 my_X12_layOwn (Or.inl rfl) sh_239 ?_
  refine c_layOwn (Or.inl rfl) (fun hh => ⟨rfl, ?_⟩)
  rw [← hR]
  refine y_iload_n dX12_wide_28 rfl rfl ?_
  refine y_aload_n dX12_wide_29 rfl rfl ?_
  refine y_iconst (v := 5) dX12_wide_30 (by decide) ?_
  refine y_ivI1 dX12_wide_31 mv_X12_160 my_X12_v (Or.inl rfl) sh_239 ?_
  refine c_X12_v (wk_b (by omega)) (p := 5) rfl (by omega) ⟨_, rfl, ?_⟩
  refine y_icmp_lt (tgt := 39) dX12_wide_34 (by decide) (fun h34 => ?_) (fun h34 => absurd (by rw [c5]; exact nI_lt ha2 (by omega)) h34)
  refine y_aload_n dX12_wide_39 rfl rfl ?_
  refine y_iload_n dX12_wide_40 rfl rfl ?_
  refine y_iconst (v := 0) dX12_wide_41 (by decide) ?_
  refine y_ivI2 dX12_wide_42 mv_X12_171 my_X12_s (Or.inl rfl) sh_239 ?_
  refine c_X12_s (wk_b (by omega)) (k := a) (j := 0) rfl rfl (by omega) ⟨_, rfl, ?_⟩
  refine y_iconst (v := 2) dX12_wide_45 (by decide) ?_
  refine y_icmp_le (tgt := 55) dX12_wide_46 (by decide) (fun h46 => ?_) (fun h46 => absurd ((lst_i l5 ha).mp hl.1) h46)
  refine y_bipush (v := -9) dX12_wide_55 (by decide) ?_
  refine y_ist5_2 dX12_wide_57 rfl ?_
  refine y_bipush (v := -9) dX12_wide_58 (by decide) ?_
  refine y_ist5_3 dX12_wide_60 rfl ?_
  refine y_iconst (v := 1) dX12_wide_61 (by decide) ?_
  refine y_ist5_4 dX12_wide_62 rfl ?_
  have w1 : wdF G 1 = (-9, -9) := wd_n (by rw [hG]; exact fun z => oTn_0 z.1)
  suffices hs : sV (scT L xs) (d + 9) "LoafFallModel" cX12_wide 5 (some .int) Q 64 [some (.ref 239), some (.int (nI a)), some (.int (wdF G 1).1), some (.int (wdF G 1).2), some (.int (nI 1))] [] (stR (wkM m 1316) hh 1316 R) n by
    rw [w1] at hs
    exact hs
  refine cnt2 (P := fun k => ∀ M, WM m M → sV (scT L xs) (d + 9) "LoafFallModel" cX12_wide 5 (some .int) Q 64 [some (.ref 239), some (.int (nI a)), some (.int (wdF G k).1), some (.int (wdF G k).2), some (.int (nI k))] [] M n) 1 31 ?_ ?_ 1 (Nat.le_refl _) (by omega) _ WM.st
  · intro M hW
    refine y_iload dX12_wide_64 rfl ?_
    refine y_bipush (v := 30) dX12_wide_66 (by decide) ?_
    refine y_icmp_gt (tgt := 118) dX12_wide_68 (by decide) (fun h68 => ?_) (fun h68 => absurd (by decide) h68)
    refine y_iload_n dX12_wide_118 rfl rfl ?_
    refine y_bipush (v := -9) dX12_wide_119 (by decide) ?_
    refine y_icmp_ne (tgt := 129) dX12_wide_121 (by decide) (fun h121 => ?_) (fun h121 => ?_)
    · refine y_aload_n dX12_wide_129 rfl rfl ?_
      refine y_iload_n dX12_wide_130 rfl rfl ?_
      refine y_iload_n dX12_wide_131 rfl rfl ?_
      refine y_ivI2 dX12_wide_132 mv_X12_108 my_X12_tells (Or.inl rfl) sh_239 ?_
      refine c_X12_tells ⟨_, rfl, ?_⟩
      refine y_ireturn dX12_wide_135 rfl rfl ?_
      first
        | exact (hQ M hW).1 h121
        | exact (hQ M hW).2 h121
    · refine y_bipush (v := -9) dX12_wide_124 (by decide) ?_
      refine y_goto (tgt := 135) dX12_wide_126 (by decide) ?_
      refine y_ireturn dX12_wide_135 rfl rfl ?_
      first
        | exact (hQ M hW).1 h121
        | exact (hQ M hW).2 h121
  · intro k hk0 hk hP
    intro M hW
    refine y_iload dX12_wide_64 rfl ?_
    refine y_bipush (v := 30) dX12_wide_66 (by decide) ?_
    refine y_icmp_gt (tgt := 118) dX12_wide_68 (by decide) (fun h68 => absurd h68 (Int32.not_lt.mpr (nI_le (b := 30) (by omega) (by decide)))) (fun h68 => ?_)
    refine y_aload_n dX12_wide_71 rfl rfl ?_
    refine y_ivV0 dX12_wide_72 mv_X12_289 my_X12_layOwn (Or.inl rfl) sh_239 ?_
    refine c_layOwn hW (fun hh => ⟨rfl, ?_⟩)
    rw [← hR]
    refine y_aload_n dX12_wide_75 rfl rfl ?_
    refine y_iload_n dX12_wide_76 rfl rfl ?_
    refine y_iload dX12_wide_77 rfl ?_
    refine y_ivI2 dX12_wide_79 mv_X12_301 my_X12_turnsOf (Or.inl rfl) sh_239 ?_
    refine c_X12_turnsOf (wk_b (by omega)) (i := a) (c := c) rfl ha2 c5 c10 (fun ok => ⟨_, rfl, ?_⟩) (fun ok => ⟨_, rfl, ?_⟩)
    · refine y_if_eq (tgt := 112) dX12_wide_82 (by decide) (fun h82 => absurd h82 (by decide)) (fun h82 => ?_)
      have okt : oTn R a k := (oTn_i (by omega) (by omega)).mpr (by rw [← hc]; exact ok)
      have hD : dOK (tR R a k) := tR_d l5 ha hl (by omega) (by omega) okt
      rw [show upd R (6 + 3 * a + 2) (nI k) = tR R a k from rfl]
      refine y_aload_n dX12_wide_85 rfl rfl ?_
      refine y_ivV0 dX12_wide_86 mv_X12_263 my_X12_bakes (Or.inl rfl) sh_239 ?_
      refine c_bakesW (wk_b (by omega)) hD (fun h' => ⟨rfl, ?_⟩)
      refine y_aload_n dX12_wide_89 rfl rfl ?_
      refine y_ivI0 dX12_wide_90 mv_X12_244 my_X12_tornMany (Or.inl rfl) sh_239 ?_
      refine c_X12_tornMany (wk_b (by omega)) ⟨_, rfl, ?_⟩
      rw [show tornS (BV (tR R a k)) 24 = NV (tR R a k) from rfl]
      have en2 : G k → NV (tR R a k) = 0 := fun z => by rw [hG] at z; exact z.2
      generalize hnv : NV (tR R a k) = nv at en2 ⊢
      refine y_if_ne (tgt := 112) dX12_wide_93 (by decide) (fun h93 => ?_) (fun h93 => ?_)
      · refine y_iinc5_4 dX12_wide_112 (nI_1 _) rfl ?_
        refine y_goto (tgt := 64) dX12_wide_115 (by decide) ?_
        first
          | (rw [wd_1 okk h99] at hP; exact hP _ WM.st)
          | (rw [wd_2 okk h99] at hP; exact hP _ WM.st)
          | (rw [wd_n (fun z => h93 (en2 z))] at hP; exact hP _ WM.st)
          | (rw [wd_n nok] at hP; exact hP _ WM.st)
      · have okk : G k := by rw [hG]; exact ⟨okt, by rw [hnv]; exact h93⟩
        refine y_iload_n dX12_wide_96 rfl rfl ?_
        refine y_bipush (v := -9) dX12_wide_97 (by decide) ?_
        refine y_icmp_ne (tgt := 107) dX12_wide_99 (by decide) (fun h99 => ?_) (fun h99 => ?_)
        · refine y_iload_n dX12_wide_107 rfl rfl ?_
          refine y_ist5_2 dX12_wide_108 rfl ?_
          refine y_iload dX12_wide_109 rfl ?_
          refine y_ist5_3 dX12_wide_111 rfl ?_
          refine y_iinc5_4 dX12_wide_112 (nI_1 _) rfl ?_
          refine y_goto (tgt := 64) dX12_wide_115 (by decide) ?_
          first
            | (rw [wd_1 okk h99] at hP; exact hP _ WM.st)
            | (rw [wd_2 okk h99] at hP; exact hP _ WM.st)
            | (rw [wd_n (fun z => h93 (en2 z))] at hP; exact hP _ WM.st)
            | (rw [wd_n nok] at hP; exact hP _ WM.st)
        · refine y_iload dX12_wide_102 rfl ?_
          refine y_goto (tgt := 108) dX12_wide_104 (by decide) ?_
          refine y_ist5_2 dX12_wide_108 rfl ?_
          refine y_iload dX12_wide_109 rfl ?_
          refine y_ist5_3 dX12_wide_111 rfl ?_
          refine y_iinc5_4 dX12_wide_112 (nI_1 _) rfl ?_
          refine y_goto (tgt := 64) dX12_wide_115 (by decide) ?_
          first
            | (rw [wd_1 okk h99] at hP; exact hP _ WM.st)
            | (rw [wd_2 okk h99] at hP; exact hP _ WM.st)
            | (rw [wd_n (fun z => h93 (en2 z))] at hP; exact hP _ WM.st)
            | (rw [wd_n nok] at hP; exact hP _ WM.st)
    · have nok : ¬ G k := by
        rw [hG]
        exact fun z => ok (by have := (oTn_i (by omega) (by omega)).mp z.1; rw [← hc] at this; exact this)
      refine y_if_eq (tgt := 112) dX12_wide_82 (by decide) (fun h82 => ?_) (fun h82 => absurd (by decide) h82)
      refine y_iinc5_4 dX12_wide_112 (nI_1 _) rfl ?_
      refine y_goto (tgt := 64) dX12_wide_115 (by decide) ?_
      first
        | (rw [wd_1 okk h99] at hP; exact hP _ WM.st)
        | (rw [wd_2 okk h99] at hP; exact hP _ WM.st)
        | (rw [wd_n (fun z => h93 (en2 z))] at hP; exact hP _ WM.st)
        | (rw [wd_n nok] at hP; exact hP _ WM.st)
set_option maxHeartbeats 2000000 in
theorem p_wide {L : Nat} {xs : Nat → Int32} {d : Nat} {m : sM} {n : sN} {x : Int32} (h : Rel m n) : PI L xs (d + 11) yX11_wide cX11_wide 5 yX12_wide cX12_wide 5 [.int x] m n := by
  unfold PI
  by_cases hx : inN x 10
  · obtain ⟨a, ha10, rfl⟩ := hx
    have hx : inN (nI a) 10 := ⟨a, ha10, rfl⟩
    by_cases l : m 253 0 = 0
    · refine y_run (own := "LoafFall") rfl (by decide +kernel) (Nat.le_of_ble_eq_true rfl) rfl ?_
      refine y_iload_n dX11_wide_0 rfl rfl ?_
      refine y_if_lt (tgt := 10) dX11_wide_1 (by decide) (fun h1 => absurd h1 (nI_pos (by omega))) (fun h1 => ?_)
      refine y_iload_n dX11_wide_4 rfl rfl ?_
      refine y_bipush (v := 10) dX11_wide_5 (by decide) ?_
      refine y_icmp_lt (tgt := 12) dX11_wide_7 (by decide) (fun h7 => ?_) (fun h7 => absurd (nI_lt (b := 10) (by omega) (by omega)) h7)
      refine y_aload_n dX11_wide_12 rfl rfl ?_
      refine y_getr dX11_wide_13 gf_X11_40 sh_0 rfl ?_
      refine y_geti dX11_wide_16 gf_X11_211 sh_6 rfl ?_
      refine y_if_ne (tgt := 25) dX11_wide_19 (by decide) (fun h19 => absurd (h.none l) h19) (fun h19 => ?_)
      refine y_bipush (v := -4) dX11_wide_22 (by decide) ?_
      refine y_ireturn dX11_wide_24 rfl rfl ?_
      refine ⟨_, rfl, ?_⟩
      refine y_run (own := "LoafFallModel") rfl (by decide +kernel) (Nat.le_of_ble_eq_true rfl) rfl ?_
      refine y_iload_n dX12_wide_0 rfl rfl ?_
      refine y_iconst (v := 0) dX12_wide_1 (by decide) ?_
      refine y_bipush (v := 9) dX12_wide_2 (by decide) ?_
      refine y_isI3 dX12_wide_4 ms_X12_86 my_X12_in (Or.inl rfl) ?_
      refine c_X12_in (fun _ _ => ⟨_, rfl, ?_⟩) (fun a => absurd ((in_le (M := 9) (by decide)).mp hx) a)
      refine y_if_ne (tgt := 12) dX12_wide_7 (by decide) (fun h7 => ?_) (fun h7 => absurd h7 (by decide))
      refine y_aload_n dX12_wide_12 rfl rfl ?_
      refine y_getr dX12_wide_13 gf_X12_51 sh_239 rfl ?_
      refine y_iconst (v := 0) dX12_wide_16 (by decide) ?_
      refine y_zaldN dX12_wide_17 sh_253 rfl (by first | omega | decide) (by decide) ?_
      refine y_if_ne (tgt := 24) dX12_wide_18 (by decide) (fun h18 => absurd l h18) (fun h18 => ?_)
      refine y_bipush (v := -4) dX12_wide_21 (by decide) ?_
      refine y_ireturn dX12_wide_23 rfl rfl ?_
      exact ⟨rfl, h⟩
    · obtain ⟨l1, l2, l3, l4, l5, l6, l7, lf⟩ := h.own l
      have c5 : lfR m 0 5 = nI (cOf (lfR m 0)) := l5.1
      have e93 : m 9 3 = nI (cOf (lfR m 0)) := l3.2.2.1.trans c5
      have c10 := l5.2.1
      by_cases ha : a < cOf (lfR m 0)
      · by_cases hl : lastsR (lfR m 0) a
        · refine c_X11_wide_ok h l rfl ha hl (fun m' v1 v2 => ⟨fun hb => ⟨_, rfl, ?_⟩, fun hb => ⟨_, rfl, ?_⟩⟩)
          · have e0 : lfR m' 0 = lfR m 0 := lfR_m (v1 254 (by omega))
            refine c_X12_wide_ok (by rw [v1 _ (by omega)]; exact l1) (by rw [e0]; exact l5) rfl (by rw [e0]; exact ha) (by rw [e0]; exact hl) (fun M hW => ?_)
            rw [e0]
            exact ⟨fun _ => ⟨by rw [hb], Rel_scr h v1 v2 hW.fr⟩, fun z => absurd hb z⟩
          · generalize em : tellM m' (wdF (oWd (lfR m 0) a) 31).2 = m1
            have gg : ∀ a, 137 ≤ a → m1 a = m a := fun a ha => by rw [← em, tell_o (by omega)]; exact v1 a (by omega)
            have e0 : lfR m1 0 = lfR m 0 := lfR_m (gg 254 (by omega))
            refine c_X12_wide_ok (by rw [gg _ (by omega)]; exact l1) (by rw [e0]; exact l5) rfl (by rw [e0]; exact ha) (by rw [e0]; exact hl) (fun M hW => ?_)
            rw [e0]
            refine ⟨fun z => absurd z hb, fun _ => ⟨rfl, ?_⟩⟩
            rw [← em] at hW
            exact Rel_tell h v1 v2 hW.fr
        · have hn : ¬ (lfR m 0 (6 + 3 * a + 0) = 1 ∨ lfR m 0 (6 + 3 * a + 0) = 2) := fun z => hl (lst_d l5 ha z)
          refine y_run (own := "LoafFall") rfl (by decide +kernel) (Nat.le_of_ble_eq_true rfl) rfl ?_
          refine y_iload_n dX11_wide_0 rfl rfl ?_
          refine y_if_lt (tgt := 10) dX11_wide_1 (by decide) (fun h1 => absurd h1 (nI_pos (by omega))) (fun h1 => ?_)
          refine y_iload_n dX11_wide_4 rfl rfl ?_
          refine y_bipush (v := 10) dX11_wide_5 (by decide) ?_
          refine y_icmp_lt (tgt := 12) dX11_wide_7 (by decide) (fun h7 => ?_) (fun h7 => absurd (nI_lt (b := 10) (by omega) (by omega)) h7)
          refine y_aload_n dX11_wide_12 rfl rfl ?_
          refine y_getr dX11_wide_13 gf_X11_40 sh_0 rfl ?_
          refine y_geti dX11_wide_16 gf_X11_211 sh_6 rfl ?_
          refine y_if_ne (tgt := 25) dX11_wide_19 (by decide) (fun h19 => ?_) (fun h19 => absurd h19 (by rw [l2]; decide))
          refine y_iload_n dX11_wide_25 rfl rfl ?_
          refine y_aload_n dX11_wide_26 rfl rfl ?_
          refine y_getr dX11_wide_27 gf_X11_40 sh_0 rfl ?_
          refine y_getr dX11_wide_30 gf_X11_204 sh_6 rfl ?_
          refine y_geti dX11_wide_33 gf_X11_182 sh_9 rfl ?_
          refine y_icmp_lt (tgt := 41) dX11_wide_36 (by decide) (fun h36 => ?_) (fun h36 => absurd (by rw [e93]; exact nI_lt ha (by omega)) h36)
          refine y_aload_n dX11_wide_41 rfl rfl ?_
          refine y_getr dX11_wide_42 gf_X11_40 sh_0 rfl ?_
          refine y_getr dX11_wide_45 gf_X11_204 sh_6 rfl ?_
          refine y_iload_n dX11_wide_48 rfl rfl ?_
          refine y_ivI1 dX11_wide_49 mv_X11_323 my_X1_lasts (Or.inl rfl) sh_9 ?_
          refine c_X1_lasts lf6.2.2.1 rfl (by omega) (fun z => absurd (by rw [(l3.2.1 a ha).1] at z; exact z) hn) (fun _ => ⟨_, rfl, ?_⟩)
          refine y_if_ne (tgt := 61) dX11_wide_52 (by decide) (fun h52 => absurd (by decide) h52) (fun h52 => ?_)
          refine y_aload_n dX11_wide_55 rfl rfl ?_
          refine y_iconst (v := 3) dX11_wide_56 (by decide) ?_
          refine y_ivI1 dX11_wide_57 mv_X11_105 my_X11_found (Or.inl rfl) sh_0 ?_
          refine c_X11_found (f := 3) rfl (by omega) (by omega) ⟨_, rfl, ?_⟩
          refine y_ireturn dX11_wide_60 rfl rfl ?_
          refine ⟨_, rfl, ?_⟩
          obtain ⟨m1, em⟩ : ∃ m1, m1 = foundM m 3 := ⟨_, rfl⟩
          rw [← em]
          have g : ∀ a, 138 ≤ a → m1 a = m a := fun a ha => by rw [em]; exact found_o (by omega) (by omega)
          have e0 : lfR m1 0 = lfR m 0 := lfR_m (g 254 (by omega))
          refine y_run (own := "LoafFallModel") rfl (by decide +kernel) (Nat.le_of_ble_eq_true rfl) rfl ?_
          refine y_iload_n dX12_wide_0 rfl rfl ?_
          refine y_iconst (v := 0) dX12_wide_1 (by decide) ?_
          refine y_bipush (v := 9) dX12_wide_2 (by decide) ?_
          refine y_isI3 dX12_wide_4 ms_X12_86 my_X12_in (Or.inl rfl) ?_
          refine c_X12_in (fun _ _ => ⟨_, rfl, ?_⟩) (fun a => absurd ((in_le (M := 9) (by decide)).mp hx) a)
          refine y_if_ne (tgt := 12) dX12_wide_7 (by decide) (fun h7 => ?_) (fun h7 => absurd h7 (by decide))
          refine y_aload_n dX12_wide_12 rfl rfl ?_
          refine y_getr dX12_wide_13 gf_X12_51 sh_239 rfl ?_
          refine y_iconst (v := 0) dX12_wide_16 (by decide) ?_
          refine y_zaldN dX12_wide_17 sh_253 rfl (by first | omega | decide) (by decide) ?_
          refine y_if_ne (tgt := 24) dX12_wide_18 (by decide) (fun h18 => ?_) (fun h18 => absurd h18 (by rw [g _ (by omega), l1]; decide))
          refine y_aload_n dX12_wide_24 rfl rfl ?_
          refine y_ivV0 dX12_wide_25 mv_X12_289 my_X12_layOwn (Or.inl rfl) sh_239 ?_
          refine c_layOwn (m0 := m1) (Or.inl rfl) (fun hh => ⟨rfl, ?_⟩)
          rw [e0]
          refine y_iload_n dX12_wide_28 rfl rfl ?_
          refine y_aload_n dX12_wide_29 rfl rfl ?_
          refine y_iconst (v := 5) dX12_wide_30 (by decide) ?_
          refine y_ivI1 dX12_wide_31 mv_X12_160 my_X12_v (Or.inl rfl) sh_239 ?_
          refine c_X12_v (wk_b (by omega)) (p := 5) rfl (by omega) ⟨_, rfl, ?_⟩
          refine y_icmp_lt (tgt := 39) dX12_wide_34 (by decide) (fun h34 => ?_) (fun h34 => absurd (by rw [c5]; exact nI_lt ha (by omega)) h34)
          refine y_aload_n dX12_wide_39 rfl rfl ?_
          refine y_iload_n dX12_wide_40 rfl rfl ?_
          refine y_iconst (v := 0) dX12_wide_41 (by decide) ?_
          refine y_ivI2 dX12_wide_42 mv_X12_171 my_X12_s (Or.inl rfl) sh_239 ?_
          refine c_X12_s (wk_b (by omega)) (k := a) (j := 0) rfl rfl (by omega) ⟨_, rfl, ?_⟩
          refine y_iconst (v := 2) dX12_wide_45 (by decide) ?_
          refine y_icmp_le (tgt := 55) dX12_wide_46 (by decide) (fun h46 => absurd h46 (fun z => hn ((lst_i l5 ha).mpr z))) (fun h46 => ?_)
          refine y_aload_n dX12_wide_49 rfl rfl ?_
          refine y_iconst (v := 3) dX12_wide_50 (by decide) ?_
          refine y_ivI1 dX12_wide_51 mv_X12_100 my_X12_meets (Or.inl rfl) sh_239 ?_
          refine c_X12_meets (f := 3) rfl (by omega) ⟨_, rfl, ?_⟩
          refine y_ireturn dX12_wide_54 rfl rfl ?_
          rw [em]
          exact ⟨rfl, Rel_meet h frC.rf h.bk (frM.wk.tr frM.st)⟩
      · have e0 : lfR m 0 = lfR m 0 := rfl
        refine y_run (own := "LoafFall") rfl (by decide +kernel) (Nat.le_of_ble_eq_true rfl) rfl ?_
        refine y_iload_n dX11_wide_0 rfl rfl ?_
        refine y_if_lt (tgt := 10) dX11_wide_1 (by decide) (fun h1 => absurd h1 (nI_pos (by omega))) (fun h1 => ?_)
        refine y_iload_n dX11_wide_4 rfl rfl ?_
        refine y_bipush (v := 10) dX11_wide_5 (by decide) ?_
        refine y_icmp_lt (tgt := 12) dX11_wide_7 (by decide) (fun h7 => ?_) (fun h7 => absurd (nI_lt (b := 10) (by omega) (by omega)) h7)
        refine y_aload_n dX11_wide_12 rfl rfl ?_
        refine y_getr dX11_wide_13 gf_X11_40 sh_0 rfl ?_
        refine y_geti dX11_wide_16 gf_X11_211 sh_6 rfl ?_
        refine y_if_ne (tgt := 25) dX11_wide_19 (by decide) (fun h19 => ?_) (fun h19 => absurd h19 (by rw [l2]; decide))
        refine y_iload_n dX11_wide_25 rfl rfl ?_
        refine y_aload_n dX11_wide_26 rfl rfl ?_
        refine y_getr dX11_wide_27 gf_X11_40 sh_0 rfl ?_
        refine y_getr dX11_wide_30 gf_X11_204 sh_6 rfl ?_
        refine y_geti dX11_wide_33 gf_X11_182 sh_9 rfl ?_
        refine y_icmp_lt (tgt := 41) dX11_wide_36 (by decide) (fun h36 => absurd h36 (by rw [e93]; exact nI_nlt (by omega) (by omega))) (fun h36 => ?_)
        refine y_iconst (v := -1) dX11_wide_39 (by decide) ?_
        refine y_ireturn dX11_wide_40 rfl rfl ?_
        refine ⟨_, rfl, ?_⟩
        refine y_run (own := "LoafFallModel") rfl (by decide +kernel) (Nat.le_of_ble_eq_true rfl) rfl ?_
        refine y_iload_n dX12_wide_0 rfl rfl ?_
        refine y_iconst (v := 0) dX12_wide_1 (by decide) ?_
        refine y_bipush (v := 9) dX12_wide_2 (by decide) ?_
        refine y_isI3 dX12_wide_4 ms_X12_86 my_X12_in (Or.inl rfl) ?_
        refine c_X12_in (fun _ _ => ⟨_, rfl, ?_⟩) (fun a => absurd ((in_le (M := 9) (by decide)).mp hx) a)
        refine y_if_ne (tgt := 12) dX12_wide_7 (by decide) (fun h7 => ?_) (fun h7 => absurd h7 (by decide))
        refine y_aload_n dX12_wide_12 rfl rfl ?_
        refine y_getr dX12_wide_13 gf_X12_51 sh_239 rfl ?_
        refine y_iconst (v := 0) dX12_wide_16 (by decide) ?_
        refine y_zaldN dX12_wide_17 sh_253 rfl (by first | omega | decide) (by decide) ?_
        refine y_if_ne (tgt := 24) dX12_wide_18 (by decide) (fun h18 => ?_) (fun h18 => absurd h18 (by rw [l1]; decide))
        refine y_aload_n dX12_wide_24 rfl rfl ?_
        refine y_ivV0 dX12_wide_25 mv_X12_289 my_X12_layOwn (Or.inl rfl) sh_239 ?_
        refine c_layOwn (m0 := m) (Or.inl rfl) (fun hh => ⟨rfl, ?_⟩)
        refine y_iload_n dX12_wide_28 rfl rfl ?_
        refine y_aload_n dX12_wide_29 rfl rfl ?_
        refine y_iconst (v := 5) dX12_wide_30 (by decide) ?_
        refine y_ivI1 dX12_wide_31 mv_X12_160 my_X12_v (Or.inl rfl) sh_239 ?_
        refine c_X12_v (wk_b (by omega)) (p := 5) rfl (by omega) ⟨_, rfl, ?_⟩
        refine y_icmp_lt (tgt := 39) dX12_wide_34 (by decide) (fun h34 => absurd h34 (by rw [c5]; exact nI_nlt (by omega) (by omega))) (fun h34 => ?_)
        refine y_iconst (v := -1) dX12_wide_37 (by decide) ?_
        refine y_ireturn dX12_wide_38 rfl rfl ?_
        exact ⟨rfl, Rel_scr h frC.rf h.bk (frM.wk.tr frM.st)⟩
  · refine y_run (own := "LoafFall") rfl (by decide +kernel) (Nat.le_of_ble_eq_true rfl) rfl ?_
    refine y_iload_n dX11_wide_0 rfl rfl ?_
    refine y_if_lt (tgt := 10) dX11_wide_1 (by decide) (fun h1 => ?_) (fun h1 => ?_)
    · refine y_iconst (v := -1) dX11_wide_10 (by decide) ?_
      refine y_ireturn dX11_wide_11 rfl rfl ?_
      refine ⟨_, rfl, ?_⟩
      refine y_run (own := "LoafFallModel") rfl (by decide +kernel) (Nat.le_of_ble_eq_true rfl) rfl ?_
      refine y_iload_n dX12_wide_0 rfl rfl ?_
      refine y_iconst (v := 0) dX12_wide_1 (by decide) ?_
      refine y_bipush (v := 9) dX12_wide_2 (by decide) ?_
      refine y_isI3 dX12_wide_4 ms_X12_86 my_X12_in (Or.inl rfl) ?_
      refine c_X12_in (fun a b => absurd ((in_le (M := 9) (by decide)).mpr ⟨a, b⟩) hx) (fun _ => ⟨_, rfl, ?_⟩)
      refine y_if_ne (tgt := 12) dX12_wide_7 (by decide) (fun h7 => absurd (by decide) h7) (fun h7 => ?_)
      refine y_iconst (v := -1) dX12_wide_10 (by decide) ?_
      refine y_ireturn dX12_wide_11 rfl rfl ?_
      exact ⟨rfl, h⟩
    · refine y_iload_n dX11_wide_4 rfl rfl ?_
      refine y_bipush (v := 10) dX11_wide_5 (by decide) ?_
      refine y_icmp_lt (tgt := 12) dX11_wide_7 (by decide) (fun h7 => absurd h7 (fun z => hx ((in_lt (M := 10) (by decide)).mpr ⟨h1, z⟩))) (fun h7 => ?_)
      refine y_iconst (v := -1) dX11_wide_10 (by decide) ?_
      refine y_ireturn dX11_wide_11 rfl rfl ?_
      refine ⟨_, rfl, ?_⟩
      refine y_run (own := "LoafFallModel") rfl (by decide +kernel) (Nat.le_of_ble_eq_true rfl) rfl ?_
      refine y_iload_n dX12_wide_0 rfl rfl ?_
      refine y_iconst (v := 0) dX12_wide_1 (by decide) ?_
      refine y_bipush (v := 9) dX12_wide_2 (by decide) ?_
      refine y_isI3 dX12_wide_4 ms_X12_86 my_X12_in (Or.inl rfl) ?_
      refine c_X12_in (fun a b => absurd ((in_le (M := 9) (by decide)).mpr ⟨a, b⟩) hx) (fun _ => ⟨_, rfl, ?_⟩)
      refine y_if_ne (tgt := 12) dX12_wide_7 (by decide) (fun h7 => absurd (by decide) h7) (fun h7 => ?_)
      refine y_iconst (v := -1) dX12_wide_10 (by decide) ?_
      refine y_ireturn dX12_wide_11 rfl rfl ?_
      exact ⟨rfl, h⟩
