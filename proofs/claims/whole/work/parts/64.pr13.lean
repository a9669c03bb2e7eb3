/-! ===== sprout, rack ===== -/
def tru : Nat → Prop := fun _ => True
def ltI : Int32 → Int32 → Prop := fun a b => a < b
def gtI : Int32 → Int32 → Prop := fun a b => b < a
theorem DR_lo {m : sM} {a : Nat} {R R' : Nat → Int32} (h : DR m a R) (hc : cOf R ≤ 10) (e : ∀ p, 5 ≤ p → p < 36 → R' p = R p) : DR m a R' := by
  have ec : cOf R' = cOf R := by unfold cOf; rw [e 5 (by omega) (by omega)]
  refine ⟨fun i hi => ?_, by rw [e 5 (by omega) (by omega)]; exact h.2⟩
  rw [ec] at hi
  rw [e _ (by omega) (by omega), e _ (by omega) (by omega), e _ (by omega) (by omega)]
  exact h.1 i hi
theorem DR_t2 {m m' : sM} {a b s : Nat} {R : Nat → Int32} (h : DR m b R) (hs : s = cOf R) (t : DgT m m' a b s) : DR m' a R := by
  obtain ⟨t0, t1, t2, t3⟩ := t
  refine ⟨fun i hi => ?_, t2.trans h.2⟩
  obtain ⟨a1, a2, a3⟩ := t1 i (by omega)
  obtain ⟨b1, b2, b3⟩ := h.1 i hi
  exact ⟨a1.trans b1, a2.trans b2, a3.trans b3⟩
theorem fl_2 {R : Nat → Int32} {e : Nat} (h : flR R) (he : e ≤ 9) : flR (upd R 2 (nI e)) := by
  obtain ⟨h1, h2, h3, h4, h5⟩ := h
  refine ⟨?_, ?_, ⟨e, updS, he⟩, ?_, ?_⟩
  · rw [updN (by omega)]; exact h1
  · rw [updN (by omega)]; exact h2
  · rw [updN (by omega)]; exact h4
  · rw [updN (by omega)]; exact h5
def bo (m : sM) (f g : Nat) : Nat → Int32 := bothR m f g (fun _ => 0)
theorem bo_m {m m' : sM} {f g : Nat} (e1 : m' 247 = m 247) (e2 : m' 249 = m 249) (e3 : m' 250 = m 250) : bo m' f g = bo m f g := both_m e1 e2 e3
theorem bo_X {m : sM} {f g p : Nat} {X : Nat → Int32} (hp : p < 36) : bothR m f g X p = bo m f g p := by
  by_cases h : p < 5
  · exact (both_f h).trans (both_f h).symm
  · exact (both_d (by omega) hp).trans (both_d (by omega) hp).symm
/-- unlike what is seen, by how sprouted -/
def gSp (B V : Nat → Int32) (e : Nat) : Int32 := unlS (CV (upd B 2 (nI e))) V 24
theorem upd_d {B : Nat → Int32} {p : Nat} {v : Int32} (h : dOK B) (hp : p < 5) : dOK (upd B p v) := d_eq h (fun q h1 h2 => updN (by omega))
theorem frC_up {m : sM} {a : Nat} {f : Nat → Int32} (h : 28 ≤ a) (h2 : a < 137) : frC m (s_up m a f) := fun b hb => s_upN (by omega)
/-- a flour and a doing that are there -/
theorem both_there {m : sM} {n : sN} {f g : Nat} (h : Rel m n) (hf : f < 4) (hg : g < 4) (h1 : ¬ m 246 f = 0) (h2 : ¬ m 248 g = 0) : m (158 + 2 * f) 1 = 1 ∧ m (166 + 4 * g) 4 = 1 ∧ (∀ X, flR (bothR m f g X) ∧ dOK (bothR m f g X) ∧ FR m (158 + 2 * f) (bothR m f g X) ∧ DR m (166 + 4 * g) (bothR m f g X)) := by
  rcases h.f f hf with ⟨a, -⟩ | ⟨a, b, c, e⟩
  · exact absurd a h1
  · rcases h.d g hg with ⟨a', -⟩ | ⟨a', b', c', e'⟩
    · exact absurd a' h2
    · exact ⟨b, b', fun X => ⟨(both_ok e e').1, (both_ok e e').2, both_FR c, both_DR c' e'⟩⟩
set_option maxHeartbeats 1000000 in
theorem c_X11_sprout_ok {L : Nat} {xs : Nat → Int32} {d : Nat} {m : sM} {n : sN} {Q : sQ} {f g k : Nat} {x z r : Int32} (h : Rel m n) (hx : x = nI f) (hf : f < 4) (hz : z = nI g) (hg : g < 4) (hr : r = nI k) (hk : k < 6) (h0 : LKp m f g k = 0) (hQ : ∀ m' b wv, frC m m' → BK m' → SC tru ltI nI (gSp (bo m f g) (fun i => m 242 (40 * k + i))) 25 10 b wv → Q (some (.int b)) (tellM m' wv) n) : sRun (scT L xs) (d + 7) yX11_sprout cX11_sprout 9 (some .int) [.ref 0, .int x, .int z, .int r] m n Q := by
  subst hx hz hr
  obtain ⟨z1, z2, z3⟩ := lk_0 h0
  obtain ⟨t1, t2, t3⟩ := both_there h hf hg z1 z2
  obtain ⟨t4, t5, t6, t7⟩ := t3 (fun _ => 0)
  have hv := ck_0 h hk z3
  refine y_run (own := "LoafFall") rfl (by decide +kernel) (Nat.le_of_ble_eq_true rfl) rfl ?_
  refine y_iload_n dX11_sprout_0 rfl rfl ?_
  refine y_isI1 dX11_sprout_1 ms_X11_160 my_X11_isFlour (Or.inl rfl) ?_
  refine c_X11_isFlour (fun _ => ⟨_, rfl, ?_⟩) (fun z => absurd (⟨f, hf, rfl⟩ : inN (nI f) 4) z)
  refine y_if_eq (tgt := 21) dX11_sprout_4 (by decide) (fun h4 => absurd h4 (by decide)) (fun h4 => ?_)
  refine y_iload_n dX11_sprout_7 rfl rfl ?_
  refine y_isI1 dX11_sprout_8 ms_X11_173 my_X11_isDoing (Or.inl rfl) ?_
  refine c_X11_isDoing (fun _ => ⟨_, rfl, ?_⟩) (fun z => absurd (⟨g, hg, rfl⟩ : inN (nI g) 4) z)
  refine y_if_eq (tgt := 21) dX11_sprout_11 (by decide) (fun h11 => absurd h11 (by decide)) (fun h11 => ?_)
  refine y_iload_n dX11_sprout_14 rfl rfl ?_
  refine y_isI1 dX11_sprout_15 ms_X11_101 my_X11_isRow (Or.inl rfl) ?_
  refine c_X11_isRow (fun _ => ⟨_, rfl, ?_⟩) (fun z => absurd (⟨k, hk, rfl⟩ : inN (nI k) 6) z)
  refine y_if_ne (tgt := 23) dX11_sprout_18 (by decide) (fun h18 => ?_) (fun h18 => absurd h18 (by decide))
  refine y_aload_n dX11_sprout_23 rfl rfl ?_
  refine y_iload_n dX11_sprout_24 rfl rfl ?_
  refine y_iload_n dX11_sprout_25 rfl rfl ?_
  refine y_iload_n dX11_sprout_26 rfl rfl ?_
  refine y_ivI3 dX11_sprout_27 mv_X11_293 my_X11_lackOfPairAndCut (Or.inl rfl) sh_0 ?_
  refine c_X11_lackOfPairAndCut h rfl hf rfl hg rfl hk ⟨_, rfl, ?_⟩
  rw [h0]
  refine y_ist9_4 dX11_sprout_30 rfl ?_
  refine y_iload dX11_sprout_32 rfl ?_
  refine y_if_eq (tgt := 44) dX11_sprout_34 (by decide) (fun h34 => ?_) (fun h34 => absurd (by decide) h34)
  refine y_bipush (v := -9) dX11_sprout_44 (by decide) ?_
  refine y_ist9_5 dX11_sprout_46 rfl ?_
  refine y_bipush (v := 25) dX11_sprout_48 (by decide) ?_
  refine y_ist9_6 dX11_sprout_50 rfl ?_
  refine y_aload_n dX11_sprout_52 rfl rfl ?_
  refine y_getr dX11_sprout_53 gf_X11_73 sh_0 rfl ?_
  refine y_aload_n dX11_sprout_56 rfl rfl ?_
  refine y_getr dX11_sprout_57 gf_X11_23 sh_0 rfl ?_
  refine y_iload_n dX11_sprout_60 rfl rfl ?_
  refine y_aaldN dX11_sprout_61 (by decide) sh_3 rfl (flA (k := f) (by omega)) (by decide) ?_
  refine y_ivV1 dX11_sprout_62 mv_X11_166 my_X4_take (Or.inl rfl) sh_125 ?_
  refine c_X4_take fl125 (flI hf) (by omega) (Or.inr t1) (fun m1 a1 => ⟨rfl, ?_⟩)
  refine y_gets dX11_sprout_65 gs_X11_297 ?_
  refine y_iconst (v := 2) dX11_sprout_68 (by decide) ?_
  refine y_saldN dX11_sprout_69 rfl rfl (by first | omega | decide) (by decide) ?_
  
  refine y_ist9_7 dX11_sprout_70 rfl ?_
  refine cnt (P := fun e => ∀ m' b wv, ∀ a8 : Option Value, (frC m m' ∧ BK m' ∧ m' 125 1 = 1 ∧ ∀ i, i < 5 → i ≠ 2 → m' 126 i = bo m f g i) → SC tru ltI nI (gSp (bo m f g) (fun i => m 242 (40 * k + i))) 25 e b wv → sV (scT L xs) (d + 6) "LoafFall" cX11_sprout 9 (some .int) Q 72 [some (.ref 0), some (.int (nI f)), some (.int (nI g)), some (.int (nI k)), some (.int (nI 0)), some (.int b), some (.int wv), some (.int (nI e)), a8] [] m' n) 10 ?_ ?_ 0 (by omega) m1 (-9) 25 none ⟨fun a ha => a1.1 a (by omega) (by omega), BK_m h.bk (fun c h1 h2 => a1.1 c (by omega) (by omega)), a1.2.2.trans t1, fun i hi q => (a1.2.1 i hi).trans (t6 i hi)⟩ SC.zero
  · intro m' b wv a8 ⟨v1, v2, v3, v4⟩ sc
    refine y_iload dX11_sprout_72 rfl ?_
    refine y_gets dX11_sprout_74 gs_X11_300 ?_
    refine y_iconst (v := 2) dX11_sprout_77 (by decide) ?_
    refine y_saldN dX11_sprout_78 rfl rfl (by first | omega | decide) (by decide) ?_
    refine y_icmp_gt (tgt := 142) dX11_sprout_79 (by decide) (fun h79 => ?_) (fun h79 => absurd (by decide) h79)
    refine y_aload_n dX11_sprout_142 rfl rfl ?_
    refine y_iload dX11_sprout_143 rfl ?_
    refine y_puti dX11_sprout_145 pf_X11_194 sh_0 rfl rfl rfl ?_
    refine y_iload dX11_sprout_148 rfl ?_
    refine y_ireturn dX11_sprout_150 rfl rfl ?_
    exact hQ m' b wv v1 v2 sc
  · intro e hk hP
    intro m' b wv a8 ⟨v1, v2, v3, v4⟩ sc
    have hR : flR (upd (bo m f g) 2 (nI e)) := fl_2 t4 (by omega)
    have hD : dOK (upd (bo m f g) 2 (nI e)) := upd_d t5 (by omega)
    have bF : FR (s_up m' 126 (upd (m' 126) 2 (nI e))) 125 (upd (bo m f g) 2 (nI e)) := fun i hi => by
      rw [s_upS, upd_ap, upd_ap]
      by_cases q : i = 2
      · rw [if_pos q, if_pos q]
      · rw [if_neg q, if_neg q]; exact v4 i hi q
    have bD : DR (s_up m' 126 (upd (m' 126) 2 (nI e))) (166 + 4 * g) (upd (bo m f g) 2 (nI e)) := DR_m (DR_lo t7 t5.2.1 (fun p h1 h2 => updN (by omega))) (fun c h1 h2 => by rw [s_upN (by omega)]; exact v1 c (by omega))
    have bB : BK (s_up m' 126 (upd (m' 126) 2 (nI e))) := BK_m v2 (fun c h1 h2 => s_upN (by omega))
    refine y_iload dX11_sprout_72 rfl ?_
    refine y_gets dX11_sprout_74 gs_X11_300 ?_
    refine y_iconst (v := 2) dX11_sprout_77 (by decide) ?_
    refine y_saldN dX11_sprout_78 rfl rfl (by first | omega | decide) (by decide) ?_
    refine y_icmp_gt (tgt := 142) dX11_sprout_79 (by decide) (fun h79 => absurd h79 (Int32.not_lt.mpr (nI_le (b := 9) (by omega) (by decide)))) (fun h79 => ?_)
    refine y_aload_n dX11_sprout_82 rfl rfl ?_
    refine y_getr dX11_sprout_83 gf_X11_73 sh_0 rfl ?_
    refine y_getr dX11_sprout_86 gf_X11_187 sh_125 rfl ?_
    refine y_iconst (v := 2) dX11_sprout_89 (by decide) ?_
    refine y_iload dX11_sprout_90 rfl ?_
    refine y_iastN dX11_sprout_92 sh_126 rfl (by first | omega | decide) (by decide) ?_
    refine y_aload_n dX11_sprout_93 rfl rfl ?_
    refine y_getr dX11_sprout_94 gf_X11_61 sh_0 rfl ?_
    refine y_aload_n dX11_sprout_97 rfl rfl ?_
    refine y_getr dX11_sprout_98 gf_X11_73 sh_0 rfl ?_
    refine y_aload_n dX11_sprout_101 rfl rfl ?_
    refine y_getr dX11_sprout_102 gf_X11_29 sh_0 rfl ?_
    refine y_iload_n dX11_sprout_105 rfl rfl ?_
    refine y_aaldN dX11_sprout_106 (by decide) sh_4 rfl (dgA (k := g) (by omega)) (by decide) ?_
    refine y_ivR2 dX11_sprout_107 mv_X11_303 my_X0_bake (Or.inl rfl) sh_35 ?_
    refine c_bakeV (R := upd (bo m f g) 2 (nI e)) fl125 (dgI hg) (by omega) (by omega) bF bD hR hD (Or.inr (by rw [s_upN (by omega)]; exact v3)) (Or.inr (by rw [s_upN (by omega), v1 _ (by omega)]; exact t2)) bB (fun m2 A a1 a2 a3 a4 a5 => ⟨_, rfl, ?_⟩)
    refine y_aload_n dX11_sprout_110 rfl rfl ?_
    refine y_getr dX11_sprout_111 gf_X11_11 sh_0 rfl ?_
    refine y_iload_n dX11_sprout_114 rfl rfl ?_
    refine y_aaldN dX11_sprout_115 (by decide) sh_1 rfl (rwA (k := k) (by omega)) (by decide) ?_
    refine y_ivI1 dX11_sprout_116 mv_X11_307 my_X2_unlikeTo (Or.inl rfl) dh43.1 ?_
    refine c_X2_unlikeTo dh43 (rwI (k := k) (by omega)) a1 a2.2.2.1 ⟨_, rfl, ?_⟩
    have ev : unlS (cutF A) (m2 (138 + 2 * k + 1)) 24 = gSp (bo m f g) (fun i => m 242 (40 * k + i)) e := unl_eq 24 (fun i hi => ⟨a3.c hR hD hi, by rw [a5 _ (by omega), s_upN (by omega), v1 _ (by omega)]; exact hv i hi⟩)
    rw [ev]
    refine y_ist9_8 dX11_sprout_119 rfl ?_
    refine y_iload dX11_sprout_121 rfl ?_
    refine y_iload dX11_sprout_123 rfl ?_
    refine y_icmp_ge (tgt := 136) dX11_sprout_125 (by decide) (fun h125 => ?_) (fun h125 => ?_)
    · refine y_iinc9_7 dX11_sprout_136 (nI_1 _) rfl ?_
      refine y_goto (tgt := 72) dX11_sprout_139 (by decide) ?_
      refine hP m2 _ _ _ ⟨fun a ha => by rw [a5 a (by omega), s_upN (by omega)]; exact v1 a ha, a4, by rw [a5 _ (by omega), s_upN (by omega)]; exact v3, fun i hi q => by rw [a5 _ (by omega), s_upS, updN q]; exact v4 i hi q⟩ ?_
      first
        | exact sc.skip unl_lt (Int32.not_lt.mpr h125)
        | exact sc.take trivial (nI_n9 (by omega)) (Int32.not_le.mp h125)
    · refine y_iload dX11_sprout_128 rfl ?_
      refine y_ist9_6 dX11_sprout_130 rfl ?_
      refine y_iload dX11_sprout_132 rfl ?_
      refine y_ist9_5 dX11_sprout_134 rfl ?_
      refine y_iinc9_7 dX11_sprout_136 (nI_1 _) rfl ?_
      refine y_goto (tgt := 72) dX11_sprout_139 (by decide) ?_
      refine hP m2 _ _ _ ⟨fun a ha => by rw [a5 a (by omega), s_upN (by omega)]; exact v1 a ha, a4, by rw [a5 _ (by omega), s_upN (by omega)]; exact v3, fun i hi q => by rw [a5 _ (by omega), s_upS, updN q]; exact v4 i hi q⟩ ?_
      first
        | exact sc.skip unl_lt (Int32.not_lt.mpr h125)
        | exact sc.take trivial (nI_n9 (by omega)) (Int32.not_le.mp h125)
set_option maxHeartbeats 1000000 in
theorem c_X12_sprout_ok {L : Nat} {xs : Nat → Int32} {d : Nat} {m : sM} {n : sN} {Q : sQ} {f g k : Nat} {x z r : Int32} (hx : x = nI f) (hf : f < 4) (hz : z = nI g) (hg : g < 4) (hr : r = nI k) (hk : k < 6) (h0 : LKp m f g k = 0) (hs : m 241 k = -1 ∨ ∃ s : Nat, s ≤ 40 ∧ m 241 k = nI s) (hfl : flR (bo m f g)) (hdg : dOK (bo m f g)) (hQ : ∀ M, WM m M → Q (some (.int (selF tru ltI nI (gSp (bo m f g) (fun i => m 242 (40 * k + i))) 10).1)) (tellsM M (selF tru ltI nI (gSp (bo m f g) (fun i => m 242 (40 * k + i))) 10).2) n) : sRun (scT L xs) (d + 10) yX12_sprout cX12_sprout 9 (some .int) [.ref 239, .int x, .int z, .int r] m n Q := by
  subst hx hz hr
  refine y_run (own := "LoafFallModel") rfl (by decide +kernel) (Nat.le_of_ble_eq_true rfl) rfl ?_
  refine y_aload_n dX12_sprout_0 rfl rfl ?_
  refine y_iload_n dX12_sprout_1 rfl rfl ?_
  refine y_iload_n dX12_sprout_2 rfl rfl ?_
  refine y_iload_n dX12_sprout_3 rfl rfl ?_
  refine y_ivI3 dX12_sprout_4 mv_X12_279 my_X12_needBoth (Or.inl rfl) sh_239 ?_
  refine c_X12_needBoth rfl hf rfl hg rfl hk hs (fun _ => ⟨_, rfl, ?_⟩) (fun z => absurd h0 z)
  refine y_ist9_4 dX12_sprout_7 rfl ?_
  refine y_iload dX12_sprout_9 rfl ?_
  refine y_if_ge (tgt := 17) dX12_sprout_11 (by decide) (fun h11 => ?_) (fun h11 => absurd (by decide) h11)
  refine y_bipush (v := -9) dX12_sprout_17 (by decide) ?_
  refine y_ist9_5 dX12_sprout_19 rfl ?_
  refine y_iconst (v := 0) dX12_sprout_21 (by decide) ?_
  refine y_ist9_6 dX12_sprout_22 rfl ?_
  refine y_iconst (v := 0) dX12_sprout_24 (by decide) ?_
  refine y_ist9_7 dX12_sprout_25 rfl ?_
  refine cnt (P := fun e => ∀ M, ∀ a8 : Option Value, WM m M → sV (scT L xs) (d + 9) "LoafFallModel" cX12_sprout 9 (some .int) Q 27 [some (.ref 239), some (.int (nI f)), some (.int (nI g)), some (.int (nI k)), some (.int 0), some (.int (selF tru ltI nI (gSp (bo m f g) (fun i => m 242 (40 * k + i))) e).1), some (.int (selF tru ltI nI (gSp (bo m f g) (fun i => m 242 (40 * k + i))) e).2), some (.int (nI e)), a8] [] M n) 10 ?_ ?_ 0 (by omega) m none (Or.inl rfl)
  · intro M a8 hW
    refine y_iload dX12_sprout_27 rfl ?_
    refine y_bipush (v := 9) dX12_sprout_29 (by decide) ?_
    refine y_icmp_gt (tgt := 86) dX12_sprout_31 (by decide) (fun h31 => ?_) (fun h31 => absurd (by decide) h31)
    refine y_aload_n dX12_sprout_86 rfl rfl ?_
    refine y_iload dX12_sprout_87 rfl ?_
    refine y_iload dX12_sprout_89 rfl ?_
    refine y_ivI2 dX12_sprout_91 mv_X12_108 my_X12_tells (Or.inl rfl) sh_239 ?_
    refine c_X12_tells ⟨_, rfl, ?_⟩
    refine y_ireturn dX12_sprout_94 rfl rfl ?_
    exact hQ M hW
  · intro e hk hP
    intro M a8 hW
    refine y_iload dX12_sprout_27 rfl ?_
    refine y_bipush (v := 9) dX12_sprout_29 (by decide) ?_
    refine y_icmp_gt (tgt := 86) dX12_sprout_31 (by decide) (fun h31 => absurd h31 (Int32.not_lt.mpr (nI_le (b := 9) (by omega) (by decide)))) (fun h31 => ?_)
    refine y_aload_n dX12_sprout_34 rfl rfl ?_
    refine y_iload_n dX12_sprout_35 rfl rfl ?_
    refine y_iload_n dX12_sprout_36 rfl rfl ?_
    refine y_ivV2 dX12_sprout_37 mv_X12_260 my_X12_layBoth (Or.inl rfl) sh_239 ?_
    refine c_layBoth (f := f) (g := g) hW rfl hf rfl hg (fun hh X => ⟨rfl, ?_⟩)
    refine y_aload_n dX12_sprout_40 rfl rfl ?_
    refine y_iconst (v := 2) dX12_sprout_41 (by decide) ?_
    refine y_iload dX12_sprout_42 rfl ?_
    refine y_ivV2 dX12_sprout_44 mv_X12_163 my_X12_put_ (Or.inl rfl) sh_239 ?_
    refine c_X12_put_ (wk_b (by omega)) (p := 2) rfl (by omega) ⟨rfl, ?_⟩
    have hX : dOK (upd (bothR m f g X) 2 (nI e)) := upd_d (d_eq hdg (fun p h1 h2 => bo_X h2)) (by omega)
    refine y_aload_n dX12_sprout_47 rfl rfl ?_
    refine y_ivV0 dX12_sprout_48 mv_X12_263 my_X12_bakes (Or.inl rfl) sh_239 ?_
    refine c_bakesW (wk_b (by omega)) hX (fun h' => ⟨rfl, ?_⟩)
    refine y_aload_n dX12_sprout_51 rfl rfl ?_
    refine y_iload_n dX12_sprout_52 rfl rfl ?_
    refine y_ivI1 dX12_sprout_53 mv_X12_266 my_X12_unlike (Or.inl rfl) sh_239 ?_
    refine c_X12_unlike (wk_b (by omega)) (r := k) rfl (by omega) ⟨_, rfl, ?_⟩
    have ev : unlS (cutF (BV (upd (bothR m f g X) 2 (nI e)))) (fun i => wkM m 1316 242 (40 * k + i)) 24 = gSp (bo m f g) (fun i => m 242 (40 * k + i)) e := unl_eq 24 (fun i hi => ⟨CV_congr (fl_2 hfl (by omega)) (upd_d hdg (by omega)) hX (eqD_36 (upd_d hdg (by omega)).2.1 (fun p hp => by rw [upd_ap, upd_ap, bo_X hp])) hi, by rw [wk_o (by omega)]⟩)
    rw [ev]
    refine y_ist9_8 dX12_sprout_56 rfl ?_
    refine y_iload dX12_sprout_58 rfl ?_
    refine y_bipush (v := -9) dX12_sprout_60 (by decide) ?_
    refine y_icmp_eq (tgt := 72) dX12_sprout_62 (by decide) (fun h62 => ?_) (fun h62 => ?_)
    · refine y_iload dX12_sprout_72 rfl ?_
      refine y_ist9_5 dX12_sprout_74 rfl ?_
      refine y_iload dX12_sprout_76 rfl ?_
      refine y_ist9_6 dX12_sprout_78 rfl ?_
      refine y_iinc9_7 dX12_sprout_80 (nI_1 _) rfl ?_
      refine y_goto (tgt := 27) dX12_sprout_83 (by decide) ?_
      first
        | (rw [sel_y (k := e) (ok := tru) (bt := ltI) trivial (Or.inl h62)] at hP; exact hP _ _ WM.st)
        | (rw [sel_n (k := e) (ok := tru) (bt := ltI) (fun z => z.2.elim h62 (fun y => absurd h69 (Int32.not_le.mpr y)))] at hP; exact hP _ _ WM.st)
        | (rw [sel_y (k := e) (ok := tru) (bt := ltI) trivial (Or.inr (Int32.not_le.mp h69))] at hP; exact hP _ _ WM.st)
    · refine y_iload dX12_sprout_65 rfl ?_
      refine y_iload dX12_sprout_67 rfl ?_
      refine y_icmp_ge (tgt := 80) dX12_sprout_69 (by decide) (fun h69 => ?_) (fun h69 => ?_)
      · refine y_iinc9_7 dX12_sprout_80 (nI_1 _) rfl ?_
        refine y_goto (tgt := 27) dX12_sprout_83 (by decide) ?_
        first
          | (rw [sel_y (k := e) (ok := tru) (bt := ltI) trivial (Or.inl h62)] at hP; exact hP _ _ WM.st)
          | (rw [sel_n (k := e) (ok := tru) (bt := ltI) (fun z => z.2.elim h62 (fun y => absurd h69 (Int32.not_le.mpr y)))] at hP; exact hP _ _ WM.st)
          | (rw [sel_y (k := e) (ok := tru) (bt := ltI) trivial (Or.inr (Int32.not_le.mp h69))] at hP; exact hP _ _ WM.st)
      · refine y_iload dX12_sprout_72 rfl ?_
        refine y_ist9_5 dX12_sprout_74 rfl ?_
        refine y_iload dX12_sprout_76 rfl ?_
        refine y_ist9_6 dX12_sprout_78 rfl ?_
        refine y_iinc9_7 dX12_sprout_80 (nI_1 _) rfl ?_
        refine y_goto (tgt := 27) dX12_sprout_83 (by decide) ?_
        first
          | (rw [sel_y (k := e) (ok := tru) (bt := ltI) trivial (Or.inl h62)] at hP; exact hP _ _ WM.st)
          | (rw [sel_n (k := e) (ok := tru) (bt := ltI) (fun z => z.2.elim h62 (fun y => absurd h69 (Int32.not_le.mpr y)))] at hP; exact hP _ _ WM.st)
          | (rw [sel_y (k := e) (ok := tru) (bt := ltI) trivial (Or.inr (Int32.not_le.mp h69))] at hP; exact hP _ _ WM.st)
def rkO (k : Nat) : Int32 := [0, -1, 1, -2, 2].getD k 0
def rkC (k : Nat) : Int32 := rkO k + 5
theorem rk9 : ∀ k, k < 5 → ¬ rkC k = -9 := by decide
def shB (B : Nat → Int32) (v : Int32) : Nat → Int32 := foldR (shiftC v) (cOf B) B
def gRk (B V : Nat → Int32) (k : Nat) : Int32 := unlS (CV (shB B (rkO k))) V 24
theorem shC_lo {v : Int32} {k p : Nat} {R : Nat → Int32} (h : p < 6) : shiftC v k R p = R p := shiftC_o (by omega)
theorem sh_lo {v : Int32} {p : Nat} {R : Nat → Int32} (h : p < 6) (c : Nat) : foldR (shiftC v) c R p = R p := fold_o (fun k R => shC_lo h) R c
theorem sh_d {B : Nat → Int32} {v : Int32} (h : dOK B) : dOK (shB B v) := by
  have : ∀ c, c ≤ cOf B → dOK (foldR (shiftC v) c B) ∧ cOf (foldR (shiftC v) c B) = cOf B := by
    intro c
    induction c with
    | zero => intro _; exact ⟨h, rfl⟩
    | succ c ih =>
      intro hc
      obtain ⟨a, b⟩ := ih (by omega)
      exact ⟨d_shift a (by omega), by unfold cOf; rw [sh_lo (by omega)]⟩
  exact (this _ (Nat.le_refl _)).1
theorem shC_eq {v : Int32} {c : Nat} {R R' : Nat → Int32} (e : ∀ p, p < 36 → R' p = R p) (hc : c < 10) : ∀ p, p < 36 → shiftC v c R' p = shiftC v c R p := by
  intro p hp
  unfold shiftC
  rw [e (6 + 3 * c + 0) (by omega), e (6 + 3 * c + 1) (by omega)]
  split
  · rw [upd_ap, upd_ap, e p hp]
  · exact e p hp
theorem sh_eq {v : Int32} {R R' : Nat → Int32} (e : ∀ p, p < 36 → R' p = R p) : ∀ c, c ≤ 10 → ∀ p, p < 36 → foldR (shiftC v) c R' p = foldR (shiftC v) c R p := by
  intro c
  induction c with
  | zero => intro _ p hp; exact e p hp
  | succ c ih =>
    intro hc p hp
    exact shC_eq (ih (by omega)) (by omega) p hp
theorem cOf_36 {R R' : Nat → Int32} (e : ∀ p, p < 36 → R' p = R p) : cOf R' = cOf R := by unfold cOf; rw [e 5 (by omega)]
theorem selT {bt : Int32 → Int32 → Prop} {cd g : Nat → Int32} : ∀ {k : Nat}, 0 < k → (∀ j, j < k → ¬ cd j = -9) → ¬ (selF tru bt cd g k).1 = -9 := by
  intro k
  induction k with
  | zero => intro h; omega
  | succ k ih =>
    intro _ hcd
    by_cases z : tru k ∧ ((selF tru bt cd g k).1 = -9 ∨ bt (g k) (selF tru bt cd g k).2)
    · rw [sel_y z.1 z.2]; exact hcd k (by omega)
    · rw [sel_n z]
      rcases Nat.eq_zero_or_pos k with y | y
      · subst y; exact fun _ => z ⟨trivial, Or.inl rfl⟩
      · exact ih y (fun j hj => hcd j (by omega))
set_option maxHeartbeats 1000000 in
theorem c_X11_rack_ok {L : Nat} {xs : Nat → Int32} {d : Nat} {m : sM} {n : sN} {Q : sQ} {f g k : Nat} {x z r : Int32} (h : Rel m n) (hx : x = nI f) (hf : f < 4) (hz : z = nI g) (hg : g < 4) (hr : r = nI k) (hk : k < 6) (h0 : LKp m f g k = 0) (hQ : ∀ m' b wv, frC m m' → BK m' → SC tru ltI rkC (gRk (bo m f g) (fun i => m 242 (40 * k + i))) 25 5 b wv → Q (some (.int b)) (tellM m' wv) n) : sRun (scT L xs) (d + 7) yX11_rack cX11_rack 9 (some .int) [.ref 0, .int x, .int z, .int r] m n Q := by
  subst hx hz hr
  obtain ⟨z1, z2, z3⟩ := lk_0 h0
  obtain ⟨t1, t2, t3⟩ := both_there h hf hg z1 z2
  obtain ⟨t4, t5, t6, t7⟩ := t3 (fun _ => 0)
  have hv := ck_0 h hk z3
  have hc3 : m (166 + 4 * g) 3 = nI (cOf (bo m f g)) := t7.2.trans t5.1
  refine y_run (own := "LoafFall") rfl (by decide +kernel) (Nat.le_of_ble_eq_true rfl) rfl ?_
  refine y_iload_n dX11_rack_0 rfl rfl ?_
  refine y_isI1 dX11_rack_1 ms_X11_160 my_X11_isFlour (Or.inl rfl) ?_
  refine c_X11_isFlour (fun _ => ⟨_, rfl, ?_⟩) (fun z => absurd (⟨f, hf, rfl⟩ : inN (nI f) 4) z)
  refine y_if_eq (tgt := 21) dX11_rack_4 (by decide) (fun h4 => absurd h4 (by decide)) (fun h4 => ?_)
  refine y_iload_n dX11_rack_7 rfl rfl ?_
  refine y_isI1 dX11_rack_8 ms_X11_173 my_X11_isDoing (Or.inl rfl) ?_
  refine c_X11_isDoing (fun _ => ⟨_, rfl, ?_⟩) (fun z => absurd (⟨g, hg, rfl⟩ : inN (nI g) 4) z)
  refine y_if_eq (tgt := 21) dX11_rack_11 (by decide) (fun h11 => absurd h11 (by decide)) (fun h11 => ?_)
  refine y_iload_n dX11_rack_14 rfl rfl ?_
  refine y_isI1 dX11_rack_15 ms_X11_101 my_X11_isRow (Or.inl rfl) ?_
  refine c_X11_isRow (fun _ => ⟨_, rfl, ?_⟩) (fun z => absurd (⟨k, hk, rfl⟩ : inN (nI k) 6) z)
  refine y_if_ne (tgt := 23) dX11_rack_18 (by decide) (fun h18 => ?_) (fun h18 => absurd h18 (by decide))
  refine y_aload_n dX11_rack_23 rfl rfl ?_
  refine y_iload_n dX11_rack_24 rfl rfl ?_
  refine y_iload_n dX11_rack_25 rfl rfl ?_
  refine y_iload_n dX11_rack_26 rfl rfl ?_
  refine y_ivI3 dX11_rack_27 mv_X11_293 my_X11_lackOfPairAndCut (Or.inl rfl) sh_0 ?_
  refine c_X11_lackOfPairAndCut h rfl hf rfl hg rfl hk ⟨_, rfl, ?_⟩
  rw [h0]
  refine y_ist9_4 dX11_rack_30 rfl ?_
  refine y_iload dX11_rack_32 rfl ?_
  refine y_if_eq (tgt := 44) dX11_rack_34 (by decide) (fun h34 => ?_) (fun h34 => absurd (by decide) h34)
  refine y_iconst (v := 0) dX11_rack_44 (by decide) ?_
  refine y_ist9_5 dX11_rack_45 rfl ?_
  refine y_bipush (v := 25) dX11_rack_47 (by decide) ?_
  refine y_ist9_6 dX11_rack_49 rfl ?_
  refine y_iconst (v := 0) dX11_rack_51 (by decide) ?_
  refine y_ist9_7 dX11_rack_52 rfl ?_
  refine cnt (P := fun e => ∀ m' b b0 wv, ∀ a8 : Option Value, (frC m m' ∧ BK m') → (b = -9 ∨ b = b0 + 5) → SC tru ltI rkC (gRk (bo m f g) (fun i => m 242 (40 * k + i))) 25 e b wv → sV (scT L xs) (d + 6) "LoafFall" cX11_rack 9 (some .int) Q 54 [some (.ref 0), some (.int (nI f)), some (.int (nI g)), some (.int (nI k)), some (.int (nI 0)), some (.int b0), some (.int wv), some (.int (nI e)), a8] [] m' n) 5 ?_ ?_ 0 (by omega) m (-9) 0 25 none ⟨frC.rf, h.bk⟩ (Or.inl rfl) SC.zero
  · intro m' b b0 wv a8 ⟨v1, v2⟩ vb sc
    refine y_iload dX11_rack_54 rfl ?_
    refine y_iconst (v := 5) dX11_rack_56 (by decide) ?_
    refine y_icmp_ge (tgt := 139) dX11_rack_57 (by decide) (fun h57 => ?_) (fun h57 => absurd (nI_le (a := 5) (b := 5) (Nat.le_refl _) (by decide)) h57)
    refine y_aload_n dX11_rack_139 rfl rfl ?_
    refine y_iload dX11_rack_140 rfl ?_
    refine y_puti dX11_rack_142 pf_X11_194 sh_0 rfl rfl rfl ?_
    refine y_iload dX11_rack_145 rfl ?_
    refine y_iconst (v := 5) dX11_rack_147 (by decide) ?_
    refine y_iadd dX11_rack_148 ?_
    refine y_ireturn dX11_rack_149 rfl rfl ?_
    have hb : ¬ b = -9 := by rw [sc.1]; exact selT (by omega) rk9
    rw [← vb.resolve_left hb]
    exact hQ m' b wv v1 v2 sc
  · intro e hk hP
    intro m' b b0 wv a8 ⟨v1, v2⟩ vb sc
    have hc2 : m' (166 + 4 * g) 3 = nI (cOf (bo m f g)) := by rw [v1 _ (by omega)]; exact hc3
    have hR : flR (shB (bo m f g) (rkO e)) := fl_low t4 (fun p hp => sh_lo (by omega) _)
    have hD : dOK (shB (bo m f g) (rkO e)) := sh_d t5
    have tD : DR m' (166 + 4 * g) (bo m f g) := DR_m t7 (fun c h1 h2 => v1 c (by omega))
    refine y_iload dX11_rack_54 rfl ?_
    refine y_iconst (v := 5) dX11_rack_56 (by decide) ?_
    refine y_icmp_ge (tgt := 139) dX11_rack_57 (by decide) (fun h57 => absurd h57 (nI_ge (a := e) (b := 5) hk (by decide))) (fun h57 => ?_)
    refine y_aload_n dX11_rack_60 rfl rfl ?_
    refine y_getr dX11_rack_61 gf_X11_78 sh_0 rfl ?_
    refine y_aload_n dX11_rack_64 rfl rfl ?_
    refine y_getr dX11_rack_65 gf_X11_29 sh_0 rfl ?_
    refine y_iload_n dX11_rack_68 rfl rfl ?_
    refine y_aaldN dX11_rack_69 (by decide) sh_4 rfl (dgA (k := g) (by omega)) (by decide) ?_
    refine y_ivV1 dX11_rack_70 mv_X11_179 my_X1_take (Or.inl rfl) sh_127 ?_
    refine c_X1_take (s := cOf (bo m f g)) dg127 (dgI hg) (by omega) hc2 t5.2.1 (Or.inr (by rw [v1 _ (by omega)]; exact t2)) (fun m2 s1 => ⟨rfl, ?_⟩)
    refine y_aload_n dX11_rack_73 rfl rfl ?_
    refine y_getr dX11_rack_74 gf_X11_78 sh_0 rfl ?_
    refine y_gets dX11_rack_77 gs_X11_311 ?_
    refine y_iload dX11_rack_80 rfl ?_
    refine y_saldN dX11_rack_82 rfl rfl (by first | omega | decide) (by decide) ?_
    refine y_ivV1 dX11_rack_83 mv_X11_314 my_X1_shiftOvens (Or.inl rfl) sh_127 ?_
    refine c_X1_shiftOvens (R := bo m f g) (c := cOf (bo m f g)) dg127 (DR_t2 tD rfl s1) t5.1 t5.2.1 (fun m3 s3 s2 => ⟨rfl, ?_⟩)
    refine y_aload_n dX11_rack_86 rfl rfl ?_
    refine y_getr dX11_rack_87 gf_X11_61 sh_0 rfl ?_
    refine y_aload_n dX11_rack_90 rfl rfl ?_
    refine y_getr dX11_rack_91 gf_X11_23 sh_0 rfl ?_
    refine y_iload_n dX11_rack_94 rfl rfl ?_
    refine y_aaldN dX11_rack_95 (by decide) sh_3 rfl (flA (k := f) (by omega)) (by decide) ?_
    refine y_aload_n dX11_rack_96 rfl rfl ?_
    refine y_getr dX11_rack_97 gf_X11_78 sh_0 rfl ?_
    refine y_ivR2 dX11_rack_100 mv_X11_303 my_X0_bake (Or.inl rfl) sh_35 ?_
    refine c_bakeV (R := shB (bo m f g) (rkO e)) (flI hf) dg127 (by omega) (by omega) (fun i hi => by rw [s2.1 _ (by omega), s1.1 _ (by omega), v1 _ (by omega), show shB (bo m f g) (rkO e) i = bo m f g i from sh_lo (by omega) _]; exact t6 i hi) s3 hR hD (Or.inr (by rw [s2.1 _ (by omega), s1.1 _ (by omega), v1 _ (by omega)]; exact t1)) (Or.inr (by rw [s2.2, s1.2.2.2, v1 _ (by omega)]; exact t2)) (BK_m v2 (fun c h1 h2 => by rw [s2.1 c (by omega), s1.1 c (by omega)])) (fun m4 A a1 a2 a3 a4 a5 => ⟨_, rfl, ?_⟩)
    refine y_aload_n dX11_rack_103 rfl rfl ?_
    refine y_getr dX11_rack_104 gf_X11_11 sh_0 rfl ?_
    refine y_iload_n dX11_rack_107 rfl rfl ?_
    refine y_aaldN dX11_rack_108 (by decide) sh_1 rfl (rwA (k := k) (by omega)) (by decide) ?_
    refine y_ivI1 dX11_rack_109 mv_X11_307 my_X2_unlikeTo (Or.inl rfl) dh43.1 ?_
    refine c_X2_unlikeTo dh43 (rwI (k := k) (by omega)) a1 a2.2.2.1 ⟨_, rfl, ?_⟩
    have ev : unlS (cutF A) (m4 (138 + 2 * k + 1)) 24 = gRk (bo m f g) (fun i => m 242 (40 * k + i)) e := unl_eq 24 (fun i hi => ⟨a3.c hR hD hi, by rw [a5 _ (by omega), s2.1 _ (by omega), s1.1 _ (by omega), v1 _ (by omega)]; exact hv i hi⟩)
    rw [ev]
    refine y_ist9_8 dX11_rack_112 rfl ?_
    refine y_iload dX11_rack_114 rfl ?_
    refine y_iload dX11_rack_116 rfl ?_
    refine y_icmp_ge (tgt := 133) dX11_rack_118 (by decide) (fun h118 => ?_) (fun h118 => ?_)
    · refine y_iinc9_7 dX11_rack_133 (nI_1 _) rfl ?_
      refine y_goto (tgt := 54) dX11_rack_136 (by decide) ?_
      first
        | exact hP m4 b b0 wv _ ⟨fun a ha => by rw [a5 a (by omega), s2.1 a (by omega), s1.1 a (by omega)]; exact v1 a ha, a4⟩ vb (sc.skip unl_lt (Int32.not_lt.mpr h118))
        | exact hP m4 (rkC e) (rkO e) _ _ ⟨fun a ha => by rw [a5 a (by omega), s2.1 a (by omega), s1.1 a (by omega)]; exact v1 a ha, a4⟩ (Or.inr rfl) (sc.take trivial (rk9 e hk) (Int32.not_le.mp h118))
    · refine y_iload dX11_rack_121 rfl ?_
      refine y_ist9_6 dX11_rack_123 rfl ?_
      refine y_gets dX11_rack_125 gs_X11_311 ?_
      refine y_iload dX11_rack_128 rfl ?_
      refine y_saldN dX11_rack_130 rfl rfl (by first | omega | decide) (by decide) ?_
      refine y_ist9_5 dX11_rack_131 rfl ?_
      refine y_iinc9_7 dX11_rack_133 (nI_1 _) rfl ?_
      refine y_goto (tgt := 54) dX11_rack_136 (by decide) ?_
      first
        | exact hP m4 b b0 wv _ ⟨fun a ha => by rw [a5 a (by omega), s2.1 a (by omega), s1.1 a (by omega)]; exact v1 a ha, a4⟩ vb (sc.skip unl_lt (Int32.not_lt.mpr h118))
        | exact hP m4 (rkC e) (rkO e) _ _ ⟨fun a ha => by rw [a5 a (by omega), s2.1 a (by omega), s1.1 a (by omega)]; exact v1 a ha, a4⟩ (Or.inr rfl) (sc.take trivial (rk9 e hk) (Int32.not_le.mp h118))
theorem rk_o : ∀ e, e < 5 → (e % 2 = 1 → -(nI (e + 1)) / 2 = rkO e) ∧ (¬ e % 2 = 1 → nI (e / 2) = rkO e) := by decide +kernel
set_option maxHeartbeats 1000000 in
theorem c_X12_rack_ok {L : Nat} {xs : Nat → Int32} {d : Nat} {m : sM} {n : sN} {Q : sQ} {f g k : Nat} {x z r : Int32} (hx : x = nI f) (hf : f < 4) (hz : z = nI g) (hg : g < 4) (hr : r = nI k) (hk : k < 6) (h0 : LKp m f g k = 0) (hs : m 241 k = -1 ∨ ∃ s : Nat, s ≤ 40 ∧ m 241 k = nI s) (hfl : flR (bo m f g)) (hdg : dOK (bo m f g)) (hQ : ∀ M, WM m M → Q (some (.int (selF tru ltI rkC (gRk (bo m f g) (fun i => m 242 (40 * k + i))) 5).1)) (tellsM M (selF tru ltI rkC (gRk (bo m f g) (fun i => m 242 (40 * k + i))) 5).2) n) : sRun (scT L xs) (d + 10) yX12_rack cX12_rack 10 (some .int) [.ref 239, .int x, .int z, .int r] m n Q := by
  subst hx hz hr
  refine y_run (own := "LoafFallModel") rfl (by decide +kernel) (Nat.le_of_ble_eq_true rfl) rfl ?_
  refine y_aload_n dX12_rack_0 rfl rfl ?_
  refine y_iload_n dX12_rack_1 rfl rfl ?_
  refine y_iload_n dX12_rack_2 rfl rfl ?_
  refine y_iload_n dX12_rack_3 rfl rfl ?_
  refine y_ivI3 dX12_rack_4 mv_X12_279 my_X12_needBoth (Or.inl rfl) sh_239 ?_
  refine c_X12_needBoth rfl hf rfl hg rfl hk hs (fun _ => ⟨_, rfl, ?_⟩) (fun z => absurd h0 z)
  refine y_ist10_4 dX12_rack_7 rfl ?_
  refine y_iload dX12_rack_9 rfl ?_
  refine y_if_ge (tgt := 17) dX12_rack_11 (by decide) (fun h11 => ?_) (fun h11 => absurd (by decide) h11)
  refine y_bipush (v := -9) dX12_rack_17 (by decide) ?_
  refine y_ist10_5 dX12_rack_19 rfl ?_
  refine y_iconst (v := 0) dX12_rack_21 (by decide) ?_
  refine y_ist10_6 dX12_rack_22 rfl ?_
  refine y_iconst (v := 0) dX12_rack_24 (by decide) ?_
  refine y_ist10_7 dX12_rack_25 rfl ?_
  refine cnt (P := fun e => ∀ M, ∀ a8 a9 : Option Value, a_isL a8 = false → WM m M → sV (scT L xs) (d + 9) "LoafFallModel" cX12_rack 10 (some .int) Q 27 [some (.ref 239), some (.int (nI f)), some (.int (nI g)), some (.int (nI k)), some (.int 0), some (.int (selF tru ltI rkC (gRk (bo m f g) (fun i => m 242 (40 * k + i))) e).1), some (.int (selF tru ltI rkC (gRk (bo m f g) (fun i => m 242 (40 * k + i))) e).2), some (.int (nI e)), a8, a9] [] M n) 5 ?_ ?_ 0 (by omega) m none none rfl (Or.inl rfl)
  · intro M a8 a9 h8 hW
    refine y_iload dX12_rack_27 rfl ?_
    refine y_iconst (v := 5) dX12_rack_29 (by decide) ?_
    refine y_icmp_ge (tgt := 110) dX12_rack_30 (by decide) (fun h30 => ?_) (fun h30 => absurd (nI_le (a := 5) (b := 5) (Nat.le_refl _) (by decide)) h30)
    refine y_aload_n dX12_rack_110 rfl rfl ?_
    refine y_iload dX12_rack_111 rfl ?_
    refine y_iload dX12_rack_113 rfl ?_
    refine y_ivI2 dX12_rack_115 mv_X12_108 my_X12_tells (Or.inl rfl) sh_239 ?_
    refine c_X12_tells ⟨_, rfl, ?_⟩
    refine y_ireturn dX12_rack_118 rfl rfl ?_
    exact hQ M hW
  · intro e hk hP
    intro M a8 a9 h8 hW
    refine y_iload dX12_rack_27 rfl ?_
    refine y_iconst (v := 5) dX12_rack_29 (by decide) ?_
    refine y_icmp_ge (tgt := 110) dX12_rack_30 (by decide) (fun h30 => absurd h30 (nI_ge (a := e) (b := 5) hk (by decide))) (fun h30 => ?_)
    refine y_iload dX12_rack_33 rfl ?_
    refine y_iconst (v := 2) dX12_rack_35 (by decide) ?_
    refine y_iremN (a := e) (b := 2) dX12_rack_36 rfl rfl (by omega) (by decide) (by decide) ?_
    refine y_iconst (v := 1) dX12_rack_37 (by decide) ?_
    refine y_icmp_ne (tgt := 51) dX12_rack_38 (by decide) (fun h38 => ?_) (fun h38 => ?_)
    · refine y_iload dX12_rack_51 rfl ?_
      refine y_iconst (v := 2) dX12_rack_53 (by decide) ?_
      refine y_idivN (a := e) (b := 2) dX12_rack_54 rfl rfl (by omega) (by decide) (by decide) ?_
      first
        | rw [(rk_o e hk).1 ((nI_eq (b := 1) (by omega) (by decide)).mp h38)]
        | rw [(rk_o e hk).2 (fun q => h38 (by rw [q]; rfl))]
      refine y_ist10_8 dX12_rack_55 rfl ?_
      refine y_aload_n dX12_rack_57 rfl rfl ?_
      refine y_iload_n dX12_rack_58 rfl rfl ?_
      refine y_iload_n dX12_rack_59 rfl rfl ?_
      refine y_ivV2 dX12_rack_60 mv_X12_260 my_X12_layBoth (Or.inl rfl) sh_239 ?_
      refine c_layBoth (f := f) (g := g) hW rfl hf rfl hg (fun hh X => ⟨rfl, ?_⟩)
      refine y_aload_n dX12_rack_63 rfl rfl ?_
      refine y_iload dX12_rack_64 rfl ?_
      refine y_ivV1 dX12_rack_66 mv_X12_283 my_X12_shiftOvens (Or.inl rfl) sh_239 ?_
      refine c_X12_shiftOvens (wk_b (by omega)) (c := cOf (bo m f g)) ((bo_X (by omega)).trans hdg.1) hdg.2.1 ⟨rfl, ?_⟩
      have hX : dOK (foldR (shiftC (rkO e)) (cOf (bo m f g)) (bothR m f g X)) := d_eq (sh_d hdg) (fun p h1 h2 => sh_eq (fun p hp => bo_X hp) _ hdg.2.1 p h2)
      refine y_aload_n dX12_rack_69 rfl rfl ?_
      refine y_ivV0 dX12_rack_70 mv_X12_263 my_X12_bakes (Or.inl rfl) sh_239 ?_
      refine c_bakesW (wk_b (by omega)) hX (fun h' => ⟨rfl, ?_⟩)
      refine y_aload_n dX12_rack_73 rfl rfl ?_
      refine y_iload_n dX12_rack_74 rfl rfl ?_
      refine y_ivI1 dX12_rack_75 mv_X12_266 my_X12_unlike (Or.inl rfl) sh_239 ?_
      refine c_X12_unlike (wk_b (by omega)) (r := k) rfl (by omega) ⟨_, rfl, ?_⟩
      have ev : unlS (cutF (BV (foldR (shiftC (rkO e)) (cOf (bo m f g)) (bothR m f g X)))) (fun i => wkM m 1316 242 (40 * k + i)) 24 = gRk (bo m f g) (fun i => m 242 (40 * k + i)) e := unl_eq 24 (fun i hi => ⟨CV_congr (fl_low hfl (fun p hp => sh_lo (by omega) _)) (sh_d hdg) hX (eqD_36 (sh_d hdg).2.1 (fun p hp => sh_eq (fun p hp => bo_X hp) _ hdg.2.1 p hp)) hi, by rw [wk_o (by omega)]⟩)
      rw [ev]
      refine y_ist10_9 dX12_rack_78 rfl ?_
      refine y_iload dX12_rack_80 rfl ?_
      refine y_bipush (v := -9) dX12_rack_82 (by decide) ?_
      refine y_icmp_eq (tgt := 94) dX12_rack_84 (by decide) (fun h84 => ?_) (fun h84 => ?_)
      · refine y_iload dX12_rack_94 rfl ?_
        refine y_iconst (v := 5) dX12_rack_96 (by decide) ?_
        refine y_iadd dX12_rack_97 ?_
        refine y_ist10_5 dX12_rack_98 rfl ?_
        refine y_iload dX12_rack_100 rfl ?_
        refine y_ist10_6 dX12_rack_102 rfl ?_
        refine y_iinc10_7 dX12_rack_104 (nI_1 _) rfl ?_
        refine y_goto (tgt := 27) dX12_rack_107 (by decide) ?_
        first
          | (rw [sel_y (k := e) (ok := tru) (bt := ltI) trivial (Or.inl h84)] at hP; exact hP _ _ _ rfl WM.st)
          | (rw [sel_n (k := e) (ok := tru) (bt := ltI) (fun z => z.2.elim h84 (fun y => absurd h91 (Int32.not_le.mpr y)))] at hP; exact hP _ _ _ rfl WM.st)
          | (rw [sel_y (k := e) (ok := tru) (bt := ltI) trivial (Or.inr (Int32.not_le.mp h91))] at hP; exact hP _ _ _ rfl WM.st)
      · refine y_iload dX12_rack_87 rfl ?_
        refine y_iload dX12_rack_89 rfl ?_
        refine y_icmp_ge (tgt := 104) dX12_rack_91 (by decide) (fun h91 => ?_) (fun h91 => ?_)
        · refine y_iinc10_7 dX12_rack_104 (nI_1 _) rfl ?_
          refine y_goto (tgt := 27) dX12_rack_107 (by decide) ?_
          first
            | (rw [sel_y (k := e) (ok := tru) (bt := ltI) trivial (Or.inl h84)] at hP; exact hP _ _ _ rfl WM.st)
            | (rw [sel_n (k := e) (ok := tru) (bt := ltI) (fun z => z.2.elim h84 (fun y => absurd h91 (Int32.not_le.mpr y)))] at hP; exact hP _ _ _ rfl WM.st)
            | (rw [sel_y (k := e) (ok := tru) (bt := ltI) trivial (Or.inr (Int32.not_le.mp h91))] at hP; exact hP _ _ _ rfl WM.st)
        · refine y_iload dX12_rack_94 rfl ?_
          refine y_iconst (v := 5) dX12_rack_96 (by decide) ?_
          refine y_iadd dX12_rack_97 ?_
          refine y_ist10_5 dX12_rack_98 rfl ?_
          refine y_iload dX12_rack_100 rfl ?_
          refine y_ist10_6 dX12_rack_102 rfl ?_
          refine y_iinc10_7 dX12_rack_104 (nI_1 _) rfl ?_
          refine y_goto (tgt := 27) dX12_rack_107 (by decide) ?_
          first
            | (rw [sel_y (k := e) (ok := tru) (bt := ltI) trivial (Or.inl h84)] at hP; exact hP _ _ _ rfl WM.st)
            | (rw [sel_n (k := e) (ok := tru) (bt := ltI) (fun z => z.2.elim h84 (fun y => absurd h91 (Int32.not_le.mpr y)))] at hP; exact hP _ _ _ rfl WM.st)
            | (rw [sel_y (k := e) (ok := tru) (bt := ltI) trivial (Or.inr (Int32.not_le.mp h91))] at hP; exact hP _ _ _ rfl WM.st)
    · refine y_iload dX12_rack_41 rfl ?_
      refine y_iconst (v := 1) dX12_rack_43 (by decide) ?_
      refine y_iaddN (a := e) (b := 1) dX12_rack_44 rfl rfl ?_
      refine y_ineg dX12_rack_45 ?_
      refine y_iconst (v := 2) dX12_rack_46 (by decide) ?_
      refine y_idiv dX12_rack_47 (by decide) ?_
      refine y_goto (tgt := 55) dX12_rack_48 (by decide) ?_
      first
        | rw [(rk_o e hk).1 ((nI_eq (b := 1) (by omega) (by decide)).mp h38)]
        | rw [(rk_o e hk).2 (fun q => h38 (by rw [q]; rfl))]
      refine y_ist10_8 dX12_rack_55 rfl ?_
      refine y_aload_n dX12_rack_57 rfl rfl ?_
      refine y_iload_n dX12_rack_58 rfl rfl ?_
      refine y_iload_n dX12_rack_59 rfl rfl ?_
      refine y_ivV2 dX12_rack_60 mv_X12_260 my_X12_layBoth (Or.inl rfl) sh_239 ?_
      refine c_layBoth (f := f) (g := g) hW rfl hf rfl hg (fun hh X => ⟨rfl, ?_⟩)
      refine y_aload_n dX12_rack_63 rfl rfl ?_
      refine y_iload dX12_rack_64 rfl ?_
      refine y_ivV1 dX12_rack_66 mv_X12_283 my_X12_shiftOvens (Or.inl rfl) sh_239 ?_
      refine c_X12_shiftOvens (wk_b (by omega)) (c := cOf (bo m f g)) ((bo_X (by omega)).trans hdg.1) hdg.2.1 ⟨rfl, ?_⟩
      have hX : dOK (foldR (shiftC (rkO e)) (cOf (bo m f g)) (bothR m f g X)) := d_eq (sh_d hdg) (fun p h1 h2 => sh_eq (fun p hp => bo_X hp) _ hdg.2.1 p h2)
      refine y_aload_n dX12_rack_69 rfl rfl ?_
      refine y_ivV0 dX12_rack_70 mv_X12_263 my_X12_bakes (Or.inl rfl) sh_239 ?_
      refine c_bakesW (wk_b (by omega)) hX (fun h' => ⟨rfl, ?_⟩)
      refine y_aload_n dX12_rack_73 rfl rfl ?_
      refine y_iload_n dX12_rack_74 rfl rfl ?_
      refine y_ivI1 dX12_rack_75 mv_X12_266 my_X12_unlike (Or.inl rfl) sh_239 ?_
      refine c_X12_unlike (wk_b (by omega)) (r := k) rfl (by omega) ⟨_, rfl, ?_⟩
      have ev : unlS (cutF (BV (foldR (shiftC (rkO e)) (cOf (bo m f g)) (bothR m f g X)))) (fun i => wkM m 1316 242 (40 * k + i)) 24 = gRk (bo m f g) (fun i => m 242 (40 * k + i)) e := unl_eq 24 (fun i hi => ⟨CV_congr (fl_low hfl (fun p hp => sh_lo (by omega) _)) (sh_d hdg) hX (eqD_36 (sh_d hdg).2.1 (fun p hp => sh_eq (fun p hp => bo_X hp) _ hdg.2.1 p hp)) hi, by rw [wk_o (by omega)]⟩)
      rw [ev]
      refine y_ist10_9 dX12_rack_78 rfl ?_
      refine y_iload dX12_rack_80 rfl ?_
      refine y_bipush (v := -9) dX12_rack_82 (by decide) ?_
      refine y_icmp_eq (tgt := 94) dX12_rack_84 (by decide) (fun h84 => ?_) (fun h84 => ?_)
      · refine y_iload dX12_rack_94 rfl ?_
        refine y_iconst (v := 5) dX12_rack_96 (by decide) ?_
        refine y_iadd dX12_rack_97 ?_
        refine y_ist10_5 dX12_rack_98 rfl ?_
        refine y_iload dX12_rack_100 rfl ?_
        refine y_ist10_6 dX12_rack_102 rfl ?_
        refine y_iinc10_7 dX12_rack_104 (nI_1 _) rfl ?_
        refine y_goto (tgt := 27) dX12_rack_107 (by decide) ?_
        first
          | (rw [sel_y (k := e) (ok := tru) (bt := ltI) trivial (Or.inl h84)] at hP; exact hP _ _ _ rfl WM.st)
          | (rw [sel_n (k := e) (ok := tru) (bt := ltI) (fun z => z.2.elim h84 (fun y => absurd h91 (Int32.not_le.mpr y)))] at hP; exact hP _ _ _ rfl WM.st)
          | (rw [sel_y (k := e) (ok := tru) (bt := ltI) trivial (Or.inr (Int32.not_le.mp h91))] at hP; exact hP _ _ _ rfl WM.st)
      · refine y_iload dX12_rack_87 rfl ?_
        refine y_iload dX12_rack_89 rfl ?_
        refine y_icmp_ge (tgt := 104) dX12_rack_91 (by decide) (fun h91 => ?_) (fun h91 => ?_)
        · refine y_iinc10_7 dX12_rack_104 (nI_1 _) rfl ?_
          refine y_goto (tgt := 27) dX12_rack_107 (by decide) ?_
          first
            | (rw [sel_y (k := e) (ok := tru) (bt := ltI) trivial (Or.inl h84)] at hP; exact hP _ _ _ rfl WM.st)
            | (rw [sel_n (k := e) (ok := tru) (bt := ltI) (fun z => z.2.elim h84 (fun y => absurd h91 (Int32.not_le.mpr y)))] at hP; exact hP _ _ _ rfl WM.st)
            | (rw [sel_y (k := e) (ok := tru) (bt := ltI) trivial (Or.inr (Int32.not_le.mp h91))] at hP; exact hP _ _ _ rfl WM.st)
        · refine y_iload dX12_rack_94 rfl ?_
          refine y_iconst (v := 5) dX12_rack_96 (by decide) ?_
          refine y_iadd dX12_rack_97 ?_
          refine y_ist10_5 dX12_rack_98 rfl ?_
          refine y_iload dX12_rack_100 rfl ?_
          refine y_ist10_6 dX12_rack_102 rfl ?_
          refine y_iinc10_7 dX12_rack_104 (nI_1 _) rfl ?_
          refine y_goto (tgt := 27) dX12_rack_107 (by decide) ?_
          first
            | (rw [sel_y (k := e) (ok := tru) (bt := ltI) trivial (Or.inl h84)] at hP; exact hP _ _ _ rfl WM.st)
            | (rw [sel_n (k := e) (ok := tru) (bt := ltI) (fun z => z.2.elim h84 (fun y => absurd h91 (Int32.not_le.mpr y)))] at hP; exact hP _ _ _ rfl WM.st)
            | (rw [sel_y (k := e) (ok := tru) (bt := ltI) trivial (Or.inr (Int32.not_le.mp h91))] at hP; exact hP _ _ _ rfl WM.st)
set_option maxHeartbeats 2000000 in
theorem p_sprout {L : Nat} {xs : Nat → Int32} {d : Nat} {m : sM} {n : sN} {x z r : Int32} (h : Rel m n) : PI L xs (d + 11) yX11_sprout cX11_sprout 9 yX12_sprout cX12_sprout 9 [.int x, .int z, .int r] m n := by
  unfold PI
  by_cases hx : inN x 4
  · by_cases hz : inN z 4
    · by_cases hr : inN r 6
      · obtain ⟨f, hf, rfl⟩ := hx
        obtain ⟨g, hg, rfl⟩ := hz
        obtain ⟨k, hk, rfl⟩ := hr
        by_cases h0 : LKp m f g k = 0
        · refine c_X11_sprout_ok h rfl hf rfl hg rfl hk h0 (fun m' b wv v1 v2 sc => ⟨_, rfl, ?_⟩)
          obtain ⟨z1, z2, z3⟩ := lk_0 h0
          obtain ⟨t1, t2, t3⟩ := both_there h hf hg z1 z2
          generalize em : tellM m' wv = m1
          have gg : ∀ a, 137 ≤ a → m1 a = m a := fun a ha => by rw [← em, tell_o (by omega)]; exact v1 a (by omega)
          have eb : bo m1 f g = bo m f g := bo_m (gg _ (by omega)) (gg _ (by omega)) (gg _ (by omega))
          refine c_X12_sprout_ok rfl hf rfl hg rfl hk (by rw [LKp_m (gg _ (by omega)) (gg _ (by omega)) (gg _ (by omega)) (gg _ (by omega))]; exact h0) (by rw [gg _ (by omega)]; exact h.szs.1 k hk) (by rw [eb]; exact (t3 _).1) (by rw [eb]; exact (t3 _).2.1) (fun M hW => ?_)
          rw [eb, gg 242 (by omega)]
          have hb : ¬ b = -9 := by rw [sc.1]; exact selT (by omega) (fun j hj => nI_n9 (by omega))
          refine ⟨by rw [sc.1], ?_⟩
          rw [← sc.2.1 hb]
          rw [← em] at hW
          exact Rel_tell h v1 v2 hW.fr
        · refine y_run (own := "LoafFall") rfl (by decide +kernel) (Nat.le_of_ble_eq_true rfl) rfl ?_
          refine y_iload_n dX11_sprout_0 rfl rfl ?_
          refine y_isI1 dX11_sprout_1 ms_X11_160 my_X11_isFlour (Or.inl rfl) ?_
          refine c_X11_isFlour (fun _ => ⟨_, rfl, ?_⟩) (fun z => absurd (⟨f, hf, rfl⟩ : inN (nI f) 4) z)
          refine y_if_eq (tgt := 21) dX11_sprout_4 (by decide) (fun h4 => absurd h4 (by decide)) (fun h4 => ?_)
          refine y_iload_n dX11_sprout_7 rfl rfl ?_
          refine y_isI1 dX11_sprout_8 ms_X11_173 my_X11_isDoing (Or.inl rfl) ?_
          refine c_X11_isDoing (fun _ => ⟨_, rfl, ?_⟩) (fun z => absurd (⟨g, hg, rfl⟩ : inN (nI g) 4) z)
          refine y_if_eq (tgt := 21) dX11_sprout_11 (by decide) (fun h11 => absurd h11 (by decide)) (fun h11 => ?_)
          refine y_iload_n dX11_sprout_14 rfl rfl ?_
          refine y_isI1 dX11_sprout_15 ms_X11_101 my_X11_isRow (Or.inl rfl) ?_
          refine c_X11_isRow (fun _ => ⟨_, rfl, ?_⟩) (fun z => absurd (⟨k, hk, rfl⟩ : inN (nI k) 6) z)
          refine y_if_ne (tgt := 23) dX11_sprout_18 (by decide) (fun h18 => ?_) (fun h18 => absurd h18 (by decide))
          refine y_aload_n dX11_sprout_23 rfl rfl ?_
          refine y_iload_n dX11_sprout_24 rfl rfl ?_
          refine y_iload_n dX11_sprout_25 rfl rfl ?_
          refine y_iload_n dX11_sprout_26 rfl rfl ?_
          refine y_ivI3 dX11_sprout_27 mv_X11_293 my_X11_lackOfPairAndCut (Or.inl rfl) sh_0 ?_
          refine c_X11_lackOfPairAndCut h rfl hf rfl hg rfl hk ⟨_, rfl, ?_⟩
          refine y_ist9_4 dX11_sprout_30 rfl ?_
          refine y_iload dX11_sprout_32 rfl ?_
          refine y_if_eq (tgt := 44) dX11_sprout_34 (by decide) (fun h34 => absurd h34 (fun e => h0 ((nI_eq (b := 0) (by have := LKp_le m f g k; omega) (by decide)).mp e))) (fun h34 => ?_)
          refine y_aload_n dX11_sprout_37 rfl rfl ?_
          refine y_iload dX11_sprout_38 rfl ?_
          refine y_ivI1 dX11_sprout_40 mv_X11_105 my_X11_found (Or.inl rfl) sh_0 ?_
          refine c_X11_found (f := LKp m f g k) rfl (by omega) (LKp_le m f g k) ⟨_, rfl, ?_⟩
          refine y_ireturn dX11_sprout_43 rfl rfl ?_
          refine ⟨_, rfl, ?_⟩
          obtain ⟨m1, em⟩ : ∃ m1, m1 = foundM m (LKp m f g k) := ⟨_, rfl⟩
          rw [← em]
          have gg : ∀ a, 138 ≤ a → m1 a = m a := fun a ha => by rw [em]; exact found_o (by omega) (by omega)
          have eL : LKp m1 f g k = LKp m f g k := LKp_m (gg _ (by omega)) (gg _ (by omega)) (gg _ (by omega)) (gg _ (by omega))
          refine y_run (own := "LoafFallModel") rfl (by decide +kernel) (Nat.le_of_ble_eq_true rfl) rfl ?_
          refine y_aload_n dX12_sprout_0 rfl rfl ?_
          refine y_iload_n dX12_sprout_1 rfl rfl ?_
          refine y_iload_n dX12_sprout_2 rfl rfl ?_
          refine y_iload_n dX12_sprout_3 rfl rfl ?_
          refine y_ivI3 dX12_sprout_4 mv_X12_279 my_X12_needBoth (Or.inl rfl) sh_239 ?_
          refine c_X12_needBoth rfl hf rfl hg rfl hk (by rw [gg _ (by omega)]; exact h.szs.1 k hk) (fun z => absurd (by rw [← eL]; exact z) h0) (fun _ => ⟨_, rfl, ?_⟩)
          refine y_ist9_4 dX12_sprout_7 rfl ?_
          refine y_iload dX12_sprout_9 rfl ?_
          refine y_if_ge (tgt := 17) dX12_sprout_11 (by decide) (fun h11 => absurd h11 (by decide)) (fun h11 => ?_)
          refine y_iload dX12_sprout_14 rfl ?_
          refine y_ireturn dX12_sprout_16 rfl rfl ?_
          rw [eL, em]
          exact ⟨rfl, Rel_met h⟩
      · refine y_run (own := "LoafFall") rfl (by decide +kernel) (Nat.le_of_ble_eq_true rfl) rfl ?_
        refine y_iload_n dX11_sprout_0 rfl rfl ?_
        refine y_isI1 dX11_sprout_1 ms_X11_160 my_X11_isFlour (Or.inl rfl) ?_
        refine c_X11_isFlour (fun _ => ⟨_, rfl, ?_⟩) (fun z => absurd hx z)
        refine y_if_eq (tgt := 21) dX11_sprout_4 (by decide) (fun h4 => absurd h4 (by decide)) (fun h4 => ?_)
        refine y_iload_n dX11_sprout_7 rfl rfl ?_
        refine y_isI1 dX11_sprout_8 ms_X11_173 my_X11_isDoing (Or.inl rfl) ?_
        refine c_X11_isDoing (fun _ => ⟨_, rfl, ?_⟩) (fun z => absurd hz z)
        refine y_if_eq (tgt := 21) dX11_sprout_11 (by decide) (fun h11 => absurd h11 (by decide)) (fun h11 => ?_)
        refine y_iload_n dX11_sprout_14 rfl rfl ?_
        refine y_isI1 dX11_sprout_15 ms_X11_101 my_X11_isRow (Or.inl rfl) ?_
        refine c_X11_isRow (fun z => absurd z hr) (fun _ => ⟨_, rfl, ?_⟩)
        refine y_if_ne (tgt := 23) dX11_sprout_18 (by decide) (fun h18 => absurd (by decide) h18) (fun h18 => ?_)
        refine y_iconst (v := -1) dX11_sprout_21 (by decide) ?_
        refine y_ireturn dX11_sprout_22 rfl rfl ?_
        refine ⟨_, rfl, ?_⟩
        refine y_run (own := "LoafFallModel") rfl (by decide +kernel) (Nat.le_of_ble_eq_true rfl) rfl ?_
        refine y_aload_n dX12_sprout_0 rfl rfl ?_
        refine y_iload_n dX12_sprout_1 rfl rfl ?_
        refine y_iload_n dX12_sprout_2 rfl rfl ?_
        refine y_iload_n dX12_sprout_3 rfl rfl ?_
        refine y_ivI3 dX12_sprout_4 mv_X12_279 my_X12_needBoth (Or.inl rfl) sh_239 ?_
        refine y_run (own := "LoafFallModel") rfl (by decide +kernel) (Nat.le_of_ble_eq_true rfl) rfl ?_
        refine y_iload_n dX12_needBoth_0 rfl rfl ?_
        refine y_isI1 dX12_needBoth_1 ms_X12_151 my_X12_isPlace (Or.inl rfl) ?_
        refine c_X12_isPlace (fun _ => ⟨_, rfl, ?_⟩) (fun z => absurd hx z)
        refine y_if_eq (tgt := 21) dX12_needBoth_4 (by decide) (fun h4 => absurd h4 (by decide)) (fun h4 => ?_)
        refine y_iload_n dX12_needBoth_7 rfl rfl ?_
        refine y_isI1 dX12_needBoth_8 ms_X12_151 my_X12_isPlace (Or.inl rfl) ?_
        refine c_X12_isPlace (fun _ => ⟨_, rfl, ?_⟩) (fun z => absurd hz z)
        refine y_if_eq (tgt := 21) dX12_needBoth_11 (by decide) (fun h11 => absurd h11 (by decide)) (fun h11 => ?_)
        refine y_iload_n dX12_needBoth_14 rfl rfl ?_
        refine y_isI1 dX12_needBoth_15 ms_X12_96 my_X12_isRow (Or.inl rfl) ?_
        refine c_X12_isRow (fun z => absurd z hr) (fun _ => ⟨_, rfl, ?_⟩)
        refine y_if_ne (tgt := 23) dX12_needBoth_18 (by decide) (fun h18 => absurd (by decide) h18) (fun h18 => ?_)
        refine y_iconst (v := -1) dX12_needBoth_21 (by decide) ?_
        refine y_ireturn dX12_needBoth_22 rfl rfl ?_
        refine ⟨_, rfl, ?_⟩
        refine y_ist9_4 dX12_sprout_7 rfl ?_
        refine y_iload dX12_sprout_9 rfl ?_
        refine y_if_ge (tgt := 17) dX12_sprout_11 (by decide) (fun h11 => absurd h11 (by decide)) (fun h11 => ?_)
        refine y_iload dX12_sprout_14 rfl ?_
        refine y_ireturn dX12_sprout_16 rfl rfl ?_
        exact ⟨rfl, h⟩
    · refine y_run (own := "LoafFall") rfl (by decide +kernel) (Nat.le_of_ble_eq_true rfl) rfl ?_
      refine y_iload_n dX11_sprout_0 rfl rfl ?_
      refine y_isI1 dX11_sprout_1 ms_X11_160 my_X11_isFlour (Or.inl rfl) ?_
      refine c_X11_isFlour (fun _ => ⟨_, rfl, ?_⟩) (fun z => absurd hx z)
      refine y_if_eq (tgt := 21) dX11_sprout_4 (by decide) (fun h4 => absurd h4 (by decide)) (fun h4 => ?_)
      refine y_iload_n dX11_sprout_7 rfl rfl ?_
      refine y_isI1 dX11_sprout_8 ms_X11_173 my_X11_isDoing (Or.inl rfl) ?_
      refine c_X11_isDoing (fun z => absurd z hz) (fun _ => ⟨_, rfl, ?_⟩)
      refine y_if_eq (tgt := 21) dX11_sprout_11 (by decide) (fun h11 => ?_) (fun h11 => absurd (by decide) h11)
      refine y_iconst (v := -1) dX11_sprout_21 (by decide) ?_
      refine y_ireturn dX11_sprout_22 rfl rfl ?_
      refine ⟨_, rfl, ?_⟩
      refine y_run (own := "LoafFallModel") rfl (by decide +kernel) (Nat.le_of_ble_eq_true rfl) rfl ?_
      refine y_aload_n dX12_sprout_0 rfl rfl ?_
      refine y_iload_n dX12_sprout_1 rfl rfl ?_
      refine y_iload_n dX12_sprout_2 rfl rfl ?_
      refine y_iload_n dX12_sprout_3 rfl rfl ?_
      refine y_ivI3 dX12_sprout_4 mv_X12_279 my_X12_needBoth (Or.inl rfl) sh_239 ?_
      refine y_run (own := "LoafFallModel") rfl (by decide +kernel) (Nat.le_of_ble_eq_true rfl) rfl ?_
      refine y_iload_n dX12_needBoth_0 rfl rfl ?_
      refine y_isI1 dX12_needBoth_1 ms_X12_151 my_X12_isPlace (Or.inl rfl) ?_
      refine c_X12_isPlace (fun _ => ⟨_, rfl, ?_⟩) (fun z => absurd hx z)
      refine y_if_eq (tgt := 21) dX12_needBoth_4 (by decide) (fun h4 => absurd h4 (by decide)) (fun h4 => ?_)
      refine y_iload_n dX12_needBoth_7 rfl rfl ?_
      refine y_isI1 dX12_needBoth_8 ms_X12_151 my_X12_isPlace (Or.inl rfl) ?_
      refine c_X12_isPlace (fun z => absurd z hz) (fun _ => ⟨_, rfl, ?_⟩)
      refine y_if_eq (tgt := 21) dX12_needBoth_11 (by decide) (fun h11 => ?_) (fun h11 => absurd (by decide) h11)
      refine y_iconst (v := -1) dX12_needBoth_21 (by decide) ?_
      refine y_ireturn dX12_needBoth_22 rfl rfl ?_
      refine ⟨_, rfl, ?_⟩
      refine y_ist9_4 dX12_sprout_7 rfl ?_
      refine y_iload dX12_sprout_9 rfl ?_
      refine y_if_ge (tgt := 17) dX12_sprout_11 (by decide) (fun h11 => absurd h11 (by decide)) (fun h11 => ?_)
      refine y_iload dX12_sprout_14 rfl ?_
      refine y_ireturn dX12_sprout_16 rfl rfl ?_
      exact ⟨rfl, h⟩
  · refine y_run (own := "LoafFall") rfl (by decide +kernel) (Nat.le_of_ble_eq_true rfl) rfl ?_
    refine y_iload_n dX11_sprout_0 rfl rfl ?_
    refine y_isI1 dX11_sprout_1 ms_X11_160 my_X11_isFlour (Or.inl rfl) ?_
    refine c_X11_isFlour (fun z => absurd z hx) (fun _ => ⟨_, rfl, ?_⟩)
    refine y_if_eq (tgt := 21) dX11_sprout_4 (by decide) (fun h4 => ?_) (fun h4 => absurd (by decide) h4)
    refine y_iconst (v := -1) dX11_sprout_21 (by decide) ?_
    refine y_ireturn dX11_sprout_22 rfl rfl ?_
    refine ⟨_, rfl, ?_⟩
    refine y_run (own := "LoafFallModel") rfl (by decide +kernel) (Nat.le_of_ble_eq_true rfl) rfl ?_
    refine y_aload_n dX12_sprout_0 rfl rfl ?_
    refine y_iload_n dX12_sprout_1 rfl rfl ?_
    refine y_iload_n dX12_sprout_2 rfl rfl ?_
    refine y_iload_n dX12_sprout_3 rfl rfl ?_
    refine y_ivI3 dX12_sprout_4 mv_X12_279 my_X12_needBoth (Or.inl rfl) sh_239 ?_
    refine y_run (own := "LoafFallModel") rfl (by decide +kernel) (Nat.le_of_ble_eq_true rfl) rfl ?_
    refine y_iload_n dX12_needBoth_0 rfl rfl ?_
    refine y_isI1 dX12_needBoth_1 ms_X12_151 my_X12_isPlace (Or.inl rfl) ?_
    refine c_X12_isPlace (fun z => absurd z hx) (fun _ => ⟨_, rfl, ?_⟩)
    refine y_if_eq (tgt := 21) dX12_needBoth_4 (by decide) (fun h4 => ?_) (fun h4 => absurd (by decide) h4)
    refine y_iconst (v := -1) dX12_needBoth_21 (by decide) ?_
    refine y_ireturn dX12_needBoth_22 rfl rfl ?_
    refine ⟨_, rfl, ?_⟩
    refine y_ist9_4 dX12_sprout_7 rfl ?_
    refine y_iload dX12_sprout_9 rfl ?_
    refine y_if_ge (tgt := 17) dX12_sprout_11 (by decide) (fun h11 => absurd h11 (by decide)) (fun h11 => ?_)
    refine y_iload dX12_sprout_14 rfl ?_
    refine y_ireturn dX12_sprout_16 rfl rfl ?_
    exact ⟨rfl, h⟩
set_option maxHeartbeats 2000000 in
theorem p_rack {L : Nat} {xs : Nat → Int32} {d : Nat} {m : sM} {n : sN} {x z r : Int32} (h : Rel m n) : PI L xs (d + 11) yX11_rack cX11_rack 9 yX12_rack cX12_rack 10 [.int x, .int z, .int r] m n := by
  unfold PI
  by_cases hx : inN x 4
  · by_cases hz : inN z 4
    · by_cases hr : inN r 6
      · obtain ⟨f, hf, rfl⟩ := hx
        obtain ⟨g, hg, rfl⟩ := hz
        obtain ⟨k, hk, rfl⟩ := hr
        by_cases h0 : LKp m f g k = 0
        · refine c_X11_rack_ok h rfl hf rfl hg rfl hk h0 (fun m' b wv v1 v2 sc => ⟨_, rfl, ?_⟩)
          obtain ⟨z1, z2, z3⟩ := lk_0 h0
          obtain ⟨t1, t2, t3⟩ := both_there h hf hg z1 z2
          generalize em : tellM m' wv = m1
          have gg : ∀ a, 137 ≤ a → m1 a = m a := fun a ha => by rw [← em, tell_o (by omega)]; exact v1 a (by omega)
          have eb : bo m1 f g = bo m f g := bo_m (gg _ (by omega)) (gg _ (by omega)) (gg _ (by omega))
          refine c_X12_rack_ok rfl hf rfl hg rfl hk (by rw [LKp_m (gg _ (by omega)) (gg _ (by omega)) (gg _ (by omega)) (gg _ (by omega))]; exact h0) (by rw [gg _ (by omega)]; exact h.szs.1 k hk) (by rw [eb]; exact (t3 _).1) (by rw [eb]; exact (t3 _).2.1) (fun M hW => ?_)
          rw [eb, gg 242 (by omega)]
          have hb : ¬ b = -9 := by rw [sc.1]; exact selT (by omega) (fun j hj => rk9 j hj)
          refine ⟨by rw [sc.1], ?_⟩
          rw [← sc.2.1 hb]
          rw [← em] at hW
          exact Rel_tell h v1 v2 hW.fr
        · refine y_run (own := "LoafFall") rfl (by decide +kernel) (Nat.le_of_ble_eq_true rfl) rfl ?_
          refine y_iload_n dX11_rack_0 rfl rfl ?_
          refine y_isI1 dX11_rack_1 ms_X11_160 my_X11_isFlour (Or.inl rfl) ?_
          refine c_X11_isFlour (fun _ => ⟨_, rfl, ?_⟩) (fun z => absurd (⟨f, hf, rfl⟩ : inN (nI f) 4) z)
          refine y_if_eq (tgt := 21) dX11_rack_4 (by decide) (fun h4 => absurd h4 (by decide)) (fun h4 => ?_)
          refine y_iload_n dX11_rack_7 rfl rfl ?_
          refine y_isI1 dX11_rack_8 ms_X11_173 my_X11_isDoing (Or.inl rfl) ?_
          refine c_X11_isDoing (fun _ => ⟨_, rfl, ?_⟩) (fun z => absurd (⟨g, hg, rfl⟩ : inN (nI g) 4) z)
          refine y_if_eq (tgt := 21) dX11_rack_11 (by decide) (fun h11 => absurd h11 (by decide)) (fun h11 => ?_)
          refine y_iload_n dX11_rack_14 rfl rfl ?_
          refine y_isI1 dX11_rack_15 ms_X11_101 my_X11_isRow (Or.inl rfl) ?_
          refine c_X11_isRow (fun _ => ⟨_, rfl, ?_⟩) (fun z => absurd (⟨k, hk, rfl⟩ : inN (nI k) 6) z)
          refine y_if_ne (tgt := 23) dX11_rack_18 (by decide) (fun h18 => ?_) (fun h18 => absurd h18 (by decide))
          refine y_aload_n dX11_rack_23 rfl rfl ?_
          refine y_iload_n dX11_rack_24 rfl rfl ?_
          refine y_iload_n dX11_rack_25 rfl rfl ?_
          refine y_iload_n dX11_rack_26 rfl rfl ?_
          refine y_ivI3 dX11_rack_27 mv_X11_293 my_X11_lackOfPairAndCut (Or.inl rfl) sh_0 ?_
          refine c_X11_lackOfPairAndCut h rfl hf rfl hg rfl hk ⟨_, rfl, ?_⟩
          refine y_ist9_4 dX11_rack_30 rfl ?_
          refine y_iload dX11_rack_32 rfl ?_
          refine y_if_eq (tgt := 44) dX11_rack_34 (by decide) (fun h34 => absurd h34 (fun e => h0 ((nI_eq (b := 0) (by have := LKp_le m f g k; omega) (by decide)).mp e))) (fun h34 => ?_)
          refine y_aload_n dX11_rack_37 rfl rfl ?_
          refine y_iload dX11_rack_38 rfl ?_
          refine y_ivI1 dX11_rack_40 mv_X11_105 my_X11_found (Or.inl rfl) sh_0 ?_
          refine c_X11_found (f := LKp m f g k) rfl (by omega) (LKp_le m f g k) ⟨_, rfl, ?_⟩
          refine y_ireturn dX11_rack_43 rfl rfl ?_
          refine ⟨_, rfl, ?_⟩
          obtain ⟨m1, em⟩ : ∃ m1, m1 = foundM m (LKp m f g k) := ⟨_, rfl⟩
          rw [← em]
          have gg : ∀ a, 138 ≤ a → m1 a = m a := fun a ha => by rw [em]; exact found_o (by omega) (by omega)
          have eL : LKp m1 f g k = LKp m f g k := LKp_m (gg _ (by omega)) (gg _ (by omega)) (gg _ (by omega)) (gg _ (by omega))
          refine y_run (own := "LoafFallModel") rfl (by decide +kernel) (Nat.le_of_ble_eq_true rfl) rfl ?_
          refine y_aload_n dX12_rack_0 rfl rfl ?_
          refine y_iload_n dX12_rack_1 rfl rfl ?_
          refine y_iload_n dX12_rack_2 rfl rfl ?_
          refine y_iload_n dX12_rack_3 rfl rfl ?_
          refine y_ivI3 dX12_rack_4 mv_X12_279 my_X12_needBoth (Or.inl rfl) sh_239 ?_
          refine c_X12_needBoth rfl hf rfl hg rfl hk (by rw [gg _ (by omega)]; exact h.szs.1 k hk) (fun z => absurd (by rw [← eL]; exact z) h0) (fun _ => ⟨_, rfl, ?_⟩)
          refine y_ist10_4 dX12_rack_7 rfl ?_
          refine y_iload dX12_rack_9 rfl ?_
          refine y_if_ge (tgt := 17) dX12_rack_11 (by decide) (fun h11 => absurd h11 (by decide)) (fun h11 => ?_)
          refine y_iload dX12_rack_14 rfl ?_
          refine y_ireturn dX12_rack_16 rfl rfl ?_
          rw [eL, em]
          exact ⟨rfl, Rel_met h⟩
      · refine y_run (own := "LoafFall") rfl (by decide +kernel) (Nat.le_of_ble_eq_true rfl) rfl ?_
        refine y_iload_n dX11_rack_0 rfl rfl ?_
        refine y_isI1 dX11_rack_1 ms_X11_160 my_X11_isFlour (Or.inl rfl) ?_
        refine c_X11_isFlour (fun _ => ⟨_, rfl, ?_⟩) (fun z => absurd hx z)
        refine y_if_eq (tgt := 21) dX11_rack_4 (by decide) (fun h4 => absurd h4 (by decide)) (fun h4 => ?_)
        refine y_iload_n dX11_rack_7 rfl rfl ?_
        refine y_isI1 dX11_rack_8 ms_X11_173 my_X11_isDoing (Or.inl rfl) ?_
        refine c_X11_isDoing (fun _ => ⟨_, rfl, ?_⟩) (fun z => absurd hz z)
        refine y_if_eq (tgt := 21) dX11_rack_11 (by decide) (fun h11 => absurd h11 (by decide)) (fun h11 => ?_)
        refine y_iload_n dX11_rack_14 rfl rfl ?_
        refine y_isI1 dX11_rack_15 ms_X11_101 my_X11_isRow (Or.inl rfl) ?_
        refine c_X11_isRow (fun z => absurd z hr) (fun _ => ⟨_, rfl, ?_⟩)
        refine y_if_ne (tgt := 23) dX11_rack_18 (by decide) (fun h18 => absurd (by decide) h18) (fun h18 => ?_)
        refine y_iconst (v := -1) dX11_rack_21 (by decide) ?_
        refine y_ireturn dX11_rack_22 rfl rfl ?_
        refine ⟨_, rfl, ?_⟩
        refine y_run (own := "LoafFallModel") rfl (by decide +kernel) (Nat.le_of_ble_eq_true rfl) rfl ?_
        refine y_aload_n dX12_rack_0 rfl rfl ?_
        refine y_iload_n dX12_rack_1 rfl rfl ?_
        refine y_iload_n dX12_rack_2 rfl rfl ?_
        refine y_iload_n dX12_rack_3 rfl rfl ?_
        refine y_ivI3 dX12_rack_4 mv_X12_279 my_X12_needBoth (Or.inl rfl) sh_239 ?_
        refine y_run (own := "LoafFallModel") rfl (by decide +kernel) (Nat.le_of_ble_eq_true rfl) rfl ?_
        refine y_iload_n dX12_needBoth_0 rfl rfl ?_
        refine y_isI1 dX12_needBoth_1 ms_X12_151 my_X12_isPlace (Or.inl rfl) ?_
        refine c_X12_isPlace (fun _ => ⟨_, rfl, ?_⟩) (fun z => absurd hx z)
        refine y_if_eq (tgt := 21) dX12_needBoth_4 (by decide) (fun h4 => absurd h4 (by decide)) (fun h4 => ?_)
        refine y_iload_n dX12_needBoth_7 rfl rfl ?_
        refine y_isI1 dX12_needBoth_8 ms_X12_151 my_X12_isPlace (Or.inl rfl) ?_
        refine c_X12_isPlace (fun _ => ⟨_, rfl, ?_⟩) (fun z => absurd hz z)
        refine y_if_eq (tgt := 21) dX12_needBoth_11 (by decide) (fun h11 => absurd h11 (by decide)) (fun h11 => ?_)
        refine y_iload_n dX12_needBoth_14 rfl rfl ?_
        refine y_isI1 dX12_needBoth_15 ms_X12_96 my_X12_isRow (Or.inl rfl) ?_
        refine c_X12_isRow (fun z => absurd z hr) (fun _ => ⟨_, rfl, ?_⟩)
        refine y_if_ne (tgt := 23) dX12_needBoth_18 (by decide) (fun h18 => absurd (by decide) h18) (fun h18 => ?_)
        refine y_iconst (v := -1) dX12_needBoth_21 (by decide) ?_
        refine y_ireturn dX12_needBoth_22 rfl rfl ?_
        refine ⟨_, rfl, ?_⟩
        refine y_ist10_4 dX12_rack_7 rfl ?_
        refine y_iload dX12_rack_9 rfl ?_
        refine y_if_ge (tgt := 17) dX12_rack_11 (by decide) (fun h11 => absurd h11 (by decide)) (fun h11 => ?_)
        refine y_iload dX12_rack_14 rfl ?_
        refine y_ireturn dX12_rack_16 rfl rfl ?_
        exact ⟨rfl, h⟩
    · refine y_run (own := "LoafFall") rfl (by decide +kernel) (Nat.le_of_ble_eq_true rfl) rfl ?_
      refine y_iload_n dX11_rack_0 rfl rfl ?_
      refine y_isI1 dX11_rack_1 ms_X11_160 my_X11_isFlour (Or.inl rfl) ?_
      refine c_X11_isFlour (fun _ => ⟨_, rfl, ?_⟩) (fun z => absurd hx z)
      refine y_if_eq (tgt := 21) dX11_rack_4 (by decide) (fun h4 => absurd h4 (by decide)) (fun h4 => ?_)
      refine y_iload_n dX11_rack_7 rfl rfl ?_
      refine y_isI1 dX11_rack_8 ms_X11_173 my_X11_isDoing (Or.inl rfl) ?_
      refine c_X11_isDoing (fun z => absurd z hz) (fun _ => ⟨_, rfl, ?_⟩)
      refine y_if_eq (tgt := 21) dX11_rack_11 (by decide) (fun h11 => ?_) (fun h11 => absurd (by decide) h11)
      refine y_iconst (v := -1) dX11_rack_21 (by decide) ?_
      refine y_ireturn dX11_rack_22 rfl rfl ?_
      refine ⟨_, rfl, ?_⟩
      refine y_run (own := "LoafFallModel") rfl (by decide +kernel) (Nat.le_of_ble_eq_true rfl) rfl ?_
      refine y_aload_n dX12_rack_0 rfl rfl ?_
      refine y_iload_n dX12_rack_1 rfl rfl ?_
      refine y_iload_n dX12_rack_2 rfl rfl ?_
      refine y_iload_n dX12_rack_3 rfl rfl ?_
      refine y_ivI3 dX12_rack_4 mv_X12_279 my_X12_needBoth (Or.inl rfl) sh_239 ?_
      refine y_run (own := "LoafFallModel") rfl (by decide +kernel) (Nat.le_of_ble_eq_true rfl) rfl ?_
      refine y_iload_n dX12_needBoth_0 rfl rfl ?_
      refine y_isI1 dX12_needBoth_1 ms_X12_151 my_X12_isPlace (Or.inl rfl) ?_
      refine c_X12_isPlace (fun _ => ⟨_, rfl, ?_⟩) (fun z => absurd hx z)
      refine y_if_eq (tgt := 21) dX12_needBoth_4 (by decide) (fun h4 => absurd h4 (by decide)) (fun h4 => ?_)
      refine y_iload_n dX12_needBoth_7 rfl rfl ?_
      refine y_isI1 dX12_needBoth_8 ms_X12_151 my_X12_isPlace (Or.inl rfl) ?_
      refine c_X12_isPlace (fun z => absurd z hz) (fun _ => ⟨_, rfl, ?_⟩)
      refine y_if_eq (tgt := 21) dX12_needBoth_11 (by decide) (fun h11 => ?_) (fun h11 => absurd (by decide) h11)
      refine y_iconst (v := -1) dX12_needBoth_21 (by decide) ?_
      refine y_ireturn dX12_needBoth_22 rfl rfl ?_
      refine ⟨_, rfl, ?_⟩
      refine y_ist10_4 dX12_rack_7 rfl ?_
      refine y_iload dX12_rack_9 rfl ?_
      refine y_if_ge (tgt := 17) dX12_rack_11 (by decide) (fun h11 => absurd h11 (by decide)) (fun h11 => ?_)
      refine y_iload dX12_rack_14 rfl ?_
      refine y_ireturn dX12_rack_16 rfl rfl ?_
      exact ⟨rfl, h⟩
  · refine y_run (own := "LoafFall") rfl (by decide +kernel) (Nat.le_of_ble_eq_true rfl) rfl ?_
    refine y_iload_n dX11_rack_0 rfl rfl ?_
    refine y_isI1 dX11_rack_1 ms_X11_160 my_X11_isFlour (Or.inl rfl) ?_
    refine c_X11_isFlour (fun z => absurd z hx) (fun _ => ⟨_, rfl, ?_⟩)
    refine y_if_eq (tgt := 21) dX11_rack_4 (by decide) (fun h4 => ?_) (fun h4 => absurd (by decide) h4)
    refine y_iconst (v := -1) dX11_rack_21 (by decide) ?_
    refine y_ireturn dX11_rack_22 rfl rfl ?_
    refine ⟨_, rfl, ?_⟩
    refine y_run (own := "LoafFallModel") rfl (by decide +kernel) (Nat.le_of_ble_eq_true rfl) rfl ?_
    refine y_aload_n dX12_rack_0 rfl rfl ?_
    refine y_iload_n dX12_rack_1 rfl rfl ?_
    refine y_iload_n dX12_rack_2 rfl rfl ?_
    refine y_iload_n dX12_rack_3 rfl rfl ?_
    refine y_ivI3 dX12_rack_4 mv_X12_279 my_X12_needBoth (Or.inl rfl) sh_239 ?_
    refine y_run (own := "LoafFallModel") rfl (by decide +kernel) (Nat.le_of_ble_eq_true rfl) rfl ?_
    refine y_iload_n dX12_needBoth_0 rfl rfl ?_
    refine y_isI1 dX12_needBoth_1 ms_X12_151 my_X12_isPlace (Or.inl rfl) ?_
    refine c_X12_isPlace (fun z => absurd z hx) (fun _ => ⟨_, rfl, ?_⟩)
    refine y_if_eq (tgt := 21) dX12_needBoth_4 (by decide) (fun h4 => ?_) (fun h4 => absurd (by decide) h4)
    refine y_iconst (v := -1) dX12_needBoth_21 (by decide) ?_
    refine y_ireturn dX12_needBoth_22 rfl rfl ?_
    refine ⟨_, rfl, ?_⟩
    refine y_ist10_4 dX12_rack_7 rfl ?_
    refine y_iload dX12_rack_9 rfl ?_
    refine y_if_ge (tgt := 17) dX12_rack_11 (by decide) (fun h11 => absurd h11 (by decide)) (fun h11 => ?_)
    refine y_iload dX12_rack_14 rfl ?_
    refine y_ireturn dX12_rack_16 rfl rfl ?_
    exact ⟨rfl, h⟩
