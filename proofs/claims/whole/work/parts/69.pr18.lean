/-! ===== flours ===== -/
def sh1 (k : Nat) : Int32 := 1 <<< (nI k &&& 31)
/-- whole ones, best ones, best worth -/
def fl3 (th W N : Nat → Int32) : Nat → Int32 × Int32 × Int32
  | 0 => (0, 0, -1)
  | k + 1 => if th k = 0 then fl3 th W N k else ((fl3 th W N k).1 ||| (if N k = 0 then sh1 k else 0), (if W k ≤ (fl3 th W N k).2.2 then (fl3 th W N k).2.1 else 0) ||| (if W k = gtr (fl3 th W N k).2.2 (W k) then sh1 k else 0), gtr (fl3 th W N k).2.2 (W k))
theorem fl3_n {th W N : Nat → Int32} {k : Nat} (h : th k = 0) : fl3 th W N (k + 1) = fl3 th W N k := by rw [fl3, if_pos h]
theorem gtr_a {x y : Int32} (h : y ≤ x) : gtr x y = x := by
  unfold gtr
  split
  · rfl
  · rename_i z; exact Int32.le_antisymm h (Int32.not_lt.mp z) |>.symm ▸ rfl
theorem gtr_b {x y : Int32} (h : ¬ y ≤ x) : gtr x y = y := by
  unfold gtr
  rw [if_neg (fun z => h (Int32.le_of_lt z))]
theorem fl3_y {th W N : Nat → Int32} {k : Nat} {s b : Int32} (h : ¬ th k = 0) (hs : s = (if N k = 0 then sh1 k else 0)) (hb : b = (if W k ≤ (fl3 th W N k).2.2 then (fl3 th W N k).2.1 else 0) ||| (if W k = gtr (fl3 th W N k).2.2 (W k) then sh1 k else 0)) : fl3 th W N (k + 1) = ((fl3 th W N k).1 ||| s, b, gtr (fl3 th W N k).2.2 (W k)) := by rw [fl3, if_neg h, hs, hb]
def wF (m : sM) (g k : Nat) : Int32 := WV (bo m k g)
def nF (m : sM) (g k : Nat) : Int32 := NV (bo m k g)
set_option maxHeartbeats 1000000 in
theorem c_X11_flours_ok {L : Nat} {xs : Nat → Int32} {d : Nat} {m : sM} {n : sN} {Q : sQ} {g : Nat} {x : Int32} (h : Rel m n) (hx : x = nI g) (hg : g < 4) (d1 : ¬ m 248 g = 0) (f1 : ¬ CNT m 0 = 0) (hQ : ∀ m', frC m m' → BK m' → Q (some (.int (fl3 (m 246) (wF m g) (nF m g) 4).1)) (tellM m' (fl3 (m 246) (wF m g) (nF m g) 4).2.1) n) : sRun (scT L xs) (d + 7) yX11_flours cX11_flours 8 (some .int) [.ref 0, .int x] m n Q := by
  subst hx
  obtain ⟨W, hW⟩ : ∃ W, W = wF m g := ⟨_, rfl⟩
  obtain ⟨N, hN⟩ : ∃ N, N = nF m g := ⟨_, rfl⟩
  rw [← hW, ← hN] at hQ
  have d2 : ¬ m (166 + 4 * g) 4 = 0 := fun z => d1 ((h.dx hg).1 z)
  refine y_run (own := "LoafFall") rfl (by decide +kernel) (Nat.le_of_ble_eq_true rfl) rfl ?_
  refine y_iload_n dX11_flours_0 rfl rfl ?_
  refine y_isI1 dX11_flours_1 ms_X11_173 my_X11_isDoing (Or.inl rfl) ?_
  refine c_X11_isDoing (fun _ => ⟨_, rfl, ?_⟩) (fun z => absurd (⟨g, hg, rfl⟩ : inN (nI g) 4) z)
  refine y_if_ne (tgt := 9) dX11_flours_4 (by decide) (fun h4 => ?_) (fun h4 => absurd h4 (by decide))
  refine y_aload_n dX11_flours_9 rfl rfl ?_
  refine y_getr dX11_flours_10 gf_X11_29 sh_0 rfl ?_
  refine y_iload_n dX11_flours_13 rfl rfl ?_
  refine y_aaldN dX11_flours_14 (by decide) sh_4 rfl (dgA (k := g) (by omega)) (by decide) ?_
  refine y_geti dX11_flours_15 gf_X11_190 (dgI (k := g) (by omega)).1 rfl ?_
  refine y_if_eq (tgt := 28) dX11_flours_18 (by decide) (fun h18 => absurd h18 d2) (fun h18 => ?_)
  refine y_aload_n dX11_flours_21 rfl rfl ?_
  refine y_ivI0 dX11_flours_22 mv_X11_332 my_X11_countFlours (Or.inl rfl) sh_0 ?_
  refine c_X11_countFlours ⟨_, rfl, ?_⟩
  refine y_if_ne (tgt := 34) dX11_flours_25 (by decide) (fun h25 => ?_) (fun h25 => absurd h25 (by rw [(CNT_c h).1]; exact f1))
  refine y_iconst (v := 0) dX11_flours_34 (by decide) ?_
  refine y_ist8_2 dX11_flours_35 rfl ?_
  refine y_iconst (v := 0) dX11_flours_36 (by decide) ?_
  refine y_ist8_3 dX11_flours_37 rfl ?_
  refine y_iconst (v := -1) dX11_flours_38 (by decide) ?_
  refine y_ist8_4 dX11_flours_39 rfl ?_
  refine y_iconst (v := 0) dX11_flours_41 (by decide) ?_
  refine y_ist8_5 dX11_flours_42 rfl ?_
  refine cnt (P := fun k => ∀ m', ∀ a6 a7 : Option Value, a_isL a6 = false → frC m m' → BK m' → sV (scT L xs) (d + 6) "LoafFall" cX11_flours 8 (some .int) Q 44 [some (.ref 0), some (.int (nI g)), some (.int (fl3 (m 246) W N k).1), some (.int (fl3 (m 246) W N k).2.1), some (.int (fl3 (m 246) W N k).2.2), some (.int (nI k)), a6, a7] [] m' n) 4 ?_ ?_ 0 (by omega) m none none rfl frC.rf h.bk
  · intro m' a6 a7 ha6 v1 v2
    refine y_iload dX11_flours_44 rfl ?_
    refine y_iconst (v := 4) dX11_flours_46 (by decide) ?_
    refine y_icmp_ge (tgt := 151) dX11_flours_47 (by decide) (fun h47 => ?_) (fun h47 => absurd (nI_le (a := 4) (b := 4) (Nat.le_refl _) (by decide)) h47)
    refine y_aload_n dX11_flours_151 rfl rfl ?_
    refine y_iload_n dX11_flours_152 rfl rfl ?_
    refine y_puti dX11_flours_153 pf_X11_194 sh_0 rfl rfl rfl ?_
    refine y_iload_n dX11_flours_156 rfl rfl ?_
    refine y_ireturn dX11_flours_157 rfl rfl ?_
    exact hQ m' v1 v2
  · intro k hk hP
    intro m' a6 a7 ha6 v1 v2
    refine y_iload dX11_flours_44 rfl ?_
    refine y_iconst (v := 4) dX11_flours_46 (by decide) ?_
    refine y_icmp_ge (tgt := 151) dX11_flours_47 (by decide) (fun h47 => absurd h47 (nI_ge (a := k) (b := 4) hk (by decide))) (fun h47 => ?_)
    refine y_aload_n dX11_flours_50 rfl rfl ?_
    refine y_getr dX11_flours_51 gf_X11_23 sh_0 rfl ?_
    refine y_iload dX11_flours_54 rfl ?_
    refine y_aaldN dX11_flours_56 (by decide) sh_3 rfl (flA (k := k) (by omega)) (by decide) ?_
    refine y_geti dX11_flours_57 gf_X11_183 (flI (k := k) (by omega)).1 rfl ?_
    rw [v1 (158 + 2 * k) (by omega)]
    refine y_if_ne (tgt := 66) dX11_flours_60 (by decide) (fun h60 => ?_) (fun h60 => ?_)
    · have tk : ¬ m 246 k = 0 := by rw [((h.fx hk).2 h60).1]; decide
      obtain ⟨t1, t2, t3⟩ := both_there h hk hg tk d1
      obtain ⟨t4, t5, t6, t7⟩ := t3 (fun _ => 0)
      refine y_aload_n dX11_flours_66 rfl rfl ?_
      refine y_getr dX11_flours_67 gf_X11_61 sh_0 rfl ?_
      refine y_aload_n dX11_flours_70 rfl rfl ?_
      refine y_getr dX11_flours_71 gf_X11_23 sh_0 rfl ?_
      refine y_iload dX11_flours_74 rfl ?_
      refine y_aaldN dX11_flours_76 (by decide) sh_3 rfl (flA (k := k) (by omega)) (by decide) ?_
      refine y_aload_n dX11_flours_77 rfl rfl ?_
      refine y_getr dX11_flours_78 gf_X11_29 sh_0 rfl ?_
      refine y_iload_n dX11_flours_81 rfl rfl ?_
      refine y_aaldN dX11_flours_82 (by decide) sh_4 rfl (dgA (k := g) (by omega)) (by decide) ?_
      refine y_ivR2 dX11_flours_83 mv_X11_303 my_X0_bake (Or.inl rfl) sh_35 ?_
      refine c_bakeV (R := bo m k g) (flI hk) (dgI hg) (by omega) (by omega) (fun i hi => by rw [v1 _ (by omega)]; exact t6 i hi) (DR_m t7 (fun c h1 h2 => v1 c (by omega))) t4 t5 (Or.inr (by rw [v1 _ (by omega)]; exact t1)) (Or.inr (by rw [v1 _ (by omega)]; exact t2)) v2 (fun m4 A a1 a2 a3 a4' a5 => ⟨_, rfl, ?_⟩)
      have fr4 : frC m m4 := fun a ha => by rw [a5 a (by omega)]; exact v1 a ha
      have eW : worthF A = W k := by rw [hW]; exact a3.w
      have eN : m4 43 5 = N k := by rw [hN]; exact a1.2.1.trans (a3.t t4 t5)
      refine y_ast8_6 dX11_flours_86 rfl ?_
      refine y_aload dX11_flours_88 rfl ?_
      refine y_ivI0 dX11_flours_90 mv_X11_255 my_X2_worthNow (Or.inl rfl) dh43.1 ?_
      refine c_X2_worthNow dh43 a1 a2 ⟨_, rfl, ?_⟩
      rw [eW]
      refine y_ist8_7 dX11_flours_93 rfl ?_
      refine y_iload_n dX11_flours_95 rfl rfl ?_
      refine y_aload dX11_flours_96 rfl ?_
      refine y_geti dX11_flours_98 gf_X11_273 dh43.1 rfl ?_
      rw [eN]
      refine y_if_ne (tgt := 111) dX11_flours_101 (by decide) (fun h101 => ?_) (fun h101 => ?_)
      · refine y_iconst (v := 0) dX11_flours_111 (by decide) ?_
        refine y_ior dX11_flours_112 ?_
        refine y_ist8_2 dX11_flours_113 rfl ?_
        refine y_iload dX11_flours_114 rfl ?_
        refine y_iload dX11_flours_116 rfl ?_
        refine y_icmp_le (tgt := 127) dX11_flours_118 (by decide) (fun h118 => ?_) (fun h118 => ?_)
        · refine y_iload_n dX11_flours_127 rfl rfl ?_
          refine y_iload dX11_flours_128 rfl ?_
          refine y_iload dX11_flours_130 rfl ?_
          refine y_icmp_ne (tgt := 142) dX11_flours_132 (by decide) (fun h132 => ?_) (fun h132 => ?_)
          · refine y_iconst (v := 0) dX11_flours_142 (by decide) ?_
            refine y_ior dX11_flours_143 ?_
            refine y_ist8_3 dX11_flours_144 rfl ?_
            refine y_iinc8_5 dX11_flours_145 (nI_1 _) rfl ?_
            refine y_goto (tgt := 44) dX11_flours_148 (by decide) ?_
            have key : ∀ s b w0 : Int32, s = (if N k = 0 then sh1 k else 0) → b = (if W k ≤ (fl3 (m 246) W N k).2.2 then (fl3 (m 246) W N k).2.1 else 0) ||| (if W k = gtr (fl3 (m 246) W N k).2.2 (W k) then sh1 k else 0) → w0 = gtr (fl3 (m 246) W N k).2.2 (W k) → sV (scT L xs) (d + 6) "LoafFall" cX11_flours 8 (some .int) Q 44 [some (.ref 0), some (.int (nI g)), some (.int ((fl3 (m 246) W N k).1 ||| s)), some (.int b), some (.int w0), some (.int (nI (k + 1))), some (.ref 43), some (.int (W k))] [] m4 n := fun s b w0 e1 e2 e3 => by
              have := hP m4 (some (.ref 43)) (some (.int (W k))) rfl fr4 a4'
              rw [fl3_y (W := W) (N := N) tk e1 e2, ← e3] at this
              exact this
            refine key _ _ _ ?_ ?_ ?_
            · first | exact (if_pos h101).symm | exact (if_neg h101).symm
            · first
                | exact absurd rfl h132
                | (rw [if_pos h118, gtr_a h118, if_pos h132]; rfl)
                | (rw [if_pos h118, gtr_a h118, if_neg h132])
                | (rw [if_neg h118, gtr_b h118, if_pos rfl]; rfl)
            · first | exact (gtr_a h118).symm | exact (gtr_b h118).symm
          · refine y_iconst (v := 1) dX11_flours_135 (by decide) ?_
            refine y_iload dX11_flours_136 rfl ?_
            refine y_ishl dX11_flours_138 ?_
            refine y_goto (tgt := 143) dX11_flours_139 (by decide) ?_
            refine y_ior dX11_flours_143 ?_
            refine y_ist8_3 dX11_flours_144 rfl ?_
            refine y_iinc8_5 dX11_flours_145 (nI_1 _) rfl ?_
            refine y_goto (tgt := 44) dX11_flours_148 (by decide) ?_
            have key : ∀ s b w0 : Int32, s = (if N k = 0 then sh1 k else 0) → b = (if W k ≤ (fl3 (m 246) W N k).2.2 then (fl3 (m 246) W N k).2.1 else 0) ||| (if W k = gtr (fl3 (m 246) W N k).2.2 (W k) then sh1 k else 0) → w0 = gtr (fl3 (m 246) W N k).2.2 (W k) → sV (scT L xs) (d + 6) "LoafFall" cX11_flours 8 (some .int) Q 44 [some (.ref 0), some (.int (nI g)), some (.int ((fl3 (m 246) W N k).1 ||| s)), some (.int b), some (.int w0), some (.int (nI (k + 1))), some (.ref 43), some (.int (W k))] [] m4 n := fun s b w0 e1 e2 e3 => by
              have := hP m4 (some (.ref 43)) (some (.int (W k))) rfl fr4 a4'
              rw [fl3_y (W := W) (N := N) tk e1 e2, ← e3] at this
              exact this
            refine key _ _ _ ?_ ?_ ?_
            · first | exact (if_pos h101).symm | exact (if_neg h101).symm
            · first
                | exact absurd rfl h132
                | (rw [if_pos h118, gtr_a h118, if_pos h132]; rfl)
                | (rw [if_pos h118, gtr_a h118, if_neg h132])
                | (rw [if_neg h118, gtr_b h118, if_pos rfl]; rfl)
            · first | exact (gtr_a h118).symm | exact (gtr_b h118).symm
        · refine y_iload dX11_flours_121 rfl ?_
          refine y_ist8_4 dX11_flours_123 rfl ?_
          refine y_iconst (v := 0) dX11_flours_125 (by decide) ?_
          refine y_ist8_3 dX11_flours_126 rfl ?_
          refine y_iload_n dX11_flours_127 rfl rfl ?_
          refine y_iload dX11_flours_128 rfl ?_
          refine y_iload dX11_flours_130 rfl ?_
          refine y_icmp_ne (tgt := 142) dX11_flours_132 (by decide) (fun h132 => ?_) (fun h132 => ?_)
          · refine y_iconst (v := 0) dX11_flours_142 (by decide) ?_
            refine y_ior dX11_flours_143 ?_
            refine y_ist8_3 dX11_flours_144 rfl ?_
            refine y_iinc8_5 dX11_flours_145 (nI_1 _) rfl ?_
            refine y_goto (tgt := 44) dX11_flours_148 (by decide) ?_
            have key : ∀ s b w0 : Int32, s = (if N k = 0 then sh1 k else 0) → b = (if W k ≤ (fl3 (m 246) W N k).2.2 then (fl3 (m 246) W N k).2.1 else 0) ||| (if W k = gtr (fl3 (m 246) W N k).2.2 (W k) then sh1 k else 0) → w0 = gtr (fl3 (m 246) W N k).2.2 (W k) → sV (scT L xs) (d + 6) "LoafFall" cX11_flours 8 (some .int) Q 44 [some (.ref 0), some (.int (nI g)), some (.int ((fl3 (m 246) W N k).1 ||| s)), some (.int b), some (.int w0), some (.int (nI (k + 1))), some (.ref 43), some (.int (W k))] [] m4 n := fun s b w0 e1 e2 e3 => by
              have := hP m4 (some (.ref 43)) (some (.int (W k))) rfl fr4 a4'
              rw [fl3_y (W := W) (N := N) tk e1 e2, ← e3] at this
              exact this
            refine key _ _ _ ?_ ?_ ?_
            · first | exact (if_pos h101).symm | exact (if_neg h101).symm
            · first
                | exact absurd rfl h132
                | (rw [if_pos h118, gtr_a h118, if_pos h132]; rfl)
                | (rw [if_pos h118, gtr_a h118, if_neg h132])
                | (rw [if_neg h118, gtr_b h118, if_pos rfl]; rfl)
            · first | exact (gtr_a h118).symm | exact (gtr_b h118).symm
          · refine y_iconst (v := 1) dX11_flours_135 (by decide) ?_
            refine y_iload dX11_flours_136 rfl ?_
            refine y_ishl dX11_flours_138 ?_
            refine y_goto (tgt := 143) dX11_flours_139 (by decide) ?_
            refine y_ior dX11_flours_143 ?_
            refine y_ist8_3 dX11_flours_144 rfl ?_
            refine y_iinc8_5 dX11_flours_145 (nI_1 _) rfl ?_
            refine y_goto (tgt := 44) dX11_flours_148 (by decide) ?_
            have key : ∀ s b w0 : Int32, s = (if N k = 0 then sh1 k else 0) → b = (if W k ≤ (fl3 (m 246) W N k).2.2 then (fl3 (m 246) W N k).2.1 else 0) ||| (if W k = gtr (fl3 (m 246) W N k).2.2 (W k) then sh1 k else 0) → w0 = gtr (fl3 (m 246) W N k).2.2 (W k) → sV (scT L xs) (d + 6) "LoafFall" cX11_flours 8 (some .int) Q 44 [some (.ref 0), some (.int (nI g)), some (.int ((fl3 (m 246) W N k).1 ||| s)), some (.int b), some (.int w0), some (.int (nI (k + 1))), some (.ref 43), some (.int (W k))] [] m4 n := fun s b w0 e1 e2 e3 => by
              have := hP m4 (some (.ref 43)) (some (.int (W k))) rfl fr4 a4'
              rw [fl3_y (W := W) (N := N) tk e1 e2, ← e3] at this
              exact this
            refine key _ _ _ ?_ ?_ ?_
            · first | exact (if_pos h101).symm | exact (if_neg h101).symm
            · first
                | exact absurd rfl h132
                | (rw [if_pos h118, gtr_a h118, if_pos h132]; rfl)
                | (rw [if_pos h118, gtr_a h118, if_neg h132])
                | (rw [if_neg h118, gtr_b h118, if_pos rfl]; rfl)
            · first | exact (gtr_a h118).symm | exact (gtr_b h118).symm
      · refine y_iconst (v := 1) dX11_flours_104 (by decide) ?_
        refine y_iload dX11_flours_105 rfl ?_
        refine y_ishl dX11_flours_107 ?_
        refine y_goto (tgt := 112) dX11_flours_108 (by decide) ?_
        refine y_ior dX11_flours_112 ?_
        refine y_ist8_2 dX11_flours_113 rfl ?_
        refine y_iload dX11_flours_114 rfl ?_
        refine y_iload dX11_flours_116 rfl ?_
        refine y_icmp_le (tgt := 127) dX11_flours_118 (by decide) (fun h118 => ?_) (fun h118 => ?_)
        · refine y_iload_n dX11_flours_127 rfl rfl ?_
          refine y_iload dX11_flours_128 rfl ?_
          refine y_iload dX11_flours_130 rfl ?_
          refine y_icmp_ne (tgt := 142) dX11_flours_132 (by decide) (fun h132 => ?_) (fun h132 => ?_)
          · refine y_iconst (v := 0) dX11_flours_142 (by decide) ?_
            refine y_ior dX11_flours_143 ?_
            refine y_ist8_3 dX11_flours_144 rfl ?_
            refine y_iinc8_5 dX11_flours_145 (nI_1 _) rfl ?_
            refine y_goto (tgt := 44) dX11_flours_148 (by decide) ?_
            have key : ∀ s b w0 : Int32, s = (if N k = 0 then sh1 k else 0) → b = (if W k ≤ (fl3 (m 246) W N k).2.2 then (fl3 (m 246) W N k).2.1 else 0) ||| (if W k = gtr (fl3 (m 246) W N k).2.2 (W k) then sh1 k else 0) → w0 = gtr (fl3 (m 246) W N k).2.2 (W k) → sV (scT L xs) (d + 6) "LoafFall" cX11_flours 8 (some .int) Q 44 [some (.ref 0), some (.int (nI g)), some (.int ((fl3 (m 246) W N k).1 ||| s)), some (.int b), some (.int w0), some (.int (nI (k + 1))), some (.ref 43), some (.int (W k))] [] m4 n := fun s b w0 e1 e2 e3 => by
              have := hP m4 (some (.ref 43)) (some (.int (W k))) rfl fr4 a4'
              rw [fl3_y (W := W) (N := N) tk e1 e2, ← e3] at this
              exact this
            refine key _ _ _ ?_ ?_ ?_
            · first | exact (if_pos h101).symm | exact (if_neg h101).symm
            · first
                | exact absurd rfl h132
                | (rw [if_pos h118, gtr_a h118, if_pos h132]; rfl)
                | (rw [if_pos h118, gtr_a h118, if_neg h132])
                | (rw [if_neg h118, gtr_b h118, if_pos rfl]; rfl)
            · first | exact (gtr_a h118).symm | exact (gtr_b h118).symm
          · refine y_iconst (v := 1) dX11_flours_135 (by decide) ?_
            refine y_iload dX11_flours_136 rfl ?_
            refine y_ishl dX11_flours_138 ?_
            refine y_goto (tgt := 143) dX11_flours_139 (by decide) ?_
            refine y_ior dX11_flours_143 ?_
            refine y_ist8_3 dX11_flours_144 rfl ?_
            refine y_iinc8_5 dX11_flours_145 (nI_1 _) rfl ?_
            refine y_goto (tgt := 44) dX11_flours_148 (by decide) ?_
            have key : ∀ s b w0 : Int32, s = (if N k = 0 then sh1 k else 0) → b = (if W k ≤ (fl3 (m 246) W N k).2.2 then (fl3 (m 246) W N k).2.1 else 0) ||| (if W k = gtr (fl3 (m 246) W N k).2.2 (W k) then sh1 k else 0) → w0 = gtr (fl3 (m 246) W N k).2.2 (W k) → sV (scT L xs) (d + 6) "LoafFall" cX11_flours 8 (some .int) Q 44 [some (.ref 0), some (.int (nI g)), some (.int ((fl3 (m 246) W N k).1 ||| s)), some (.int b), some (.int w0), some (.int (nI (k + 1))), some (.ref 43), some (.int (W k))] [] m4 n := fun s b w0 e1 e2 e3 => by
              have := hP m4 (some (.ref 43)) (some (.int (W k))) rfl fr4 a4'
              rw [fl3_y (W := W) (N := N) tk e1 e2, ← e3] at this
              exact this
            refine key _ _ _ ?_ ?_ ?_
            · first | exact (if_pos h101).symm | exact (if_neg h101).symm
            · first
                | exact absurd rfl h132
                | (rw [if_pos h118, gtr_a h118, if_pos h132]; rfl)
                | (rw [if_pos h118, gtr_a h118, if_neg h132])
                | (rw [if_neg h118, gtr_b h118, if_pos rfl]; rfl)
            · first | exact (gtr_a h118).symm | exact (gtr_b h118).symm
        · refine y_iload dX11_flours_121 rfl ?_
          refine y_ist8_4 dX11_flours_123 rfl ?_
          refine y_iconst (v := 0) dX11_flours_125 (by decide) ?_
          refine y_ist8_3 dX11_flours_126 rfl ?_
          refine y_iload_n dX11_flours_127 rfl rfl ?_
          refine y_iload dX11_flours_128 rfl ?_
          refine y_iload dX11_flours_130 rfl ?_
          refine y_icmp_ne (tgt := 142) dX11_flours_132 (by decide) (fun h132 => ?_) (fun h132 => ?_)
          · refine y_iconst (v := 0) dX11_flours_142 (by decide) ?_
            refine y_ior dX11_flours_143 ?_
            refine y_ist8_3 dX11_flours_144 rfl ?_
            refine y_iinc8_5 dX11_flours_145 (nI_1 _) rfl ?_
            refine y_goto (tgt := 44) dX11_flours_148 (by decide) ?_
            have key : ∀ s b w0 : Int32, s = (if N k = 0 then sh1 k else 0) → b = (if W k ≤ (fl3 (m 246) W N k).2.2 then (fl3 (m 246) W N k).2.1 else 0) ||| (if W k = gtr (fl3 (m 246) W N k).2.2 (W k) then sh1 k else 0) → w0 = gtr (fl3 (m 246) W N k).2.2 (W k) → sV (scT L xs) (d + 6) "LoafFall" cX11_flours 8 (some .int) Q 44 [some (.ref 0), some (.int (nI g)), some (.int ((fl3 (m 246) W N k).1 ||| s)), some (.int b), some (.int w0), some (.int (nI (k + 1))), some (.ref 43), some (.int (W k))] [] m4 n := fun s b w0 e1 e2 e3 => by
              have := hP m4 (some (.ref 43)) (some (.int (W k))) rfl fr4 a4'
              rw [fl3_y (W := W) (N := N) tk e1 e2, ← e3] at this
              exact this
            refine key _ _ _ ?_ ?_ ?_
            · first | exact (if_pos h101).symm | exact (if_neg h101).symm
            · first
                | exact absurd rfl h132
                | (rw [if_pos h118, gtr_a h118, if_pos h132]; rfl)
                | (rw [if_pos h118, gtr_a h118, if_neg h132])
                | (rw [if_neg h118, gtr_b h118, if_pos rfl]; rfl)
            · first | exact (gtr_a h118).symm | exact (gtr_b h118).symm
          · refine y_iconst (v := 1) dX11_flours_135 (by decide) ?_
            refine y_iload dX11_flours_136 rfl ?_
            refine y_ishl dX11_flours_138 ?_
            refine y_goto (tgt := 143) dX11_flours_139 (by decide) ?_
            refine y_ior dX11_flours_143 ?_
            refine y_ist8_3 dX11_flours_144 rfl ?_
            refine y_iinc8_5 dX11_flours_145 (nI_1 _) rfl ?_
            refine y_goto (tgt := 44) dX11_flours_148 (by decide) ?_
            have key : ∀ s b w0 : Int32, s = (if N k = 0 then sh1 k else 0) → b = (if W k ≤ (fl3 (m 246) W N k).2.2 then (fl3 (m 246) W N k).2.1 else 0) ||| (if W k = gtr (fl3 (m 246) W N k).2.2 (W k) then sh1 k else 0) → w0 = gtr (fl3 (m 246) W N k).2.2 (W k) → sV (scT L xs) (d + 6) "LoafFall" cX11_flours 8 (some .int) Q 44 [some (.ref 0), some (.int (nI g)), some (.int ((fl3 (m 246) W N k).1 ||| s)), some (.int b), some (.int w0), some (.int (nI (k + 1))), some (.ref 43), some (.int (W k))] [] m4 n := fun s b w0 e1 e2 e3 => by
              have := hP m4 (some (.ref 43)) (some (.int (W k))) rfl fr4 a4'
              rw [fl3_y (W := W) (N := N) tk e1 e2, ← e3] at this
              exact this
            refine key _ _ _ ?_ ?_ ?_
            · first | exact (if_pos h101).symm | exact (if_neg h101).symm
            · first
                | exact absurd rfl h132
                | (rw [if_pos h118, gtr_a h118, if_pos h132]; rfl)
                | (rw [if_pos h118, gtr_a h118, if_neg h132])
                | (rw [if_neg h118, gtr_b h118, if_pos rfl]; rfl)
            · first | exact (gtr_a h118).symm | exact (gtr_b h118).symm
    · refine y_goto (tgt := 145) dX11_flours_63 (by decide) ?_
      refine y_iinc8_5 dX11_flours_145 (nI_1 _) rfl ?_
      refine y_goto (tgt := 44) dX11_flours_148 (by decide) ?_
      rw [fl3_n (W := W) (N := N) ((h.fx hk).1 h60)] at hP
      exact hP m' _ _ ha6 v1 v2
theorem cnt_0 {f : Nat → Int32} : ∀ k, (∀ j, j < k → f j = 0) → cntZ f k = 0 := by
  intro k
  induction k with
  | zero => intro _; rfl
  | succ k ih => intro h; rw [cntZ_p (h k (by omega)), ih (fun j hj => h j (by omega))]; rfl
theorem cnt_e {f : Nat → Int32} : ∀ k, k ≤ 100 → (∃ u : Nat, u ≤ k ∧ cntZ f k = nI u) ∧ (cntZ f k = 0 → ∀ j, j < k → f j = 0) := by
  intro k
  induction k with
  | zero => intro _; exact ⟨⟨0, Nat.le_refl _, nI_0.symm⟩, fun _ j hj => absurd hj (by omega)⟩
  | succ k ih =>
    intro hk
    obtain ⟨⟨u, u1, u2⟩, h2⟩ := ih (by omega)
    by_cases z : f k = 0
    · rw [cntZ_p z, Int32.add_zero]
      refine ⟨⟨u, by omega, u2⟩, fun e j hj => ?_⟩
      by_cases y : j = k
      · rw [y]; exact z
      · exact h2 e j (by omega)
    · rw [cntZ_n z, u2, nI_1]
      exact ⟨⟨u + 1, by omega, rfl⟩, fun e => absurd e (nI_ne0 (by omega) (by omega))⟩
set_option maxHeartbeats 1000000 in
theorem c_X12_flours_ok {L : Nat} {xs : Nat → Int32} {d : Nat} {m : sM} {n : sN} {Q : sQ} {g : Nat} {x : Int32} (hx : x = nI g) (hg : g < 4) (d1 : ¬ m 248 g = 0) (f1 : ¬ cntZ (m 246) 4 = 0) (hD : ∀ k, k < 4 → ¬ m 246 k = 0 → dOK (bo m k g)) (hQ : ∀ M, WM m M → Q (some (.int (fl3 (m 246) (wF m g) (nF m g) 4).1)) (tellsM M (fl3 (m 246) (wF m g) (nF m g) 4).2.1) n) : sRun (scT L xs) (d + 10) yX12_flours cX12_flours 7 (some .int) [.ref 239, .int x] m n Q := by
  subst hx
  obtain ⟨W, hW⟩ : ∃ W, W = wF m g := ⟨_, rfl⟩
  obtain ⟨N, hN⟩ : ∃ N, N = nF m g := ⟨_, rfl⟩
  rw [← hW, ← hN] at hQ
  refine y_run (own := "LoafFallModel") rfl (by decide +kernel) (Nat.le_of_ble_eq_true rfl) rfl ?_
  refine y_iload_n dX12_flours_0 rfl rfl ?_
  refine y_isI1 dX12_flours_1 ms_X12_151 my_X12_isPlace (Or.inl rfl) ?_
  refine c_X12_isPlace (fun _ => ⟨_, rfl, ?_⟩) (fun z => absurd (⟨g, hg, rfl⟩ : inN (nI g) 4) z)
  refine y_if_ne (tgt := 9) dX12_flours_4 (by decide) (fun h4 => ?_) (fun h4 => absurd h4 (by decide))
  refine y_iconst (v := 0) dX12_flours_9 (by decide) ?_
  refine y_ist7_2 dX12_flours_10 rfl ?_
  refine y_iconst (v := 0) dX12_flours_11 (by decide) ?_
  refine y_ist7_3 dX12_flours_12 rfl ?_
  refine cnt (P := fun k => ∀ any : Int32, (any = 0 ↔ ∀ j, j < k → m 246 j = 0) → sV (scT L xs) (d + 9) "LoafFallModel" cX12_flours 7 (some .int) Q 13 [some (.ref 239), some (.int (nI g)), some (.int any), some (.int (nI k)), none, none, none] [] m n) 4 ?_ ?_ 0 (by omega) 0 ⟨fun _ j hj => absurd hj (by omega), fun _ => rfl⟩
  · intro any ha
    refine y_iload_n dX12_flours_13 rfl rfl ?_
    refine y_iconst (v := 4) dX12_flours_14 (by decide) ?_
    refine y_icmp_ge (tgt := 43) dX12_flours_15 (by decide) (fun h15 => ?_) (fun h15 => absurd (nI_le (a := 4) (b := 4) (Nat.le_refl _) (by decide)) h15)
    have hany : ¬ any = 0 := fun z => f1 (cnt_0 4 (ha.mp z))
    refine y_aload_n dX12_flours_43 rfl rfl ?_
    refine y_getr dX12_flours_44 gf_X12_36 sh_239 rfl ?_
    refine y_iload_n dX12_flours_47 rfl rfl ?_
    refine y_zaldN dX12_flours_48 sh_248 rfl (by first | omega | decide) (by decide) ?_
    refine y_if_eq (tgt := 56) dX12_flours_49 (by decide) (fun h49 => absurd h49 d1) (fun h49 => ?_)
    refine y_iload_n dX12_flours_52 rfl rfl ?_
    refine y_if_ne (tgt := 62) dX12_flours_53 (by decide) (fun h53 => ?_) (fun h53 => absurd h53 hany)
    refine y_iconst (v := 0) dX12_flours_62 (by decide) ?_
    refine y_ist7_3 dX12_flours_63 rfl ?_
    refine y_iconst (v := 0) dX12_flours_64 (by decide) ?_
    refine y_ist7_4 dX12_flours_65 rfl ?_
    refine y_iconst (v := -1) dX12_flours_67 (by decide) ?_
    refine y_ist7_5 dX12_flours_68 rfl ?_
    refine y_iconst (v := 0) dX12_flours_70 (by decide) ?_
    refine y_ist7_6 dX12_flours_71 rfl ?_
    refine cnt (P := fun k => ∀ M, WM m M → sV (scT L xs) (d + 9) "LoafFallModel" cX12_flours 7 (some .int) Q 73 [some (.ref 239), some (.int (nI g)), some (.int any), some (.int (fl3 (m 246) W N k).1), some (.int (fl3 (m 246) W N k).2.1), some (.int (fl3 (m 246) W N k).2.2), some (.int (nI k))] [] M n) 4 ?_ ?_ 0 (by omega) m (Or.inl rfl)
    · intro M hWm
      refine y_iload dX12_flours_73 rfl ?_
      refine y_iconst (v := 4) dX12_flours_75 (by decide) ?_
      refine y_icmp_ge (tgt := 174) dX12_flours_76 (by decide) (fun h76 => ?_) (fun h76 => absurd (nI_le (a := 4) (b := 4) (Nat.le_refl _) (by decide)) h76)
      refine y_aload_n dX12_flours_174 rfl rfl ?_
      refine y_iload dX12_flours_175 rfl ?_
      refine y_iload_n dX12_flours_177 rfl rfl ?_
      refine y_ivI2 dX12_flours_178 mv_X12_108 my_X12_tells (Or.inl rfl) sh_239 ?_
      refine c_X12_tells ⟨_, rfl, ?_⟩
      refine y_ireturn dX12_flours_181 rfl rfl ?_
      exact hQ M hWm
    · intro k hk hP
      intro M hWm
      refine y_iload dX12_flours_73 rfl ?_
      refine y_iconst (v := 4) dX12_flours_75 (by decide) ?_
      refine y_icmp_ge (tgt := 174) dX12_flours_76 (by decide) (fun h76 => absurd h76 (nI_ge (a := k) (b := 4) hk (by decide))) (fun h76 => ?_)
      refine y_aload_n dX12_flours_79 rfl rfl ?_
      refine y_getr dX12_flours_80 gf_X12_29 sh_239 rfl ?_
      refine y_iload dX12_flours_83 rfl ?_
      refine y_zaldN dX12_flours_85 sh_246 rfl (by first | omega | decide) (by decide) ?_
      rw [hWm.fr.1 246 (by omega)]
      refine y_if_eq (tgt := 168) dX12_flours_86 (by decide) (fun h86 => ?_) (fun h86 => ?_)
      · refine y_iinc7_6 dX12_flours_168 (nI_1 _) rfl ?_
        refine y_goto (tgt := 73) dX12_flours_171 (by decide) ?_
        first
          | (rw [fl3_n (W := W) (N := N) h86] at hP; exact hP _ hWm)
          | (have key : ∀ s b w0 : Int32, s = (if N k = 0 then sh1 k else 0) → b = (if W k ≤ (fl3 (m 246) W N k).2.2 then (fl3 (m 246) W N k).2.1 else 0) ||| (if W k = gtr (fl3 (m 246) W N k).2.2 (W k) then sh1 k else 0) → w0 = gtr (fl3 (m 246) W N k).2.2 (W k) → sV (scT L xs) (d + 9) "LoafFallModel" cX12_flours 7 (some .int) Q 73 [some (.ref 239), some (.int (nI g)), some (.int any), some (.int ((fl3 (m 246) W N k).1 ||| s)), some (.int b), some (.int w0), some (.int (nI (k + 1)))] [] (stR (wkM m 1316) h' 1316 (BV (bothR m k g X))) n := fun s b w0 e1 e2 e3 => by
               have := hP _ (WM.st (h := h') (R := BV (bothR m k g X)))
               rw [fl3_y (W := W) (N := N) h86 e1 e2, ← e3] at this
               exact this
             refine key _ _ _ ?_ ?_ rfl
             · first | exact (if_pos h105).symm | exact (if_neg h105).symm
             · first
                 | (rw [if_pos h124, if_pos h154]; rfl)
                 | (rw [if_pos h124, if_neg h154])
                 | (rw [if_neg h124, if_pos h154]; rfl)
                 | (rw [if_neg h124, if_neg h154]))
      · have hDk := hD k hk h86
        refine y_aload_n dX12_flours_89 rfl rfl ?_
        refine y_iload dX12_flours_90 rfl ?_
        refine y_iload_n dX12_flours_92 rfl rfl ?_
        refine y_ivV2 dX12_flours_93 mv_X12_260 my_X12_layBoth (Or.inl rfl) sh_239 ?_
        refine c_layBoth (f := k) (g := g) hWm rfl hk rfl hg (fun hh X => ⟨rfl, ?_⟩)
        have hDX : dOK (bothR m k g X) := d_eq hDk (fun p h1 h2 => bo_X h2)
        have eq := eqD_36 hDk.2.1 (fun p hp => bo_X (X := X) (m := m) (f := k) (g := g) hp)
        have eW : worthF (BV (bothR m k g X)) = W k := by rw [hW]; exact WV_congr hDk hDX eq
        have eN : tornS (BV (bothR m k g X)) 24 = N k := by rw [hN]; exact NV_congr hDk hDX eq
        refine y_aload_n dX12_flours_96 rfl rfl ?_
        refine y_ivV0 dX12_flours_97 mv_X12_263 my_X12_bakes (Or.inl rfl) sh_239 ?_
        refine c_bakesW (wk_b (by omega)) hDX (fun h' => ⟨rfl, ?_⟩)
        refine y_iload_n dX12_flours_100 rfl rfl ?_
        refine y_aload_n dX12_flours_101 rfl rfl ?_
        refine y_ivI0 dX12_flours_102 mv_X12_244 my_X12_tornMany (Or.inl rfl) sh_239 ?_
        refine c_X12_tornMany (wk_b (by omega)) ⟨_, rfl, ?_⟩
        rw [eN]
        refine y_if_ne (tgt := 115) dX12_flours_105 (by decide) (fun h105 => ?_) (fun h105 => ?_)
        · refine y_iconst (v := 0) dX12_flours_115 (by decide) ?_
          refine y_ior dX12_flours_116 ?_
          refine y_ist7_3 dX12_flours_117 rfl ?_
          refine y_aload_n dX12_flours_118 rfl rfl ?_
          refine y_ivI0 dX12_flours_119 mv_X12_247 my_X12_worthNow (Or.inl rfl) sh_239 ?_
          refine c_X12_worthNow (wk_b (by omega)) ⟨_, rfl, ?_⟩
          rw [eW]
          refine y_iload dX12_flours_122 rfl ?_
          refine y_icmp_le (tgt := 131) dX12_flours_124 (by decide) (fun h124 => ?_) (fun h124 => ?_)
          · refine y_iload dX12_flours_131 rfl ?_
            refine y_ist7_4 dX12_flours_133 rfl ?_
            refine y_iload dX12_flours_135 rfl ?_
            refine y_aload_n dX12_flours_137 rfl rfl ?_
            refine y_ivI0 dX12_flours_138 mv_X12_247 my_X12_worthNow (Or.inl rfl) sh_239 ?_
            refine c_X12_worthNow (wk_b (by omega)) ⟨_, rfl, ?_⟩
            rw [eW]
            refine y_isI2 dX12_flours_141 ms_X12_197 my_X12_greater (Or.inl rfl) ?_
            refine c_X12_greater ⟨_, rfl, ?_⟩
            refine y_ist7_5 dX12_flours_144 rfl ?_
            refine y_iload dX12_flours_146 rfl ?_
            refine y_aload_n dX12_flours_148 rfl rfl ?_
            refine y_ivI0 dX12_flours_149 mv_X12_247 my_X12_worthNow (Or.inl rfl) sh_239 ?_
            refine c_X12_worthNow (wk_b (by omega)) ⟨_, rfl, ?_⟩
            rw [eW]
            refine y_iload dX12_flours_152 rfl ?_
            refine y_icmp_ne (tgt := 164) dX12_flours_154 (by decide) (fun h154 => ?_) (fun h154 => ?_)
            · refine y_iconst (v := 0) dX12_flours_164 (by decide) ?_
              refine y_ior dX12_flours_165 ?_
              refine y_ist7_4 dX12_flours_166 rfl ?_
              refine y_iinc7_6 dX12_flours_168 (nI_1 _) rfl ?_
              refine y_goto (tgt := 73) dX12_flours_171 (by decide) ?_
              first
                | (rw [fl3_n (W := W) (N := N) h86] at hP; exact hP _ hWm)
                | (have key : ∀ s b w0 : Int32, s = (if N k = 0 then sh1 k else 0) → b = (if W k ≤ (fl3 (m 246) W N k).2.2 then (fl3 (m 246) W N k).2.1 else 0) ||| (if W k = gtr (fl3 (m 246) W N k).2.2 (W k) then sh1 k else 0) → w0 = gtr (fl3 (m 246) W N k).2.2 (W k) → sV (scT L xs) (d + 9) "LoafFallModel" cX12_flours 7 (some .int) Q 73 [some (.ref 239), some (.int (nI g)), some (.int any), some (.int ((fl3 (m 246) W N k).1 ||| s)), some (.int b), some (.int w0), some (.int (nI (k + 1)))] [] (stR (wkM m 1316) h' 1316 (BV (bothR m k g X))) n := fun s b w0 e1 e2 e3 => by
                     have := hP _ (WM.st (h := h') (R := BV (bothR m k g X)))
                     rw [fl3_y (W := W) (N := N) h86 e1 e2, ← e3] at this
                     exact this
                   refine key _ _ _ ?_ ?_ rfl
                   · first | exact (if_pos h105).symm | exact (if_neg h105).symm
                   · first
                       | (rw [if_pos h124, if_pos h154]; rfl)
                       | (rw [if_pos h124, if_neg h154])
                       | (rw [if_neg h124, if_pos h154]; rfl)
                       | (rw [if_neg h124, if_neg h154]))
            · refine y_iconst (v := 1) dX12_flours_157 (by decide) ?_
              refine y_iload dX12_flours_158 rfl ?_
              refine y_ishl dX12_flours_160 ?_
              refine y_goto (tgt := 165) dX12_flours_161 (by decide) ?_
              refine y_ior dX12_flours_165 ?_
              refine y_ist7_4 dX12_flours_166 rfl ?_
              refine y_iinc7_6 dX12_flours_168 (nI_1 _) rfl ?_
              refine y_goto (tgt := 73) dX12_flours_171 (by decide) ?_
              first
                | (rw [fl3_n (W := W) (N := N) h86] at hP; exact hP _ hWm)
                | (have key : ∀ s b w0 : Int32, s = (if N k = 0 then sh1 k else 0) → b = (if W k ≤ (fl3 (m 246) W N k).2.2 then (fl3 (m 246) W N k).2.1 else 0) ||| (if W k = gtr (fl3 (m 246) W N k).2.2 (W k) then sh1 k else 0) → w0 = gtr (fl3 (m 246) W N k).2.2 (W k) → sV (scT L xs) (d + 9) "LoafFallModel" cX12_flours 7 (some .int) Q 73 [some (.ref 239), some (.int (nI g)), some (.int any), some (.int ((fl3 (m 246) W N k).1 ||| s)), some (.int b), some (.int w0), some (.int (nI (k + 1)))] [] (stR (wkM m 1316) h' 1316 (BV (bothR m k g X))) n := fun s b w0 e1 e2 e3 => by
                     have := hP _ (WM.st (h := h') (R := BV (bothR m k g X)))
                     rw [fl3_y (W := W) (N := N) h86 e1 e2, ← e3] at this
                     exact this
                   refine key _ _ _ ?_ ?_ rfl
                   · first | exact (if_pos h105).symm | exact (if_neg h105).symm
                   · first
                       | (rw [if_pos h124, if_pos h154]; rfl)
                       | (rw [if_pos h124, if_neg h154])
                       | (rw [if_neg h124, if_pos h154]; rfl)
                       | (rw [if_neg h124, if_neg h154]))
          · refine y_iconst (v := 0) dX12_flours_127 (by decide) ?_
            refine y_goto (tgt := 133) dX12_flours_128 (by decide) ?_
            refine y_ist7_4 dX12_flours_133 rfl ?_
            refine y_iload dX12_flours_135 rfl ?_
            refine y_aload_n dX12_flours_137 rfl rfl ?_
            refine y_ivI0 dX12_flours_138 mv_X12_247 my_X12_worthNow (Or.inl rfl) sh_239 ?_
            refine c_X12_worthNow (wk_b (by omega)) ⟨_, rfl, ?_⟩
            rw [eW]
            refine y_isI2 dX12_flours_141 ms_X12_197 my_X12_greater (Or.inl rfl) ?_
            refine c_X12_greater ⟨_, rfl, ?_⟩
            refine y_ist7_5 dX12_flours_144 rfl ?_
            refine y_iload dX12_flours_146 rfl ?_
            refine y_aload_n dX12_flours_148 rfl rfl ?_
            refine y_ivI0 dX12_flours_149 mv_X12_247 my_X12_worthNow (Or.inl rfl) sh_239 ?_
            refine c_X12_worthNow (wk_b (by omega)) ⟨_, rfl, ?_⟩
            rw [eW]
            refine y_iload dX12_flours_152 rfl ?_
            refine y_icmp_ne (tgt := 164) dX12_flours_154 (by decide) (fun h154 => ?_) (fun h154 => ?_)
            · refine y_iconst (v := 0) dX12_flours_164 (by decide) ?_
              refine y_ior dX12_flours_165 ?_
              refine y_ist7_4 dX12_flours_166 rfl ?_
              refine y_iinc7_6 dX12_flours_168 (nI_1 _) rfl ?_
              refine y_goto (tgt := 73) dX12_flours_171 (by decide) ?_
              first
                | (rw [fl3_n (W := W) (N := N) h86] at hP; exact hP _ hWm)
                | (have key : ∀ s b w0 : Int32, s = (if N k = 0 then sh1 k else 0) → b = (if W k ≤ (fl3 (m 246) W N k).2.2 then (fl3 (m 246) W N k).2.1 else 0) ||| (if W k = gtr (fl3 (m 246) W N k).2.2 (W k) then sh1 k else 0) → w0 = gtr (fl3 (m 246) W N k).2.2 (W k) → sV (scT L xs) (d + 9) "LoafFallModel" cX12_flours 7 (some .int) Q 73 [some (.ref 239), some (.int (nI g)), some (.int any), some (.int ((fl3 (m 246) W N k).1 ||| s)), some (.int b), some (.int w0), some (.int (nI (k + 1)))] [] (stR (wkM m 1316) h' 1316 (BV (bothR m k g X))) n := fun s b w0 e1 e2 e3 => by
                     have := hP _ (WM.st (h := h') (R := BV (bothR m k g X)))
                     rw [fl3_y (W := W) (N := N) h86 e1 e2, ← e3] at this
                     exact this
                   refine key _ _ _ ?_ ?_ rfl
                   · first | exact (if_pos h105).symm | exact (if_neg h105).symm
                   · first
                       | (rw [if_pos h124, if_pos h154]; rfl)
                       | (rw [if_pos h124, if_neg h154])
                       | (rw [if_neg h124, if_pos h154]; rfl)
                       | (rw [if_neg h124, if_neg h154]))
            · refine y_iconst (v := 1) dX12_flours_157 (by decide) ?_
              refine y_iload dX12_flours_158 rfl ?_
              refine y_ishl dX12_flours_160 ?_
              refine y_goto (tgt := 165) dX12_flours_161 (by decide) ?_
              refine y_ior dX12_flours_165 ?_
              refine y_ist7_4 dX12_flours_166 rfl ?_
              refine y_iinc7_6 dX12_flours_168 (nI_1 _) rfl ?_
              refine y_goto (tgt := 73) dX12_flours_171 (by decide) ?_
              first
                | (rw [fl3_n (W := W) (N := N) h86] at hP; exact hP _ hWm)
                | (have key : ∀ s b w0 : Int32, s = (if N k = 0 then sh1 k else 0) → b = (if W k ≤ (fl3 (m 246) W N k).2.2 then (fl3 (m 246) W N k).2.1 else 0) ||| (if W k = gtr (fl3 (m 246) W N k).2.2 (W k) then sh1 k else 0) → w0 = gtr (fl3 (m 246) W N k).2.2 (W k) → sV (scT L xs) (d + 9) "LoafFallModel" cX12_flours 7 (some .int) Q 73 [some (.ref 239), some (.int (nI g)), some (.int any), some (.int ((fl3 (m 246) W N k).1 ||| s)), some (.int b), some (.int w0), some (.int (nI (k + 1)))] [] (stR (wkM m 1316) h' 1316 (BV (bothR m k g X))) n := fun s b w0 e1 e2 e3 => by
                     have := hP _ (WM.st (h := h') (R := BV (bothR m k g X)))
                     rw [fl3_y (W := W) (N := N) h86 e1 e2, ← e3] at this
                     exact this
                   refine key _ _ _ ?_ ?_ rfl
                   · first | exact (if_pos h105).symm | exact (if_neg h105).symm
                   · first
                       | (rw [if_pos h124, if_pos h154]; rfl)
                       | (rw [if_pos h124, if_neg h154])
                       | (rw [if_neg h124, if_pos h154]; rfl)
                       | (rw [if_neg h124, if_neg h154]))
        · refine y_iconst (v := 1) dX12_flours_108 (by decide) ?_
          refine y_iload dX12_flours_109 rfl ?_
          refine y_ishl dX12_flours_111 ?_
          refine y_goto (tgt := 116) dX12_flours_112 (by decide) ?_
          refine y_ior dX12_flours_116 ?_
          refine y_ist7_3 dX12_flours_117 rfl ?_
          refine y_aload_n dX12_flours_118 rfl rfl ?_
          refine y_ivI0 dX12_flours_119 mv_X12_247 my_X12_worthNow (Or.inl rfl) sh_239 ?_
          refine c_X12_worthNow (wk_b (by omega)) ⟨_, rfl, ?_⟩
          rw [eW]
          refine y_iload dX12_flours_122 rfl ?_
          refine y_icmp_le (tgt := 131) dX12_flours_124 (by decide) (fun h124 => ?_) (fun h124 => ?_)
          · refine y_iload dX12_flours_131 rfl ?_
            refine y_ist7_4 dX12_flours_133 rfl ?_
            refine y_iload dX12_flours_135 rfl ?_
            refine y_aload_n dX12_flours_137 rfl rfl ?_
            refine y_ivI0 dX12_flours_138 mv_X12_247 my_X12_worthNow (Or.inl rfl) sh_239 ?_
            refine c_X12_worthNow (wk_b (by omega)) ⟨_, rfl, ?_⟩
            rw [eW]
            refine y_isI2 dX12_flours_141 ms_X12_197 my_X12_greater (Or.inl rfl) ?_
            refine c_X12_greater ⟨_, rfl, ?_⟩
            refine y_ist7_5 dX12_flours_144 rfl ?_
            refine y_iload dX12_flours_146 rfl ?_
            refine y_aload_n dX12_flours_148 rfl rfl ?_
            refine y_ivI0 dX12_flours_149 mv_X12_247 my_X12_worthNow (Or.inl rfl) sh_239 ?_
            refine c_X12_worthNow (wk_b (by omega)) ⟨_, rfl, ?_⟩
            rw [eW]
            refine y_iload dX12_flours_152 rfl ?_
            refine y_icmp_ne (tgt := 164) dX12_flours_154 (by decide) (fun h154 => ?_) (fun h154 => ?_)
            · refine y_iconst (v := 0) dX12_flours_164 (by decide) ?_
              refine y_ior dX12_flours_165 ?_
              refine y_ist7_4 dX12_flours_166 rfl ?_
              refine y_iinc7_6 dX12_flours_168 (nI_1 _) rfl ?_
              refine y_goto (tgt := 73) dX12_flours_171 (by decide) ?_
              first
                | (rw [fl3_n (W := W) (N := N) h86] at hP; exact hP _ hWm)
                | (have key : ∀ s b w0 : Int32, s = (if N k = 0 then sh1 k else 0) → b = (if W k ≤ (fl3 (m 246) W N k).2.2 then (fl3 (m 246) W N k).2.1 else 0) ||| (if W k = gtr (fl3 (m 246) W N k).2.2 (W k) then sh1 k else 0) → w0 = gtr (fl3 (m 246) W N k).2.2 (W k) → sV (scT L xs) (d + 9) "LoafFallModel" cX12_flours 7 (some .int) Q 73 [some (.ref 239), some (.int (nI g)), some (.int any), some (.int ((fl3 (m 246) W N k).1 ||| s)), some (.int b), some (.int w0), some (.int (nI (k + 1)))] [] (stR (wkM m 1316) h' 1316 (BV (bothR m k g X))) n := fun s b w0 e1 e2 e3 => by
                     have := hP _ (WM.st (h := h') (R := BV (bothR m k g X)))
                     rw [fl3_y (W := W) (N := N) h86 e1 e2, ← e3] at this
                     exact this
                   refine key _ _ _ ?_ ?_ rfl
                   · first | exact (if_pos h105).symm | exact (if_neg h105).symm
                   · first
                       | (rw [if_pos h124, if_pos h154]; rfl)
                       | (rw [if_pos h124, if_neg h154])
                       | (rw [if_neg h124, if_pos h154]; rfl)
                       | (rw [if_neg h124, if_neg h154]))
            · refine y_iconst (v := 1) dX12_flours_157 (by decide) ?_
              refine y_iload dX12_flours_158 rfl ?_
              refine y_ishl dX12_flours_160 ?_
              refine y_goto (tgt := 165) dX12_flours_161 (by decide) ?_
              refine y_ior dX12_flours_165 ?_
              refine y_ist7_4 dX12_flours_166 rfl ?_
              refine y_iinc7_6 dX12_flours_168 (nI_1 _) rfl ?_
              refine y_goto (tgt := 73) dX12_flours_171 (by decide) ?_
              first
                | (rw [fl3_n (W := W) (N := N) h86] at hP; exact hP _ hWm)
                | (have key : ∀ s b w0 : Int32, s = (if N k = 0 then sh1 k else 0) → b = (if W k ≤ (fl3 (m 246) W N k).2.2 then (fl3 (m 246) W N k).2.1 else 0) ||| (if W k = gtr (fl3 (m 246) W N k).2.2 (W k) then sh1 k else 0) → w0 = gtr (fl3 (m 246) W N k).2.2 (W k) → sV (scT L xs) (d + 9) "LoafFallModel" cX12_flours 7 (some .int) Q 73 [some (.ref 239), some (.int (nI g)), some (.int any), some (.int ((fl3 (m 246) W N k).1 ||| s)), some (.int b), some (.int w0), some (.int (nI (k + 1)))] [] (stR (wkM m 1316) h' 1316 (BV (bothR m k g X))) n := fun s b w0 e1 e2 e3 => by
                     have := hP _ (WM.st (h := h') (R := BV (bothR m k g X)))
                     rw [fl3_y (W := W) (N := N) h86 e1 e2, ← e3] at this
                     exact this
                   refine key _ _ _ ?_ ?_ rfl
                   · first | exact (if_pos h105).symm | exact (if_neg h105).symm
                   · first
                       | (rw [if_pos h124, if_pos h154]; rfl)
                       | (rw [if_pos h124, if_neg h154])
                       | (rw [if_neg h124, if_pos h154]; rfl)
                       | (rw [if_neg h124, if_neg h154]))
          · refine y_iconst (v := 0) dX12_flours_127 (by decide) ?_
            refine y_goto (tgt := 133) dX12_flours_128 (by decide) ?_
            refine y_ist7_4 dX12_flours_133 rfl ?_
            refine y_iload dX12_flours_135 rfl ?_
            refine y_aload_n dX12_flours_137 rfl rfl ?_
            refine y_ivI0 dX12_flours_138 mv_X12_247 my_X12_worthNow (Or.inl rfl) sh_239 ?_
            refine c_X12_worthNow (wk_b (by omega)) ⟨_, rfl, ?_⟩
            rw [eW]
            refine y_isI2 dX12_flours_141 ms_X12_197 my_X12_greater (Or.inl rfl) ?_
            refine c_X12_greater ⟨_, rfl, ?_⟩
            refine y_ist7_5 dX12_flours_144 rfl ?_
            refine y_iload dX12_flours_146 rfl ?_
            refine y_aload_n dX12_flours_148 rfl rfl ?_
            refine y_ivI0 dX12_flours_149 mv_X12_247 my_X12_worthNow (Or.inl rfl) sh_239 ?_
            refine c_X12_worthNow (wk_b (by omega)) ⟨_, rfl, ?_⟩
            rw [eW]
            refine y_iload dX12_flours_152 rfl ?_
            refine y_icmp_ne (tgt := 164) dX12_flours_154 (by decide) (fun h154 => ?_) (fun h154 => ?_)
            · refine y_iconst (v := 0) dX12_flours_164 (by decide) ?_
              refine y_ior dX12_flours_165 ?_
              refine y_ist7_4 dX12_flours_166 rfl ?_
              refine y_iinc7_6 dX12_flours_168 (nI_1 _) rfl ?_
              refine y_goto (tgt := 73) dX12_flours_171 (by decide) ?_
              first
                | (rw [fl3_n (W := W) (N := N) h86] at hP; exact hP _ hWm)
                | (have key : ∀ s b w0 : Int32, s = (if N k = 0 then sh1 k else 0) → b = (if W k ≤ (fl3 (m 246) W N k).2.2 then (fl3 (m 246) W N k).2.1 else 0) ||| (if W k = gtr (fl3 (m 246) W N k).2.2 (W k) then sh1 k else 0) → w0 = gtr (fl3 (m 246) W N k).2.2 (W k) → sV (scT L xs) (d + 9) "LoafFallModel" cX12_flours 7 (some .int) Q 73 [some (.ref 239), some (.int (nI g)), some (.int any), some (.int ((fl3 (m 246) W N k).1 ||| s)), some (.int b), some (.int w0), some (.int (nI (k + 1)))] [] (stR (wkM m 1316) h' 1316 (BV (bothR m k g X))) n := fun s b w0 e1 e2 e3 => by
                     have := hP _ (WM.st (h := h') (R := BV (bothR m k g X)))
                     rw [fl3_y (W := W) (N := N) h86 e1 e2, ← e3] at this
                     exact this
                   refine key _ _ _ ?_ ?_ rfl
                   · first | exact (if_pos h105).symm | exact (if_neg h105).symm
                   · first
                       | (rw [if_pos h124, if_pos h154]; rfl)
                       | (rw [if_pos h124, if_neg h154])
                       | (rw [if_neg h124, if_pos h154]; rfl)
                       | (rw [if_neg h124, if_neg h154]))
            · refine y_iconst (v := 1) dX12_flours_157 (by decide) ?_
              refine y_iload dX12_flours_158 rfl ?_
              refine y_ishl dX12_flours_160 ?_
              refine y_goto (tgt := 165) dX12_flours_161 (by decide) ?_
              refine y_ior dX12_flours_165 ?_
              refine y_ist7_4 dX12_flours_166 rfl ?_
              refine y_iinc7_6 dX12_flours_168 (nI_1 _) rfl ?_
              refine y_goto (tgt := 73) dX12_flours_171 (by decide) ?_
              first
                | (rw [fl3_n (W := W) (N := N) h86] at hP; exact hP _ hWm)
                | (have key : ∀ s b w0 : Int32, s = (if N k = 0 then sh1 k else 0) → b = (if W k ≤ (fl3 (m 246) W N k).2.2 then (fl3 (m 246) W N k).2.1 else 0) ||| (if W k = gtr (fl3 (m 246) W N k).2.2 (W k) then sh1 k else 0) → w0 = gtr (fl3 (m 246) W N k).2.2 (W k) → sV (scT L xs) (d + 9) "LoafFallModel" cX12_flours 7 (some .int) Q 73 [some (.ref 239), some (.int (nI g)), some (.int any), some (.int ((fl3 (m 246) W N k).1 ||| s)), some (.int b), some (.int w0), some (.int (nI (k + 1)))] [] (stR (wkM m 1316) h' 1316 (BV (bothR m k g X))) n := fun s b w0 e1 e2 e3 => by
                     have := hP _ (WM.st (h := h') (R := BV (bothR m k g X)))
                     rw [fl3_y (W := W) (N := N) h86 e1 e2, ← e3] at this
                     exact this
                   refine key _ _ _ ?_ ?_ rfl
                   · first | exact (if_pos h105).symm | exact (if_neg h105).symm
                   · first
                       | (rw [if_pos h124, if_pos h154]; rfl)
                       | (rw [if_pos h124, if_neg h154])
                       | (rw [if_neg h124, if_pos h154]; rfl)
                       | (rw [if_neg h124, if_neg h154]))
  · intro k hk hP
    intro any ha
    refine y_iload_n dX12_flours_13 rfl rfl ?_
    refine y_iconst (v := 4) dX12_flours_14 (by decide) ?_
    refine y_icmp_ge (tgt := 43) dX12_flours_15 (by decide) (fun h15 => absurd h15 (nI_ge (a := k) (b := 4) hk (by decide))) (fun h15 => ?_)
    refine y_iload_n dX12_flours_18 rfl rfl ?_
    refine y_if_ne (tgt := 31) dX12_flours_19 (by decide) (fun h19 => ?_) (fun h19 => ?_)
    · refine y_iconst (v := 1) dX12_flours_31 (by decide) ?_
      refine y_goto (tgt := 36) dX12_flours_32 (by decide) ?_
      refine y_ist7_2 dX12_flours_36 rfl ?_
      refine y_iinc7_3 dX12_flours_37 (nI_1 _) rfl ?_
      refine y_goto (tgt := 13) dX12_flours_40 (by decide) ?_
      first
        | exact hP 1 ⟨fun z => absurd z (by decide), fun z => absurd (z k (by omega)) h28⟩
        | exact hP 0 ⟨fun _ j hj => (by
            by_cases e : j = k
            · rw [e]; exact h28
            · exact ha.mp h19 j (by omega)), fun _ => rfl⟩
        | exact hP 1 ⟨fun z => absurd z (by decide), fun z => absurd (ha.mpr (fun j hj => z j (by omega))) h19⟩
    · refine y_aload_n dX12_flours_22 rfl rfl ?_
      refine y_getr dX12_flours_23 gf_X12_29 sh_239 rfl ?_
      refine y_iload_n dX12_flours_26 rfl rfl ?_
      refine y_zaldN dX12_flours_27 sh_246 rfl (by first | omega | decide) (by decide) ?_
      refine y_if_eq (tgt := 35) dX12_flours_28 (by decide) (fun h28 => ?_) (fun h28 => ?_)
      · refine y_iconst (v := 0) dX12_flours_35 (by decide) ?_
        refine y_ist7_2 dX12_flours_36 rfl ?_
        refine y_iinc7_3 dX12_flours_37 (nI_1 _) rfl ?_
        refine y_goto (tgt := 13) dX12_flours_40 (by decide) ?_
        first
          | exact hP 1 ⟨fun z => absurd z (by decide), fun z => absurd (z k (by omega)) h28⟩
          | exact hP 0 ⟨fun _ j hj => (by
              by_cases e : j = k
              · rw [e]; exact h28
              · exact ha.mp h19 j (by omega)), fun _ => rfl⟩
          | exact hP 1 ⟨fun z => absurd z (by decide), fun z => absurd (ha.mpr (fun j hj => z j (by omega))) h19⟩
      · refine y_iconst (v := 1) dX12_flours_31 (by decide) ?_
        refine y_goto (tgt := 36) dX12_flours_32 (by decide) ?_
        refine y_ist7_2 dX12_flours_36 rfl ?_
        refine y_iinc7_3 dX12_flours_37 (nI_1 _) rfl ?_
        refine y_goto (tgt := 13) dX12_flours_40 (by decide) ?_
        first
          | exact hP 1 ⟨fun z => absurd z (by decide), fun z => absurd (z k (by omega)) h28⟩
          | exact hP 0 ⟨fun _ j hj => (by
              by_cases e : j = k
              · rw [e]; exact h28
              · exact ha.mp h19 j (by omega)), fun _ => rfl⟩
          | exact hP 1 ⟨fun z => absurd z (by decide), fun z => absurd (ha.mpr (fun j hj => z j (by omega))) h19⟩
set_option maxHeartbeats 2000000 in
theorem p_flours {L : Nat} {xs : Nat → Int32} {d : Nat} {m : sM} {n : sN} {x : Int32} (h : Rel m n) : PI L xs (d + 11) yX11_flours cX11_flours 8 yX12_flours cX12_flours 7 [.int x] m n := by
  unfold PI
  by_cases hx : inN x 4
  · obtain ⟨g, hg, rfl⟩ := hx
    have hx : inN (nI g) 4 := ⟨g, hg, rfl⟩
    by_cases d1 : m 248 g = 0
    · have d2 : m (166 + 4 * g) 4 = 0 := by
        rcases h.d g hg with ⟨a, b⟩ | ⟨a, b, -⟩
        · exact b
        · exact absurd d1 (by rw [a]; decide)
      refine y_run (own := "LoafFall") rfl (by decide +kernel) (Nat.le_of_ble_eq_true rfl) rfl ?_
      refine y_iload_n dX11_flours_0 rfl rfl ?_
      refine y_isI1 dX11_flours_1 ms_X11_173 my_X11_isDoing (Or.inl rfl) ?_
      refine c_X11_isDoing (fun _ => ⟨_, rfl, ?_⟩) (fun z => absurd hx z)
      refine y_if_ne (tgt := 9) dX11_flours_4 (by decide) (fun h4 => ?_) (fun h4 => absurd h4 (by decide))
      refine y_aload_n dX11_flours_9 rfl rfl ?_
      refine y_getr dX11_flours_10 gf_X11_29 sh_0 rfl ?_
      refine y_iload_n dX11_flours_13 rfl rfl ?_
      refine y_aaldN dX11_flours_14 (by decide) sh_4 rfl (dgA (k := g) (by omega)) (by decide) ?_
      refine y_geti dX11_flours_15 gf_X11_190 (dgI (k := g) (by omega)).1 rfl ?_
      refine y_if_eq (tgt := 28) dX11_flours_18 (by decide) (fun h18 => ?_) (fun h18 => absurd d2 h18)
      refine y_aload_n dX11_flours_28 rfl rfl ?_
      refine y_iconst (v := 1) dX11_flours_29 (by decide) ?_
      refine y_ivI1 dX11_flours_30 mv_X11_105 my_X11_found (Or.inl rfl) sh_0 ?_
      refine c_X11_found (f := 1) rfl (by omega) (by omega) ⟨_, rfl, ?_⟩
      refine y_ireturn dX11_flours_33 rfl rfl ?_
      refine ⟨_, rfl, ?_⟩
      obtain ⟨m1, em⟩ : ∃ m1, m1 = foundM m 1 := ⟨_, rfl⟩
      rw [← em]
      have g0 : ∀ a, 138 ≤ a → m1 a = m a := fun a ha => by rw [em]; exact found_o (by omega) (by omega)
      refine y_run (own := "LoafFallModel") rfl (by decide +kernel) (Nat.le_of_ble_eq_true rfl) rfl ?_
      refine y_iload_n dX12_flours_0 rfl rfl ?_
      refine y_isI1 dX12_flours_1 ms_X12_151 my_X12_isPlace (Or.inl rfl) ?_
      refine c_X12_isPlace (fun _ => ⟨_, rfl, ?_⟩) (fun z => absurd hx z)
      refine y_if_ne (tgt := 9) dX12_flours_4 (by decide) (fun h4 => ?_) (fun h4 => absurd h4 (by decide))
      refine y_iconst (v := 0) dX12_flours_9 (by decide) ?_
      refine y_ist7_2 dX12_flours_10 rfl ?_
      refine y_iconst (v := 0) dX12_flours_11 (by decide) ?_
      refine y_ist7_3 dX12_flours_12 rfl ?_
      refine cnt (P := fun k => ∀ any : Int32, (any = 0 ↔ ∀ j, j < k → m 246 j = 0) → sV (scT L xs) (d + 10) "LoafFallModel" cX12_flours 7 (some .int) (fun o' m2 n2 => o' = some (.int (-3)) ∧ Rel m2 n2) 13 [some (.ref 239), some (.int (nI g)), some (.int any), some (.int (nI k)), none, none, none] [] m1 n) 4 ?_ ?_ 0 (by omega) 0 ⟨fun _ j hj => absurd hj (by omega), fun _ => rfl⟩
      · intro any ha
        refine y_iload_n dX12_flours_13 rfl rfl ?_
        refine y_iconst (v := 4) dX12_flours_14 (by decide) ?_
        refine y_icmp_ge (tgt := 43) dX12_flours_15 (by decide) (fun h15 => ?_) (fun h15 => absurd (nI_le (a := 4) (b := 4) (Nat.le_refl _) (by decide)) h15)
        refine y_aload_n dX12_flours_43 rfl rfl ?_
        refine y_getr dX12_flours_44 gf_X12_36 sh_239 rfl ?_
        refine y_iload_n dX12_flours_47 rfl rfl ?_
        refine y_zaldN dX12_flours_48 sh_248 rfl (by first | omega | decide) (by decide) ?_
        refine y_if_eq (tgt := 56) dX12_flours_49 (by decide) (fun h49 => ?_) (fun h49 => absurd (by rw [g0 _ (by omega)]; exact d1) h49)
        refine y_aload_n dX12_flours_56 rfl rfl ?_
        refine y_iconst (v := 1) dX12_flours_57 (by decide) ?_
        refine y_ivI1 dX12_flours_58 mv_X12_100 my_X12_meets (Or.inl rfl) sh_239 ?_
        refine c_X12_meets (f := 1) rfl (by omega) ⟨_, rfl, ?_⟩
        refine y_ireturn dX12_flours_61 rfl rfl ?_
        rw [em]
        exact ⟨rfl, Rel_met h⟩
      · intro k hk hP
        intro any ha
        refine y_iload_n dX12_flours_13 rfl rfl ?_
        refine y_iconst (v := 4) dX12_flours_14 (by decide) ?_
        refine y_icmp_ge (tgt := 43) dX12_flours_15 (by decide) (fun h15 => absurd h15 (nI_ge (a := k) (b := 4) hk (by decide))) (fun h15 => ?_)
        refine y_iload_n dX12_flours_18 rfl rfl ?_
        refine y_if_ne (tgt := 31) dX12_flours_19 (by decide) (fun h19 => ?_) (fun h19 => ?_)
        · refine y_iconst (v := 1) dX12_flours_31 (by decide) ?_
          refine y_goto (tgt := 36) dX12_flours_32 (by decide) ?_
          refine y_ist7_2 dX12_flours_36 rfl ?_
          refine y_iinc7_3 dX12_flours_37 (nI_1 _) rfl ?_
          refine y_goto (tgt := 13) dX12_flours_40 (by decide) ?_
          first
            | exact hP 1 ⟨fun z => absurd z (by decide), fun z => absurd (z k (by omega)) h28⟩
            | exact hP 0 ⟨fun _ j hj => (by
                by_cases e : j = k
                · rw [e]; exact h28
                · exact ha.mp h19 j (by omega)), fun _ => rfl⟩
            | exact hP 1 ⟨fun z => absurd z (by decide), fun z => absurd (ha.mpr (fun j hj => z j (by omega))) h19⟩
        · refine y_aload_n dX12_flours_22 rfl rfl ?_
          refine y_getr dX12_flours_23 gf_X12_29 sh_239 rfl ?_
          refine y_iload_n dX12_flours_26 rfl rfl ?_
          refine y_zaldN dX12_flours_27 sh_246 rfl (by first | omega | decide) (by decide) ?_
          rw [g0 246 (by omega)]
          refine y_if_eq (tgt := 35) dX12_flours_28 (by decide) (fun h28 => ?_) (fun h28 => ?_)
          · refine y_iconst (v := 0) dX12_flours_35 (by decide) ?_
            refine y_ist7_2 dX12_flours_36 rfl ?_
            refine y_iinc7_3 dX12_flours_37 (nI_1 _) rfl ?_
            refine y_goto (tgt := 13) dX12_flours_40 (by decide) ?_
            first
              | exact hP 1 ⟨fun z => absurd z (by decide), fun z => absurd (z k (by omega)) h28⟩
              | exact hP 0 ⟨fun _ j hj => (by
                  by_cases e : j = k
                  · rw [e]; exact h28
                  · exact ha.mp h19 j (by omega)), fun _ => rfl⟩
              | exact hP 1 ⟨fun z => absurd z (by decide), fun z => absurd (ha.mpr (fun j hj => z j (by omega))) h19⟩
          · refine y_iconst (v := 1) dX12_flours_31 (by decide) ?_
            refine y_goto (tgt := 36) dX12_flours_32 (by decide) ?_
            refine y_ist7_2 dX12_flours_36 rfl ?_
            refine y_iinc7_3 dX12_flours_37 (nI_1 _) rfl ?_
            refine y_goto (tgt := 13) dX12_flours_40 (by decide) ?_
            first
              | exact hP 1 ⟨fun z => absurd z (by decide), fun z => absurd (z k (by omega)) h28⟩
              | exact hP 0 ⟨fun _ j hj => (by
                  by_cases e : j = k
                  · rw [e]; exact h28
                  · exact ha.mp h19 j (by omega)), fun _ => rfl⟩
              | exact hP 1 ⟨fun z => absurd z (by decide), fun z => absurd (ha.mpr (fun j hj => z j (by omega))) h19⟩
    · have d2 : ¬ m (166 + 4 * g) 4 = 0 := fun z => d1 ((h.dx hg).1 z)
      by_cases f1 : CNT m 0 = 0
      · refine y_run (own := "LoafFall") rfl (by decide +kernel) (Nat.le_of_ble_eq_true rfl) rfl ?_
        refine y_iload_n dX11_flours_0 rfl rfl ?_
        refine y_isI1 dX11_flours_1 ms_X11_173 my_X11_isDoing (Or.inl rfl) ?_
        refine c_X11_isDoing (fun _ => ⟨_, rfl, ?_⟩) (fun z => absurd hx z)
        refine y_if_ne (tgt := 9) dX11_flours_4 (by decide) (fun h4 => ?_) (fun h4 => absurd h4 (by decide))
        refine y_aload_n dX11_flours_9 rfl rfl ?_
        refine y_getr dX11_flours_10 gf_X11_29 sh_0 rfl ?_
        refine y_iload_n dX11_flours_13 rfl rfl ?_
        refine y_aaldN dX11_flours_14 (by decide) sh_4 rfl (dgA (k := g) (by omega)) (by decide) ?_
        refine y_geti dX11_flours_15 gf_X11_190 (dgI (k := g) (by omega)).1 rfl ?_
        refine y_if_eq (tgt := 28) dX11_flours_18 (by decide) (fun h18 => absurd h18 d2) (fun h18 => ?_)
        refine y_aload_n dX11_flours_21 rfl rfl ?_
        refine y_ivI0 dX11_flours_22 mv_X11_332 my_X11_countFlours (Or.inl rfl) sh_0 ?_
        refine c_X11_countFlours ⟨_, rfl, ?_⟩
        refine y_if_ne (tgt := 34) dX11_flours_25 (by decide) (fun h25 => absurd (by rw [(CNT_c h).1]; exact f1) h25) (fun h25 => ?_)
        refine y_aload_n dX11_flours_28 rfl rfl ?_
        refine y_iconst (v := 1) dX11_flours_29 (by decide) ?_
        refine y_ivI1 dX11_flours_30 mv_X11_105 my_X11_found (Or.inl rfl) sh_0 ?_
        refine c_X11_found (f := 1) rfl (by omega) (by omega) ⟨_, rfl, ?_⟩
        refine y_ireturn dX11_flours_33 rfl rfl ?_
        refine ⟨_, rfl, ?_⟩
        obtain ⟨m1, em⟩ : ∃ m1, m1 = foundM m 1 := ⟨_, rfl⟩
        rw [← em]
        have g0 : ∀ a, 138 ≤ a → m1 a = m a := fun a ha => by rw [em]; exact found_o (by omega) (by omega)
        refine y_run (own := "LoafFallModel") rfl (by decide +kernel) (Nat.le_of_ble_eq_true rfl) rfl ?_
        refine y_iload_n dX12_flours_0 rfl rfl ?_
        refine y_isI1 dX12_flours_1 ms_X12_151 my_X12_isPlace (Or.inl rfl) ?_
        refine c_X12_isPlace (fun _ => ⟨_, rfl, ?_⟩) (fun z => absurd hx z)
        refine y_if_ne (tgt := 9) dX12_flours_4 (by decide) (fun h4 => ?_) (fun h4 => absurd h4 (by decide))
        refine y_iconst (v := 0) dX12_flours_9 (by decide) ?_
        refine y_ist7_2 dX12_flours_10 rfl ?_
        refine y_iconst (v := 0) dX12_flours_11 (by decide) ?_
        refine y_ist7_3 dX12_flours_12 rfl ?_
        refine cnt (P := fun k => ∀ any : Int32, (any = 0 ↔ ∀ j, j < k → m 246 j = 0) → sV (scT L xs) (d + 10) "LoafFallModel" cX12_flours 7 (some .int) (fun o' m2 n2 => o' = some (.int (-3)) ∧ Rel m2 n2) 13 [some (.ref 239), some (.int (nI g)), some (.int any), some (.int (nI k)), none, none, none] [] m1 n) 4 ?_ ?_ 0 (by omega) 0 ⟨fun _ j hj => absurd hj (by omega), fun _ => rfl⟩
        · intro any ha
          refine y_iload_n dX12_flours_13 rfl rfl ?_
          refine y_iconst (v := 4) dX12_flours_14 (by decide) ?_
          refine y_icmp_ge (tgt := 43) dX12_flours_15 (by decide) (fun h15 => ?_) (fun h15 => absurd (nI_le (a := 4) (b := 4) (Nat.le_refl _) (by decide)) h15)
          refine y_aload_n dX12_flours_43 rfl rfl ?_
          refine y_getr dX12_flours_44 gf_X12_36 sh_239 rfl ?_
          refine y_iload_n dX12_flours_47 rfl rfl ?_
          refine y_zaldN dX12_flours_48 sh_248 rfl (by first | omega | decide) (by decide) ?_
          refine y_if_eq (tgt := 56) dX12_flours_49 (by decide) (fun h49 => absurd h49 (by rw [g0 _ (by omega)]; exact d1)) (fun h49 => ?_)
          refine y_iload_n dX12_flours_52 rfl rfl ?_
          refine y_if_ne (tgt := 62) dX12_flours_53 (by decide) (fun h53 => absurd (ha.mpr ((cnt_e 4 (by omega)).2 f1)) h53) (fun h53 => ?_)
          refine y_aload_n dX12_flours_56 rfl rfl ?_
          refine y_iconst (v := 1) dX12_flours_57 (by decide) ?_
          refine y_ivI1 dX12_flours_58 mv_X12_100 my_X12_meets (Or.inl rfl) sh_239 ?_
          refine c_X12_meets (f := 1) rfl (by omega) ⟨_, rfl, ?_⟩
          refine y_ireturn dX12_flours_61 rfl rfl ?_
          rw [em]
          exact ⟨rfl, Rel_met h⟩
        · intro k hk hP
          intro any ha
          refine y_iload_n dX12_flours_13 rfl rfl ?_
          refine y_iconst (v := 4) dX12_flours_14 (by decide) ?_
          refine y_icmp_ge (tgt := 43) dX12_flours_15 (by decide) (fun h15 => absurd h15 (nI_ge (a := k) (b := 4) hk (by decide))) (fun h15 => ?_)
          refine y_iload_n dX12_flours_18 rfl rfl ?_
          refine y_if_ne (tgt := 31) dX12_flours_19 (by decide) (fun h19 => ?_) (fun h19 => ?_)
          · refine y_iconst (v := 1) dX12_flours_31 (by decide) ?_
            refine y_goto (tgt := 36) dX12_flours_32 (by decide) ?_
            refine y_ist7_2 dX12_flours_36 rfl ?_
            refine y_iinc7_3 dX12_flours_37 (nI_1 _) rfl ?_
            refine y_goto (tgt := 13) dX12_flours_40 (by decide) ?_
            first
              | exact hP 1 ⟨fun z => absurd z (by decide), fun z => absurd (z k (by omega)) h28⟩
              | exact hP 0 ⟨fun _ j hj => (by
                  by_cases e : j = k
                  · rw [e]; exact h28
                  · exact ha.mp h19 j (by omega)), fun _ => rfl⟩
              | exact hP 1 ⟨fun z => absurd z (by decide), fun z => absurd (ha.mpr (fun j hj => z j (by omega))) h19⟩
          · refine y_aload_n dX12_flours_22 rfl rfl ?_
            refine y_getr dX12_flours_23 gf_X12_29 sh_239 rfl ?_
            refine y_iload_n dX12_flours_26 rfl rfl ?_
            refine y_zaldN dX12_flours_27 sh_246 rfl (by first | omega | decide) (by decide) ?_
            rw [g0 246 (by omega)]
            refine y_if_eq (tgt := 35) dX12_flours_28 (by decide) (fun h28 => ?_) (fun h28 => ?_)
            · refine y_iconst (v := 0) dX12_flours_35 (by decide) ?_
              refine y_ist7_2 dX12_flours_36 rfl ?_
              refine y_iinc7_3 dX12_flours_37 (nI_1 _) rfl ?_
              refine y_goto (tgt := 13) dX12_flours_40 (by decide) ?_
              first
                | exact hP 1 ⟨fun z => absurd z (by decide), fun z => absurd (z k (by omega)) h28⟩
                | exact hP 0 ⟨fun _ j hj => (by
                    by_cases e : j = k
                    · rw [e]; exact h28
                    · exact ha.mp h19 j (by omega)), fun _ => rfl⟩
                | exact hP 1 ⟨fun z => absurd z (by decide), fun z => absurd (ha.mpr (fun j hj => z j (by omega))) h19⟩
            · refine y_iconst (v := 1) dX12_flours_31 (by decide) ?_
              refine y_goto (tgt := 36) dX12_flours_32 (by decide) ?_
              refine y_ist7_2 dX12_flours_36 rfl ?_
              refine y_iinc7_3 dX12_flours_37 (nI_1 _) rfl ?_
              refine y_goto (tgt := 13) dX12_flours_40 (by decide) ?_
              first
                | exact hP 1 ⟨fun z => absurd z (by decide), fun z => absurd (z k (by omega)) h28⟩
                | exact hP 0 ⟨fun _ j hj => (by
                    by_cases e : j = k
                    · rw [e]; exact h28
                    · exact ha.mp h19 j (by omega)), fun _ => rfl⟩
                | exact hP 1 ⟨fun z => absurd z (by decide), fun z => absurd (ha.mpr (fun j hj => z j (by omega))) h19⟩
      · refine c_X11_flours_ok h rfl hg d1 f1 (fun m' v1 v2 => ⟨_, rfl, ?_⟩)
        generalize em : tellM m' (fl3 (m 246) (wF m g) (nF m g) 4).2.1 = m1
        have gg : ∀ a, 137 ≤ a → m1 a = m a := fun a ha => by rw [← em, tell_o (by omega)]; exact v1 a (by omega)
        have eb : ∀ k, bo m1 k g = bo m k g := fun k => bo_m (gg _ (by omega)) (gg _ (by omega)) (gg _ (by omega))
        refine c_X12_flours_ok rfl hg (by rw [gg _ (by omega)]; exact d1) (by rw [gg _ (by omega)]; exact f1) (fun k hk hz => by rw [eb]; rw [gg _ (by omega)] at hz; exact ((both_there h hk hg hz d1).2.2 _).2.1) (fun M hW => ?_)
        rw [gg 246 (by omega), show wF m1 g = wF m g from by funext k; unfold wF; rw [eb], show nF m1 g = nF m g from by funext k; unfold nF; rw [eb]]
        rw [← em] at hW
        exact ⟨rfl, Rel_tell h v1 v2 hW.fr⟩
  · refine y_run (own := "LoafFall") rfl (by decide +kernel) (Nat.le_of_ble_eq_true rfl) rfl ?_
    refine y_iload_n dX11_flours_0 rfl rfl ?_
    refine y_isI1 dX11_flours_1 ms_X11_173 my_X11_isDoing (Or.inl rfl) ?_
    refine c_X11_isDoing (fun z => absurd z hx) (fun _ => ⟨_, rfl, ?_⟩)
    refine y_if_ne (tgt := 9) dX11_flours_4 (by decide) (fun h4 => absurd (by decide) h4) (fun h4 => ?_)
    refine y_iconst (v := -1) dX11_flours_7 (by decide) ?_
    refine y_ireturn dX11_flours_8 rfl rfl ?_
    refine ⟨_, rfl, ?_⟩
    refine y_run (own := "LoafFallModel") rfl (by decide +kernel) (Nat.le_of_ble_eq_true rfl) rfl ?_
    refine y_iload_n dX12_flours_0 rfl rfl ?_
    refine y_isI1 dX12_flours_1 ms_X12_151 my_X12_isPlace (Or.inl rfl) ?_
    refine c_X12_isPlace (fun z => absurd z hx) (fun _ => ⟨_, rfl, ?_⟩)
    refine y_if_ne (tgt := 9) dX12_flours_4 (by decide) (fun h4 => absurd (by decide) h4) (fun h4 => ?_)
    refine y_iconst (v := -1) dX12_flours_7 (by decide) ?_
    refine y_ireturn dX12_flours_8 rfl rfl ?_
    exact ⟨rfl, h⟩
