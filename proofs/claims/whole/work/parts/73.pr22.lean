/-! ===== laws: the component ===== -/
def lwR (B : Nat → Int32) (l : Nat) : Nat → Int32 := upd (upd B 0 (nI (1 + l / 9))) 1 (nI (10 + 10 * (l % 9)))
def dS (m : sM) (s : Nat) : Nat := (m 259 (2 * s)).toNatClampNeg
def HL (m : sM) (f g l : Nat) : Int32 := HV (lwR (bo m f g) l)
def oF (m : sM) (f l : Nat) : Nat → Int32
  | 0 => 0
  | s + 1 => oF m f l s + dst (HL m f (dS m s) l) (m 259 (2 * s + 1))
def lbF (O : Nat → Int32) : Nat → Nat
  | 0 => 0
  | l + 1 => if O l < O (lbF O l) then l else lbF O l
theorem lb_lt {O : Nat → Int32} : ∀ l, lbF O (l + 1) ≤ l := by
  intro l
  induction l with
  | zero => rw [lbF]; split <;> exact Nat.le_refl _
  | succ l ih => rw [lbF]; split <;> omega
theorem lw_lo {B : Nat → Int32} {l p : Nat} (h : 2 ≤ p) : lwR B l p = B p := by
  unfold lwR
  rw [updN (by omega), updN (by omega)]
theorem lw_d {B : Nat → Int32} {l : Nat} (h : dOK B) : dOK (lwR B l) := d_eq h (fun p h1 h2 => lw_lo (by omega))
theorem lw_f {B : Nat → Int32} {l : Nat} (h : flR B) (hl : l < 81) : flR (lwR B l) := by
  obtain ⟨h1, h2, h3, h4, h5⟩ := h
  refine ⟨⟨1 + l / 9, by unfold lwR; rw [updN (by omega), updS], by omega, by omega⟩, ⟨10 + 10 * (l % 9), by unfold lwR; rw [updS], by omega, by omega⟩, ?_, ?_, ?_⟩
  · rw [lw_lo (by omega)]; exact h3
  · rw [lw_lo (by omega)]; exact h4
  · rw [lw_lo (by omega)]; exact h5
/-- slips: so many, their doings there -/
def slips (m : sM) (s : Nat) : Prop := s ≤ 12 ∧ m 25 2 = nI s ∧ m 239 28 = nI s ∧ ∀ i, i < s → dS m i < 4 ∧ m 26 i = nI (dS m i) ∧ m 259 (2 * i) = nI (dS m i) ∧ ∃ h : Nat, h ≤ 999 ∧ m 27 i = nI h ∧ m 259 (2 * i + 1) = nI h
theorem Rel.sl {m : sM} {n : sN} (h : Rel m n) : slips m (slN m) := by
  obtain ⟨s, hs, s1, s2, s3⟩ := h.s
  have e : slN m = s := by unfold slN; rw [s2, nI_clamp (by omega)]
  rw [e]
  refine ⟨hs, s1, s2, fun i hi => ?_⟩
  obtain ⟨⟨g, g1, g2, g3⟩, q⟩ := s3 i hi
  have ed : dS m i = g := by unfold dS; rw [g3, nI_clamp (by omega)]
  rw [ed]
  exact ⟨g1, g2, g3, q⟩
/-- what a law by a flour lacks -/
noncomputable def LWp (m : sM) (f : Nat) : Nat := if m 246 f = 0 then 1 else if slN m = 0 then 4 else @ite _ (∀ i, i < slN m → ¬ m 248 (dS m i) = 0) (Classical.propDecidable _) 0 1
theorem LWp_le (m : sM) (f : Nat) : LWp m f ≤ 5 := by
  unfold LWp
  split
  · omega
  · split
    · omega
    · split <;> omega
theorem LW_0 {m : sM} {f : Nat} (h : LWp m f = 0) : ¬ m 246 f = 0 ∧ ¬ slN m = 0 ∧ ∀ i, i < slN m → ¬ m 248 (dS m i) = 0 := by
  unfold LWp at h
  by_cases a : m 246 f = 0
  · rw [if_pos a] at h; omega
  · rw [if_neg a] at h
    by_cases b : slN m = 0
    · rw [if_pos b] at h; omega
    · rw [if_neg b] at h
      by_cases c : ∀ i, i < slN m → ¬ m 248 (dS m i) = 0
      · exact ⟨a, b, c⟩
      · rw [if_neg c] at h; omega
theorem dS_m {m m' : sM} (e : m' 259 = m 259) {s : Nat} : dS m' s = dS m s := by unfold dS; rw [e]
theorem LWp_m {m m' : sM} (e1 : m' 246 = m 246) (e2 : m' 248 = m 248) (e3 : m' 259 = m 259) (e4 : m' 239 28 = m 239 28) {f : Nat} : LWp m' f = LWp m f := by
  have : dS m' = dS m := by funext s; exact dS_m e3
  unfold LWp slN
  rw [e1, e2, e4, this]
theorem HL_m {m m' : sM} (e1 : m' 247 = m 247) (e2 : m' 249 = m 249) (e3 : m' 250 = m 250) {f g l : Nat} : HL m' f g l = HL m f g l := by unfold HL; rw [bo_m e1 e2 e3]
theorem oF_m {m m' : sM} (e1 : m' 247 = m 247) (e2 : m' 249 = m 249) (e3 : m' 250 = m 250) (e4 : m' 259 = m 259) {f l : Nat} : ∀ s, oF m' f l s = oF m f l s := by
  intro s
  induction s with
  | zero => rfl
  | succ s ih => rw [oF, oF, ih, HL_m e1 e2 e3, dS_m e4, e4]
set_option maxHeartbeats 1000000 in
theorem c_X11_yeastOfLaw {L : Nat} {xs : Nat → Int32} {d : Nat} {m : sM} {n : sN} {Q : sQ} {l : Nat} {x : Int32} (hx : x = nI l) (hl : l < 81) (hQ : Q (some (.int (nI (1 + l / 9)))) m n) : sRun (scT L xs) (d + 1) yX11_yeastOfLaw cX11_yeastOfLaw 1 (some .int) [.int x] m n Q := by
  subst hx
  refine y_run (own := "LoafFall") rfl (by decide +kernel) (Nat.le_of_ble_eq_true rfl) rfl ?_
  refine y_iconst (v := 1) dX11_yeastOfLaw_0 (by decide) ?_
  refine y_iload_n dX11_yeastOfLaw_1 rfl rfl ?_
  refine y_bipush (v := 9) dX11_yeastOfLaw_2 (by decide) ?_
  refine y_idivN (a := l) (b := 9) dX11_yeastOfLaw_4 rfl rfl (by omega) (by first | decide | omega) (by first | decide | omega) ?_
  refine y_iaddN (a := 1) (b := l / 9) dX11_yeastOfLaw_5 rfl rfl ?_
  refine y_ireturn dX11_yeastOfLaw_6 rfl rfl ?_
  exact hQ
set_option maxHeartbeats 1000000 in
theorem c_X11_strongOfLaw {L : Nat} {xs : Nat → Int32} {d : Nat} {m : sM} {n : sN} {Q : sQ} {l : Nat} {x : Int32} (hx : x = nI l) (hl : l < 81) (hQ : Q (some (.int (nI (10 + 10 * (l % 9))))) m n) : sRun (scT L xs) (d + 1) yX11_strongOfLaw cX11_strongOfLaw 1 (some .int) [.int x] m n Q := by
  subst hx
  refine y_run (own := "LoafFall") rfl (by decide +kernel) (Nat.le_of_ble_eq_true rfl) rfl ?_
  refine y_bipush (v := 10) dX11_strongOfLaw_0 (by decide) ?_
  refine y_iconst (v := 1) dX11_strongOfLaw_2 (by decide) ?_
  refine y_iload_n dX11_strongOfLaw_3 rfl rfl ?_
  refine y_bipush (v := 9) dX11_strongOfLaw_4 (by decide) ?_
  refine y_iremN (a := l) (b := 9) dX11_strongOfLaw_6 rfl rfl (by omega) (by first | decide | omega) (by first | decide | omega) ?_
  refine y_iaddN (a := 1) (b := l % 9) dX11_strongOfLaw_7 rfl rfl ?_
  refine y_imulN (a := 10) (b := 1 + (l % 9)) dX11_strongOfLaw_8 rfl rfl ?_
  refine y_ireturn dX11_strongOfLaw_9 rfl rfl ?_
  rw [show 10 * (1 + l % 9) = 10 + 10 * (l % 9) by omega]
  exact hQ
set_option maxHeartbeats 1000000 in
theorem c_X11_takeLaw {L : Nat} {xs : Nat → Int32} {d : Nat} {m : sM} {n : sN} {Q : sQ} {m0 : sM} {f l : Nat} {x z : Int32} (h : Rel m0 n) (v1 : frC m0 m) (hx : x = nI f) (hf : f < 4) (hz : z = nI l) (hl : l < 81) (hf1 : ¬ m0 246 f = 0) (hQ : ∀ m', (∀ a, a < 125 ∨ 127 ≤ a → m' a = m a) → m' 125 1 = 1 → (∀ g, FR m' 125 (lwR (bo m0 f g) l)) → Q none m' n) : sRun (scT L xs) (d + 2) yX11_takeLaw cX11_takeLaw 3 none [.ref 0, .int x, .int z] m n Q := by
  subst hx hz
  obtain ⟨fb, fc⟩ : m0 (158 + 2 * f) 1 = 1 ∧ ∀ i, i < 5 → m0 (158 + 2 * f + 1) i = m0 247 (5 * f + i) := by
    rcases h.f f hf with ⟨a, -⟩ | ⟨a, b, c, -⟩
    · exact absurd a hf1
    · exact ⟨b, c⟩
  refine y_run (own := "LoafFall") rfl (by decide +kernel) (Nat.le_of_ble_eq_true rfl) rfl ?_
  refine y_aload_n dX11_takeLaw_0 rfl rfl ?_
  refine y_getr dX11_takeLaw_1 gf_X11_73 sh_0 rfl ?_
  refine y_aload_n dX11_takeLaw_4 rfl rfl ?_
  refine y_getr dX11_takeLaw_5 gf_X11_23 sh_0 rfl ?_
  refine y_iload_n dX11_takeLaw_8 rfl rfl ?_
  refine y_aaldN dX11_takeLaw_9 (by decide) sh_3 rfl (flA (k := f) (by omega)) (by decide) ?_
  refine y_ivV1 dX11_takeLaw_10 mv_X11_166 my_X4_take (Or.inl rfl) sh_125 ?_
  refine c_X4_take fl125 (flI hf) (by omega) (Or.inr (by rw [v1 _ (by omega)]; exact fb)) (fun m1 a1 => ⟨rfl, ?_⟩)
  refine y_aload_n dX11_takeLaw_13 rfl rfl ?_
  refine y_getr dX11_takeLaw_14 gf_X11_73 sh_0 rfl ?_
  refine y_getr dX11_takeLaw_17 gf_X11_187 sh_125 rfl ?_
  refine y_iconst (v := 0) dX11_takeLaw_20 (by decide) ?_
  refine y_iload_n dX11_takeLaw_21 rfl rfl ?_
  refine y_isI1 dX11_takeLaw_22 ms_X11_370 my_X11_yeastOfLaw (Or.inl rfl) ?_
  refine c_X11_yeastOfLaw rfl hl ⟨_, rfl, ?_⟩
  refine y_iastN dX11_takeLaw_25 sh_126 rfl (by first | omega | decide) (by decide) ?_
  refine y_aload_n dX11_takeLaw_26 rfl rfl ?_
  refine y_getr dX11_takeLaw_27 gf_X11_73 sh_0 rfl ?_
  refine y_getr dX11_takeLaw_30 gf_X11_187 sh_125 rfl ?_
  refine y_iconst (v := 1) dX11_takeLaw_33 (by decide) ?_
  refine y_iload_n dX11_takeLaw_34 rfl rfl ?_
  refine y_isI1 dX11_takeLaw_35 ms_X11_373 my_X11_strongOfLaw (Or.inl rfl) ?_
  refine c_X11_strongOfLaw rfl hl ⟨_, rfl, ?_⟩
  refine y_iastN dX11_takeLaw_38 sh_126 rfl (by first | omega | decide) (by decide) ?_
  refine y_return dX11_takeLaw_39 rfl ?_
  refine hQ _ (fun a ha => by rw [s_upN (by omega), s_upN (by omega)]; exact a1.1 a (by omega) (by omega)) (by rw [s_upN (by omega), s_upN (by omega)]; exact a1.2.2.trans (by rw [v1 _ (by omega)]; exact fb)) (fun g i hi => ?_)
  rw [s_upS, s_upS]
  unfold lwR
  rw [upd_ap, upd_ap, upd_ap, upd_ap]
  by_cases z1 : i = 1
  · rw [if_pos z1, if_pos z1]
  · rw [if_neg z1, if_neg z1]
    by_cases z0 : i = 0
    · rw [if_pos z0, if_pos z0]
    · rw [if_neg z0, if_neg z0, a1.2.1 i hi, v1 _ (by omega), show bo m0 f g i = m0 247 (5 * f + i) from both_f hi]
      exact fc i hi
set_option maxHeartbeats 1000000 in
theorem c_J7_fill_53178 {L : Nat} {xs : Nat → Int32} {d : Nat} {m : sM} {n : sN} {Q : sQ} {v : Int32} (hQ : ∀ m', (∀ a, a ≠ 136 → m' a = m a) → (∀ i, i < 4 → m' 136 i = v) → Q none m' n) : sRun (scT L xs) (d + 1) yJ7_fill_53178 cJ7_fill_53178 4 none [.ref 136, .int v] m n Q := by
  refine y_run (own := "java/util/Arrays") rfl (by decide +kernel) (Nat.le_of_ble_eq_true rfl) rfl ?_
  refine y_iconst (v := 0) dJ7_fill_53178_0 (by decide) ?_
  refine y_ist4_2 dJ7_fill_53178_1 rfl ?_
  refine y_aload_n dJ7_fill_53178_2 rfl rfl ?_
  refine y_alen (v := 4) dJ7_fill_53178_3 sh_136 (by decide) ?_
  refine y_ist4_3 dJ7_fill_53178_4 rfl ?_
  refine cnt (P := fun k => ∀ m', (∀ a, a ≠ 136 → m' a = m a) → (∀ i, i < k → m' 136 i = v) → sV (scT L xs) d "java/util/Arrays" cJ7_fill_53178 4 none Q 5 [some (.ref 136), some (.int v), some (.int (nI k)), some (.int 4)] [] m' n) 4 ?_ ?_ 0 (by omega) m (fun _ _ => rfl) (fun i hi => absurd hi (by omega))
  · intro m' b1 b2
    refine y_iload_n dJ7_fill_53178_5 rfl rfl ?_
    refine y_iload_n dJ7_fill_53178_6 rfl rfl ?_
    refine y_icmp_ge (tgt := 20) dJ7_fill_53178_7 (by decide) (fun h7 => ?_) (fun h7 => absurd (nI_le (a := 4) (b := 4) (Nat.le_refl _) (by decide)) h7)
    refine y_return dJ7_fill_53178_20 rfl ?_
    exact hQ m' b1 b2
  · intro k hk hP
    intro m' b1 b2
    refine y_iload_n dJ7_fill_53178_5 rfl rfl ?_
    refine y_iload_n dJ7_fill_53178_6 rfl rfl ?_
    refine y_icmp_ge (tgt := 20) dJ7_fill_53178_7 (by decide) (fun h7 => absurd h7 (nI_ge (a := k) (b := 4) hk (by decide))) (fun h7 => ?_)
    refine y_aload_n dJ7_fill_53178_10 rfl rfl ?_
    refine y_iload_n dJ7_fill_53178_11 rfl rfl ?_
    refine y_iload_n dJ7_fill_53178_12 rfl rfl ?_
    refine y_iastN dJ7_fill_53178_13 sh_136 rfl (by first | omega | decide) (by decide) ?_
    refine y_iinc4_2 dJ7_fill_53178_14 (nI_1 _) rfl ?_
    refine y_goto (tgt := 5) dJ7_fill_53178_17 (by decide) ?_
    refine hP _ (fun a ha => by rw [s_upN ha]; exact b1 a ha) (fun i hi => ?_)
    rw [s_upS, upd_ap]
    by_cases e : i = k
    · rw [if_pos e]
    · rw [if_neg e]; exact b2 i (by omega)
set_option maxHeartbeats 1000000 in
theorem c_X11_lackOfLaw {L : Nat} {xs : Nat → Int32} {d : Nat} {m : sM} {n : sN} {Q : sQ} {f : Nat} {x : Int32} (h : Rel m n) (hx : x = nI f) (hf : f < 4) (hQ : Q (some (.int (nI (LWp m f)))) m n) : sRun (scT L xs) (d + 1) yX11_lackOfLaw cX11_lackOfLaw 3 (some .int) [.ref 0, .int x] m n Q := by
  subst hx
  obtain ⟨s1, s2, s3, s4⟩ := h.sl
  obtain ⟨s, hs⟩ : ∃ s, s = slN m := ⟨_, rfl⟩
  rw [← hs] at s1 s2 s3 s4
  refine y_run (own := "LoafFall") rfl (by decide +kernel) (Nat.le_of_ble_eq_true rfl) rfl ?_
  refine y_aload_n dX11_lackOfLaw_0 rfl rfl ?_
  refine y_getr dX11_lackOfLaw_1 gf_X11_23 sh_0 rfl ?_
  refine y_iload_n dX11_lackOfLaw_4 rfl rfl ?_
  refine y_aaldN dX11_lackOfLaw_5 (by decide) sh_3 rfl (flA (k := f) (by omega)) (by decide) ?_
  refine y_geti dX11_lackOfLaw_6 gf_X11_183 (flI (k := f) (by omega)).1 rfl ?_
  refine y_if_ne (tgt := 14) dX11_lackOfLaw_9 (by decide) (fun h9 => ?_) (fun h9 => ?_)
  · have f1 : ¬ m 246 f = 0 := by rw [((h.fx hf).2 h9).1]; decide
    refine y_aload_n dX11_lackOfLaw_14 rfl rfl ?_
    refine y_getr dX11_lackOfLaw_15 gf_X11_47 sh_0 rfl ?_
    refine y_geti dX11_lackOfLaw_18 gf_X11_355 sh_25 rfl ?_
    rw [s2]
    refine y_if_ne (tgt := 26) dX11_lackOfLaw_21 (by decide) (fun h21 => ?_) (fun h21 => ?_)
    · have z0 : ¬ s = 0 := fun e => h21 (by rw [e]; rfl)
      refine y_iconst (v := 0) dX11_lackOfLaw_26 (by decide) ?_
      refine y_ist3_2 dX11_lackOfLaw_27 rfl ?_
      refine cnt (P := fun i => (∀ j, j < i → ¬ m 248 (dS m j) = 0) → sV (scT L xs) d "LoafFall" cX11_lackOfLaw 3 (some .int) Q 28 [some (.ref 0), some (.int (nI f)), some (.int (nI i))] [] m n) s ?_ ?_ 0 (by omega) (fun j hj => absurd hj (by omega))
      · intro ha
        refine y_iload_n dX11_lackOfLaw_28 rfl rfl ?_
        refine y_aload_n dX11_lackOfLaw_29 rfl rfl ?_
        refine y_getr dX11_lackOfLaw_30 gf_X11_47 sh_0 rfl ?_
        refine y_geti dX11_lackOfLaw_33 gf_X11_355 sh_25 rfl ?_
        rw [s2]
        refine y_icmp_ge (tgt := 67) dX11_lackOfLaw_36 (by decide) (fun h36 => ?_) (fun h36 => absurd (nI_le (a := s) (b := s) (Nat.le_refl _) (by omega)) h36)
        refine y_iconst (v := 0) dX11_lackOfLaw_67 (by decide) ?_
        refine y_ireturn dX11_lackOfLaw_68 rfl rfl ?_
        rw [show LWp m f = 0 from by unfold LWp; rw [if_neg f1, ← hs, if_neg z0, if_pos ha]] at hQ
        exact hQ
      · intro i hk hP
        intro ha
        refine y_iload_n dX11_lackOfLaw_28 rfl rfl ?_
        refine y_aload_n dX11_lackOfLaw_29 rfl rfl ?_
        refine y_getr dX11_lackOfLaw_30 gf_X11_47 sh_0 rfl ?_
        refine y_geti dX11_lackOfLaw_33 gf_X11_355 sh_25 rfl ?_
        rw [s2]
        refine y_icmp_ge (tgt := 67) dX11_lackOfLaw_36 (by decide) (fun h36 => absurd h36 (nI_ge (a := i) (b := s) hk (by omega))) (fun h36 => ?_)
        refine y_aload_n dX11_lackOfLaw_39 rfl rfl ?_
        refine y_getr dX11_lackOfLaw_40 gf_X11_29 sh_0 rfl ?_
        refine y_aload_n dX11_lackOfLaw_43 rfl rfl ?_
        refine y_getr dX11_lackOfLaw_44 gf_X11_47 sh_0 rfl ?_
        refine y_getr dX11_lackOfLaw_47 gf_X11_359 sh_25 rfl ?_
        refine y_iload_n dX11_lackOfLaw_50 rfl rfl ?_
        refine y_ialdN dX11_lackOfLaw_51 sh_26 rfl (by first | omega | decide) (by decide) ?_
        rw [(s4 i hk).2.1]
        have d4 := (s4 i hk).1
        refine y_aaldN dX11_lackOfLaw_52 (by decide) sh_4 rfl (dgA (k := (dS m i)) (by omega)) (by decide) ?_
        refine y_geti dX11_lackOfLaw_53 gf_X11_190 (dgI (k := (dS m i)) (by omega)).1 rfl ?_
        refine y_if_ne (tgt := 61) dX11_lackOfLaw_56 (by decide) (fun h56 => ?_) (fun h56 => ?_)
        · refine y_iinc3_2 dX11_lackOfLaw_61 (nI_1 _) rfl ?_
          refine y_goto (tgt := 28) dX11_lackOfLaw_64 (by decide) ?_
          refine hP (fun j hj => ?_)
          by_cases e : j = i
          · rw [e, ((h.dx (s4 i hk).1).2 h56).1]; decide
          · exact ha j (by omega)
        · refine y_iconst (v := 1) dX11_lackOfLaw_59 (by decide) ?_
          refine y_ireturn dX11_lackOfLaw_60 rfl rfl ?_
          rw [show LWp m f = 1 from by unfold LWp; rw [if_neg f1, ← hs, if_neg z0, if_neg (fun z => z i hk ((h.dx (s4 i hk).1).1 h56))]] at hQ
          exact hQ
    · refine y_iconst (v := 4) dX11_lackOfLaw_24 (by decide) ?_
      refine y_ireturn dX11_lackOfLaw_25 rfl rfl ?_
      rw [show LWp m f = 4 from by unfold LWp; rw [if_neg f1, if_pos (hs ▸ (nI_eq (b := 0) (by omega) (by decide)).mp h21)]] at hQ
      exact hQ
  · refine y_iconst (v := 1) dX11_lackOfLaw_12 (by decide) ?_
    refine y_ireturn dX11_lackOfLaw_13 rfl rfl ?_
    rw [show LWp m f = 1 from if_pos ((h.fx hf).1 h9)] at hQ
    exact hQ
set_option maxHeartbeats 1000000 in
theorem c_X11_bestLaw {L : Nat} {xs : Nat → Int32} {d : Nat} {m : sM} {n : sN} {Q : sQ} {f : Nat} {x : Int32} (h : Rel m n) (hx : x = nI f) (hf : f < 4) (h0 : LWp m f = 0) (hQ : ∀ m', frC m m' → BK m' → (∀ l, l < 81 → m' 135 l = oF m f l (slN m)) → Q (some (.int (nI (lbF (fun l => oF m f l (slN m)) 81)))) m' n) : sRun (scT L xs) (d + 7) yX11_bestLaw cX11_bestLaw 7 (some .int) [.ref 0, .int x] m n Q := by
  subst hx
  obtain ⟨s1, s2, s3, s4⟩ := h.sl
  obtain ⟨z1, z2, z3⟩ := LW_0 h0
  obtain ⟨s, hs⟩ : ∃ s, s = slN m := ⟨_, rfl⟩
  rw [← hs] at s1 s2 s3 s4 z3 hQ
  obtain ⟨O, hO⟩ : ∃ O : Nat → Int32, O = fun l => oF m f l s := ⟨_, rfl⟩
  rw [← hO] at hQ
  replace hQ : ∀ m', frC m m' → BK m' → (∀ l, l < 81 → m' 135 l = O l) → Q (some (.int (nI (lbF O 81)))) m' n := fun m' a b c => hQ m' a b (fun l hl => by rw [c l hl, hO])
  have th : ∀ i, i < s → m (166 + 4 * dS m i) 4 = 1 ∧ flR (bo m f (dS m i)) ∧ dOK (bo m f (dS m i)) ∧ DR m (166 + 4 * dS m i) (bo m f (dS m i)) := fun i hi => by
    obtain ⟨-, t2, t3⟩ := both_there h hf (s4 i hi).1 z1 (z3 i hi)
    exact ⟨t2, (t3 _).1, (t3 _).2.1, (t3 _).2.2.2⟩
  refine y_run (own := "LoafFall") rfl (by decide +kernel) (Nat.le_of_ble_eq_true rfl) rfl ?_
  refine y_iconst (v := 0) dX11_bestLaw_0 (by decide) ?_
  refine y_ist7_2 dX11_bestLaw_1 rfl ?_
  refine y_iconst (v := 0) dX11_bestLaw_2 (by decide) ?_
  refine y_ist7_3 dX11_bestLaw_3 rfl ?_
  refine cnt (P := fun l => ∀ m', ∀ a4 a5 a6 : Option Value, a_isL a4 = false → a_isL a5 = false → frC m m' → BK m' → (∀ i, i < l → m' 135 i = O i) → sV (scT L xs) (d + 6) "LoafFall" cX11_bestLaw 7 (some .int) Q 4 [some (.ref 0), some (.int (nI f)), some (.int (nI (lbF O l))), some (.int (nI l)), a4, a5, a6] [] m' n) 81 ?_ ?_ 0 (by omega) m none none none rfl rfl frC.rf h.bk (fun i hi => absurd hi (by omega))
  · intro m' a4 a5 a6 ha4 ha5 v1 v2 v3
    refine y_iload_n dX11_bestLaw_4 rfl rfl ?_
    refine y_bipush (v := 81) dX11_bestLaw_5 (by decide) ?_
    refine y_icmp_ge (tgt := 152) dX11_bestLaw_7 (by decide) (fun h7 => ?_) (fun h7 => absurd (nI_le (a := 81) (b := 81) (Nat.le_refl _) (by decide)) h7)
    refine y_iload_n dX11_bestLaw_152 rfl rfl ?_
    refine y_ireturn dX11_bestLaw_153 rfl rfl ?_
    exact hQ m' v1 v2 v3
  · intro l hk hP
    intro m' a4 a5 a6 ha4 ha5 v1 v2 v3
    refine y_iload_n dX11_bestLaw_4 rfl rfl ?_
    refine y_bipush (v := 81) dX11_bestLaw_5 (by decide) ?_
    refine y_icmp_ge (tgt := 152) dX11_bestLaw_7 (by decide) (fun h7 => absurd h7 (nI_ge (a := l) (b := 81) hk (by decide))) (fun h7 => ?_)
    refine y_aload_n dX11_bestLaw_10 rfl rfl ?_
    refine y_iload_n dX11_bestLaw_11 rfl rfl ?_
    refine y_iload_n dX11_bestLaw_12 rfl rfl ?_
    refine y_ivV2 dX11_bestLaw_13 mv_X11_376 my_X11_takeLaw (Or.inl rfl) sh_0 ?_
    refine c_X11_takeLaw (f := f) (l := l) h v1 rfl hf rfl (by omega) z1 (fun m2 b1 b2 b3 => ⟨rfl, ?_⟩)
    refine y_aload_n dX11_bestLaw_16 rfl rfl ?_
    refine y_getr dX11_bestLaw_17 gf_X11_89 sh_0 rfl ?_
    refine y_iconst (v := -1) dX11_bestLaw_20 (by decide) ?_
    refine y_isV2 dX11_bestLaw_21 ms_X11_427 my_J7_fill_53178 (Or.inl rfl) ?_
    refine c_J7_fill_53178 (fun m3 e1 e2 => ⟨rfl, ?_⟩)
    refine y_iconst (v := 0) dX11_bestLaw_24 (by decide) ?_
    refine y_ist7_4 dX11_bestLaw_25 rfl ?_
    refine y_iconst (v := 0) dX11_bestLaw_27 (by decide) ?_
    refine y_ist7_5 dX11_bestLaw_28 rfl ?_
    refine cnt (P := fun i => ∀ m', ∀ a6 : Option Value, frC m m' → BK m' → (∀ i, i < l → m' 135 i = O i) → m' 125 1 = 1 → (∀ g, FR m' 125 (lwR (bo m f g) l)) → (∀ g, g < 4 → m' 136 g = -1 ∨ m' 136 g = HL m f g l) → sV (scT L xs) (d + 6) "LoafFall" cX11_bestLaw 7 (some .int) Q 30 [some (.ref 0), some (.int (nI f)), some (.int (nI (lbF O l))), some (.int (nI l)), some (.int (oF m f l i)), some (.int (nI i)), a6] [] m' n) s ?_ ?_ 0 (by omega) m3 a6 (fun a ha => by rw [e1 a (by omega), b1 a (by omega)]; exact v1 a ha) (BK_m v2 (fun c h1 h2 => by rw [e1 c (by omega), b1 c (by omega)])) (fun i hi => by rw [e1 _ (by omega), b1 _ (by omega)]; exact v3 i hi) (by rw [e1 _ (by omega)]; exact b2) (fun g i hi => by rw [e1 _ (by omega)]; exact b3 g i hi) (fun g hg => Or.inl (e2 g hg))
    · intro m' a6 v1 v2 v3 v4 v5 v6
      have sz : m' 25 2 = nI s := by rw [v1 _ (by omega)]; exact s2
      refine y_iload dX11_bestLaw_30 rfl ?_
      refine y_aload_n dX11_bestLaw_32 rfl rfl ?_
      refine y_getr dX11_bestLaw_33 gf_X11_47 sh_0 rfl ?_
      refine y_geti dX11_bestLaw_36 gf_X11_355 sh_25 rfl ?_
      rw [sz]
      refine y_icmp_ge (tgt := 125) dX11_bestLaw_39 (by decide) (fun h39 => ?_) (fun h39 => absurd (nI_le (a := s) (b := s) (Nat.le_refl _) (by omega)) h39)
      have e3 : m' 135 (lbF O l) = O (lbF O l) ∨ l = 0 := by
        rcases Nat.eq_zero_or_pos l with q | q
        · exact Or.inr q
        · left
          obtain ⟨l', rfl⟩ : ∃ l', l = l' + 1 := ⟨l - 1, by omega⟩
          exact v3 _ (by have := lb_lt (O := O) l'; omega)
      have lbl : lbF O l < 81 := by
        rcases Nat.eq_zero_or_pos l with q | q
        · rw [q]; show 0 < 81; decide
        · obtain ⟨l', rfl⟩ : ∃ l', l = l' + 1 := ⟨l - 1, by omega⟩
          have := lb_lt (O := O) l'
          omega
      have vO : oF m f l s = O l := by rw [hO]
      rw [vO]
      refine y_aload_n dX11_bestLaw_125 rfl rfl ?_
      refine y_getr dX11_bestLaw_126 gf_X11_85 sh_0 rfl ?_
      refine y_iload_n dX11_bestLaw_129 rfl rfl ?_
      refine y_iload dX11_bestLaw_130 rfl ?_
      refine y_iastN dX11_bestLaw_132 sh_135 rfl (by first | omega | decide) (by decide) ?_
      have e4 : s_up m' 135 (upd (m' 135) l (O l)) 135 (lbF O l) = O (lbF O l) := by
        rw [s_upS, upd_ap]
        by_cases q : lbF O l = l
        · rw [if_pos q, q]
        · rw [if_neg q]
          rcases e3 with e3 | e3
          · exact e3
          · exact absurd (by rw [e3]; rfl) q
      refine y_iload dX11_bestLaw_133 rfl ?_
      refine y_aload_n dX11_bestLaw_135 rfl rfl ?_
      refine y_getr dX11_bestLaw_136 gf_X11_85 sh_0 rfl ?_
      refine y_iload_n dX11_bestLaw_139 rfl rfl ?_
      refine y_ialdN dX11_bestLaw_140 sh_135 rfl (by first | omega | decide) (by decide) ?_
      rw [e4]
      refine y_icmp_ge (tgt := 146) dX11_bestLaw_141 (by decide) (fun h141 => ?_) (fun h141 => ?_)
      · refine y_iinc7_3 dX11_bestLaw_146 (nI_1 _) rfl ?_
        refine y_goto (tgt := 4) dX11_bestLaw_149 (by decide) ?_
        have vf : ∀ i, i < l + 1 → s_up m' 135 (upd (m' 135) l (O l)) 135 i = O i := fun i hi => by
          rw [s_upS, upd_ap]
          by_cases q : i = l
          · rw [if_pos q, q]
          · rw [if_neg q]; exact v3 i (by omega)
        have fin := hP _ (some (.int (O l))) (some (.int (nI s))) a6 rfl rfl (fun a ha => by rw [s_upN (by omega)]; exact v1 a ha) (BK_m v2 (fun c h1 h2 => s_upN (by omega))) vf
        first
          | (rw [show lbF O (l + 1) = lbF O l from if_neg (Int32.not_lt.mpr h141)] at fin; exact fin)
          | (rw [show lbF O (l + 1) = l from if_pos (Int32.not_le.mp h141)] at fin; exact fin)
      · refine y_iload_n dX11_bestLaw_144 rfl rfl ?_
        refine y_ist7_2 dX11_bestLaw_145 rfl ?_
        refine y_iinc7_3 dX11_bestLaw_146 (nI_1 _) rfl ?_
        refine y_goto (tgt := 4) dX11_bestLaw_149 (by decide) ?_
        have vf : ∀ i, i < l + 1 → s_up m' 135 (upd (m' 135) l (O l)) 135 i = O i := fun i hi => by
          rw [s_upS, upd_ap]
          by_cases q : i = l
          · rw [if_pos q, q]
          · rw [if_neg q]; exact v3 i (by omega)
        have fin := hP _ (some (.int (O l))) (some (.int (nI s))) a6 rfl rfl (fun a ha => by rw [s_upN (by omega)]; exact v1 a ha) (BK_m v2 (fun c h1 h2 => s_upN (by omega))) vf
        first
          | (rw [show lbF O (l + 1) = lbF O l from if_neg (Int32.not_lt.mpr h141)] at fin; exact fin)
          | (rw [show lbF O (l + 1) = l from if_pos (Int32.not_le.mp h141)] at fin; exact fin)
    · intro i hk hP
      intro m' a6 v1 v2 v3 v4 v5 v6
      have sz : m' 25 2 = nI s := by rw [v1 _ (by omega)]; exact s2
      obtain ⟨d4, d5, d6, hh, h1, h2, h3⟩ := s4 i hk
      obtain ⟨t1, t2, t3, t4⟩ := th i hk
      obtain ⟨D, hD⟩ : ∃ D, D = dS m i := ⟨_, rfl⟩
      rw [← hD] at d4 d5 d6 t1 t2 t3 t4
      have e26 : m' 26 i = nI D := by rw [v1 _ (by omega)]; exact d5
      have lf := lw_f (l := l) t2 (by omega)
      have ld := lw_d (l := l) t3
      obtain ⟨hu, hu1, hu2⟩ := hv_le lf ld
      have hH : HL m f D l = nI hu := hu2
      refine y_iload dX11_bestLaw_30 rfl ?_
      refine y_aload_n dX11_bestLaw_32 rfl rfl ?_
      refine y_getr dX11_bestLaw_33 gf_X11_47 sh_0 rfl ?_
      refine y_geti dX11_bestLaw_36 gf_X11_355 sh_25 rfl ?_
      rw [sz]
      refine y_icmp_ge (tgt := 125) dX11_bestLaw_39 (by decide) (fun h39 => absurd h39 (nI_ge (a := i) (b := s) hk (by omega))) (fun h39 => ?_)
      suffices hs6 : ∀ m6, frC m m6 → BK m6 → (∀ i, i < l → m6 135 i = O i) → m6 125 1 = 1 → (∀ g, FR m6 125 (lwR (bo m f g) l)) → (∀ g, g < 4 → m6 136 g = -1 ∨ m6 136 g = HL m f g l) → m6 136 D = HL m f D l → sV (scT L xs) (d + 6) "LoafFall" cX11_bestLaw 7 (some .int) Q 93 [some (.ref 0), some (.int (nI f)), some (.int (nI (lbF O l))), some (.int (nI l)), some (.int (oF m f l i)), some (.int (nI i)), some (.int (nI D))] [] m6 n by
        refine y_aload_n dX11_bestLaw_42 rfl rfl ?_
        refine y_getr dX11_bestLaw_43 gf_X11_47 sh_0 rfl ?_
        refine y_getr dX11_bestLaw_46 gf_X11_359 sh_25 rfl ?_
        refine y_iload dX11_bestLaw_49 rfl ?_
        refine y_ialdN dX11_bestLaw_51 sh_26 rfl (by first | omega | decide) (by decide) ?_
        rw [e26]
        refine y_ist7_6 dX11_bestLaw_52 rfl ?_
        refine y_aload_n dX11_bestLaw_54 rfl rfl ?_
        refine y_getr dX11_bestLaw_55 gf_X11_89 sh_0 rfl ?_
        refine y_iload dX11_bestLaw_58 rfl ?_
        refine y_ialdN dX11_bestLaw_60 sh_136 rfl (by first | omega | decide) (by decide) ?_
        refine y_iconst (v := -1) dX11_bestLaw_61 (by decide) ?_
        refine y_icmp_ne (tgt := 93) dX11_bestLaw_62 (by decide) (fun h62 => ?_) (fun h62 => ?_)
        · first
            | (refine hs6 _ (fun a ha => by rw [s_upN (by omega), a5 a (by omega)]; exact v1 a ha) (BK_m a4' (fun c h1 h2 => s_upN (by omega))) (fun i hi => by rw [s_upN (by omega), a5 _ (by omega)]; exact v3 i hi) (by rw [s_upN (by omega), a5 _ (by omega)]; exact v4) (fun g i hi => by rw [s_upN (by omega), a5 _ (by omega)]; exact v5 g i hi) (fun g hg => ?_) ?_
               · rw [s_upS, upd_ap]
                 by_cases e : g = D
                 · rw [if_pos e, e]; exact Or.inr rfl
                 · rw [if_neg e, a5 136 (by omega)]; exact v6 g hg
               · rw [s_upS, updS])
            | (exact hs6 m' v1 v2 v3 v4 v5 v6 ((v6 D d4).resolve_left h62))
        · refine y_aload_n dX11_bestLaw_65 rfl rfl ?_
          refine y_getr dX11_bestLaw_66 gf_X11_89 sh_0 rfl ?_
          refine y_iload dX11_bestLaw_69 rfl ?_
          refine y_aload_n dX11_bestLaw_71 rfl rfl ?_
          refine y_getr dX11_bestLaw_72 gf_X11_61 sh_0 rfl ?_
          refine y_aload_n dX11_bestLaw_75 rfl rfl ?_
          refine y_getr dX11_bestLaw_76 gf_X11_73 sh_0 rfl ?_
          refine y_aload_n dX11_bestLaw_79 rfl rfl ?_
          refine y_getr dX11_bestLaw_80 gf_X11_29 sh_0 rfl ?_
          refine y_iload dX11_bestLaw_83 rfl ?_
          refine y_aaldN dX11_bestLaw_85 (by decide) sh_4 rfl (dgA (k := D) (by omega)) (by decide) ?_
          refine y_ivR2 dX11_bestLaw_86 mv_X11_303 my_X0_bake (Or.inl rfl) sh_35 ?_
          refine c_bakeV (R := lwR (bo m f D) l) fl125 (dgI d4) (by omega) (by omega) (v5 D) (DR_m (DR_lo t4 t3.2.1 (fun p h1 h2 => lw_lo (by omega))) (fun c h1 h2 => v1 c (by omega))) lf ld (Or.inr v4) (Or.inr (by rw [v1 _ (by omega)]; exact t1)) v2 (fun m4 A a1 a2 a3 a4' a5 => ⟨_, rfl, ?_⟩)
          refine y_ivI0 dX11_bestLaw_89 mv_X11_258 my_X2_heightNow (Or.inl rfl) dh43.1 ?_
          refine c_X2_heightNow dh43 a1 ⟨_, rfl, ?_⟩
          rw [show hgt A 12 = HL m f D l from a3.h]
          refine y_iastN dX11_bestLaw_92 sh_136 rfl (by first | omega | decide) (by decide) ?_
          first
            | (refine hs6 _ (fun a ha => by rw [s_upN (by omega), a5 a (by omega)]; exact v1 a ha) (BK_m a4' (fun c h1 h2 => s_upN (by omega))) (fun i hi => by rw [s_upN (by omega), a5 _ (by omega)]; exact v3 i hi) (by rw [s_upN (by omega), a5 _ (by omega)]; exact v4) (fun g i hi => by rw [s_upN (by omega), a5 _ (by omega)]; exact v5 g i hi) (fun g hg => ?_) ?_
               · rw [s_upS, upd_ap]
                 by_cases e : g = D
                 · rw [if_pos e, e]; exact Or.inr rfl
                 · rw [if_neg e, a5 136 (by omega)]; exact v6 g hg
               · rw [s_upS, updS])
            | (exact hs6 m' v1 v2 v3 v4 v5 v6 ((v6 D d4).resolve_left h62))
      intro m6 v1 v2 v3 v4 v5 v6 v7
      have eo : oF m f l (i + 1) = oF m f l i + (if 0 ≤ HL m f D l - nI hh then HL m f D l - nI hh else 0 - (HL m f D l - nI hh)) := by
        rw [oF, ← hD, h3, abs_dst hu1 (by omega) hH rfl]
      refine y_iload dX11_bestLaw_93 rfl ?_
      refine y_aload_n dX11_bestLaw_95 rfl rfl ?_
      refine y_getr dX11_bestLaw_96 gf_X11_89 sh_0 rfl ?_
      refine y_iload dX11_bestLaw_99 rfl ?_
      refine y_ialdN dX11_bestLaw_101 sh_136 rfl (by first | omega | decide) (by decide) ?_
      rw [v7]
      refine y_aload_n dX11_bestLaw_102 rfl rfl ?_
      refine y_getr dX11_bestLaw_103 gf_X11_47 sh_0 rfl ?_
      refine y_getr dX11_bestLaw_106 gf_X11_361 sh_25 rfl ?_
      refine y_iload dX11_bestLaw_109 rfl ?_
      refine y_ialdN dX11_bestLaw_111 sh_27 rfl (by first | omega | decide) (by decide) ?_
      rw [show m6 27 i = nI hh from by rw [v1 _ (by omega)]; exact h2]
      refine y_isub dX11_bestLaw_112 ?_
      refine y_mabs dX11_bestLaw_113 mm_X11_344 (Nat.le_of_ble_eq_true rfl) ?_
      refine y_iadd dX11_bestLaw_116 ?_
      refine y_ist7_4 dX11_bestLaw_117 rfl ?_
      refine y_iinc7_5 dX11_bestLaw_119 (nI_1 _) rfl ?_
      refine y_goto (tgt := 30) dX11_bestLaw_122 (by decide) ?_
      have := hP m6 (some (.int (nI D))) v1 v2 v3 v4 v5 v6
      rw [eo] at this
      exact this
