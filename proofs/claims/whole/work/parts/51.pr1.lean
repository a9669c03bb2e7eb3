/-! ===== places; small helpers of both sides; rows and texts ===== -/
theorem rwA {k : Nat} (h : k < 6) : [138, 140, 142, 144, 146, 148][k]? = some (138 + 2 * k) := (by decide +kernel : ∀ k, k < 6 → [138, 140, 142, 144, 146, 148][k]? = some (138 + 2 * k)) k h
theorem rwI {k : Nat} (h : k < 6) : isRw (138 + 2 * k) := by
  have : k = 0 ∨ k = 1 ∨ k = 2 ∨ k = 3 ∨ k = 4 ∨ k = 5 := by omega
  rcases this with rfl | rfl | rfl | rfl | rfl | rfl
  · exact ⟨sh_138, sh_139⟩
  · exact ⟨sh_140, sh_141⟩
  · exact ⟨sh_142, sh_143⟩
  · exact ⟨sh_144, sh_145⟩
  · exact ⟨sh_146, sh_147⟩
  · exact ⟨sh_148, sh_149⟩
theorem txA {k : Nat} (h : k < 4) : [150, 152, 154, 156][k]? = some (150 + 2 * k) := (by decide +kernel : ∀ k, k < 4 → [150, 152, 154, 156][k]? = some (150 + 2 * k)) k h
theorem txI {k : Nat} (h : k < 4) : isTx (150 + 2 * k) := by
  have : k = 0 ∨ k = 1 ∨ k = 2 ∨ k = 3 := by omega
  rcases this with rfl | rfl | rfl | rfl
  · exact ⟨sh_150, sh_151⟩
  · exact ⟨sh_152, sh_153⟩
  · exact ⟨sh_154, sh_155⟩
  · exact ⟨sh_156, sh_157⟩
theorem flA {k : Nat} (h : k < 4) : [158, 160, 162, 164][k]? = some (158 + 2 * k) := (by decide +kernel : ∀ k, k < 4 → [158, 160, 162, 164][k]? = some (158 + 2 * k)) k h
theorem flI {k : Nat} (h : k < 4) : isFl (158 + 2 * k) := by
  have : k = 0 ∨ k = 1 ∨ k = 2 ∨ k = 3 := by omega
  rcases this with rfl | rfl | rfl | rfl
  · exact ⟨sh_158, sh_159⟩
  · exact ⟨sh_160, sh_161⟩
  · exact ⟨sh_162, sh_163⟩
  · exact ⟨sh_164, sh_165⟩
theorem dgA {k : Nat} (h : k < 4) : [166, 170, 174, 178][k]? = some (166 + 4 * k) := (by decide +kernel : ∀ k, k < 4 → [166, 170, 174, 178][k]? = some (166 + 4 * k)) k h
theorem dgI {k : Nat} (h : k < 4) : isDg (166 + 4 * k) := by
  have : k = 0 ∨ k = 1 ∨ k = 2 ∨ k = 3 := by omega
  rcases this with rfl | rfl | rfl | rfl
  · exact ⟨sh_166, sh_167, sh_168, sh_169⟩
  · exact ⟨sh_170, sh_171, sh_172, sh_173⟩
  · exact ⟨sh_174, sh_175, sh_176, sh_177⟩
  · exact ⟨sh_178, sh_179, sh_180, sh_181⟩
theorem kpA {k : Nat} (h : k < 3) : [182, 201, 220][k]? = some (182 + 19 * k) := (by decide +kernel : ∀ k, k < 3 → [182, 201, 220][k]? = some (182 + 19 * k)) k h
theorem kpI {k : Nat} (h : k < 3) : isLf (182 + 19 * k) := by
  have : k = 0 ∨ k = 1 ∨ k = 2 := by omega
  rcases this with rfl | rfl | rfl
  · exact ⟨sh_182, ⟨sh_183, sh_184⟩, ⟨sh_185, sh_186, sh_187, sh_188⟩, ⟨sh_189, sh_190, sh_191, sh_192, sh_193, sh_194⟩, ⟨sh_195, sh_196, sh_197, sh_198, sh_199, sh_200⟩⟩
  · exact ⟨sh_201, ⟨sh_202, sh_203⟩, ⟨sh_204, sh_205, sh_206, sh_207⟩, ⟨sh_208, sh_209, sh_210, sh_211, sh_212, sh_213⟩, ⟨sh_214, sh_215, sh_216, sh_217, sh_218, sh_219⟩⟩
  · exact ⟨sh_220, ⟨sh_221, sh_222⟩, ⟨sh_223, sh_224, sh_225, sh_226⟩, ⟨sh_227, sh_228, sh_229, sh_230, sh_231, sh_232⟩, ⟨sh_233, sh_234, sh_235, sh_236, sh_237, sh_238⟩⟩
theorem lf6 : isLf 6 := ⟨sh_6, ⟨sh_7, sh_8⟩, ⟨sh_9, sh_10, sh_11, sh_12⟩, ⟨sh_13, sh_14, sh_15, sh_16, sh_17, sh_18⟩, ⟨sh_19, sh_20, sh_21, sh_22, sh_23, sh_24⟩⟩
theorem fl125 : isFl 125 := ⟨sh_125, sh_126⟩
theorem dg127 : isDg 127 := ⟨sh_127, sh_128, sh_129, sh_130⟩
theorem dg131 : isDg 131 := ⟨sh_131, sh_132, sh_133, sh_134⟩
theorem fl29 : isFl 29 := ⟨sh_29, sh_30⟩
theorem dg31 : isDg 31 := ⟨sh_31, sh_32, sh_33, sh_34⟩
set_option maxHeartbeats 1000000 in
theorem c_X11_isRow {L : Nat} {xs : Nat → Int32} {d : Nat} {m : sM} {n : sN} {Q : sQ} {x : Int32} (hQ1 : inN x 6 → Q (some (.int 1)) m n) (hQ0 : ¬ inN x 6 → Q (some (.int 0)) m n) : sRun (scT L xs) (d + 1) yX11_isRow cX11_isRow 1 (some .boolean) [.int x] m n Q := by
  refine y_run (own := "LoafFall") rfl (by decide +kernel) (Nat.le_of_ble_eq_true rfl) rfl ?_
  refine y_iload_n dX11_isRow_0 rfl rfl ?_
  refine y_if_lt (tgt := 14) dX11_isRow_1 (by decide) (fun h1 => ?_) (fun h1 => ?_)
  · refine y_iconst (v := 0) dX11_isRow_14 (by decide) ?_
    refine y_ireturn dX11_isRow_15 rfl rfl ?_
    first
      | exact hQ0 (fun z => absurd h1 ((in_lt (M := 6) (by decide)).mp z).1)
      | exact hQ0 (fun z => absurd h7 (Int32.not_le.mpr ((in_lt (M := 6) (by decide)).mp z).2))
      | exact hQ1 ((in_lt (M := 6) (by decide)).mpr ⟨h1, Int32.not_le.mp h7⟩)
  · refine y_iload_n dX11_isRow_4 rfl rfl ?_
    refine y_bipush (v := 6) dX11_isRow_5 (by decide) ?_
    refine y_icmp_ge (tgt := 14) dX11_isRow_7 (by decide) (fun h7 => ?_) (fun h7 => ?_)
    · refine y_iconst (v := 0) dX11_isRow_14 (by decide) ?_
      refine y_ireturn dX11_isRow_15 rfl rfl ?_
      first
        | exact hQ0 (fun z => absurd h1 ((in_lt (M := 6) (by decide)).mp z).1)
        | exact hQ0 (fun z => absurd h7 (Int32.not_le.mpr ((in_lt (M := 6) (by decide)).mp z).2))
        | exact hQ1 ((in_lt (M := 6) (by decide)).mpr ⟨h1, Int32.not_le.mp h7⟩)
    · refine y_iconst (v := 1) dX11_isRow_10 (by decide) ?_
      refine y_goto (tgt := 15) dX11_isRow_11 (by decide) ?_
      refine y_ireturn dX11_isRow_15 rfl rfl ?_
      first
        | exact hQ0 (fun z => absurd h1 ((in_lt (M := 6) (by decide)).mp z).1)
        | exact hQ0 (fun z => absurd h7 (Int32.not_le.mpr ((in_lt (M := 6) (by decide)).mp z).2))
        | exact hQ1 ((in_lt (M := 6) (by decide)).mpr ⟨h1, Int32.not_le.mp h7⟩)
set_option maxHeartbeats 1000000 in
theorem c_X11_isText {L : Nat} {xs : Nat → Int32} {d : Nat} {m : sM} {n : sN} {Q : sQ} {x : Int32} (hQ1 : inN x 4 → Q (some (.int 1)) m n) (hQ0 : ¬ inN x 4 → Q (some (.int 0)) m n) : sRun (scT L xs) (d + 1) yX11_isText cX11_isText 1 (some .boolean) [.int x] m n Q := by
  refine y_run (own := "LoafFall") rfl (by decide +kernel) (Nat.le_of_ble_eq_true rfl) rfl ?_
  refine y_iload_n dX11_isText_0 rfl rfl ?_
  refine y_if_lt (tgt := 13) dX11_isText_1 (by decide) (fun h1 => ?_) (fun h1 => ?_)
  · refine y_iconst (v := 0) dX11_isText_13 (by decide) ?_
    refine y_ireturn dX11_isText_14 rfl rfl ?_
    first
      | exact hQ0 (fun z => absurd h1 ((in_lt (M := 4) (by decide)).mp z).1)
      | exact hQ0 (fun z => absurd h6 (Int32.not_le.mpr ((in_lt (M := 4) (by decide)).mp z).2))
      | exact hQ1 ((in_lt (M := 4) (by decide)).mpr ⟨h1, Int32.not_le.mp h6⟩)
  · refine y_iload_n dX11_isText_4 rfl rfl ?_
    refine y_iconst (v := 4) dX11_isText_5 (by decide) ?_
    refine y_icmp_ge (tgt := 13) dX11_isText_6 (by decide) (fun h6 => ?_) (fun h6 => ?_)
    · refine y_iconst (v := 0) dX11_isText_13 (by decide) ?_
      refine y_ireturn dX11_isText_14 rfl rfl ?_
      first
        | exact hQ0 (fun z => absurd h1 ((in_lt (M := 4) (by decide)).mp z).1)
        | exact hQ0 (fun z => absurd h6 (Int32.not_le.mpr ((in_lt (M := 4) (by decide)).mp z).2))
        | exact hQ1 ((in_lt (M := 4) (by decide)).mpr ⟨h1, Int32.not_le.mp h6⟩)
    · refine y_iconst (v := 1) dX11_isText_9 (by decide) ?_
      refine y_goto (tgt := 14) dX11_isText_10 (by decide) ?_
      refine y_ireturn dX11_isText_14 rfl rfl ?_
      first
        | exact hQ0 (fun z => absurd h1 ((in_lt (M := 4) (by decide)).mp z).1)
        | exact hQ0 (fun z => absurd h6 (Int32.not_le.mpr ((in_lt (M := 4) (by decide)).mp z).2))
        | exact hQ1 ((in_lt (M := 4) (by decide)).mpr ⟨h1, Int32.not_le.mp h6⟩)
set_option maxHeartbeats 1000000 in
theorem c_X11_isFlour {L : Nat} {xs : Nat → Int32} {d : Nat} {m : sM} {n : sN} {Q : sQ} {x : Int32} (hQ1 : inN x 4 → Q (some (.int 1)) m n) (hQ0 : ¬ inN x 4 → Q (some (.int 0)) m n) : sRun (scT L xs) (d + 1) yX11_isFlour cX11_isFlour 1 (some .boolean) [.int x] m n Q := by
  refine y_run (own := "LoafFall") rfl (by decide +kernel) (Nat.le_of_ble_eq_true rfl) rfl ?_
  refine y_iload_n dX11_isFlour_0 rfl rfl ?_
  refine y_if_lt (tgt := 13) dX11_isFlour_1 (by decide) (fun h1 => ?_) (fun h1 => ?_)
  · refine y_iconst (v := 0) dX11_isFlour_13 (by decide) ?_
    refine y_ireturn dX11_isFlour_14 rfl rfl ?_
    first
      | exact hQ0 (fun z => absurd h1 ((in_lt (M := 4) (by decide)).mp z).1)
      | exact hQ0 (fun z => absurd h6 (Int32.not_le.mpr ((in_lt (M := 4) (by decide)).mp z).2))
      | exact hQ1 ((in_lt (M := 4) (by decide)).mpr ⟨h1, Int32.not_le.mp h6⟩)
  · refine y_iload_n dX11_isFlour_4 rfl rfl ?_
    refine y_iconst (v := 4) dX11_isFlour_5 (by decide) ?_
    refine y_icmp_ge (tgt := 13) dX11_isFlour_6 (by decide) (fun h6 => ?_) (fun h6 => ?_)
    · refine y_iconst (v := 0) dX11_isFlour_13 (by decide) ?_
      refine y_ireturn dX11_isFlour_14 rfl rfl ?_
      first
        | exact hQ0 (fun z => absurd h1 ((in_lt (M := 4) (by decide)).mp z).1)
        | exact hQ0 (fun z => absurd h6 (Int32.not_le.mpr ((in_lt (M := 4) (by decide)).mp z).2))
        | exact hQ1 ((in_lt (M := 4) (by decide)).mpr ⟨h1, Int32.not_le.mp h6⟩)
    · refine y_iconst (v := 1) dX11_isFlour_9 (by decide) ?_
      refine y_goto (tgt := 14) dX11_isFlour_10 (by decide) ?_
      refine y_ireturn dX11_isFlour_14 rfl rfl ?_
      first
        | exact hQ0 (fun z => absurd h1 ((in_lt (M := 4) (by decide)).mp z).1)
        | exact hQ0 (fun z => absurd h6 (Int32.not_le.mpr ((in_lt (M := 4) (by decide)).mp z).2))
        | exact hQ1 ((in_lt (M := 4) (by decide)).mpr ⟨h1, Int32.not_le.mp h6⟩)
set_option maxHeartbeats 1000000 in
theorem c_X11_isDoing {L : Nat} {xs : Nat → Int32} {d : Nat} {m : sM} {n : sN} {Q : sQ} {x : Int32} (hQ1 : inN x 4 → Q (some (.int 1)) m n) (hQ0 : ¬ inN x 4 → Q (some (.int 0)) m n) : sRun (scT L xs) (d + 1) yX11_isDoing cX11_isDoing 1 (some .boolean) [.int x] m n Q := by
  refine y_run (own := "LoafFall") rfl (by decide +kernel) (Nat.le_of_ble_eq_true rfl) rfl ?_
  refine y_iload_n dX11_isDoing_0 rfl rfl ?_
  refine y_if_lt (tgt := 13) dX11_isDoing_1 (by decide) (fun h1 => ?_) (fun h1 => ?_)
  · refine y_iconst (v := 0) dX11_isDoing_13 (by decide) ?_
    refine y_ireturn dX11_isDoing_14 rfl rfl ?_
    first
      | exact hQ0 (fun z => absurd h1 ((in_lt (M := 4) (by decide)).mp z).1)
      | exact hQ0 (fun z => absurd h6 (Int32.not_le.mpr ((in_lt (M := 4) (by decide)).mp z).2))
      | exact hQ1 ((in_lt (M := 4) (by decide)).mpr ⟨h1, Int32.not_le.mp h6⟩)
  · refine y_iload_n dX11_isDoing_4 rfl rfl ?_
    refine y_iconst (v := 4) dX11_isDoing_5 (by decide) ?_
    refine y_icmp_ge (tgt := 13) dX11_isDoing_6 (by decide) (fun h6 => ?_) (fun h6 => ?_)
    · refine y_iconst (v := 0) dX11_isDoing_13 (by decide) ?_
      refine y_ireturn dX11_isDoing_14 rfl rfl ?_
      first
        | exact hQ0 (fun z => absurd h1 ((in_lt (M := 4) (by decide)).mp z).1)
        | exact hQ0 (fun z => absurd h6 (Int32.not_le.mpr ((in_lt (M := 4) (by decide)).mp z).2))
        | exact hQ1 ((in_lt (M := 4) (by decide)).mpr ⟨h1, Int32.not_le.mp h6⟩)
    · refine y_iconst (v := 1) dX11_isDoing_9 (by decide) ?_
      refine y_goto (tgt := 14) dX11_isDoing_10 (by decide) ?_
      refine y_ireturn dX11_isDoing_14 rfl rfl ?_
      first
        | exact hQ0 (fun z => absurd h1 ((in_lt (M := 4) (by decide)).mp z).1)
        | exact hQ0 (fun z => absurd h6 (Int32.not_le.mpr ((in_lt (M := 4) (by decide)).mp z).2))
        | exact hQ1 ((in_lt (M := 4) (by decide)).mpr ⟨h1, Int32.not_le.mp h6⟩)
set_option maxHeartbeats 1000000 in
theorem c_X11_isPlace {L : Nat} {xs : Nat → Int32} {d : Nat} {m : sM} {n : sN} {Q : sQ} {x : Int32} (hQ1 : inN x 3 → Q (some (.int 1)) m n) (hQ0 : ¬ inN x 3 → Q (some (.int 0)) m n) : sRun (scT L xs) (d + 1) yX11_isPlace cX11_isPlace 1 (some .boolean) [.int x] m n Q := by
  refine y_run (own := "LoafFall") rfl (by decide +kernel) (Nat.le_of_ble_eq_true rfl) rfl ?_
  refine y_iload_n dX11_isPlace_0 rfl rfl ?_
  refine y_if_lt (tgt := 13) dX11_isPlace_1 (by decide) (fun h1 => ?_) (fun h1 => ?_)
  · refine y_iconst (v := 0) dX11_isPlace_13 (by decide) ?_
    refine y_ireturn dX11_isPlace_14 rfl rfl ?_
    first
      | exact hQ0 (fun z => absurd h1 ((in_lt (M := 3) (by decide)).mp z).1)
      | exact hQ0 (fun z => absurd h6 (Int32.not_le.mpr ((in_lt (M := 3) (by decide)).mp z).2))
      | exact hQ1 ((in_lt (M := 3) (by decide)).mpr ⟨h1, Int32.not_le.mp h6⟩)
  · refine y_iload_n dX11_isPlace_4 rfl rfl ?_
    refine y_iconst (v := 3) dX11_isPlace_5 (by decide) ?_
    refine y_icmp_ge (tgt := 13) dX11_isPlace_6 (by decide) (fun h6 => ?_) (fun h6 => ?_)
    · refine y_iconst (v := 0) dX11_isPlace_13 (by decide) ?_
      refine y_ireturn dX11_isPlace_14 rfl rfl ?_
      first
        | exact hQ0 (fun z => absurd h1 ((in_lt (M := 3) (by decide)).mp z).1)
        | exact hQ0 (fun z => absurd h6 (Int32.not_le.mpr ((in_lt (M := 3) (by decide)).mp z).2))
        | exact hQ1 ((in_lt (M := 3) (by decide)).mpr ⟨h1, Int32.not_le.mp h6⟩)
    · refine y_iconst (v := 1) dX11_isPlace_9 (by decide) ?_
      refine y_goto (tgt := 14) dX11_isPlace_10 (by decide) ?_
      refine y_ireturn dX11_isPlace_14 rfl rfl ?_
      first
        | exact hQ0 (fun z => absurd h1 ((in_lt (M := 3) (by decide)).mp z).1)
        | exact hQ0 (fun z => absurd h6 (Int32.not_le.mpr ((in_lt (M := 3) (by decide)).mp z).2))
        | exact hQ1 ((in_lt (M := 3) (by decide)).mpr ⟨h1, Int32.not_le.mp h6⟩)
set_option maxHeartbeats 1000000 in
theorem c_X11_isWarmth {L : Nat} {xs : Nat → Int32} {d : Nat} {m : sM} {n : sN} {Q : sQ} {x : Int32} (hQ1 : inN x 10 → Q (some (.int 1)) m n) (hQ0 : ¬ inN x 10 → Q (some (.int 0)) m n) : sRun (scT L xs) (d + 1) yX11_isWarmth cX11_isWarmth 1 (some .boolean) [.int x] m n Q := by
  refine y_run (own := "LoafFall") rfl (by decide +kernel) (Nat.le_of_ble_eq_true rfl) rfl ?_
  refine y_iload_n dX11_isWarmth_0 rfl rfl ?_
  refine y_if_lt (tgt := 14) dX11_isWarmth_1 (by decide) (fun h1 => ?_) (fun h1 => ?_)
  · refine y_iconst (v := 0) dX11_isWarmth_14 (by decide) ?_
    refine y_ireturn dX11_isWarmth_15 rfl rfl ?_
    first
      | exact hQ0 (fun z => absurd h1 ((in_lt (M := 10) (by decide)).mp z).1)
      | exact hQ0 (fun z => absurd h7 (Int32.not_lt.mpr ((in_le (M := 9) (by decide)).mp z).2))
      | exact hQ1 ((in_le (M := 9) (by decide)).mpr ⟨Int32.not_lt.mp h1, Int32.not_lt.mp h7⟩)
  · refine y_iload_n dX11_isWarmth_4 rfl rfl ?_
    refine y_bipush (v := 9) dX11_isWarmth_5 (by decide) ?_
    refine y_icmp_gt (tgt := 14) dX11_isWarmth_7 (by decide) (fun h7 => ?_) (fun h7 => ?_)
    · refine y_iconst (v := 0) dX11_isWarmth_14 (by decide) ?_
      refine y_ireturn dX11_isWarmth_15 rfl rfl ?_
      first
        | exact hQ0 (fun z => absurd h1 ((in_lt (M := 10) (by decide)).mp z).1)
        | exact hQ0 (fun z => absurd h7 (Int32.not_lt.mpr ((in_le (M := 9) (by decide)).mp z).2))
        | exact hQ1 ((in_le (M := 9) (by decide)).mpr ⟨Int32.not_lt.mp h1, Int32.not_lt.mp h7⟩)
    · refine y_iconst (v := 1) dX11_isWarmth_10 (by decide) ?_
      refine y_goto (tgt := 15) dX11_isWarmth_11 (by decide) ?_
      refine y_ireturn dX11_isWarmth_15 rfl rfl ?_
      first
        | exact hQ0 (fun z => absurd h1 ((in_lt (M := 10) (by decide)).mp z).1)
        | exact hQ0 (fun z => absurd h7 (Int32.not_lt.mpr ((in_le (M := 9) (by decide)).mp z).2))
        | exact hQ1 ((in_le (M := 9) (by decide)).mpr ⟨Int32.not_lt.mp h1, Int32.not_lt.mp h7⟩)
set_option maxHeartbeats 1000000 in
theorem c_X12_isRow {L : Nat} {xs : Nat → Int32} {d : Nat} {m : sM} {n : sN} {Q : sQ} {x : Int32} (hQ1 : inN x 6 → Q (some (.int 1)) m n) (hQ0 : ¬ inN x 6 → Q (some (.int 0)) m n) : sRun (scT L xs) (d + 2) yX12_isRow cX12_isRow 1 (some .boolean) [.int x] m n Q := by
  refine y_run (own := "LoafFallModel") rfl (by decide +kernel) (Nat.le_of_ble_eq_true rfl) rfl ?_
  refine y_iload_n dX12_isRow_0 rfl rfl ?_
  refine y_iconst (v := 0) dX12_isRow_1 (by decide) ?_
  refine y_iconst (v := 5) dX12_isRow_2 (by decide) ?_
  refine y_isI3 dX12_isRow_3 ms_X12_86 my_X12_in (Or.inl rfl) ?_
  refine c_X12_in (fun a b => ⟨_, rfl, ?_⟩) (fun a => ⟨_, rfl, ?_⟩)
  · refine y_ireturn dX12_isRow_6 rfl rfl ?_
    first
      | exact hQ1 ((in_le (M := 5) (by decide)).mpr ⟨a, b⟩)
      | exact hQ0 (fun z => a ((in_le (M := 5) (by decide)).mp z))
  · refine y_ireturn dX12_isRow_6 rfl rfl ?_
    first
      | exact hQ1 ((in_le (M := 5) (by decide)).mpr ⟨a, b⟩)
      | exact hQ0 (fun z => a ((in_le (M := 5) (by decide)).mp z))
set_option maxHeartbeats 1000000 in
theorem c_X12_isText {L : Nat} {xs : Nat → Int32} {d : Nat} {m : sM} {n : sN} {Q : sQ} {x : Int32} (hQ1 : inN x 4 → Q (some (.int 1)) m n) (hQ0 : ¬ inN x 4 → Q (some (.int 0)) m n) : sRun (scT L xs) (d + 2) yX12_isText cX12_isText 1 (some .boolean) [.int x] m n Q := by
  refine y_run (own := "LoafFallModel") rfl (by decide +kernel) (Nat.le_of_ble_eq_true rfl) rfl ?_
  refine y_iload_n dX12_isText_0 rfl rfl ?_
  refine y_iconst (v := 0) dX12_isText_1 (by decide) ?_
  refine y_iconst (v := 3) dX12_isText_2 (by decide) ?_
  refine y_isI3 dX12_isText_3 ms_X12_86 my_X12_in (Or.inl rfl) ?_
  refine c_X12_in (fun a b => ⟨_, rfl, ?_⟩) (fun a => ⟨_, rfl, ?_⟩)
  · refine y_ireturn dX12_isText_6 rfl rfl ?_
    first
      | exact hQ1 ((in_le (M := 3) (by decide)).mpr ⟨a, b⟩)
      | exact hQ0 (fun z => a ((in_le (M := 3) (by decide)).mp z))
  · refine y_ireturn dX12_isText_6 rfl rfl ?_
    first
      | exact hQ1 ((in_le (M := 3) (by decide)).mpr ⟨a, b⟩)
      | exact hQ0 (fun z => a ((in_le (M := 3) (by decide)).mp z))
set_option maxHeartbeats 1000000 in
theorem c_X12_isPlace {L : Nat} {xs : Nat → Int32} {d : Nat} {m : sM} {n : sN} {Q : sQ} {x : Int32} (hQ1 : inN x 4 → Q (some (.int 1)) m n) (hQ0 : ¬ inN x 4 → Q (some (.int 0)) m n) : sRun (scT L xs) (d + 2) yX12_isPlace cX12_isPlace 1 (some .boolean) [.int x] m n Q := by
  refine y_run (own := "LoafFallModel") rfl (by decide +kernel) (Nat.le_of_ble_eq_true rfl) rfl ?_
  refine y_iload_n dX12_isPlace_0 rfl rfl ?_
  refine y_iconst (v := 0) dX12_isPlace_1 (by decide) ?_
  refine y_iconst (v := 3) dX12_isPlace_2 (by decide) ?_
  refine y_isI3 dX12_isPlace_3 ms_X12_86 my_X12_in (Or.inl rfl) ?_
  refine c_X12_in (fun a b => ⟨_, rfl, ?_⟩) (fun a => ⟨_, rfl, ?_⟩)
  · refine y_ireturn dX12_isPlace_6 rfl rfl ?_
    first
      | exact hQ1 ((in_le (M := 3) (by decide)).mpr ⟨a, b⟩)
      | exact hQ0 (fun z => a ((in_le (M := 3) (by decide)).mp z))
  · refine y_ireturn dX12_isPlace_6 rfl rfl ?_
    first
      | exact hQ1 ((in_le (M := 3) (by decide)).mpr ⟨a, b⟩)
      | exact hQ0 (fun z => a ((in_le (M := 3) (by decide)).mp z))
set_option maxHeartbeats 1000000 in
theorem c_X11_tell {L : Nat} {xs : Nat → Int32} {d : Nat} {m : sM} {n : sN} {Q : sQ} {v : Int32} (hQ : Q (some (.int 1)) (tellM m v) n) : sRun (scT L xs) (d + 1) yX11_tell cX11_tell 2 (some .int) [.ref 0, .int v] m n Q := by
  refine y_run (own := "LoafFall") rfl (by decide +kernel) (Nat.le_of_ble_eq_true rfl) rfl ?_
  refine y_aload_n dX11_tell_0 rfl rfl ?_
  refine y_iload_n dX11_tell_1 rfl rfl ?_
  refine y_puti dX11_tell_2 pf_X11_194 sh_0 rfl rfl rfl ?_
  refine y_iconst (v := 1) dX11_tell_5 (by decide) ?_
  refine y_ireturn dX11_tell_6 rfl rfl ?_
  exact hQ
set_option maxHeartbeats 1000000 in
theorem c_X12_tells {L : Nat} {xs : Nat → Int32} {d : Nat} {m : sM} {n : sN} {Q : sQ} {v a : Int32} (hQ : Q (some (.int a)) (tellsM m v) n) : sRun (scT L xs) (d + 1) yX12_tells cX12_tells 3 (some .int) [.ref 239, .int v, .int a] m n Q := by
  refine y_run (own := "LoafFallModel") rfl (by decide +kernel) (Nat.le_of_ble_eq_true rfl) rfl ?_
  refine y_aload_n dX12_tells_0 rfl rfl ?_
  refine y_iload_n dX12_tells_1 rfl rfl ?_
  refine y_puti dX12_tells_2 pf_X12_90 sh_239 rfl rfl rfl ?_
  refine y_iload_n dX12_tells_5 rfl rfl ?_
  refine y_ireturn dX12_tells_6 rfl rfl ?_
  exact hQ
set_option maxHeartbeats 1000000 in
theorem c_X11_found {L : Nat} {xs : Nat → Int32} {d : Nat} {m : sM} {n : sN} {Q : sQ} {f : Nat} {x : Int32} (hx : x = nI f) (h1 : 1 ≤ f) (h5 : f ≤ 5) (hQ : Q (some (.int (-3))) (foundM m f) n) : sRun (scT L xs) (d + 1) yX11_found cX11_found 2 (some .int) [.ref 0, .int x] m n Q := by
  subst hx
  refine y_run (own := "LoafFall") rfl (by decide +kernel) (Nat.le_of_ble_eq_true rfl) rfl ?_
  refine y_aload_n dX11_found_0 rfl rfl ?_
  refine y_iload_n dX11_found_1 rfl rfl ?_
  refine y_puti dX11_found_2 pf_X11_397 sh_0 rfl rfl rfl ?_
  refine y_iload_n dX11_found_5 rfl rfl ?_
  refine y_iconst (v := 1) dX11_found_6 (by decide) ?_
  refine y_icmp_lt (tgt := 25) dX11_found_7 (by decide) (fun h7 => absurd h7 (Int32.not_lt.mpr (nI_le (a := 1) (b := f) h1 (by omega)))) (fun h7 => ?_)
  refine y_iload_n dX11_found_10 rfl rfl ?_
  refine y_iconst (v := 5) dX11_found_11 (by decide) ?_
  refine y_icmp_gt (tgt := 25) dX11_found_12 (by decide) (fun h12 => absurd h12 (Int32.not_lt.mpr (nI_le (a := f) (b := 5) h5 (by decide)))) (fun h12 => ?_)
  refine y_aload_n dX11_found_15 rfl rfl ?_
  refine y_getr dX11_found_16 gf_X11_92 sh_0 rfl ?_
  refine y_iload_n dX11_found_19 rfl rfl ?_
  refine y_dup2 dX11_found_20 rfl rfl ?_
  refine y_ialdN dX11_found_21 sh_137 rfl (by first | omega | decide) (by decide) ?_
  refine y_iconst (v := 1) dX11_found_22 (by decide) ?_
  refine y_iadd dX11_found_23 ?_
  refine y_iastN dX11_found_24 sh_137 rfl (by first | omega | decide) (by decide) ?_
  refine y_bipush (v := -3) dX11_found_25 (by decide) ?_
  refine y_ireturn dX11_found_27 rfl rfl ?_
  rw [s_upN (by omega)]
  exact hQ
set_option maxHeartbeats 1000000 in
theorem c_X12_meets {L : Nat} {xs : Nat → Int32} {d : Nat} {m : sM} {n : sN} {Q : sQ} {f : Nat} {x : Int32} (hx : x = nI f) (h5 : f ≤ 5) (hQ : Q (some (.int (-3))) (metM m f) n) : sRun (scT L xs) (d + 1) yX12_meets cX12_meets 2 (some .int) [.ref 239, .int x] m n Q := by
  subst hx
  refine y_run (own := "LoafFallModel") rfl (by decide +kernel) (Nat.le_of_ble_eq_true rfl) rfl ?_
  refine y_aload_n dX12_meets_0 rfl rfl ?_
  refine y_iload_n dX12_meets_1 rfl rfl ?_
  refine y_puti dX12_meets_2 pf_X12_82 sh_239 rfl rfl rfl ?_
  refine y_aload_n dX12_meets_5 rfl rfl ?_
  refine y_getr dX12_meets_6 gf_X12_7 sh_239 rfl ?_
  refine y_iload_n dX12_meets_9 rfl rfl ?_
  refine y_dup2 dX12_meets_10 rfl rfl ?_
  refine y_ialdN dX12_meets_11 sh_240 rfl (by first | omega | decide) (by decide) ?_
  refine y_iconst (v := 1) dX12_meets_12 (by decide) ?_
  refine y_iadd dX12_meets_13 ?_
  refine y_iastN dX12_meets_14 sh_240 rfl (by first | omega | decide) (by decide) ?_
  refine y_bipush (v := -3) dX12_meets_15 (by decide) ?_
  refine y_ireturn dX12_meets_17 rfl rfl ?_
  rw [s_upN (by omega)]
  exact hQ
set_option maxHeartbeats 2000000 in
theorem p_asked {L : Nat} {xs : Nat → Int32} {d : Nat} {m : sM} {n : sN} (h : Rel m n) : PI L xs (d + 11) yX11_asked cX11_asked 1 yX12_asked cX12_asked 1 [] m n := by
  unfold PI
  refine y_run (own := "LoafFall") rfl (by decide +kernel) (Nat.le_of_ble_eq_true rfl) rfl ?_
  refine y_aload_n dX11_asked_0 rfl rfl ?_
  refine y_geti dX11_asked_1 gf_X11_194 sh_0 rfl ?_
  refine y_ireturn dX11_asked_4 rfl rfl ?_
  refine ⟨_, rfl, ?_⟩
  refine y_run (own := "LoafFallModel") rfl (by decide +kernel) (Nat.le_of_ble_eq_true rfl) rfl ?_
  refine y_aload_n dX12_asked_0 rfl rfl ?_
  refine y_geti dX12_asked_1 gf_X12_90 sh_239 rfl ?_
  refine y_ireturn dX12_asked_4 rfl rfl ?_
  exact ⟨by rw [h.1.2.1], h⟩
set_option maxHeartbeats 2000000 in
theorem p_finding {L : Nat} {xs : Nat → Int32} {d : Nat} {m : sM} {n : sN} (h : Rel m n) : PI L xs (d + 11) yX11_finding cX11_finding 1 yX12_finding cX12_finding 1 [] m n := by
  unfold PI
  refine y_run (own := "LoafFall") rfl (by decide +kernel) (Nat.le_of_ble_eq_true rfl) rfl ?_
  refine y_aload_n dX11_finding_0 rfl rfl ?_
  refine y_geti dX11_finding_1 gf_X11_397 sh_0 rfl ?_
  refine y_ireturn dX11_finding_4 rfl rfl ?_
  refine ⟨_, rfl, ?_⟩
  refine y_run (own := "LoafFallModel") rfl (by decide +kernel) (Nat.le_of_ble_eq_true rfl) rfl ?_
  refine y_aload_n dX12_finding_0 rfl rfl ?_
  refine y_geti dX12_finding_1 gf_X12_82 sh_239 rfl ?_
  refine y_ireturn dX12_finding_4 rfl rfl ?_
  exact ⟨by rw [h.1.1], h⟩
set_option maxHeartbeats 2000000 in
theorem p_upper {L : Nat} {xs : Nat → Int32} {d : Nat} {m : sM} {n : sN} (h : Rel m n) : PL L xs (d + 11) yX11_upper cX11_upper 1 yX12_upper cX12_upper 1 [] m n := by
  unfold PL
  refine y_run (own := "LoafFall") rfl (by decide +kernel) (Nat.le_of_ble_eq_true rfl) rfl ?_
  refine y_aload_n dX11_upper_0 rfl rfl ?_
  refine y_getl dX11_upper_1 gf_X11_379 sh_0 rfl ?_
  refine y_lreturn dX11_upper_4 rfl ?_
  refine ⟨_, rfl, ?_⟩
  refine y_run (own := "LoafFallModel") rfl (by decide +kernel) (Nat.le_of_ble_eq_true rfl) rfl ?_
  refine y_aload_n dX12_upper_0 rfl rfl ?_
  refine y_getl dX12_upper_1 gf_X12_93 sh_239 rfl ?_
  refine y_lreturn dX12_upper_4 rfl ?_
  exact ⟨by rw [h.1.2.2.2.1], h⟩
set_option maxHeartbeats 2000000 in
theorem p_lower {L : Nat} {xs : Nat → Int32} {d : Nat} {m : sM} {n : sN} (h : Rel m n) : PL L xs (d + 11) yX11_lower cX11_lower 1 yX12_lower cX12_lower 1 [] m n := by
  unfold PL
  refine y_run (own := "LoafFall") rfl (by decide +kernel) (Nat.le_of_ble_eq_true rfl) rfl ?_
  refine y_aload_n dX11_lower_0 rfl rfl ?_
  refine y_getl dX11_lower_1 gf_X11_95 sh_0 rfl ?_
  refine y_lreturn dX11_lower_4 rfl ?_
  refine ⟨_, rfl, ?_⟩
  refine y_run (own := "LoafFallModel") rfl (by decide +kernel) (Nat.le_of_ble_eq_true rfl) rfl ?_
  refine y_aload_n dX12_lower_0 rfl rfl ?_
  refine y_getl dX12_lower_1 gf_X12_78 sh_239 rfl ?_
  refine y_lreturn dX12_lower_4 rfl ?_
  exact ⟨by rw [h.1.2.2.2.2], h⟩
set_option maxHeartbeats 2000000 in
theorem p_findings {L : Nat} {xs : Nat → Int32} {d : Nat} {m : sM} {n : sN} {x : Int32} (h : Rel m n) : PI L xs (d + 11) yX11_findings cX11_findings 2 yX12_findings cX12_findings 2 [.int x] m n := by
  unfold PI
  by_cases hx : 1 ≤ x ∧ x ≤ 5
  · obtain ⟨k, hk, rfl⟩ := (in_le (M := 5) (by decide)).mpr ⟨Int32.le_trans (by decide) hx.1, hx.2⟩
    refine y_run (own := "LoafFall") rfl (by decide +kernel) (Nat.le_of_ble_eq_true rfl) rfl ?_
    refine y_iload_n dX11_findings_0 rfl rfl ?_
    refine y_iconst (v := 1) dX11_findings_1 (by decide) ?_
    refine y_icmp_lt (tgt := 10) dX11_findings_2 (by decide) (fun h2 => absurd h2 (Int32.not_lt.mpr hx.1)) (fun h2 => ?_)
    refine y_iload_n dX11_findings_5 rfl rfl ?_
    refine y_iconst (v := 5) dX11_findings_6 (by decide) ?_
    refine y_icmp_le (tgt := 14) dX11_findings_7 (by decide) (fun h7 => ?_) (fun h7 => absurd hx.2 h7)
    refine y_aload_n dX11_findings_14 rfl rfl ?_
    refine y_getr dX11_findings_15 gf_X11_92 sh_0 rfl ?_
    refine y_iload_n dX11_findings_18 rfl rfl ?_
    refine y_ialdN dX11_findings_19 sh_137 rfl (by first | omega | decide) (by decide) ?_
    refine y_ireturn dX11_findings_20 rfl rfl ?_
    refine ⟨_, rfl, ?_⟩
    refine y_run (own := "LoafFallModel") rfl (by decide +kernel) (Nat.le_of_ble_eq_true rfl) rfl ?_
    refine y_iload_n dX12_findings_0 rfl rfl ?_
    refine y_iconst (v := 1) dX12_findings_1 (by decide) ?_
    refine y_iconst (v := 5) dX12_findings_2 (by decide) ?_
    refine y_isI3 dX12_findings_3 ms_X12_86 my_X12_in (Or.inl rfl) ?_
    refine c_X12_in (fun a b => ⟨_, rfl, ?_⟩) (fun a => absurd hx a)
    refine y_if_eq (tgt := 18) dX12_findings_6 (by decide) (fun h6 => absurd h6 (by decide)) (fun h6 => ?_)
    refine y_aload_n dX12_findings_9 rfl rfl ?_
    refine y_getr dX12_findings_10 gf_X12_7 sh_239 rfl ?_
    refine y_iload_n dX12_findings_13 rfl rfl ?_
    refine y_ialdN dX12_findings_14 sh_240 rfl (by first | omega | decide) (by decide) ?_
    refine y_goto (tgt := 19) dX12_findings_15 (by decide) ?_
    refine y_ireturn dX12_findings_19 rfl rfl ?_
    exact ⟨by rw [h.1.2.2.1 k hk], h⟩
  · by_cases b2 : x < 1
    · refine y_run (own := "LoafFall") rfl (by decide +kernel) (Nat.le_of_ble_eq_true rfl) rfl ?_
      refine y_iload_n dX11_findings_0 rfl rfl ?_
      refine y_iconst (v := 1) dX11_findings_1 (by decide) ?_
      refine y_icmp_lt (tgt := 10) dX11_findings_2 (by decide) (fun h2 => ?_) (fun h2 => absurd b2 h2)
      refine y_iconst (v := -1) dX11_findings_10 (by decide) ?_
      refine y_goto (tgt := 20) dX11_findings_11 (by decide) ?_
      refine y_ireturn dX11_findings_20 rfl rfl ?_
      refine ⟨_, rfl, ?_⟩
      refine y_run (own := "LoafFallModel") rfl (by decide +kernel) (Nat.le_of_ble_eq_true rfl) rfl ?_
      refine y_iload_n dX12_findings_0 rfl rfl ?_
      refine y_iconst (v := 1) dX12_findings_1 (by decide) ?_
      refine y_iconst (v := 5) dX12_findings_2 (by decide) ?_
      refine y_isI3 dX12_findings_3 ms_X12_86 my_X12_in (Or.inl rfl) ?_
      refine c_X12_in (fun a b => absurd ⟨a, b⟩ hx) (fun a => ⟨_, rfl, ?_⟩)
      refine y_if_eq (tgt := 18) dX12_findings_6 (by decide) (fun h6 => ?_) (fun h6 => absurd (by decide) h6)
      refine y_iconst (v := -1) dX12_findings_18 (by decide) ?_
      refine y_ireturn dX12_findings_19 rfl rfl ?_
      exact ⟨rfl, h⟩
    · have b7 : ¬ x ≤ 5 := fun z => hx ⟨Int32.not_lt.mp b2, z⟩
      refine y_run (own := "LoafFall") rfl (by decide +kernel) (Nat.le_of_ble_eq_true rfl) rfl ?_
      refine y_iload_n dX11_findings_0 rfl rfl ?_
      refine y_iconst (v := 1) dX11_findings_1 (by decide) ?_
      refine y_icmp_lt (tgt := 10) dX11_findings_2 (by decide) (fun h2 => absurd h2 b2) (fun h2 => ?_)
      refine y_iload_n dX11_findings_5 rfl rfl ?_
      refine y_iconst (v := 5) dX11_findings_6 (by decide) ?_
      refine y_icmp_le (tgt := 14) dX11_findings_7 (by decide) (fun h7 => absurd h7 b7) (fun h7 => ?_)
      refine y_iconst (v := -1) dX11_findings_10 (by decide) ?_
      refine y_goto (tgt := 20) dX11_findings_11 (by decide) ?_
      refine y_ireturn dX11_findings_20 rfl rfl ?_
      refine ⟨_, rfl, ?_⟩
      refine y_run (own := "LoafFallModel") rfl (by decide +kernel) (Nat.le_of_ble_eq_true rfl) rfl ?_
      refine y_iload_n dX12_findings_0 rfl rfl ?_
      refine y_iconst (v := 1) dX12_findings_1 (by decide) ?_
      refine y_iconst (v := 5) dX12_findings_2 (by decide) ?_
      refine y_isI3 dX12_findings_3 ms_X12_86 my_X12_in (Or.inl rfl) ?_
      refine c_X12_in (fun a b => absurd ⟨a, b⟩ hx) (fun a => ⟨_, rfl, ?_⟩)
      refine y_if_eq (tgt := 18) dX12_findings_6 (by decide) (fun h6 => ?_) (fun h6 => absurd (by decide) h6)
      refine y_iconst (v := -1) dX12_findings_18 (by decide) ?_
      refine y_ireturn dX12_findings_19 rfl rfl ?_
      exact ⟨rfl, h⟩
