/-! ===== the law: its loop ===== -/
theorem lt_6 {L p : Nat} (hL : L ≤ 3072) (hp : p ≤ 4000) : nI L - 6 < nI p ↔ L < p + 6 := by
  by_cases h : 6 ≤ L
  · rw [show nI L - 6 = nI (L - 6) from pk_sub (b := 6) h]
    constructor
    · intro z; have := (nI_ltI (by omega) (by omega)).mp z; omega
    · intro z; exact nI_lt (by omega) (by omega)
  · have h5 : nI L - 6 < 0 := by
      have : L = 0 ∨ L = 1 ∨ L = 2 ∨ L = 3 ∨ L = 4 ∨ L = 5 := by omega
      rcases this with rfl | rfl | rfl | rfl | rfl | rfl <;> decide
    exact ⟨fun _ => by omega, fun _ => Int32.lt_of_lt_of_le h5 (nI_pos' (by omega))⟩
theorem tab_47 (v : Int32) : (v.toInt < 0 ∨ 46 < v.toInt) ∨ ∃ k : Nat, k < 47 ∧ v = nI k := by
  by_cases h1 : v.toInt < 0
  · exact Or.inl (Or.inl h1)
  · by_cases h2 : 46 < v.toInt
    · exact Or.inl (Or.inr h2)
    · exact Or.inr ⟨v.toInt.toNat, by omega, nI_of_toInt (by omega) (by omega)⟩
theorem tq_0 {L : Nat} {xs : Nat → Int32} {d p : Nat} {m : sM} {n : sN} {Q : sQ} (k0 : sV (scT L xs) (d + 11) "LoafFallLaw" cL_law 4 (some .boolean) Q 236 [some (.ref (100000 + 6)), some (.ref 0), some (.ref 239), some (.int (nI p))] [] m n) : sV (scT L xs) (d + 11) "LoafFallLaw" cL_law 4 (some .boolean) Q 33 [some (.ref (100000 + 6)), some (.ref 0), some (.ref 239), some (.int (nI p))] [.int (nI 0)] m n := y_tabIn (off := 203) (tgt := 236) dL_law_33 (by decide) (by decide) (by decide +kernel) (by decide) k0
theorem tq_1 {L : Nat} {xs : Nat → Int32} {d p : Nat} {m : sM} {n : sN} {Q : sQ} (k0 : sV (scT L xs) (d + 11) "LoafFallLaw" cL_law 4 (some .boolean) Q 269 [some (.ref (100000 + 6)), some (.ref 0), some (.ref 239), some (.int (nI p))] [] m n) : sV (scT L xs) (d + 11) "LoafFallLaw" cL_law 4 (some .boolean) Q 33 [some (.ref (100000 + 6)), some (.ref 0), some (.ref 239), some (.int (nI p))] [.int (nI 1)] m n := y_tabIn (off := 236) (tgt := 269) dL_law_33 (by decide) (by decide) (by decide +kernel) (by decide) k0
theorem tq_2 {L : Nat} {xs : Nat → Int32} {d p : Nat} {m : sM} {n : sN} {Q : sQ} (k0 : sV (scT L xs) (d + 11) "LoafFallLaw" cL_law 4 (some .boolean) Q 312 [some (.ref (100000 + 6)), some (.ref 0), some (.ref 239), some (.int (nI p))] [] m n) : sV (scT L xs) (d + 11) "LoafFallLaw" cL_law 4 (some .boolean) Q 33 [some (.ref (100000 + 6)), some (.ref 0), some (.ref 239), some (.int (nI p))] [.int (nI 2)] m n := y_tabIn (off := 279) (tgt := 312) dL_law_33 (by decide) (by decide) (by decide +kernel) (by decide) k0
theorem tq_3 {L : Nat} {xs : Nat → Int32} {d p : Nat} {m : sM} {n : sN} {Q : sQ} (k0 : sV (scT L xs) (d + 11) "LoafFallLaw" cL_law 4 (some .boolean) Q 345 [some (.ref (100000 + 6)), some (.ref 0), some (.ref 239), some (.int (nI p))] [] m n) : sV (scT L xs) (d + 11) "LoafFallLaw" cL_law 4 (some .boolean) Q 33 [some (.ref (100000 + 6)), some (.ref 0), some (.ref 239), some (.int (nI p))] [.int (nI 3)] m n := y_tabIn (off := 312) (tgt := 345) dL_law_33 (by decide) (by decide) (by decide +kernel) (by decide) k0
theorem tq_4 {L : Nat} {xs : Nat → Int32} {d p : Nat} {m : sM} {n : sN} {Q : sQ} (k0 : sV (scT L xs) (d + 11) "LoafFallLaw" cL_law 4 (some .boolean) Q 368 [some (.ref (100000 + 6)), some (.ref 0), some (.ref 239), some (.int (nI p))] [] m n) : sV (scT L xs) (d + 11) "LoafFallLaw" cL_law 4 (some .boolean) Q 33 [some (.ref (100000 + 6)), some (.ref 0), some (.ref 239), some (.int (nI p))] [.int (nI 4)] m n := y_tabIn (off := 335) (tgt := 368) dL_law_33 (by decide) (by decide) (by decide +kernel) (by decide) k0
theorem tq_5 {L : Nat} {xs : Nat → Int32} {d p : Nat} {m : sM} {n : sN} {Q : sQ} (k0 : sV (scT L xs) (d + 11) "LoafFallLaw" cL_law 4 (some .boolean) Q 431 [some (.ref (100000 + 6)), some (.ref 0), some (.ref 239), some (.int (nI p))] [] m n) : sV (scT L xs) (d + 11) "LoafFallLaw" cL_law 4 (some .boolean) Q 33 [some (.ref (100000 + 6)), some (.ref 0), some (.ref 239), some (.int (nI p))] [.int (nI 5)] m n := y_tabIn (off := 398) (tgt := 431) dL_law_33 (by decide) (by decide) (by decide +kernel) (by decide) k0
theorem tq_6 {L : Nat} {xs : Nat → Int32} {d p : Nat} {m : sM} {n : sN} {Q : sQ} (k0 : sV (scT L xs) (d + 11) "LoafFallLaw" cL_law 4 (some .boolean) Q 454 [some (.ref (100000 + 6)), some (.ref 0), some (.ref 239), some (.int (nI p))] [] m n) : sV (scT L xs) (d + 11) "LoafFallLaw" cL_law 4 (some .boolean) Q 33 [some (.ref (100000 + 6)), some (.ref 0), some (.ref 239), some (.int (nI p))] [.int (nI 6)] m n := y_tabIn (off := 421) (tgt := 454) dL_law_33 (by decide) (by decide) (by decide +kernel) (by decide) k0
theorem tq_7 {L : Nat} {xs : Nat → Int32} {d p : Nat} {m : sM} {n : sN} {Q : sQ} (k0 : sV (scT L xs) (d + 11) "LoafFallLaw" cL_law 4 (some .boolean) Q 487 [some (.ref (100000 + 6)), some (.ref 0), some (.ref 239), some (.int (nI p))] [] m n) : sV (scT L xs) (d + 11) "LoafFallLaw" cL_law 4 (some .boolean) Q 33 [some (.ref (100000 + 6)), some (.ref 0), some (.ref 239), some (.int (nI p))] [.int (nI 7)] m n := y_tabIn (off := 454) (tgt := 487) dL_law_33 (by decide) (by decide) (by decide +kernel) (by decide) k0
theorem tq_8 {L : Nat} {xs : Nat → Int32} {d p : Nat} {m : sM} {n : sN} {Q : sQ} (k0 : sV (scT L xs) (d + 11) "LoafFallLaw" cL_law 4 (some .boolean) Q 530 [some (.ref (100000 + 6)), some (.ref 0), some (.ref 239), some (.int (nI p))] [] m n) : sV (scT L xs) (d + 11) "LoafFallLaw" cL_law 4 (some .boolean) Q 33 [some (.ref (100000 + 6)), some (.ref 0), some (.ref 239), some (.int (nI p))] [.int (nI 8)] m n := y_tabIn (off := 497) (tgt := 530) dL_law_33 (by decide) (by decide) (by decide +kernel) (by decide) k0
theorem tq_9 {L : Nat} {xs : Nat → Int32} {d p : Nat} {m : sM} {n : sN} {Q : sQ} (k0 : sV (scT L xs) (d + 11) "LoafFallLaw" cL_law 4 (some .boolean) Q 579 [some (.ref (100000 + 6)), some (.ref 0), some (.ref 239), some (.int (nI p))] [] m n) : sV (scT L xs) (d + 11) "LoafFallLaw" cL_law 4 (some .boolean) Q 33 [some (.ref (100000 + 6)), some (.ref 0), some (.ref 239), some (.int (nI p))] [.int (nI 9)] m n := y_tabIn (off := 546) (tgt := 579) dL_law_33 (by decide) (by decide) (by decide +kernel) (by decide) k0
theorem tq_10 {L : Nat} {xs : Nat → Int32} {d p : Nat} {m : sM} {n : sN} {Q : sQ} (k0 : sV (scT L xs) (d + 11) "LoafFallLaw" cL_law 4 (some .boolean) Q 612 [some (.ref (100000 + 6)), some (.ref 0), some (.ref 239), some (.int (nI p))] [] m n) : sV (scT L xs) (d + 11) "LoafFallLaw" cL_law 4 (some .boolean) Q 33 [some (.ref (100000 + 6)), some (.ref 0), some (.ref 239), some (.int (nI p))] [.int (nI 10)] m n := y_tabIn (off := 579) (tgt := 612) dL_law_33 (by decide) (by decide) (by decide +kernel) (by decide) k0
theorem tq_11 {L : Nat} {xs : Nat → Int32} {d p : Nat} {m : sM} {n : sN} {Q : sQ} (k0 : sV (scT L xs) (d + 11) "LoafFallLaw" cL_law 4 (some .boolean) Q 645 [some (.ref (100000 + 6)), some (.ref 0), some (.ref 239), some (.int (nI p))] [] m n) : sV (scT L xs) (d + 11) "LoafFallLaw" cL_law 4 (some .boolean) Q 33 [some (.ref (100000 + 6)), some (.ref 0), some (.ref 239), some (.int (nI p))] [.int (nI 11)] m n := y_tabIn (off := 612) (tgt := 645) dL_law_33 (by decide) (by decide) (by decide +kernel) (by decide) k0
theorem tq_12 {L : Nat} {xs : Nat → Int32} {d p : Nat} {m : sM} {n : sN} {Q : sQ} (k0 : sV (scT L xs) (d + 11) "LoafFallLaw" cL_law 4 (some .boolean) Q 678 [some (.ref (100000 + 6)), some (.ref 0), some (.ref 239), some (.int (nI p))] [] m n) : sV (scT L xs) (d + 11) "LoafFallLaw" cL_law 4 (some .boolean) Q 33 [some (.ref (100000 + 6)), some (.ref 0), some (.ref 239), some (.int (nI p))] [.int (nI 12)] m n := y_tabIn (off := 645) (tgt := 678) dL_law_33 (by decide) (by decide) (by decide +kernel) (by decide) k0
theorem tq_13 {L : Nat} {xs : Nat → Int32} {d p : Nat} {m : sM} {n : sN} {Q : sQ} (k0 : sV (scT L xs) (d + 11) "LoafFallLaw" cL_law 4 (some .boolean) Q 711 [some (.ref (100000 + 6)), some (.ref 0), some (.ref 239), some (.int (nI p))] [] m n) : sV (scT L xs) (d + 11) "LoafFallLaw" cL_law 4 (some .boolean) Q 33 [some (.ref (100000 + 6)), some (.ref 0), some (.ref 239), some (.int (nI p))] [.int (nI 13)] m n := y_tabIn (off := 678) (tgt := 711) dL_law_33 (by decide) (by decide) (by decide +kernel) (by decide) k0
theorem tq_14 {L : Nat} {xs : Nat → Int32} {d p : Nat} {m : sM} {n : sN} {Q : sQ} (k0 : sV (scT L xs) (d + 11) "LoafFallLaw" cL_law 4 (some .boolean) Q 744 [some (.ref (100000 + 6)), some (.ref 0), some (.ref 239), some (.int (nI p))] [] m n) : sV (scT L xs) (d + 11) "LoafFallLaw" cL_law 4 (some .boolean) Q 33 [some (.ref (100000 + 6)), some (.ref 0), some (.ref 239), some (.int (nI p))] [.int (nI 14)] m n := y_tabIn (off := 711) (tgt := 744) dL_law_33 (by decide) (by decide) (by decide +kernel) (by decide) k0
theorem tq_15 {L : Nat} {xs : Nat → Int32} {d p : Nat} {m : sM} {n : sN} {Q : sQ} (k0 : sV (scT L xs) (d + 11) "LoafFallLaw" cL_law 4 (some .boolean) Q 767 [some (.ref (100000 + 6)), some (.ref 0), some (.ref 239), some (.int (nI p))] [] m n) : sV (scT L xs) (d + 11) "LoafFallLaw" cL_law 4 (some .boolean) Q 33 [some (.ref (100000 + 6)), some (.ref 0), some (.ref 239), some (.int (nI p))] [.int (nI 15)] m n := y_tabIn (off := 734) (tgt := 767) dL_law_33 (by decide) (by decide) (by decide +kernel) (by decide) k0
theorem tq_16 {L : Nat} {xs : Nat → Int32} {d p : Nat} {m : sM} {n : sN} {Q : sQ} (k0 : sV (scT L xs) (d + 11) "LoafFallLaw" cL_law 4 (some .boolean) Q 800 [some (.ref (100000 + 6)), some (.ref 0), some (.ref 239), some (.int (nI p))] [] m n) : sV (scT L xs) (d + 11) "LoafFallLaw" cL_law 4 (some .boolean) Q 33 [some (.ref (100000 + 6)), some (.ref 0), some (.ref 239), some (.int (nI p))] [.int (nI 16)] m n := y_tabIn (off := 767) (tgt := 800) dL_law_33 (by decide) (by decide) (by decide +kernel) (by decide) k0
theorem tq_17 {L : Nat} {xs : Nat → Int32} {d p : Nat} {m : sM} {n : sN} {Q : sQ} (k0 : sV (scT L xs) (d + 11) "LoafFallLaw" cL_law 4 (some .boolean) Q 833 [some (.ref (100000 + 6)), some (.ref 0), some (.ref 239), some (.int (nI p))] [] m n) : sV (scT L xs) (d + 11) "LoafFallLaw" cL_law 4 (some .boolean) Q 33 [some (.ref (100000 + 6)), some (.ref 0), some (.ref 239), some (.int (nI p))] [.int (nI 17)] m n := y_tabIn (off := 800) (tgt := 833) dL_law_33 (by decide) (by decide) (by decide +kernel) (by decide) k0
theorem tq_18 {L : Nat} {xs : Nat → Int32} {d p : Nat} {m : sM} {n : sN} {Q : sQ} (k0 : sV (scT L xs) (d + 11) "LoafFallLaw" cL_law 4 (some .boolean) Q 866 [some (.ref (100000 + 6)), some (.ref 0), some (.ref 239), some (.int (nI p))] [] m n) : sV (scT L xs) (d + 11) "LoafFallLaw" cL_law 4 (some .boolean) Q 33 [some (.ref (100000 + 6)), some (.ref 0), some (.ref 239), some (.int (nI p))] [.int (nI 18)] m n := y_tabIn (off := 833) (tgt := 866) dL_law_33 (by decide) (by decide) (by decide +kernel) (by decide) k0
theorem tq_19 {L : Nat} {xs : Nat → Int32} {d p : Nat} {m : sM} {n : sN} {Q : sQ} (k0 : sV (scT L xs) (d + 11) "LoafFallLaw" cL_law 4 (some .boolean) Q 889 [some (.ref (100000 + 6)), some (.ref 0), some (.ref 239), some (.int (nI p))] [] m n) : sV (scT L xs) (d + 11) "LoafFallLaw" cL_law 4 (some .boolean) Q 33 [some (.ref (100000 + 6)), some (.ref 0), some (.ref 239), some (.int (nI p))] [.int (nI 19)] m n := y_tabIn (off := 856) (tgt := 889) dL_law_33 (by decide) (by decide) (by decide +kernel) (by decide) k0
theorem tq_20 {L : Nat} {xs : Nat → Int32} {d p : Nat} {m : sM} {n : sN} {Q : sQ} (k0 : sV (scT L xs) (d + 11) "LoafFallLaw" cL_law 4 (some .boolean) Q 912 [some (.ref (100000 + 6)), some (.ref 0), some (.ref 239), some (.int (nI p))] [] m n) : sV (scT L xs) (d + 11) "LoafFallLaw" cL_law 4 (some .boolean) Q 33 [some (.ref (100000 + 6)), some (.ref 0), some (.ref 239), some (.int (nI p))] [.int (nI 20)] m n := y_tabIn (off := 879) (tgt := 912) dL_law_33 (by decide) (by decide) (by decide +kernel) (by decide) k0
theorem tq_21 {L : Nat} {xs : Nat → Int32} {d p : Nat} {m : sM} {n : sN} {Q : sQ} (k0 : sV (scT L xs) (d + 11) "LoafFallLaw" cL_law 4 (some .boolean) Q 925 [some (.ref (100000 + 6)), some (.ref 0), some (.ref 239), some (.int (nI p))] [] m n) : sV (scT L xs) (d + 11) "LoafFallLaw" cL_law 4 (some .boolean) Q 33 [some (.ref (100000 + 6)), some (.ref 0), some (.ref 239), some (.int (nI p))] [.int (nI 21)] m n := y_tabIn (off := 892) (tgt := 925) dL_law_33 (by decide) (by decide) (by decide +kernel) (by decide) k0
theorem tq_22 {L : Nat} {xs : Nat → Int32} {d p : Nat} {m : sM} {n : sN} {Q : sQ} (k0 : sV (scT L xs) (d + 11) "LoafFallLaw" cL_law 4 (some .boolean) Q 938 [some (.ref (100000 + 6)), some (.ref 0), some (.ref 239), some (.int (nI p))] [] m n) : sV (scT L xs) (d + 11) "LoafFallLaw" cL_law 4 (some .boolean) Q 33 [some (.ref (100000 + 6)), some (.ref 0), some (.ref 239), some (.int (nI p))] [.int (nI 22)] m n := y_tabIn (off := 905) (tgt := 938) dL_law_33 (by decide) (by decide) (by decide +kernel) (by decide) k0
theorem tq_23 {L : Nat} {xs : Nat → Int32} {d p : Nat} {m : sM} {n : sN} {Q : sQ} (k0 : sV (scT L xs) (d + 11) "LoafFallLaw" cL_law 4 (some .boolean) Q 961 [some (.ref (100000 + 6)), some (.ref 0), some (.ref 239), some (.int (nI p))] [] m n) : sV (scT L xs) (d + 11) "LoafFallLaw" cL_law 4 (some .boolean) Q 33 [some (.ref (100000 + 6)), some (.ref 0), some (.ref 239), some (.int (nI p))] [.int (nI 23)] m n := y_tabIn (off := 928) (tgt := 961) dL_law_33 (by decide) (by decide) (by decide +kernel) (by decide) k0
theorem tq_24 {L : Nat} {xs : Nat → Int32} {d p : Nat} {m : sM} {n : sN} {Q : sQ} (k0 : sV (scT L xs) (d + 11) "LoafFallLaw" cL_law 4 (some .boolean) Q 984 [some (.ref (100000 + 6)), some (.ref 0), some (.ref 239), some (.int (nI p))] [] m n) : sV (scT L xs) (d + 11) "LoafFallLaw" cL_law 4 (some .boolean) Q 33 [some (.ref (100000 + 6)), some (.ref 0), some (.ref 239), some (.int (nI p))] [.int (nI 24)] m n := y_tabIn (off := 951) (tgt := 984) dL_law_33 (by decide) (by decide) (by decide +kernel) (by decide) k0
theorem tq_25 {L : Nat} {xs : Nat → Int32} {d p : Nat} {m : sM} {n : sN} {Q : sQ} (k0 : sV (scT L xs) (d + 11) "LoafFallLaw" cL_law 4 (some .boolean) Q 1007 [some (.ref (100000 + 6)), some (.ref 0), some (.ref 239), some (.int (nI p))] [] m n) : sV (scT L xs) (d + 11) "LoafFallLaw" cL_law 4 (some .boolean) Q 33 [some (.ref (100000 + 6)), some (.ref 0), some (.ref 239), some (.int (nI p))] [.int (nI 25)] m n := y_tabIn (off := 974) (tgt := 1007) dL_law_33 (by decide) (by decide) (by decide +kernel) (by decide) k0
theorem tq_26 {L : Nat} {xs : Nat → Int32} {d p : Nat} {m : sM} {n : sN} {Q : sQ} (k0 : sV (scT L xs) (d + 11) "LoafFallLaw" cL_law 4 (some .boolean) Q 1040 [some (.ref (100000 + 6)), some (.ref 0), some (.ref 239), some (.int (nI p))] [] m n) : sV (scT L xs) (d + 11) "LoafFallLaw" cL_law 4 (some .boolean) Q 33 [some (.ref (100000 + 6)), some (.ref 0), some (.ref 239), some (.int (nI p))] [.int (nI 26)] m n := y_tabIn (off := 1007) (tgt := 1040) dL_law_33 (by decide) (by decide) (by decide +kernel) (by decide) k0
theorem tq_27 {L : Nat} {xs : Nat → Int32} {d p : Nat} {m : sM} {n : sN} {Q : sQ} (k0 : sV (scT L xs) (d + 11) "LoafFallLaw" cL_law 4 (some .boolean) Q 1083 [some (.ref (100000 + 6)), some (.ref 0), some (.ref 239), some (.int (nI p))] [] m n) : sV (scT L xs) (d + 11) "LoafFallLaw" cL_law 4 (some .boolean) Q 33 [some (.ref (100000 + 6)), some (.ref 0), some (.ref 239), some (.int (nI p))] [.int (nI 27)] m n := y_tabIn (off := 1050) (tgt := 1083) dL_law_33 (by decide) (by decide) (by decide +kernel) (by decide) k0
theorem tq_28 {L : Nat} {xs : Nat → Int32} {d p : Nat} {m : sM} {n : sN} {Q : sQ} (k0 : sV (scT L xs) (d + 11) "LoafFallLaw" cL_law 4 (some .boolean) Q 1126 [some (.ref (100000 + 6)), some (.ref 0), some (.ref 239), some (.int (nI p))] [] m n) : sV (scT L xs) (d + 11) "LoafFallLaw" cL_law 4 (some .boolean) Q 33 [some (.ref (100000 + 6)), some (.ref 0), some (.ref 239), some (.int (nI p))] [.int (nI 28)] m n := y_tabIn (off := 1093) (tgt := 1126) dL_law_33 (by decide) (by decide) (by decide +kernel) (by decide) k0
theorem tq_29 {L : Nat} {xs : Nat → Int32} {d p : Nat} {m : sM} {n : sN} {Q : sQ} (k0 : sV (scT L xs) (d + 11) "LoafFallLaw" cL_law 4 (some .boolean) Q 1139 [some (.ref (100000 + 6)), some (.ref 0), some (.ref 239), some (.int (nI p))] [] m n) : sV (scT L xs) (d + 11) "LoafFallLaw" cL_law 4 (some .boolean) Q 33 [some (.ref (100000 + 6)), some (.ref 0), some (.ref 239), some (.int (nI p))] [.int (nI 29)] m n := y_tabIn (off := 1106) (tgt := 1139) dL_law_33 (by decide) (by decide) (by decide +kernel) (by decide) k0
theorem tq_30 {L : Nat} {xs : Nat → Int32} {d p : Nat} {m : sM} {n : sN} {Q : sQ} (k0 : sV (scT L xs) (d + 11) "LoafFallLaw" cL_law 4 (some .boolean) Q 1152 [some (.ref (100000 + 6)), some (.ref 0), some (.ref 239), some (.int (nI p))] [] m n) : sV (scT L xs) (d + 11) "LoafFallLaw" cL_law 4 (some .boolean) Q 33 [some (.ref (100000 + 6)), some (.ref 0), some (.ref 239), some (.int (nI p))] [.int (nI 30)] m n := y_tabIn (off := 1119) (tgt := 1152) dL_law_33 (by decide) (by decide) (by decide +kernel) (by decide) k0
theorem tq_31 {L : Nat} {xs : Nat → Int32} {d p : Nat} {m : sM} {n : sN} {Q : sQ} (k0 : sV (scT L xs) (d + 11) "LoafFallLaw" cL_law 4 (some .boolean) Q 1175 [some (.ref (100000 + 6)), some (.ref 0), some (.ref 239), some (.int (nI p))] [] m n) : sV (scT L xs) (d + 11) "LoafFallLaw" cL_law 4 (some .boolean) Q 33 [some (.ref (100000 + 6)), some (.ref 0), some (.ref 239), some (.int (nI p))] [.int (nI 31)] m n := y_tabIn (off := 1142) (tgt := 1175) dL_law_33 (by decide) (by decide) (by decide +kernel) (by decide) k0
theorem tq_32 {L : Nat} {xs : Nat → Int32} {d p : Nat} {m : sM} {n : sN} {Q : sQ} (k0 : sV (scT L xs) (d + 11) "LoafFallLaw" cL_law 4 (some .boolean) Q 1198 [some (.ref (100000 + 6)), some (.ref 0), some (.ref 239), some (.int (nI p))] [] m n) : sV (scT L xs) (d + 11) "LoafFallLaw" cL_law 4 (some .boolean) Q 33 [some (.ref (100000 + 6)), some (.ref 0), some (.ref 239), some (.int (nI p))] [.int (nI 32)] m n := y_tabIn (off := 1165) (tgt := 1198) dL_law_33 (by decide) (by decide) (by decide +kernel) (by decide) k0
theorem tq_33 {L : Nat} {xs : Nat → Int32} {d p : Nat} {m : sM} {n : sN} {Q : sQ} (k0 : sV (scT L xs) (d + 11) "LoafFallLaw" cL_law 4 (some .boolean) Q 1221 [some (.ref (100000 + 6)), some (.ref 0), some (.ref 239), some (.int (nI p))] [] m n) : sV (scT L xs) (d + 11) "LoafFallLaw" cL_law 4 (some .boolean) Q 33 [some (.ref (100000 + 6)), some (.ref 0), some (.ref 239), some (.int (nI p))] [.int (nI 33)] m n := y_tabIn (off := 1188) (tgt := 1221) dL_law_33 (by decide) (by decide) (by decide +kernel) (by decide) k0
theorem tq_34 {L : Nat} {xs : Nat → Int32} {d p : Nat} {m : sM} {n : sN} {Q : sQ} (k0 : sV (scT L xs) (d + 11) "LoafFallLaw" cL_law 4 (some .boolean) Q 1244 [some (.ref (100000 + 6)), some (.ref 0), some (.ref 239), some (.int (nI p))] [] m n) : sV (scT L xs) (d + 11) "LoafFallLaw" cL_law 4 (some .boolean) Q 33 [some (.ref (100000 + 6)), some (.ref 0), some (.ref 239), some (.int (nI p))] [.int (nI 34)] m n := y_tabIn (off := 1211) (tgt := 1244) dL_law_33 (by decide) (by decide) (by decide +kernel) (by decide) k0
theorem tq_35 {L : Nat} {xs : Nat → Int32} {d p : Nat} {m : sM} {n : sN} {Q : sQ} (k0 : sV (scT L xs) (d + 11) "LoafFallLaw" cL_law 4 (some .boolean) Q 1257 [some (.ref (100000 + 6)), some (.ref 0), some (.ref 239), some (.int (nI p))] [] m n) : sV (scT L xs) (d + 11) "LoafFallLaw" cL_law 4 (some .boolean) Q 33 [some (.ref (100000 + 6)), some (.ref 0), some (.ref 239), some (.int (nI p))] [.int (nI 35)] m n := y_tabIn (off := 1224) (tgt := 1257) dL_law_33 (by decide) (by decide) (by decide +kernel) (by decide) k0
theorem tq_36 {L : Nat} {xs : Nat → Int32} {d p : Nat} {m : sM} {n : sN} {Q : sQ} (k0 : sV (scT L xs) (d + 11) "LoafFallLaw" cL_law 4 (some .boolean) Q 1290 [some (.ref (100000 + 6)), some (.ref 0), some (.ref 239), some (.int (nI p))] [] m n) : sV (scT L xs) (d + 11) "LoafFallLaw" cL_law 4 (some .boolean) Q 33 [some (.ref (100000 + 6)), some (.ref 0), some (.ref 239), some (.int (nI p))] [.int (nI 36)] m n := y_tabIn (off := 1257) (tgt := 1290) dL_law_33 (by decide) (by decide) (by decide +kernel) (by decide) k0
theorem tq_37 {L : Nat} {xs : Nat → Int32} {d p : Nat} {m : sM} {n : sN} {Q : sQ} (k0 : sV (scT L xs) (d + 11) "LoafFallLaw" cL_law 4 (some .boolean) Q 1323 [some (.ref (100000 + 6)), some (.ref 0), some (.ref 239), some (.int (nI p))] [] m n) : sV (scT L xs) (d + 11) "LoafFallLaw" cL_law 4 (some .boolean) Q 33 [some (.ref (100000 + 6)), some (.ref 0), some (.ref 239), some (.int (nI p))] [.int (nI 37)] m n := y_tabIn (off := 1290) (tgt := 1323) dL_law_33 (by decide) (by decide) (by decide +kernel) (by decide) k0
theorem tq_38 {L : Nat} {xs : Nat → Int32} {d p : Nat} {m : sM} {n : sN} {Q : sQ} (k0 : sV (scT L xs) (d + 11) "LoafFallLaw" cL_law 4 (some .boolean) Q 1346 [some (.ref (100000 + 6)), some (.ref 0), some (.ref 239), some (.int (nI p))] [] m n) : sV (scT L xs) (d + 11) "LoafFallLaw" cL_law 4 (some .boolean) Q 33 [some (.ref (100000 + 6)), some (.ref 0), some (.ref 239), some (.int (nI p))] [.int (nI 38)] m n := y_tabIn (off := 1313) (tgt := 1346) dL_law_33 (by decide) (by decide) (by decide +kernel) (by decide) k0
theorem tq_39 {L : Nat} {xs : Nat → Int32} {d p : Nat} {m : sM} {n : sN} {Q : sQ} (k0 : sV (scT L xs) (d + 11) "LoafFallLaw" cL_law 4 (some .boolean) Q 1415 [some (.ref (100000 + 6)), some (.ref 0), some (.ref 239), some (.int (nI p))] [] m n) : sV (scT L xs) (d + 11) "LoafFallLaw" cL_law 4 (some .boolean) Q 33 [some (.ref (100000 + 6)), some (.ref 0), some (.ref 239), some (.int (nI p))] [.int (nI 39)] m n := y_tabIn (off := 1382) (tgt := 1415) dL_law_33 (by decide) (by decide) (by decide +kernel) (by decide) k0
theorem tq_40 {L : Nat} {xs : Nat → Int32} {d p : Nat} {m : sM} {n : sN} {Q : sQ} (k0 : sV (scT L xs) (d + 11) "LoafFallLaw" cL_law 4 (some .boolean) Q 1448 [some (.ref (100000 + 6)), some (.ref 0), some (.ref 239), some (.int (nI p))] [] m n) : sV (scT L xs) (d + 11) "LoafFallLaw" cL_law 4 (some .boolean) Q 33 [some (.ref (100000 + 6)), some (.ref 0), some (.ref 239), some (.int (nI p))] [.int (nI 40)] m n := y_tabIn (off := 1415) (tgt := 1448) dL_law_33 (by decide) (by decide) (by decide +kernel) (by decide) k0
theorem tq_41 {L : Nat} {xs : Nat → Int32} {d p : Nat} {m : sM} {n : sN} {Q : sQ} (k0 : sV (scT L xs) (d + 11) "LoafFallLaw" cL_law 4 (some .boolean) Q 1461 [some (.ref (100000 + 6)), some (.ref 0), some (.ref 239), some (.int (nI p))] [] m n) : sV (scT L xs) (d + 11) "LoafFallLaw" cL_law 4 (some .boolean) Q 33 [some (.ref (100000 + 6)), some (.ref 0), some (.ref 239), some (.int (nI p))] [.int (nI 41)] m n := y_tabIn (off := 1428) (tgt := 1461) dL_law_33 (by decide) (by decide) (by decide +kernel) (by decide) k0
theorem tq_42 {L : Nat} {xs : Nat → Int32} {d p : Nat} {m : sM} {n : sN} {Q : sQ} (k0 : sV (scT L xs) (d + 11) "LoafFallLaw" cL_law 4 (some .boolean) Q 1475 [some (.ref (100000 + 6)), some (.ref 0), some (.ref 239), some (.int (nI p))] [] m n) : sV (scT L xs) (d + 11) "LoafFallLaw" cL_law 4 (some .boolean) Q 33 [some (.ref (100000 + 6)), some (.ref 0), some (.ref 239), some (.int (nI p))] [.int (nI 42)] m n := y_tabIn (off := 1442) (tgt := 1475) dL_law_33 (by decide) (by decide) (by decide +kernel) (by decide) k0
theorem tq_43 {L : Nat} {xs : Nat → Int32} {d p : Nat} {m : sM} {n : sN} {Q : sQ} (k0 : sV (scT L xs) (d + 11) "LoafFallLaw" cL_law 4 (some .boolean) Q 1489 [some (.ref (100000 + 6)), some (.ref 0), some (.ref 239), some (.int (nI p))] [] m n) : sV (scT L xs) (d + 11) "LoafFallLaw" cL_law 4 (some .boolean) Q 33 [some (.ref (100000 + 6)), some (.ref 0), some (.ref 239), some (.int (nI p))] [.int (nI 43)] m n := y_tabIn (off := 1456) (tgt := 1489) dL_law_33 (by decide) (by decide) (by decide +kernel) (by decide) k0
theorem tq_44 {L : Nat} {xs : Nat → Int32} {d p : Nat} {m : sM} {n : sN} {Q : sQ} (k0 : sV (scT L xs) (d + 11) "LoafFallLaw" cL_law 4 (some .boolean) Q 1512 [some (.ref (100000 + 6)), some (.ref 0), some (.ref 239), some (.int (nI p))] [] m n) : sV (scT L xs) (d + 11) "LoafFallLaw" cL_law 4 (some .boolean) Q 33 [some (.ref (100000 + 6)), some (.ref 0), some (.ref 239), some (.int (nI p))] [.int (nI 44)] m n := y_tabIn (off := 1479) (tgt := 1512) dL_law_33 (by decide) (by decide) (by decide +kernel) (by decide) k0
theorem tq_45 {L : Nat} {xs : Nat → Int32} {d p : Nat} {m : sM} {n : sN} {Q : sQ} (k0 : sV (scT L xs) (d + 11) "LoafFallLaw" cL_law 4 (some .boolean) Q 1525 [some (.ref (100000 + 6)), some (.ref 0), some (.ref 239), some (.int (nI p))] [] m n) : sV (scT L xs) (d + 11) "LoafFallLaw" cL_law 4 (some .boolean) Q 33 [some (.ref (100000 + 6)), some (.ref 0), some (.ref 239), some (.int (nI p))] [.int (nI 45)] m n := y_tabIn (off := 1492) (tgt := 1525) dL_law_33 (by decide) (by decide) (by decide +kernel) (by decide) k0
theorem tq_46 {L : Nat} {xs : Nat → Int32} {d p : Nat} {m : sM} {n : sN} {Q : sQ} (k0 : sV (scT L xs) (d + 11) "LoafFallLaw" cL_law 4 (some .boolean) Q 1548 [some (.ref (100000 + 6)), some (.ref 0), some (.ref 239), some (.int (nI p))] [] m n) : sV (scT L xs) (d + 11) "LoafFallLaw" cL_law 4 (some .boolean) Q 33 [some (.ref (100000 + 6)), some (.ref 0), some (.ref 239), some (.int (nI p))] [.int (nI 46)] m n := y_tabIn (off := 1515) (tgt := 1548) dL_law_33 (by decide) (by decide) (by decide +kernel) (by decide) k0
theorem lw_loop {L : Nat} {xs : Nat → Int32} {d : Nat} {Q : sQ} (hL : L ≤ 3072) (hQ : ∀ (m : sM) (n : sN), Q (some (.int 1)) m n) : ∀ (N p : Nat) (m : sM) (n : sN), L ≤ p + N → p ≤ 4000 → Rel m n → sV (scT L xs) (d + 11) "LoafFallLaw" cL_law 4 (some .boolean) Q 18 [some (.ref (100000 + 6)), some (.ref 0), some (.ref 239), some (.int (nI p))] [] m n := by
  intro N
  induction N with
  | zero =>
    intro p m n hN hp h
    refine y_iload_n dL_law_18 rfl rfl ?_
    refine y_aload_n dL_law_19 rfl rfl ?_
    refine y_slen (v := nI L) dL_law_20 rfl rfl ?_
    refine y_bipush (v := 6) dL_law_21 (by decide) ?_
    refine y_isub dL_law_23 ?_
    refine y_icmp_gt (tgt := 1568) dL_law_24 (by decide) (fun h24 => ?_) (fun h24 => absurd ((lt_6 hL hp).mpr (by omega)) h24)
    refine y_iconst (v := 1) dL_law_1568 (by decide) ?_
    refine y_ireturn dL_law_1569 rfl rfl ?_
    exact hQ m n
  | succ N ih =>
    intro p m n hN hp h
    by_cases hp6 : p + 6 ≤ L
    · have tail : ∀ (m : sM) (n : sN), Rel m n → sV (scT L xs) (d + 11) "LoafFallLaw" cL_law 4 (some .boolean) Q 1562 [some (.ref (100000 + 6)), some (.ref 0), some (.ref 239), some (.int (nI p))] [] m n := fun m n h => by
        refine y_iinc4_3 dL_law_1562 (nI_add p 6) rfl ?_
        refine y_goto (tgt := 18) dL_law_1565 (by decide) ?_
        exact ih (p + 6) m n (by omega) (by omega) h
      refine y_iload_n dL_law_18 rfl rfl ?_
      refine y_aload_n dL_law_19 rfl rfl ?_
      refine y_slen (v := nI L) dL_law_20 rfl rfl ?_
      refine y_bipush (v := 6) dL_law_21 (by decide) ?_
      refine y_isub dL_law_23 ?_
      refine y_icmp_gt (tgt := 1568) dL_law_24 (by decide) (fun h24 => absurd h24 (fun z => absurd ((lt_6 hL hp).mp z) (by omega))) (fun h24 => ?_)
      refine y_aload_n dL_law_27 rfl rfl ?_
      refine y_iload_n dL_law_28 rfl rfl ?_
      refine y_saldN dL_law_29 rfl rfl (by omega) (by omega) ?_
      refine y_bipush (v := 63) dL_law_30 (by decide) ?_
      refine y_iand dL_law_32 ?_
      obtain ⟨v, hv⟩ : ∃ v, v = xs p &&& 63 := ⟨_, rfl⟩
      rw [← hv]
      rcases tab_47 v with z | ⟨k, hk, rfl⟩
      · exact y_tabOut (tgt := 1562) dL_law_33 z (by decide) (tail m n h)
      · have : k = 0 ∨ k = 1 ∨ k = 2 ∨ k = 3 ∨ k = 4 ∨ k = 5 ∨ k = 6 ∨ k = 7 ∨ k = 8 ∨ k = 9 ∨ k = 10 ∨ k = 11 ∨ k = 12 ∨ k = 13 ∨ k = 14 ∨ k = 15 ∨ k = 16 ∨ k = 17 ∨ k = 18 ∨ k = 19 ∨ k = 20 ∨ k = 21 ∨ k = 22 ∨ k = 23 ∨ k = 24 ∨ k = 25 ∨ k = 26 ∨ k = 27 ∨ k = 28 ∨ k = 29 ∨ k = 30 ∨ k = 31 ∨ k = 32 ∨ k = 33 ∨ k = 34 ∨ k = 35 ∨ k = 36 ∨ k = 37 ∨ k = 38 ∨ k = 39 ∨ k = 40 ∨ k = 41 ∨ k = 42 ∨ k = 43 ∨ k = 44 ∨ k = 45 ∨ k = 46 := by omega
        rcases this with rfl | rfl | rfl | rfl | rfl | rfl | rfl | rfl | rfl | rfl | rfl | rfl | rfl | rfl | rfl | rfl | rfl | rfl | rfl | rfl | rfl | rfl | rfl | rfl | rfl | rfl | rfl | rfl | rfl | rfl | rfl | rfl | rfl | rfl | rfl | rfl | rfl | rfl | rfl | rfl | rfl | rfl | rfl | rfl | rfl | rfl | rfl
        · exact tq_0 (lw_0 hL hp6 h tail)
        · exact tq_1 (lw_1 hL hp6 h tail)
        · exact tq_2 (lw_2 hL hp6 h tail)
        · exact tq_3 (lw_3 hL hp6 h tail)
        · exact tq_4 (lw_4 hL hp6 h tail)
        · exact tq_5 (lw_5 hL hp6 h tail)
        · exact tq_6 (lw_6 hL hp6 h tail)
        · exact tq_7 (lw_7 hL hp6 h tail)
        · exact tq_8 (lw_8 hL hp6 h tail)
        · exact tq_9 (lw_9 hL hp6 h tail)
        · exact tq_10 (lw_10 hL hp6 h tail)
        · exact tq_11 (lw_11 hL hp6 h tail)
        · exact tq_12 (lw_12 hL hp6 h tail)
        · exact tq_13 (lw_13 hL hp6 h tail)
        · exact tq_14 (lw_14 hL hp6 h tail)
        · exact tq_15 (lw_15 hL hp6 h tail)
        · exact tq_16 (lw_16 hL hp6 h tail)
        · exact tq_17 (lw_17 hL hp6 h tail)
        · exact tq_18 (lw_18 hL hp6 h tail)
        · exact tq_19 (lw_19 hL hp6 h tail)
        · exact tq_20 (lw_20 hL hp6 h tail)
        · exact tq_21 (lw_21 hL hp6 h tail)
        · exact tq_22 (lw_22 hL hp6 h tail)
        · exact tq_23 (lw_23 hL hp6 h tail)
        · exact tq_24 (lw_24 hL hp6 h tail)
        · exact tq_25 (lw_25 hL hp6 h tail)
        · exact tq_26 (lw_26 hL hp6 h tail)
        · exact tq_27 (lw_27 hL hp6 h tail)
        · exact tq_28 (lw_28 hL hp6 h tail)
        · exact tq_29 (lw_29 hL hp6 h tail)
        · exact tq_30 (lw_30 hL hp6 h tail)
        · exact tq_31 (lw_31 hL hp6 h tail)
        · exact tq_32 (lw_32 hL hp6 h tail)
        · exact tq_33 (lw_33 hL hp6 h tail)
        · exact tq_34 (lw_34 hL hp6 h tail)
        · exact tq_35 (lw_35 hL hp6 h tail)
        · exact tq_36 (lw_36 hL hp6 h tail)
        · exact tq_37 (lw_37 hL hp6 h tail)
        · exact tq_38 (lw_38 hL hp6 h tail)
        · exact tq_39 (lw_39 hL hp6 h tail)
        · exact tq_40 (lw_40 hL hp6 h tail)
        · exact tq_41 (lw_41 hL hp6 h tail)
        · exact tq_42 (lw_42 hL hp6 h tail)
        · exact tq_43 (lw_43 hL hp6 h tail)
        · exact tq_44 (lw_44 hL hp6 h tail)
        · exact tq_45 (lw_45 hL hp6 h tail)
        · exact tq_46 (lw_46 hL hp6 h tail)
    · refine y_iload_n dL_law_18 rfl rfl ?_
      refine y_aload_n dL_law_19 rfl rfl ?_
      refine y_slen (v := nI L) dL_law_20 rfl rfl ?_
      refine y_bipush (v := 6) dL_law_21 (by decide) ?_
      refine y_isub dL_law_23 ?_
      refine y_icmp_gt (tgt := 1568) dL_law_24 (by decide) (fun h24 => ?_) (fun h24 => absurd ((lt_6 hL hp).mpr (by omega)) h24)
      refine y_iconst (v := 1) dL_law_1568 (by decide) ?_
      refine y_ireturn dL_law_1569 rfl rfl ?_
      exact hQ m n
