set_option maxHeartbeats 1000000 in
theorem c_X12_layLaw {L : Nat} {xs : Nat → Int32} {d : Nat} {m : sM} {n : sN} {Q : sQ} {l f g : Nat} {y0 x z : Int32} (hy : y0 = nI l) (hl : l < 81) (hx : x = nI f) (hf : f < 4) (hz : z = nI g) (hg : g < 4) (hQ : Q none (stR (wkM m 1316) (m 255) 1316 (upd (upd (bothR m f g (fun p => m 254 (1316 + p))) 0 (nI (1 + l / 9))) 1 (nI (10 + 10 * (l % 9))))) n) : sRun (scT L xs) (d + 4) yX12_layLaw cX12_layLaw 4 none [.ref 239, .int y0, .int x, .int z] m n Q := by
  subst hy hx hz
  refine y_run (own := "LoafFallModel") rfl (by decide +kernel) (Nat.le_of_ble_eq_true rfl) rfl ?_
  refine y_aload_n dX12_layLaw_0 rfl rfl ?_
  refine y_iload_n dX12_layLaw_1 rfl rfl ?_
  refine y_iload_n dX12_layLaw_2 rfl rfl ?_
  refine y_ivV2 dX12_layLaw_3 mv_X12_260 my_X12_layBoth (Or.inl rfl) sh_239 ?_
  refine c_X12_layBoth (f := f) (g := g) rfl hf rfl hg ⟨rfl, ?_⟩
  refine y_aload_n dX12_layLaw_6 rfl rfl ?_
  refine y_iconst (v := 0) dX12_layLaw_7 (by decide) ?_
  refine y_iconst (v := 1) dX12_layLaw_8 (by decide) ?_
  refine y_iload_n dX12_layLaw_9 rfl rfl ?_
  refine y_bipush (v := 9) dX12_layLaw_10 (by decide) ?_
  refine y_idivN (a := l) (b := 9) dX12_layLaw_12 rfl rfl (by omega) (by decide) (by decide) ?_
  refine y_iaddN (a := 1) (b := l / 9) dX12_layLaw_13 rfl rfl ?_
  refine y_ivV2 dX12_layLaw_14 mv_X12_163 my_X12_put_ (Or.inl rfl) sh_239 ?_
  refine c_X12_put_ (wk_b (by omega)) (p := 0) rfl (by omega) ⟨rfl, ?_⟩
  refine y_aload_n dX12_layLaw_17 rfl rfl ?_
  refine y_iconst (v := 1) dX12_layLaw_18 (by decide) ?_
  refine y_bipush (v := 10) dX12_layLaw_19 (by decide) ?_
  refine y_bipush (v := 10) dX12_layLaw_21 (by decide) ?_
  refine y_iload_n dX12_layLaw_23 rfl rfl ?_
  refine y_bipush (v := 9) dX12_layLaw_24 (by decide) ?_
  refine y_iremN (a := l) (b := 9) dX12_layLaw_26 rfl rfl (by omega) (by decide) (by decide) ?_
  refine y_imulN (a := 10) (b := l % 9) dX12_layLaw_27 rfl rfl ?_
  refine y_iaddN (a := 10) (b := 10 * (l % 9)) dX12_layLaw_28 rfl rfl ?_
  refine y_ivV2 dX12_layLaw_29 mv_X12_163 my_X12_put_ (Or.inl rfl) sh_239 ?_
  refine c_X12_put_ (wk_b (by omega)) (p := 1) rfl (by omega) ⟨rfl, ?_⟩
  refine y_return dX12_layLaw_32 rfl ?_
  exact hQ
