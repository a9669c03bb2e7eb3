/-! ===== the constructors ===== -/
theorem sum_app (A B : aH) : a_sum (A ++ B) = a_sum A + a_sum B := by simp [a_sum]
theorem get_app {A B : aH} {j : Nat} {e : aE} (h : B[j]? = some e) : (A ++ B)[A.length + j]? = some e := by
  rw [List.getElem?_append_right (Nat.le_add_right _ _), Nat.add_sub_cancel_left]; exact h
theorem set_app {A B : aH} {j : Nat} {e : aE} : (A ++ B).set (A.length + j) e = A ++ B.set j e := by
  rw [List.set_append_right _ _ (Nat.le_add_right _ _), Nat.add_sub_cancel_left]
theorem sum_of {B : aH} {l : List Nat} {s : Nat} (h : B.map a_sz = l) (hs : l.sum = s) : a_sum B = s := by unfold a_sum; rw [h]; exact hs
theorem sum_le {B : aH} {l : List Nat} {N b2 : Nat} (h : B.map a_sz = l) (hs : l.sum + N ≤ b2) : a_sum B + N ≤ b2 := by unfold a_sum; rw [h]; exact hs
theorem sum_ad {B : aH} {l : List Nat} {N b2 : Nat} (h : B.map a_sz = l) (hs : l.sum + N = b2) : a_sum B + N = b2 := by unfold a_sum; rw [h]; exact hs
section ZV
variable {sc : aS} {d : Nat} {own : String} {cc : ByteArray} {nL : Nat} {ret : Option FieldType} {ini : Bool} {b1 b2 : Nat} {Q : aQ} {pc : Nat} {ls : aL} {st : List Value} {M0 B B' : aH}
theorem z_run {y : MethodName} {mc ms : Nat} {as : List Value} {ls : aL} {Q : aQ} (hown : y.cls = own) (hini : (y.name == "<init>") = true) (hent : (a_ent as).length ≤ nL) (hls : a_entry as nL = ls) (h1 : B.length + mc = b1) (h2 : a_sum B + ms = b2) (k : aV sc (aRun sc d) own cc nL ret true (M0.length + b1) (a_sum M0 + b2) (fun r M' => M'.length = M0.length + b1 ∧ a_sum M' = a_sum M0 + b2 ∧ Q r M') 0 ls [] (M0 ++ B)) : aRun sc (d + 1) y cc nL ret mc ms as (M0 ++ B) Q := by
  subst hown hls h1 h2
  refine ⟨hent, ?_⟩
  rw [hini, List.length_append, sum_app, Nat.add_assoc, Nat.add_assoc]
  exact k
theorem z_new {idx c k : Nat} {vs : List Value} (hd : decode cc pc = .ok (.new idx, 3)) (hg : a_NW own idx c vs) (hk : B.length = k) (h1 : k + 1 ≤ b1) (h2 : a_sum B + vs.length ≤ b2) (hB : B ++ [.inr (c, vs)] = B') (k0 : aV sc (aRun sc d) own cc nL ret ini (M0.length + b1) (a_sum M0 + b2) Q (pc + 3) ls (.ref (M0.length + k) :: st) (M0 ++ B')) : aV sc (aRun sc d) own cc nL ret ini (M0.length + b1) (a_sum M0 + b2) Q pc ls st (M0 ++ B) := by
  refine x_new hd hg (by rw [List.length_append, hk]; omega) (by rw [sum_app]; omega) ?_
  rw [List.length_append, hk, List.append_assoc, hB]
  exact k0
theorem z_newa {at_ : ArrayType} {t N k : Nat} {n : Int32} (hd : decode cc pc = .ok (.newarray at_, 2)) (ha : (at_ = .int ∧ t = 100) ∨ (at_ = .byte ∧ t = 101) ∨ (at_ = .boolean ∧ t = 102)) (hn : ¬ n < 0) (hN : n.toNatClampNeg = N) (hs : N ≤ 10000) (hk : B.length = k) (h1 : k + 1 ≤ b1) (h2 : a_sum B + N ≤ b2) (hB : B ++ [.inl (t, N, .inl (fun _ => 0))] = B') (k0 : aV sc (aRun sc d) own cc nL ret ini (M0.length + b1) (a_sum M0 + b2) Q (pc + 2) ls (.ref (M0.length + k) :: st) (M0 ++ B')) : aV sc (aRun sc d) own cc nL ret ini (M0.length + b1) (a_sum M0 + b2) Q pc ls (.int n :: st) (M0 ++ B) := by
  refine x_newa hd ha hn hN hs (by rw [List.length_append, hk]; omega) (by rw [sum_app]; omega) ?_
  rw [List.length_append, hk, List.append_assoc, hB]
  exact k0
theorem z_anew {idx c N k : Nat} {n : Int32} (hd : decode cc pc = .ok (.anewarray idx, 3)) (hg : a_AN own idx c) (hn : ¬ n < 0) (hN : n.toNatClampNeg = N) (hs : N ≤ 10000) (hk : B.length = k) (h1 : k + 1 ≤ b1) (h2 : a_sum B + N ≤ b2) (hB : B ++ [.inl (110 + c, N, .inr (fun _ => none))] = B') (k0 : aV sc (aRun sc d) own cc nL ret ini (M0.length + b1) (a_sum M0 + b2) Q (pc + 3) ls (.ref (M0.length + k) :: st) (M0 ++ B')) : aV sc (aRun sc d) own cc nL ret ini (M0.length + b1) (a_sum M0 + b2) Q pc ls (.int n :: st) (M0 ++ B) := by
  refine x_anew hd hg hn hN hs (by rw [List.length_append, hk]; omega) (by rw [sum_app]; omega) ?_
  rw [List.length_append, hk, List.append_assoc, hB]
  exact k0
theorem z_putF {idx a j c k b jb nb : Nat} {vs : List Value} {ty : FieldType} (hd : decode cc pc = .ok (.putfield idx, 3)) (hg : a_PF own idx c k true ty) (ha : a = M0.length + j) (hm : B[j]? = some (.inr (c, vs))) (hk : k < vs.length) (hb : b = M0.length + jb) (hl : B.length = nb) (hbl : jb < nb) (hn : ∀ q, narrow ty (.ref q) = .ref q ∧ fits ty (.ref q) = true) (hB : B.set j (.inr (c, vs.set k (.ref b))) = B') (k0 : aV sc (aRun sc d) own cc nL ret true (M0.length + b1) (a_sum M0 + b2) Q (pc + 3) ls st (M0 ++ B')) : aV sc (aRun sc d) own cc nL ret true (M0.length + b1) (a_sum M0 + b2) Q pc ls (.ref b :: .ref a :: st) (M0 ++ B) := by
  refine x_putF hd rfl hg (by rw [ha]; exact get_app hm) hk (by rw [List.length_append, hb, hl]; omega) hn ?_
  rw [ha, set_app, hB]
  exact k0
theorem z_puti {idx a j c k : Nat} {vs : List Value} {ty : FieldType} {x : Int32} (hd : decode cc pc = .ok (.putfield idx, 3)) (hg : a_PF own idx c k false ty) (ha : a = M0.length + j) (hm : B[j]? = some (.inr (c, vs))) (hk : k < vs.length) (hn : narrow ty (.int x) = .int x) (hf : fits ty (.int x) = true) (hB : B.set j (.inr (c, vs.set k (.int x))) = B') (k0 : aV sc (aRun sc d) own cc nL ret ini (M0.length + b1) (a_sum M0 + b2) Q (pc + 3) ls st (M0 ++ B')) : aV sc (aRun sc d) own cc nL ret ini (M0.length + b1) (a_sum M0 + b2) Q pc ls (.int x :: .ref a :: st) (M0 ++ B) := by
  refine x_puti hd hg (by rw [ha]; exact get_app hm) hk hn hf ?_
  rw [ha, set_app, hB]
  exact k0
theorem z_putl {idx a j c k : Nat} {vs : List Value} {x : Int64} (hd : decode cc pc = .ok (.putfield idx, 3)) (hg : a_PF own idx c k false .long) (ha : a = M0.length + j) (hm : B[j]? = some (.inr (c, vs))) (hk : k < vs.length) (hB : B.set j (.inr (c, vs.set k (.long x))) = B') (k0 : aV sc (aRun sc d) own cc nL ret ini (M0.length + b1) (a_sum M0 + b2) Q (pc + 3) ls st (M0 ++ B')) : aV sc (aRun sc d) own cc nL ret ini (M0.length + b1) (a_sum M0 + b2) Q pc ls (.long x :: .ref a :: st) (M0 ++ B) := by
  refine x_putl hd hg (by rw [ha]; exact get_app hm) hk ?_
  rw [ha, set_app, hB]
  exact k0
theorem z_get {idx a j c k : Nat} {vs : List Value} {v : Value} (hd : decode cc pc = .ok (.getfield idx, 3)) (hg : a_GF own idx c k) (ha : a = M0.length + j) (hm : B[j]? = some (.inr (c, vs))) (hv : vs[k]? = some v) (k0 : aV sc (aRun sc d) own cc nL ret ini (M0.length + b1) (a_sum M0 + b2) Q (pc + 3) ls (v :: st) (M0 ++ B)) : aV sc (aRun sc d) own cc nL ret ini (M0.length + b1) (a_sum M0 + b2) Q pc ls (.ref a :: st) (M0 ++ B) := x_get hd hg (by rw [ha]; exact get_app hm) hv k0
theorem z_iast {a j N q : Nat} {f : Nat → Int32} {i x : Int32} (hd : decode cc pc = .ok (.iastore, 1)) (ha : a = M0.length + j) (hm : B[j]? = some (.inl (100, N, .inl f))) (hi : vp_in i N) (hq : i.toNatClampNeg = q) (hB : B.set j (.inl (100, N, .inl (upd f q x))) = B') (k0 : aV sc (aRun sc d) own cc nL ret ini (M0.length + b1) (a_sum M0 + b2) Q (pc + 1) ls st (M0 ++ B')) : aV sc (aRun sc d) own cc nL ret ini (M0.length + b1) (a_sum M0 + b2) Q pc ls (.int x :: .int i :: .ref a :: st) (M0 ++ B) := by
  refine x_iast hd (by rw [ha]; exact get_app hm) hi ?_
  rw [ha, set_app, hq, hB]
  exact k0
theorem z_aast {a j c N q b jb : Nat} {f : Nat → Option Nat} {vs : List Value} {i : Int32} (hd : decode cc pc = .ok (.aastore, 1)) (hc : (vwCl[c]?.map (·.1)).any (a_ao.contains ·) = true) (ha : a = M0.length + j) (hm : B[j]? = some (.inl (110 + c, N, .inr f))) (hi : vp_in i N) (hq : i.toNatClampNeg = q) (hb : b = M0.length + jb) (hmb : B[jb]? = some (.inr (c, vs))) (hB : B.set j (.inl (110 + c, N, .inr (a_up f q (some b)))) = B') (k0 : aV sc (aRun sc d) own cc nL ret ini (M0.length + b1) (a_sum M0 + b2) Q (pc + 1) ls st (M0 ++ B')) : aV sc (aRun sc d) own cc nL ret ini (M0.length + b1) (a_sum M0 + b2) Q pc ls (.ref b :: .int i :: .ref a :: st) (M0 ++ B) := by
  refine x_aast hd hc (by rw [ha]; exact get_app hm) hi (by rw [hb]; exact get_app hmb) ?_
  rw [ha, set_app, hq, hB]
  exact k0
theorem z_ii {idx a mc ms k : Nat} {y : MethodName} {c2 : ByteArray} {nL2 : Nat} {rest : List Value} {B1 blk : aH} {obj : aE} (hd : decode cc pc = .ok (.invokespecial idx, 3)) (hv : a_MI own idx y) (hy : a_MY y c2 nL2 none 0) (hs : (rest.map fun v => v.category).sum ≤ 8) (hB : B = B1 ++ [obj]) (hk : B1.length = k) (ha : a = M0.length + k) (h1 : k + 1 + mc ≤ b1) (h2 : a_sum B + ms ≤ b2) (hc : ∀ (M1 : aH) (Q' : aQ), M1.length = M0.length + k → Q' none (M1 ++ blk) → aRun sc d y c2 nL2 none mc ms [.ref (M0.length + k)] (M1 ++ [obj]) Q') (hB' : B1 ++ blk = B') (k0 : aV sc (aRun sc d) own cc nL ret ini (M0.length + b1) (a_sum M0 + b2) Q (pc + 3) ls rest (M0 ++ B')) : aV sc (aRun sc d) own cc nL ret ini (M0.length + b1) (a_sum M0 + b2) Q pc ls (.ref a :: rest) (M0 ++ B) := by
  refine x_ii (mc := mc) (ms := ms) (aRun_mono sc d) hd hv hy hs (by rw [List.length_append, hB, List.length_append, hk]; show M0.length + (k + 1) + mc ≤ _; omega) (by rw [sum_app]; omega) ?_
  rw [ha, hB, ← List.append_assoc]
  refine hc (M0 ++ B1) _ (by rw [List.length_append, hk]) ⟨rfl, ?_⟩
  rw [List.append_assoc, hB']
  exact k0
theorem z_ret (hd : decode cc pc = .ok (.return_, 1)) (hr : ret = none) (hl : B.length = b1) (hs : a_sum B = b2) (hq : Q none (M0 ++ B)) : aV sc (aRun sc d) own cc nL ret ini (M0.length + b1) (a_sum M0 + b2) (fun r M' => M'.length = M0.length + b1 ∧ a_sum M' = a_sum M0 + b2 ∧ Q r M') pc ls [] (M0 ++ B) := x_return hd hr ⟨by rw [List.length_append, hl], by rw [sum_app, hs], hq⟩
end ZV
def b_4 (a : Nat) : aH := [.inr (4, [.ref (a + 1), .int 0]), .inl (100, 5, .inl (fun _ => 0))]
set_option maxHeartbeats 2000000 in
set_option maxRecDepth 4000 in
theorem i_X4_init {L : Nat} {xs : Nat → Int32} {d : Nat} {M1 : aH} {a : Nat} {Q : aQ} (ha : M1.length = a) (hQ : Q none (M1 ++ b_4 a)) : aRun (scT L xs) (d + 1) yX4_init cX4_init 1 none 1 5 [.ref a] (M1 ++ [.inr (4, [.null, .int 0])]) Q := by
  subst ha
  refine z_run (own := "LoafFall$Flour") (b1 := 2) (b2 := 7) rfl (by decide +kernel) (Nat.le_of_ble_eq_true rfl) rfl rfl (sum_ad (l := [2]) rfl (by decide +kernel)) ?_
  refine x_aload_n dX4_init_0 rfl rfl ?_
  refine x_objI dX4_init_1 oi_X4_3 (Nat.le_of_ble_eq_true rfl) ?_
  refine x_aload_n dX4_init_4 rfl rfl ?_
  refine x_iconst (v := 5) dX4_init_5 (by decide) ?_
  refine z_newa (k := 1) (N := 5) (B' := [.inr (4, [.null, .int 0]), .inl (100, 5, .inl (fun _ => 0))]) dX4_init_6 (Or.inl ⟨rfl, rfl⟩) (by decide) (by decide) (by decide) rfl (Nat.le_of_ble_eq_true rfl) (sum_le (l := [2]) rfl (by decide +kernel)) rfl ?_
  refine z_putF (j := 0) (jb := 1) (nb := 2) (B' := [.inr (4, [.ref (M1.length + 1), .int 0]), .inl (100, 5, .inl (fun _ => 0))]) dX4_init_8 pf_X4_9 rfl rfl (Nat.le_of_ble_eq_true rfl) rfl rfl (by decide) (fun _ => ⟨rfl, rfl⟩) rfl ?_
  refine z_ret dX4_init_11 rfl rfl (sum_of (l := [2, 5]) rfl (by decide +kernel)) ?_
  exact hQ
def b_1 (a : Nat) : aH := [.inr (1, [.ref (a + 1), .ref (a + 2), .ref (a + 3), .int 0, .int 0]), .inl (100, 10, .inl (fun _ => 0)), .inl (100, 10, .inl (fun _ => 0)), .inl (100, 10, .inl (fun _ => 0))]
set_option maxHeartbeats 2000000 in
set_option maxRecDepth 4000 in
theorem i_X1_init {L : Nat} {xs : Nat → Int32} {d : Nat} {M1 : aH} {a : Nat} {Q : aQ} (ha : M1.length = a) (hQ : Q none (M1 ++ b_1 a)) : aRun (scT L xs) (d + 1) yX1_init cX1_init 1 none 3 30 [.ref a] (M1 ++ [.inr (1, [.null, .null, .null, .int 0, .int 0])]) Q := by
  subst ha
  refine z_run (own := "LoafFall$Doing") (b1 := 4) (b2 := 35) rfl (by decide +kernel) (Nat.le_of_ble_eq_true rfl) rfl rfl (sum_ad (l := [5]) rfl (by decide +kernel)) ?_
  refine x_aload_n dX1_init_0 rfl rfl ?_
  refine x_objI dX1_init_1 oi_X1_3 (Nat.le_of_ble_eq_true rfl) ?_
  refine x_aload_n dX1_init_4 rfl rfl ?_
  refine x_bipush (v := 10) dX1_init_5 (by decide) ?_
  refine z_newa (k := 1) (N := 10) (B' := [.inr (1, [.null, .null, .null, .int 0, .int 0]), .inl (100, 10, .inl (fun _ => 0))]) dX1_init_7 (Or.inl ⟨rfl, rfl⟩) (by decide) (by decide) (by decide) rfl (Nat.le_of_ble_eq_true rfl) (sum_le (l := [5]) rfl (by decide +kernel)) rfl ?_
  refine z_putF (j := 0) (jb := 1) (nb := 2) (B' := [.inr (1, [.ref (M1.length + 1), .null, .null, .int 0, .int 0]), .inl (100, 10, .inl (fun _ => 0))]) dX1_init_9 pf_X1_9 rfl rfl (Nat.le_of_ble_eq_true rfl) rfl rfl (by decide) (fun _ => ⟨rfl, rfl⟩) rfl ?_
  refine x_aload_n dX1_init_12 rfl rfl ?_
  refine x_bipush (v := 10) dX1_init_13 (by decide) ?_
  refine z_newa (k := 2) (N := 10) (B' := [.inr (1, [.ref (M1.length + 1), .null, .null, .int 0, .int 0]), .inl (100, 10, .inl (fun _ => 0)), .inl (100, 10, .inl (fun _ => 0))]) dX1_init_15 (Or.inl ⟨rfl, rfl⟩) (by decide) (by decide) (by decide) rfl (Nat.le_of_ble_eq_true rfl) (sum_le (l := [5, 10]) rfl (by decide +kernel)) rfl ?_
  refine z_putF (j := 0) (jb := 2) (nb := 3) (B' := [.inr (1, [.ref (M1.length + 1), .ref (M1.length + 2), .null, .int 0, .int 0]), .inl (100, 10, .inl (fun _ => 0)), .inl (100, 10, .inl (fun _ => 0))]) dX1_init_17 pf_X1_15 rfl rfl (Nat.le_of_ble_eq_true rfl) rfl rfl (by decide) (fun _ => ⟨rfl, rfl⟩) rfl ?_
  refine x_aload_n dX1_init_20 rfl rfl ?_
  refine x_bipush (v := 10) dX1_init_21 (by decide) ?_
  refine z_newa (k := 3) (N := 10) (B' := [.inr (1, [.ref (M1.length + 1), .ref (M1.length + 2), .null, .int 0, .int 0]), .inl (100, 10, .inl (fun _ => 0)), .inl (100, 10, .inl (fun _ => 0)), .inl (100, 10, .inl (fun _ => 0))]) dX1_init_23 (Or.inl ⟨rfl, rfl⟩) (by decide) (by decide) (by decide) rfl (Nat.le_of_ble_eq_true rfl) (sum_le (l := [5, 10, 10]) rfl (by decide +kernel)) rfl ?_
  refine z_putF (j := 0) (jb := 3) (nb := 4) (B' := [.inr (1, [.ref (M1.length + 1), .ref (M1.length + 2), .ref (M1.length + 3), .int 0, .int 0]), .inl (100, 10, .inl (fun _ => 0)), .inl (100, 10, .inl (fun _ => 0)), .inl (100, 10, .inl (fun _ => 0))]) dX1_init_25 pf_X1_18 rfl rfl (Nat.le_of_ble_eq_true rfl) rfl rfl (by decide) (fun _ => ⟨rfl, rfl⟩) rfl ?_
  refine z_ret dX1_init_28 rfl rfl (sum_of (l := [5, 10, 10, 10]) rfl (by decide +kernel)) ?_
  exact hQ
def b_2 (a : Nat) : aH := [.inr (2, [.ref (a + 1), .ref (a + 2), .ref (a + 3), .ref (a + 4), .ref (a + 5), .int 0, .int 0, .int 0, .int 0, .int 0]), .inl (100, 24, .inl (fun _ => 0)), .inl (100, 24, .inl (fun _ => 0)), .inl (100, 24, .inl (fun _ => 0)), .inl (100, 24, .inl (fun _ => 0)), .inl (100, 24, .inl (fun _ => 0))]
set_option maxHeartbeats 2000000 in
set_option maxRecDepth 4000 in
theorem i_X2_init {L : Nat} {xs : Nat → Int32} {d : Nat} {M1 : aH} {a : Nat} {Q : aQ} (ha : M1.length = a) (hQ : Q none (M1 ++ b_2 a)) : aRun (scT L xs) (d + 1) yX2_init cX2_init 1 none 5 120 [.ref a] (M1 ++ [.inr (2, [.null, .null, .null, .null, .null, .int 0, .int 0, .int 0, .int 0, .int 0])]) Q := by
  subst ha
  refine z_run (own := "LoafFall$Dough") (b1 := 6) (b2 := 130) rfl (by decide +kernel) (Nat.le_of_ble_eq_true rfl) rfl rfl (sum_ad (l := [10]) rfl (by decide +kernel)) ?_
  refine x_aload_n dX2_init_0 rfl rfl ?_
  refine x_objI dX2_init_1 oi_X2_3 (Nat.le_of_ble_eq_true rfl) ?_
  refine x_aload_n dX2_init_4 rfl rfl ?_
  refine x_bipush (v := 24) dX2_init_5 (by decide) ?_
  refine z_newa (k := 1) (N := 24) (B' := [.inr (2, [.null, .null, .null, .null, .null, .int 0, .int 0, .int 0, .int 0, .int 0]), .inl (100, 24, .inl (fun _ => 0))]) dX2_init_7 (Or.inl ⟨rfl, rfl⟩) (by decide) (by decide) (by decide) rfl (Nat.le_of_ble_eq_true rfl) (sum_le (l := [10]) rfl (by decide +kernel)) rfl ?_
  refine z_putF (j := 0) (jb := 1) (nb := 2) (B' := [.inr (2, [.ref (M1.length + 1), .null, .null, .null, .null, .int 0, .int 0, .int 0, .int 0, .int 0]), .inl (100, 24, .inl (fun _ => 0))]) dX2_init_9 pf_X2_9 rfl rfl (Nat.le_of_ble_eq_true rfl) rfl rfl (by decide) (fun _ => ⟨rfl, rfl⟩) rfl ?_
  refine x_aload_n dX2_init_12 rfl rfl ?_
  refine x_bipush (v := 24) dX2_init_13 (by decide) ?_
  refine z_newa (k := 2) (N := 24) (B' := [.inr (2, [.ref (M1.length + 1), .null, .null, .null, .null, .int 0, .int 0, .int 0, .int 0, .int 0]), .inl (100, 24, .inl (fun _ => 0)), .inl (100, 24, .inl (fun _ => 0))]) dX2_init_15 (Or.inl ⟨rfl, rfl⟩) (by decide) (by decide) (by decide) rfl (Nat.le_of_ble_eq_true rfl) (sum_le (l := [10, 24]) rfl (by decide +kernel)) rfl ?_
  refine z_putF (j := 0) (jb := 2) (nb := 3) (B' := [.inr (2, [.ref (M1.length + 1), .ref (M1.length + 2), .null, .null, .null, .int 0, .int 0, .int 0, .int 0, .int 0]), .inl (100, 24, .inl (fun _ => 0)), .inl (100, 24, .inl (fun _ => 0))]) dX2_init_17 pf_X2_15 rfl rfl (Nat.le_of_ble_eq_true rfl) rfl rfl (by decide) (fun _ => ⟨rfl, rfl⟩) rfl ?_
  refine x_aload_n dX2_init_20 rfl rfl ?_
  refine x_bipush (v := 24) dX2_init_21 (by decide) ?_
  refine z_newa (k := 3) (N := 24) (B' := [.inr (2, [.ref (M1.length + 1), .ref (M1.length + 2), .null, .null, .null, .int 0, .int 0, .int 0, .int 0, .int 0]), .inl (100, 24, .inl (fun _ => 0)), .inl (100, 24, .inl (fun _ => 0)), .inl (100, 24, .inl (fun _ => 0))]) dX2_init_23 (Or.inl ⟨rfl, rfl⟩) (by decide) (by decide) (by decide) rfl (Nat.le_of_ble_eq_true rfl) (sum_le (l := [10, 24, 24]) rfl (by decide +kernel)) rfl ?_
  refine z_putF (j := 0) (jb := 3) (nb := 4) (B' := [.inr (2, [.ref (M1.length + 1), .ref (M1.length + 2), .ref (M1.length + 3), .null, .null, .int 0, .int 0, .int 0, .int 0, .int 0]), .inl (100, 24, .inl (fun _ => 0)), .inl (100, 24, .inl (fun _ => 0)), .inl (100, 24, .inl (fun _ => 0))]) dX2_init_25 pf_X2_18 rfl rfl (Nat.le_of_ble_eq_true rfl) rfl rfl (by decide) (fun _ => ⟨rfl, rfl⟩) rfl ?_
  refine x_aload_n dX2_init_28 rfl rfl ?_
  refine x_bipush (v := 24) dX2_init_29 (by decide) ?_
  refine z_newa (k := 4) (N := 24) (B' := [.inr (2, [.ref (M1.length + 1), .ref (M1.length + 2), .ref (M1.length + 3), .null, .null, .int 0, .int 0, .int 0, .int 0, .int 0]), .inl (100, 24, .inl (fun _ => 0)), .inl (100, 24, .inl (fun _ => 0)), .inl (100, 24, .inl (fun _ => 0)), .inl (100, 24, .inl (fun _ => 0))]) dX2_init_31 (Or.inl ⟨rfl, rfl⟩) (by decide) (by decide) (by decide) rfl (Nat.le_of_ble_eq_true rfl) (sum_le (l := [10, 24, 24, 24]) rfl (by decide +kernel)) rfl ?_
  refine z_putF (j := 0) (jb := 4) (nb := 5) (B' := [.inr (2, [.ref (M1.length + 1), .ref (M1.length + 2), .ref (M1.length + 3), .ref (M1.length + 4), .null, .int 0, .int 0, .int 0, .int 0, .int 0]), .inl (100, 24, .inl (fun _ => 0)), .inl (100, 24, .inl (fun _ => 0)), .inl (100, 24, .inl (fun _ => 0)), .inl (100, 24, .inl (fun _ => 0))]) dX2_init_33 pf_X2_21 rfl rfl (Nat.le_of_ble_eq_true rfl) rfl rfl (by decide) (fun _ => ⟨rfl, rfl⟩) rfl ?_
  refine x_aload_n dX2_init_36 rfl rfl ?_
  refine x_bipush (v := 24) dX2_init_37 (by decide) ?_
  refine z_newa (k := 5) (N := 24) (B' := [.inr (2, [.ref (M1.length + 1), .ref (M1.length + 2), .ref (M1.length + 3), .ref (M1.length + 4), .null, .int 0, .int 0, .int 0, .int 0, .int 0]), .inl (100, 24, .inl (fun _ => 0)), .inl (100, 24, .inl (fun _ => 0)), .inl (100, 24, .inl (fun _ => 0)), .inl (100, 24, .inl (fun _ => 0)), .inl (100, 24, .inl (fun _ => 0))]) dX2_init_39 (Or.inl ⟨rfl, rfl⟩) (by decide) (by decide) (by decide) rfl (Nat.le_of_ble_eq_true rfl) (sum_le (l := [10, 24, 24, 24, 24]) rfl (by decide +kernel)) rfl ?_
  refine z_putF (j := 0) (jb := 5) (nb := 6) (B' := [.inr (2, [.ref (M1.length + 1), .ref (M1.length + 2), .ref (M1.length + 3), .ref (M1.length + 4), .ref (M1.length + 5), .int 0, .int 0, .int 0, .int 0, .int 0]), .inl (100, 24, .inl (fun _ => 0)), .inl (100, 24, .inl (fun _ => 0)), .inl (100, 24, .inl (fun _ => 0)), .inl (100, 24, .inl (fun _ => 0)), .inl (100, 24, .inl (fun _ => 0))]) dX2_init_41 pf_X2_24 rfl rfl (Nat.le_of_ble_eq_true rfl) rfl rfl (by decide) (fun _ => ⟨rfl, rfl⟩) rfl ?_
  refine z_ret dX2_init_44 rfl rfl (sum_of (l := [10, 24, 24, 24, 24, 24]) rfl (by decide +kernel)) ?_
  exact hQ
def b_3 (a : Nat) : aH := [.inr (3, [.ref (a + 1), .ref (a + 2), .ref (a + 3), .ref (a + 4), .ref (a + 5)]), .inl (100, 24, .inl (fun _ => 0)), .inl (100, 24, .inl (fun _ => 0)), .inl (100, 24, .inl (fun _ => 0)), .inl (100, 24, .inl (fun _ => 0)), .inl (100, 24, .inl (fun _ => 0))]
set_option maxHeartbeats 2000000 in
set_option maxRecDepth 4000 in
theorem i_X3_init {L : Nat} {xs : Nat → Int32} {d : Nat} {M1 : aH} {a : Nat} {Q : aQ} (ha : M1.length = a) (hQ : Q none (M1 ++ b_3 a)) : aRun (scT L xs) (d + 1) yX3_init cX3_init 1 none 5 120 [.ref a] (M1 ++ [.inr (3, [.null, .null, .null, .null, .null])]) Q := by
  subst ha
  refine z_run (own := "LoafFall$Falls") (b1 := 6) (b2 := 125) rfl (by decide +kernel) (Nat.le_of_ble_eq_true rfl) rfl rfl (sum_ad (l := [5]) rfl (by decide +kernel)) ?_
  refine x_aload_n dX3_init_0 rfl rfl ?_
  refine x_objI dX3_init_1 oi_X3_3 (Nat.le_of_ble_eq_true rfl) ?_
  refine x_aload_n dX3_init_4 rfl rfl ?_
  refine x_bipush (v := 24) dX3_init_5 (by decide) ?_
  refine z_newa (k := 1) (N := 24) (B' := [.inr (3, [.null, .null, .null, .null, .null]), .inl (100, 24, .inl (fun _ => 0))]) dX3_init_7 (Or.inl ⟨rfl, rfl⟩) (by decide) (by decide) (by decide) rfl (Nat.le_of_ble_eq_true rfl) (sum_le (l := [5]) rfl (by decide +kernel)) rfl ?_
  refine z_putF (j := 0) (jb := 1) (nb := 2) (B' := [.inr (3, [.ref (M1.length + 1), .null, .null, .null, .null]), .inl (100, 24, .inl (fun _ => 0))]) dX3_init_9 pf_X3_9 rfl rfl (Nat.le_of_ble_eq_true rfl) rfl rfl (by decide) (fun _ => ⟨rfl, rfl⟩) rfl ?_
  refine x_aload_n dX3_init_12 rfl rfl ?_
  refine x_bipush (v := 24) dX3_init_13 (by decide) ?_
  refine z_newa (k := 2) (N := 24) (B' := [.inr (3, [.ref (M1.length + 1), .null, .null, .null, .null]), .inl (100, 24, .inl (fun _ => 0)), .inl (100, 24, .inl (fun _ => 0))]) dX3_init_15 (Or.inl ⟨rfl, rfl⟩) (by decide) (by decide) (by decide) rfl (Nat.le_of_ble_eq_true rfl) (sum_le (l := [5, 24]) rfl (by decide +kernel)) rfl ?_
  refine z_putF (j := 0) (jb := 2) (nb := 3) (B' := [.inr (3, [.ref (M1.length + 1), .ref (M1.length + 2), .null, .null, .null]), .inl (100, 24, .inl (fun _ => 0)), .inl (100, 24, .inl (fun _ => 0))]) dX3_init_17 pf_X3_15 rfl rfl (Nat.le_of_ble_eq_true rfl) rfl rfl (by decide) (fun _ => ⟨rfl, rfl⟩) rfl ?_
  refine x_aload_n dX3_init_20 rfl rfl ?_
  refine x_bipush (v := 24) dX3_init_21 (by decide) ?_
  refine z_newa (k := 3) (N := 24) (B' := [.inr (3, [.ref (M1.length + 1), .ref (M1.length + 2), .null, .null, .null]), .inl (100, 24, .inl (fun _ => 0)), .inl (100, 24, .inl (fun _ => 0)), .inl (100, 24, .inl (fun _ => 0))]) dX3_init_23 (Or.inl ⟨rfl, rfl⟩) (by decide) (by decide) (by decide) rfl (Nat.le_of_ble_eq_true rfl) (sum_le (l := [5, 24, 24]) rfl (by decide +kernel)) rfl ?_
  refine z_putF (j := 0) (jb := 3) (nb := 4) (B' := [.inr (3, [.ref (M1.length + 1), .ref (M1.length + 2), .ref (M1.length + 3), .null, .null]), .inl (100, 24, .inl (fun _ => 0)), .inl (100, 24, .inl (fun _ => 0)), .inl (100, 24, .inl (fun _ => 0))]) dX3_init_25 pf_X3_18 rfl rfl (Nat.le_of_ble_eq_true rfl) rfl rfl (by decide) (fun _ => ⟨rfl, rfl⟩) rfl ?_
  refine x_aload_n dX3_init_28 rfl rfl ?_
  refine x_bipush (v := 24) dX3_init_29 (by decide) ?_
  refine z_newa (k := 4) (N := 24) (B' := [.inr (3, [.ref (M1.length + 1), .ref (M1.length + 2), .ref (M1.length + 3), .null, .null]), .inl (100, 24, .inl (fun _ => 0)), .inl (100, 24, .inl (fun _ => 0)), .inl (100, 24, .inl (fun _ => 0)), .inl (100, 24, .inl (fun _ => 0))]) dX3_init_31 (Or.inl ⟨rfl, rfl⟩) (by decide) (by decide) (by decide) rfl (Nat.le_of_ble_eq_true rfl) (sum_le (l := [5, 24, 24, 24]) rfl (by decide +kernel)) rfl ?_
  refine z_putF (j := 0) (jb := 4) (nb := 5) (B' := [.inr (3, [.ref (M1.length + 1), .ref (M1.length + 2), .ref (M1.length + 3), .ref (M1.length + 4), .null]), .inl (100, 24, .inl (fun _ => 0)), .inl (100, 24, .inl (fun _ => 0)), .inl (100, 24, .inl (fun _ => 0)), .inl (100, 24, .inl (fun _ => 0))]) dX3_init_33 pf_X3_21 rfl rfl (Nat.le_of_ble_eq_true rfl) rfl rfl (by decide) (fun _ => ⟨rfl, rfl⟩) rfl ?_
  refine x_aload_n dX3_init_36 rfl rfl ?_
  refine x_bipush (v := 24) dX3_init_37 (by decide) ?_
  refine z_newa (k := 5) (N := 24) (B' := [.inr (3, [.ref (M1.length + 1), .ref (M1.length + 2), .ref (M1.length + 3), .ref (M1.length + 4), .null]), .inl (100, 24, .inl (fun _ => 0)), .inl (100, 24, .inl (fun _ => 0)), .inl (100, 24, .inl (fun _ => 0)), .inl (100, 24, .inl (fun _ => 0)), .inl (100, 24, .inl (fun _ => 0))]) dX3_init_39 (Or.inl ⟨rfl, rfl⟩) (by decide) (by decide) (by decide) rfl (Nat.le_of_ble_eq_true rfl) (sum_le (l := [5, 24, 24, 24, 24]) rfl (by decide +kernel)) rfl ?_
  refine z_putF (j := 0) (jb := 5) (nb := 6) (B' := [.inr (3, [.ref (M1.length + 1), .ref (M1.length + 2), .ref (M1.length + 3), .ref (M1.length + 4), .ref (M1.length + 5)]), .inl (100, 24, .inl (fun _ => 0)), .inl (100, 24, .inl (fun _ => 0)), .inl (100, 24, .inl (fun _ => 0)), .inl (100, 24, .inl (fun _ => 0)), .inl (100, 24, .inl (fun _ => 0))]) dX3_init_41 pf_X3_24 rfl rfl (Nat.le_of_ble_eq_true rfl) rfl rfl (by decide) (fun _ => ⟨rfl, rfl⟩) rfl ?_
  refine z_ret dX3_init_44 rfl rfl (sum_of (l := [5, 24, 24, 24, 24, 24]) rfl (by decide +kernel)) ?_
  exact hQ
def b_6 (a : Nat) : aH := [.inr (6, [.ref (a + 1), .ref (a + 3), .ref (a + 7), .ref (a + 13), .int 0]), .inr (4, [.ref (a + 2), .int 0]), .inl (100, 5, .inl (fun _ => 0)), .inr (1, [.ref (a + 4), .ref (a + 5), .ref (a + 6), .int 0, .int 0]), .inl (100, 10, .inl (fun _ => 0)), .inl (100, 10, .inl (fun _ => 0)), .inl (100, 10, .inl (fun _ => 0)), .inr (2, [.ref (a + 8), .ref (a + 9), .ref (a + 10), .ref (a + 11), .ref (a + 12), .int 0, .int 0, .int 0, .int 0, .int 0]), .inl (100, 24, .inl (fun _ => 0)), .inl (100, 24, .inl (fun _ => 0)), .inl (100, 24, .inl (fun _ => 0)), .inl (100, 24, .inl (fun _ => 0)), .inl (100, 24, .inl (fun _ => 0)), .inr (3, [.ref (a + 14), .ref (a + 15), .ref (a + 16), .ref (a + 17), .ref (a + 18)]), .inl (100, 24, .inl (fun _ => 0)), .inl (100, 24, .inl (fun _ => 0)), .inl (100, 24, .inl (fun _ => 0)), .inl (100, 24, .inl (fun _ => 0)), .inl (100, 24, .inl (fun _ => 0))]
set_option maxHeartbeats 2000000 in
set_option maxRecDepth 4000 in
theorem i_X6_init {L : Nat} {xs : Nat → Int32} {d : Nat} {M1 : aH} {a : Nat} {Q : aQ} (ha : M1.length = a) (hQ : Q none (M1 ++ b_6 a)) : aRun (scT L xs) (d + 2) yX6_init cX6_init 1 none 18 297 [.ref a] (M1 ++ [.inr (6, [.null, .null, .null, .null, .int 0])]) Q := by
  subst ha
  refine z_run (own := "LoafFall$Loaf") (b1 := 19) (b2 := 302) rfl (by decide +kernel) (Nat.le_of_ble_eq_true rfl) rfl rfl (sum_ad (l := [5]) rfl (by decide +kernel)) ?_
  refine x_aload_n dX6_init_0 rfl rfl ?_
  refine x_objI dX6_init_1 oi_X6_3 (Nat.le_of_ble_eq_true rfl) ?_
  refine x_aload_n dX6_init_4 rfl rfl ?_
  refine z_new (k := 1) (B' := [.inr (6, [.null, .null, .null, .null, .int 0]), .inr (4, [.null, .int 0])]) dX6_init_5 nw_X6_9 rfl (Nat.le_of_ble_eq_true rfl) (sum_le (l := [5]) rfl (by decide +kernel)) rfl ?_
  refine x_dup dX6_init_8 rfl ?_
  refine z_ii (mc := 1) (ms := 5) (k := 1) (B1 := [.inr (6, [.null, .null, .null, .null, .int 0])]) (obj := .inr (4, [.null, .int 0])) (B' := [.inr (6, [.null, .null, .null, .null, .int 0]), .inr (4, [.ref (M1.length + 2), .int 0]), .inl (100, 5, .inl (fun _ => 0))]) dX6_init_9 mi_X6_11 my_X4_init (Nat.le_of_ble_eq_true rfl) rfl rfl rfl (Nat.le_of_ble_eq_true rfl) (sum_le (l := [5, 2]) rfl (by decide +kernel)) (fun M2 Q' h hq => i_X4_init h hq) rfl ?_
  refine z_putF (j := 0) (jb := 1) (nb := 3) (B' := [.inr (6, [.ref (M1.length + 1), .null, .null, .null, .int 0]), .inr (4, [.ref (M1.length + 2), .int 0]), .inl (100, 5, .inl (fun _ => 0))]) dX6_init_12 pf_X6_12 rfl rfl (Nat.le_of_ble_eq_true rfl) rfl rfl (by decide) (fun _ => ⟨rfl, rfl⟩) rfl ?_
  refine x_aload_n dX6_init_15 rfl rfl ?_
  refine z_new (k := 3) (B' := [.inr (6, [.ref (M1.length + 1), .null, .null, .null, .int 0]), .inr (4, [.ref (M1.length + 2), .int 0]), .inl (100, 5, .inl (fun _ => 0)), .inr (1, [.null, .null, .null, .int 0, .int 0])]) dX6_init_16 nw_X6_18 rfl (Nat.le_of_ble_eq_true rfl) (sum_le (l := [5, 2, 5]) rfl (by decide +kernel)) rfl ?_
  refine x_dup dX6_init_19 rfl ?_
  refine z_ii (mc := 3) (ms := 30) (k := 3) (B1 := [.inr (6, [.ref (M1.length + 1), .null, .null, .null, .int 0]), .inr (4, [.ref (M1.length + 2), .int 0]), .inl (100, 5, .inl (fun _ => 0))]) (obj := .inr (1, [.null, .null, .null, .int 0, .int 0])) (B' := [.inr (6, [.ref (M1.length + 1), .null, .null, .null, .int 0]), .inr (4, [.ref (M1.length + 2), .int 0]), .inl (100, 5, .inl (fun _ => 0)), .inr (1, [.ref (M1.length + 4), .ref (M1.length + 5), .ref (M1.length + 6), .int 0, .int 0]), .inl (100, 10, .inl (fun _ => 0)), .inl (100, 10, .inl (fun _ => 0)), .inl (100, 10, .inl (fun _ => 0))]) dX6_init_20 mi_X6_20 my_X1_init (Nat.le_of_ble_eq_true rfl) rfl rfl rfl (Nat.le_of_ble_eq_true rfl) (sum_le (l := [5, 2, 5, 5]) rfl (by decide +kernel)) (fun M2 Q' h hq => i_X1_init h hq) rfl ?_
  refine z_putF (j := 0) (jb := 3) (nb := 7) (B' := [.inr (6, [.ref (M1.length + 1), .ref (M1.length + 3), .null, .null, .int 0]), .inr (4, [.ref (M1.length + 2), .int 0]), .inl (100, 5, .inl (fun _ => 0)), .inr (1, [.ref (M1.length + 4), .ref (M1.length + 5), .ref (M1.length + 6), .int 0, .int 0]), .inl (100, 10, .inl (fun _ => 0)), .inl (100, 10, .inl (fun _ => 0)), .inl (100, 10, .inl (fun _ => 0))]) dX6_init_23 pf_X6_21 rfl rfl (Nat.le_of_ble_eq_true rfl) rfl rfl (by decide) (fun _ => ⟨rfl, rfl⟩) rfl ?_
  refine x_aload_n dX6_init_26 rfl rfl ?_
  refine z_new (k := 7) (B' := [.inr (6, [.ref (M1.length + 1), .ref (M1.length + 3), .null, .null, .int 0]), .inr (4, [.ref (M1.length + 2), .int 0]), .inl (100, 5, .inl (fun _ => 0)), .inr (1, [.ref (M1.length + 4), .ref (M1.length + 5), .ref (M1.length + 6), .int 0, .int 0]), .inl (100, 10, .inl (fun _ => 0)), .inl (100, 10, .inl (fun _ => 0)), .inl (100, 10, .inl (fun _ => 0)), .inr (2, [.null, .null, .null, .null, .null, .int 0, .int 0, .int 0, .int 0, .int 0])]) dX6_init_27 nw_X6_25 rfl (Nat.le_of_ble_eq_true rfl) (sum_le (l := [5, 2, 5, 5, 10, 10, 10]) rfl (by decide +kernel)) rfl ?_
  refine x_dup dX6_init_30 rfl ?_
  refine z_ii (mc := 5) (ms := 120) (k := 7) (B1 := [.inr (6, [.ref (M1.length + 1), .ref (M1.length + 3), .null, .null, .int 0]), .inr (4, [.ref (M1.length + 2), .int 0]), .inl (100, 5, .inl (fun _ => 0)), .inr (1, [.ref (M1.length + 4), .ref (M1.length + 5), .ref (M1.length + 6), .int 0, .int 0]), .inl (100, 10, .inl (fun _ => 0)), .inl (100, 10, .inl (fun _ => 0)), .inl (100, 10, .inl (fun _ => 0))]) (obj := .inr (2, [.null, .null, .null, .null, .null, .int 0, .int 0, .int 0, .int 0, .int 0])) (B' := [.inr (6, [.ref (M1.length + 1), .ref (M1.length + 3), .null, .null, .int 0]), .inr (4, [.ref (M1.length + 2), .int 0]), .inl (100, 5, .inl (fun _ => 0)), .inr (1, [.ref (M1.length + 4), .ref (M1.length + 5), .ref (M1.length + 6), .int 0, .int 0]), .inl (100, 10, .inl (fun _ => 0)), .inl (100, 10, .inl (fun _ => 0)), .inl (100, 10, .inl (fun _ => 0)), .inr (2, [.ref (M1.length + 8), .ref (M1.length + 9), .ref (M1.length + 10), .ref (M1.length + 11), .ref (M1.length + 12), .int 0, .int 0, .int 0, .int 0, .int 0]), .inl (100, 24, .inl (fun _ => 0)), .inl (100, 24, .inl (fun _ => 0)), .inl (100, 24, .inl (fun _ => 0)), .inl (100, 24, .inl (fun _ => 0)), .inl (100, 24, .inl (fun _ => 0))]) dX6_init_31 mi_X6_27 my_X2_init (Nat.le_of_ble_eq_true rfl) rfl rfl rfl (Nat.le_of_ble_eq_true rfl) (sum_le (l := [5, 2, 5, 5, 10, 10, 10, 10]) rfl (by decide +kernel)) (fun M2 Q' h hq => i_X2_init h hq) rfl ?_
  refine z_putF (j := 0) (jb := 7) (nb := 13) (B' := [.inr (6, [.ref (M1.length + 1), .ref (M1.length + 3), .ref (M1.length + 7), .null, .int 0]), .inr (4, [.ref (M1.length + 2), .int 0]), .inl (100, 5, .inl (fun _ => 0)), .inr (1, [.ref (M1.length + 4), .ref (M1.length + 5), .ref (M1.length + 6), .int 0, .int 0]), .inl (100, 10, .inl (fun _ => 0)), .inl (100, 10, .inl (fun _ => 0)), .inl (100, 10, .inl (fun _ => 0)), .inr (2, [.ref (M1.length + 8), .ref (M1.length + 9), .ref (M1.length + 10), .ref (M1.length + 11), .ref (M1.length + 12), .int 0, .int 0, .int 0, .int 0, .int 0]), .inl (100, 24, .inl (fun _ => 0)), .inl (100, 24, .inl (fun _ => 0)), .inl (100, 24, .inl (fun _ => 0)), .inl (100, 24, .inl (fun _ => 0)), .inl (100, 24, .inl (fun _ => 0))]) dX6_init_34 pf_X6_28 rfl rfl (Nat.le_of_ble_eq_true rfl) rfl rfl (by decide) (fun _ => ⟨rfl, rfl⟩) rfl ?_
  refine x_aload_n dX6_init_37 rfl rfl ?_
  refine z_new (k := 13) (B' := [.inr (6, [.ref (M1.length + 1), .ref (M1.length + 3), .ref (M1.length + 7), .null, .int 0]), .inr (4, [.ref (M1.length + 2), .int 0]), .inl (100, 5, .inl (fun _ => 0)), .inr (1, [.ref (M1.length + 4), .ref (M1.length + 5), .ref (M1.length + 6), .int 0, .int 0]), .inl (100, 10, .inl (fun _ => 0)), .inl (100, 10, .inl (fun _ => 0)), .inl (100, 10, .inl (fun _ => 0)), .inr (2, [.ref (M1.length + 8), .ref (M1.length + 9), .ref (M1.length + 10), .ref (M1.length + 11), .ref (M1.length + 12), .int 0, .int 0, .int 0, .int 0, .int 0]), .inl (100, 24, .inl (fun _ => 0)), .inl (100, 24, .inl (fun _ => 0)), .inl (100, 24, .inl (fun _ => 0)), .inl (100, 24, .inl (fun _ => 0)), .inl (100, 24, .inl (fun _ => 0)), .inr (3, [.null, .null, .null, .null, .null])]) dX6_init_38 nw_X6_32 rfl (Nat.le_of_ble_eq_true rfl) (sum_le (l := [5, 2, 5, 5, 10, 10, 10, 10, 24, 24, 24, 24, 24]) rfl (by decide +kernel)) rfl ?_
  refine x_dup dX6_init_41 rfl ?_
  refine z_ii (mc := 5) (ms := 120) (k := 13) (B1 := [.inr (6, [.ref (M1.length + 1), .ref (M1.length + 3), .ref (M1.length + 7), .null, .int 0]), .inr (4, [.ref (M1.length + 2), .int 0]), .inl (100, 5, .inl (fun _ => 0)), .inr (1, [.ref (M1.length + 4), .ref (M1.length + 5), .ref (M1.length + 6), .int 0, .int 0]), .inl (100, 10, .inl (fun _ => 0)), .inl (100, 10, .inl (fun _ => 0)), .inl (100, 10, .inl (fun _ => 0)), .inr (2, [.ref (M1.length + 8), .ref (M1.length + 9), .ref (M1.length + 10), .ref (M1.length + 11), .ref (M1.length + 12), .int 0, .int 0, .int 0, .int 0, .int 0]), .inl (100, 24, .inl (fun _ => 0)), .inl (100, 24, .inl (fun _ => 0)), .inl (100, 24, .inl (fun _ => 0)), .inl (100, 24, .inl (fun _ => 0)), .inl (100, 24, .inl (fun _ => 0))]) (obj := .inr (3, [.null, .null, .null, .null, .null])) (B' := [.inr (6, [.ref (M1.length + 1), .ref (M1.length + 3), .ref (M1.length + 7), .null, .int 0]), .inr (4, [.ref (M1.length + 2), .int 0]), .inl (100, 5, .inl (fun _ => 0)), .inr (1, [.ref (M1.length + 4), .ref (M1.length + 5), .ref (M1.length + 6), .int 0, .int 0]), .inl (100, 10, .inl (fun _ => 0)), .inl (100, 10, .inl (fun _ => 0)), .inl (100, 10, .inl (fun _ => 0)), .inr (2, [.ref (M1.length + 8), .ref (M1.length + 9), .ref (M1.length + 10), .ref (M1.length + 11), .ref (M1.length + 12), .int 0, .int 0, .int 0, .int 0, .int 0]), .inl (100, 24, .inl (fun _ => 0)), .inl (100, 24, .inl (fun _ => 0)), .inl (100, 24, .inl (fun _ => 0)), .inl (100, 24, .inl (fun _ => 0)), .inl (100, 24, .inl (fun _ => 0)), .inr (3, [.ref (M1.length + 14), .ref (M1.length + 15), .ref (M1.length + 16), .ref (M1.length + 17), .ref (M1.length + 18)]), .inl (100, 24, .inl (fun _ => 0)), .inl (100, 24, .inl (fun _ => 0)), .inl (100, 24, .inl (fun _ => 0)), .inl (100, 24, .inl (fun _ => 0)), .inl (100, 24, .inl (fun _ => 0))]) dX6_init_42 mi_X6_34 my_X3_init (Nat.le_of_ble_eq_true rfl) rfl rfl rfl (Nat.le_of_ble_eq_true rfl) (sum_le (l := [5, 2, 5, 5, 10, 10, 10, 10, 24, 24, 24, 24, 24, 5]) rfl (by decide +kernel)) (fun M2 Q' h hq => i_X3_init h hq) rfl ?_
  refine z_putF (j := 0) (jb := 13) (nb := 19) (B' := [.inr (6, [.ref (M1.length + 1), .ref (M1.length + 3), .ref (M1.length + 7), .ref (M1.length + 13), .int 0]), .inr (4, [.ref (M1.length + 2), .int 0]), .inl (100, 5, .inl (fun _ => 0)), .inr (1, [.ref (M1.length + 4), .ref (M1.length + 5), .ref (M1.length + 6), .int 0, .int 0]), .inl (100, 10, .inl (fun _ => 0)), .inl (100, 10, .inl (fun _ => 0)), .inl (100, 10, .inl (fun _ => 0)), .inr (2, [.ref (M1.length + 8), .ref (M1.length + 9), .ref (M1.length + 10), .ref (M1.length + 11), .ref (M1.length + 12), .int 0, .int 0, .int 0, .int 0, .int 0]), .inl (100, 24, .inl (fun _ => 0)), .inl (100, 24, .inl (fun _ => 0)), .inl (100, 24, .inl (fun _ => 0)), .inl (100, 24, .inl (fun _ => 0)), .inl (100, 24, .inl (fun _ => 0)), .inr (3, [.ref (M1.length + 14), .ref (M1.length + 15), .ref (M1.length + 16), .ref (M1.length + 17), .ref (M1.length + 18)]), .inl (100, 24, .inl (fun _ => 0)), .inl (100, 24, .inl (fun _ => 0)), .inl (100, 24, .inl (fun _ => 0)), .inl (100, 24, .inl (fun _ => 0)), .inl (100, 24, .inl (fun _ => 0))]) dX6_init_45 pf_X6_35 rfl rfl (Nat.le_of_ble_eq_true rfl) rfl rfl (by decide) (fun _ => ⟨rfl, rfl⟩) rfl ?_
  refine z_ret dX6_init_48 rfl rfl (sum_of (l := [5, 2, 5, 5, 10, 10, 10, 10, 24, 24, 24, 24, 24, 5, 24, 24, 24, 24, 24]) rfl (by decide +kernel)) ?_
  exact hQ
def b_9 (a : Nat) : aH := [.inr (9, [.ref (a + 1), .ref (a + 2), .int 0]), .inl (100, 12, .inl (fun _ => 0)), .inl (100, 12, .inl (fun _ => 0))]
set_option maxHeartbeats 2000000 in
set_option maxRecDepth 4000 in
theorem i_X9_init {L : Nat} {xs : Nat → Int32} {d : Nat} {M1 : aH} {a : Nat} {Q : aQ} (ha : M1.length = a) (hQ : Q none (M1 ++ b_9 a)) : aRun (scT L xs) (d + 1) yX9_init cX9_init 1 none 2 24 [.ref a] (M1 ++ [.inr (9, [.null, .null, .int 0])]) Q := by
  subst ha
  refine z_run (own := "LoafFall$Slips") (b1 := 3) (b2 := 27) rfl (by decide +kernel) (Nat.le_of_ble_eq_true rfl) rfl rfl (sum_ad (l := [3]) rfl (by decide +kernel)) ?_
  refine x_aload_n dX9_init_0 rfl rfl ?_
  refine x_objI dX9_init_1 oi_X9_3 (Nat.le_of_ble_eq_true rfl) ?_
  refine x_aload_n dX9_init_4 rfl rfl ?_
  refine x_bipush (v := 12) dX9_init_5 (by decide) ?_
  refine z_newa (k := 1) (N := 12) (B' := [.inr (9, [.null, .null, .int 0]), .inl (100, 12, .inl (fun _ => 0))]) dX9_init_7 (Or.inl ⟨rfl, rfl⟩) (by decide) (by decide) (by decide) rfl (Nat.le_of_ble_eq_true rfl) (sum_le (l := [3]) rfl (by decide +kernel)) rfl ?_
  refine z_putF (j := 0) (jb := 1) (nb := 2) (B' := [.inr (9, [.ref (M1.length + 1), .null, .int 0]), .inl (100, 12, .inl (fun _ => 0))]) dX9_init_9 pf_X9_9 rfl rfl (Nat.le_of_ble_eq_true rfl) rfl rfl (by decide) (fun _ => ⟨rfl, rfl⟩) rfl ?_
  refine x_aload_n dX9_init_12 rfl rfl ?_
  refine x_bipush (v := 12) dX9_init_13 (by decide) ?_
  refine z_newa (k := 2) (N := 12) (B' := [.inr (9, [.ref (M1.length + 1), .null, .int 0]), .inl (100, 12, .inl (fun _ => 0)), .inl (100, 12, .inl (fun _ => 0))]) dX9_init_15 (Or.inl ⟨rfl, rfl⟩) (by decide) (by decide) (by decide) rfl (Nat.le_of_ble_eq_true rfl) (sum_le (l := [3, 12]) rfl (by decide +kernel)) rfl ?_
  refine z_putF (j := 0) (jb := 2) (nb := 3) (B' := [.inr (9, [.ref (M1.length + 1), .ref (M1.length + 2), .int 0]), .inl (100, 12, .inl (fun _ => 0)), .inl (100, 12, .inl (fun _ => 0))]) dX9_init_17 pf_X9_15 rfl rfl (Nat.le_of_ble_eq_true rfl) rfl rfl (by decide) (fun _ => ⟨rfl, rfl⟩) rfl ?_
  refine z_ret dX9_init_20 rfl rfl (sum_of (l := [3, 12, 12]) rfl (by decide +kernel)) ?_
  exact hQ
def b_7 (a : Nat) : aH := [.inr (7, [.ref (a + 1), .ref (a + 3), .int 0, .int 0]), .inr (4, [.ref (a + 2), .int 0]), .inl (100, 5, .inl (fun _ => 0)), .inr (1, [.ref (a + 4), .ref (a + 5), .ref (a + 6), .int 0, .int 0]), .inl (100, 10, .inl (fun _ => 0)), .inl (100, 10, .inl (fun _ => 0)), .inl (100, 10, .inl (fun _ => 0))]
set_option maxHeartbeats 2000000 in
set_option maxRecDepth 4000 in
theorem i_X7_init {L : Nat} {xs : Nat → Int32} {d : Nat} {M1 : aH} {a : Nat} {Q : aQ} (ha : M1.length = a) (hQ : Q none (M1 ++ b_7 a)) : aRun (scT L xs) (d + 2) yX7_init cX7_init 1 none 6 42 [.ref a] (M1 ++ [.inr (7, [.null, .null, .int 0, .int 0])]) Q := by
  subst ha
  refine z_run (own := "LoafFall$Reader") (b1 := 7) (b2 := 46) rfl (by decide +kernel) (Nat.le_of_ble_eq_true rfl) rfl rfl (sum_ad (l := [4]) rfl (by decide +kernel)) ?_
  refine x_aload_n dX7_init_0 rfl rfl ?_
  refine x_objI dX7_init_1 oi_X7_3 (Nat.le_of_ble_eq_true rfl) ?_
  refine x_aload_n dX7_init_4 rfl rfl ?_
  refine z_new (k := 1) (B' := [.inr (7, [.null, .null, .int 0, .int 0]), .inr (4, [.null, .int 0])]) dX7_init_5 nw_X7_9 rfl (Nat.le_of_ble_eq_true rfl) (sum_le (l := [4]) rfl (by decide +kernel)) rfl ?_
  refine x_dup dX7_init_8 rfl ?_
  refine z_ii (mc := 1) (ms := 5) (k := 1) (B1 := [.inr (7, [.null, .null, .int 0, .int 0])]) (obj := .inr (4, [.null, .int 0])) (B' := [.inr (7, [.null, .null, .int 0, .int 0]), .inr (4, [.ref (M1.length + 2), .int 0]), .inl (100, 5, .inl (fun _ => 0))]) dX7_init_9 mi_X7_11 my_X4_init (Nat.le_of_ble_eq_true rfl) rfl rfl rfl (Nat.le_of_ble_eq_true rfl) (sum_le (l := [4, 2]) rfl (by decide +kernel)) (fun M2 Q' h hq => i_X4_init h hq) rfl ?_
  refine z_putF (j := 0) (jb := 1) (nb := 3) (B' := [.inr (7, [.ref (M1.length + 1), .null, .int 0, .int 0]), .inr (4, [.ref (M1.length + 2), .int 0]), .inl (100, 5, .inl (fun _ => 0))]) dX7_init_12 pf_X7_12 rfl rfl (Nat.le_of_ble_eq_true rfl) rfl rfl (by decide) (fun _ => ⟨rfl, rfl⟩) rfl ?_
  refine x_aload_n dX7_init_15 rfl rfl ?_
  refine z_new (k := 3) (B' := [.inr (7, [.ref (M1.length + 1), .null, .int 0, .int 0]), .inr (4, [.ref (M1.length + 2), .int 0]), .inl (100, 5, .inl (fun _ => 0)), .inr (1, [.null, .null, .null, .int 0, .int 0])]) dX7_init_16 nw_X7_18 rfl (Nat.le_of_ble_eq_true rfl) (sum_le (l := [4, 2, 5]) rfl (by decide +kernel)) rfl ?_
  refine x_dup dX7_init_19 rfl ?_
  refine z_ii (mc := 3) (ms := 30) (k := 3) (B1 := [.inr (7, [.ref (M1.length + 1), .null, .int 0, .int 0]), .inr (4, [.ref (M1.length + 2), .int 0]), .inl (100, 5, .inl (fun _ => 0))]) (obj := .inr (1, [.null, .null, .null, .int 0, .int 0])) (B' := [.inr (7, [.ref (M1.length + 1), .null, .int 0, .int 0]), .inr (4, [.ref (M1.length + 2), .int 0]), .inl (100, 5, .inl (fun _ => 0)), .inr (1, [.ref (M1.length + 4), .ref (M1.length + 5), .ref (M1.length + 6), .int 0, .int 0]), .inl (100, 10, .inl (fun _ => 0)), .inl (100, 10, .inl (fun _ => 0)), .inl (100, 10, .inl (fun _ => 0))]) dX7_init_20 mi_X7_20 my_X1_init (Nat.le_of_ble_eq_true rfl) rfl rfl rfl (Nat.le_of_ble_eq_true rfl) (sum_le (l := [4, 2, 5, 5]) rfl (by decide +kernel)) (fun M2 Q' h hq => i_X1_init h hq) rfl ?_
  refine z_putF (j := 0) (jb := 3) (nb := 7) (B' := [.inr (7, [.ref (M1.length + 1), .ref (M1.length + 3), .int 0, .int 0]), .inr (4, [.ref (M1.length + 2), .int 0]), .inl (100, 5, .inl (fun _ => 0)), .inr (1, [.ref (M1.length + 4), .ref (M1.length + 5), .ref (M1.length + 6), .int 0, .int 0]), .inl (100, 10, .inl (fun _ => 0)), .inl (100, 10, .inl (fun _ => 0)), .inl (100, 10, .inl (fun _ => 0))]) dX7_init_23 pf_X7_21 rfl rfl (Nat.le_of_ble_eq_true rfl) rfl rfl (by decide) (fun _ => ⟨rfl, rfl⟩) rfl ?_
  refine z_ret dX7_init_26 rfl rfl (sum_of (l := [4, 2, 5, 5, 10, 10, 10]) rfl (by decide +kernel)) ?_
  exact hQ
def b_5 (a : Nat) : aH := [.inr (5, [.ref (a + 1), .ref (a + 2), .int 0, .int 0, .int 0]), .inl (102, 24, .inl (fun _ => 0)), .inl (100, 24, .inl (fun _ => 0))]
set_option maxHeartbeats 2000000 in
set_option maxRecDepth 4000 in
theorem i_X5_init {L : Nat} {xs : Nat → Int32} {d : Nat} {M1 : aH} {a : Nat} {Q : aQ} (ha : M1.length = a) (hQ : Q none (M1 ++ b_5 a)) : aRun (scT L xs) (d + 1) yX5_init cX5_init 1 none 2 48 [.ref a] (M1 ++ [.inr (5, [.null, .null, .int 0, .int 0, .int 0])]) Q := by
  subst ha
  refine z_run (own := "LoafFall$Holes") (b1 := 3) (b2 := 53) rfl (by decide +kernel) (Nat.le_of_ble_eq_true rfl) rfl rfl (sum_ad (l := [5]) rfl (by decide +kernel)) ?_
  refine x_aload_n dX5_init_0 rfl rfl ?_
  refine x_objI dX5_init_1 oi_X5_3 (Nat.le_of_ble_eq_true rfl) ?_
  refine x_aload_n dX5_init_4 rfl rfl ?_
  refine x_bipush (v := 24) dX5_init_5 (by decide) ?_
  refine z_newa (k := 1) (N := 24) (B' := [.inr (5, [.null, .null, .int 0, .int 0, .int 0]), .inl (102, 24, .inl (fun _ => 0))]) dX5_init_7 (Or.inr (Or.inr ⟨rfl, rfl⟩)) (by decide) (by decide) (by decide) rfl (Nat.le_of_ble_eq_true rfl) (sum_le (l := [5]) rfl (by decide +kernel)) rfl ?_
  refine z_putF (j := 0) (jb := 1) (nb := 2) (B' := [.inr (5, [.ref (M1.length + 1), .null, .int 0, .int 0, .int 0]), .inl (102, 24, .inl (fun _ => 0))]) dX5_init_9 pf_X5_9 rfl rfl (Nat.le_of_ble_eq_true rfl) rfl rfl (by decide) (fun _ => ⟨rfl, rfl⟩) rfl ?_
  refine x_aload_n dX5_init_12 rfl rfl ?_
  refine x_bipush (v := 24) dX5_init_13 (by decide) ?_
  refine z_newa (k := 2) (N := 24) (B' := [.inr (5, [.ref (M1.length + 1), .null, .int 0, .int 0, .int 0]), .inl (102, 24, .inl (fun _ => 0)), .inl (100, 24, .inl (fun _ => 0))]) dX5_init_15 (Or.inl ⟨rfl, rfl⟩) (by decide) (by decide) (by decide) rfl (Nat.le_of_ble_eq_true rfl) (sum_le (l := [5, 24]) rfl (by decide +kernel)) rfl ?_
  refine z_putF (j := 0) (jb := 2) (nb := 3) (B' := [.inr (5, [.ref (M1.length + 1), .ref (M1.length + 2), .int 0, .int 0, .int 0]), .inl (102, 24, .inl (fun _ => 0)), .inl (100, 24, .inl (fun _ => 0))]) dX5_init_17 pf_X5_15 rfl rfl (Nat.le_of_ble_eq_true rfl) rfl rfl (by decide) (fun _ => ⟨rfl, rfl⟩) rfl ?_
  refine z_ret dX5_init_20 rfl rfl (sum_of (l := [5, 24, 24]) rfl (by decide +kernel)) ?_
  exact hQ
def b_8 (a : Nat) : aH := [.inr (8, [.ref (a + 1), .int (-1)]), .inl (100, 40, .inl (fun _ => 0))]
set_option maxHeartbeats 2000000 in
set_option maxRecDepth 4000 in
theorem i_X8_init {L : Nat} {xs : Nat → Int32} {d : Nat} {M1 : aH} {a : Nat} {Q : aQ} (ha : M1.length = a) (hQ : Q none (M1 ++ b_8 a)) : aRun (scT L xs) (d + 1) yX8_init cX8_init 1 none 1 40 [.ref a] (M1 ++ [.inr (8, [.null, .int 0])]) Q := by
  subst ha
  refine z_run (own := "LoafFall$Row") (b1 := 2) (b2 := 42) rfl (by decide +kernel) (Nat.le_of_ble_eq_true rfl) rfl rfl (sum_ad (l := [2]) rfl (by decide +kernel)) ?_
  refine x_aload_n dX8_init_0 rfl rfl ?_
  refine x_objI dX8_init_1 oi_X8_3 (Nat.le_of_ble_eq_true rfl) ?_
  refine x_aload_n dX8_init_4 rfl rfl ?_
  refine x_bipush (v := 40) dX8_init_5 (by decide) ?_
  refine z_newa (k := 1) (N := 40) (B' := [.inr (8, [.null, .int 0]), .inl (100, 40, .inl (fun _ => 0))]) dX8_init_7 (Or.inl ⟨rfl, rfl⟩) (by decide) (by decide) (by decide) rfl (Nat.le_of_ble_eq_true rfl) (sum_le (l := [2]) rfl (by decide +kernel)) rfl ?_
  refine z_putF (j := 0) (jb := 1) (nb := 2) (B' := [.inr (8, [.ref (M1.length + 1), .int 0]), .inl (100, 40, .inl (fun _ => 0))]) dX8_init_9 pf_X8_9 rfl rfl (Nat.le_of_ble_eq_true rfl) rfl rfl (by decide) (fun _ => ⟨rfl, rfl⟩) rfl ?_
  refine x_aload_n dX8_init_12 rfl rfl ?_
  refine x_iconst (v := -1) dX8_init_13 (by decide) ?_
  refine z_puti (j := 0) (B' := [.inr (8, [.ref (M1.length + 1), .int (-1)]), .inl (100, 40, .inl (fun _ => 0))]) dX8_init_14 pf_X8_15 rfl rfl (Nat.le_of_ble_eq_true rfl) rfl rfl rfl ?_
  refine z_ret dX8_init_17 rfl rfl (sum_of (l := [2, 40]) rfl (by decide +kernel)) ?_
  exact hQ
def b_10 (a : Nat) : aH := [.inr (10, [.ref (a + 1), .int (-1)]), .inl (101, 80, .inl (fun _ => 0))]
set_option maxHeartbeats 2000000 in
set_option maxRecDepth 4000 in
theorem i_X10_init {L : Nat} {xs : Nat → Int32} {d : Nat} {M1 : aH} {a : Nat} {Q : aQ} (ha : M1.length = a) (hQ : Q none (M1 ++ b_10 a)) : aRun (scT L xs) (d + 1) yX10_init cX10_init 1 none 1 80 [.ref a] (M1 ++ [.inr (10, [.null, .int 0])]) Q := by
  subst ha
  refine z_run (own := "LoafFall$Text") (b1 := 2) (b2 := 82) rfl (by decide +kernel) (Nat.le_of_ble_eq_true rfl) rfl rfl (sum_ad (l := [2]) rfl (by decide +kernel)) ?_
  refine x_aload_n dX10_init_0 rfl rfl ?_
  refine x_objI dX10_init_1 oi_X10_3 (Nat.le_of_ble_eq_true rfl) ?_
  refine x_aload_n dX10_init_4 rfl rfl ?_
  refine x_bipush (v := 80) dX10_init_5 (by decide) ?_
  refine z_newa (k := 1) (N := 80) (B' := [.inr (10, [.null, .int 0]), .inl (101, 80, .inl (fun _ => 0))]) dX10_init_7 (Or.inr (Or.inl ⟨rfl, rfl⟩)) (by decide) (by decide) (by decide) rfl (Nat.le_of_ble_eq_true rfl) (sum_le (l := [2]) rfl (by decide +kernel)) rfl ?_
  refine z_putF (j := 0) (jb := 1) (nb := 2) (B' := [.inr (10, [.ref (M1.length + 1), .int 0]), .inl (101, 80, .inl (fun _ => 0))]) dX10_init_9 pf_X10_9 rfl rfl (Nat.le_of_ble_eq_true rfl) rfl rfl (by decide) (fun _ => ⟨rfl, rfl⟩) rfl ?_
  refine x_aload_n dX10_init_12 rfl rfl ?_
  refine x_iconst (v := -1) dX10_init_13 (by decide) ?_
  refine z_puti (j := 0) (B' := [.inr (10, [.ref (M1.length + 1), .int (-1)]), .inl (101, 80, .inl (fun _ => 0))]) dX10_init_14 pf_X10_15 rfl rfl (Nat.le_of_ble_eq_true rfl) rfl rfl rfl ?_
  refine z_ret dX10_init_17 rfl rfl (sum_of (l := [2, 80]) rfl (by decide +kernel)) ?_
  exact hQ
