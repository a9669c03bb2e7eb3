def a_Pc (G : aG) (sc : aS) (as : List Value) (M : aH) : Array Value → State → Prop := fun v U => v = (as.map (a_tr G)).toArray ∧ a_HP G M U.heap [] ∧ a_TP G sc U
def a_Qc (G : aG) (Q : aQ) : Array Value → State → Outcome → State → Prop := fun _ _ o t => ∃ (r : Option Value) (M : aH), o = .returned (r.map (a_tr G)) ∧ Q r M ∧ a_HP G M t.heap []
def a_rm (d mc ms : Nat) : Room := { frames := d, cells := mc, slots := ms, locals := 38 * d }
def a_CO (l : Launch) (G : aG) (sc : aS) (d : Nat) (call : aC) : Prop := ∀ (y : MethodName) (c2 : ByteArray) (nL2 : Nat) (ret2 : Option FieldType) (mc ms n : Nat) (as : List Value) (M : aH) (Q : aQ), a_MY y c2 nL2 ret2 n → M.length + mc ≤ 99999 → call y c2 nL2 ret2 mc ms as M Q → Met l y (Cond.code y c2 nL2 ret2 :: a_gw) (a_rm d mc ms) (a_Pc G sc as M) (a_Qc G (fun r M' => M'.length = M.length + mc ∧ a_sum M' = a_sum M + ms ∧ Q r M')) mc ms (a_A G)
theorem a_blind {G : aG} {sc : aS} {as : List Value} {M : aH} : FrameBlind (a_Pc G sc as M) := fun _ U _ _ h => ⟨h.1, h.2.1, a_TP.warm (State.WarmedH.refl U) h.2.2⟩
theorem a_good {ws : List Cond} (h : ∀ w ∈ ws, w ∈ a_gw) : GoodIn a_gw ws := fun w hw => ⟨h w hw, good_of_word (List.mem_filter.mp (h w hw)).2⟩
theorem a_omap (r : Option Value) (f : Value → Value) : r.toList.map f = (r.map f).toList := by cases r <;> rfl
section SOUND2
variable {p : Program} {l : Launch} {e : Env} {R : Room} {s : State} {m : MethodId} {args : Array Value} {below : List Frame} {meth : Method} {cd : Code} {G : aG} {sc : aS} {call : aC} {own : String} {cc : ByteArray} {nL : Nat} {ret : Option FieldType} {ini : Bool} {n0 s0 l1 l2 d : Nat} {QQ : State → Prop} {Q : aQ}
theorem a_call {H : Heap} {locs : List Loc} {cells slots mc ms pc : Nat} {lsA : Array Slot} {st0 rest : List Value} {a : Array Value} {M : aH} (hr : va_Run p l e R s m args below meth cd H locs cells slots mc ms (F0 m pc lsA st0) rest (a_Qc G Q a) (a_A G)) (hH : a_HP G M H locs) (kk : ∀ (r : Option Value) (M' : aH) (H1 : Heap) (locs1 : List Loc), Q r M' → a_HP G M' H1 locs1 → W p l e R s m args below meth cd H1 locs1 (cells + mc) (slots + ms) QQ (F0 m (pc + 3) lsA ((r.map (a_tr G)).toList ++ rest))) : W p l e R s m args below meth cd H locs cells slots QQ (F0 m pc lsA st0) := by
  intro T hT X
  obtain ⟨v, st₀, t, T', L, h0, X', hL, e1, e2, ⟨r, M', ho, hQ, hHP⟩, st⟩ := hr T hT X
  obtain rfl : v = r.map (a_tr G) := by cases ho; rfl
  have hHP' : a_HP G M' T'.heap (locs ++ L) := a_HP.relocs (by rw [e1]; exact hHP) hH.2.1.2.2 hL
  obtain ⟨t2, a1, b1⟩ := kk r M' T'.heap (locs ++ L) hQ hHP' T' rfl X'
  exact ⟨t2, st t2 a1, b1⟩
theorem s_iv (C : a_Cx p l e R s m args below meth cd G sc own cc nL ini n0 s0 l1 l2) (hR : d + 1 ≤ R.frames ∧ 38 * (d + 1) ≤ R.locals) (hco : a_CO l G sc d call) : ∀ (pc : Nat) (ls : aL) (st : List Value) (M : aH) (idx c a n : Nat) (vs : List Value) (y : MethodName) (c2 : ByteArray) (nL2 : Nat) (ret2 : Option FieldType) (As rest : List Value), decode cc pc = .ok (.invokevirtual idx, 3) → a_MV own idx c y → a_MY y c2 nL2 ret2 n → As.length = n → st = As.reverse ++ .ref a :: rest → (rest.map fun v => v.category).sum ≤ 8 → M[a]? = some (.inr (c, vs)) → call y c2 nL2 ret2 0 0 (.ref a :: As) M (fun r M' => a_WS p l e R s m args below meth cd G nL n0 s0 l1 l2 QQ (pc + 3) ls (r.toList ++ rest) M') → a_WS p l e R s m args below meth cd G nL n0 s0 l1 l2 QQ pc ls st M := by
  obtain ⟨hx, hb, hml, hown, hts, hTP, hini, hl9, hRc, hRs, hfr, hlo⟩ := C
  intro pc ls st M idx c a n vs y c2 nL2 ret2 As rest hd hv hy hn hst hs hm hcall H locs cells slots lsA hH hlv h3 h4 h5 h6
  subst hst
  obtain ⟨hv1, hv2, hv3, r, hr, hrc⟩ := hv
  have hM := hco y c2 nL2 ret2 0 0 n (.ref a :: As) M _ hy (by omega) hcall
  obtain ⟨hy1, hy2, hy3, hy4, hy5⟩ := hy
  have hst2 : (As.reverse ++ .ref a :: rest).map (a_tr G) = (As.map (a_tr G)).reverse ++ .ref (G.1.size + a) :: rest.map (a_tr G) := by
    rw [List.map_append, List.map_cons, List.map_reverse]
    show _ ++ Value.ref (a_ad G a) :: _ = _
    rw [hH.ad (hH.lt hm)]
  have harg : ((Value.ref a :: As).map (a_tr G)) = .ref (G.1.size + a) :: As.map (a_tr G) := by
    show Value.ref (a_ad G a) :: _ = _
    rw [hH.ad (hH.lt hm)]
  rw [hst2]
  have hcell := va_recv hTP.1 hH.1 hr (a_ws_get hm)
  rw [hrc] at hcell
  refine a_call (va_runV (As := As.map (a_tr G)) (rest := rest.map (a_tr G)) (C := y.cls) (b := G.1.size + a) (Ts := a_gw) ⟨hx, hb, hml, hown, hts⟩ hM (cwV n hts (a_good ?_) rfl rfl rfl ⟨rfl, hy4⟩ ⟨hR.1, by show 8 + (nL2 + 11) + 38 * d ≤ _; omega⟩) ⟨a_blind, hcell, fun U hU hW => ⟨by rw [harg], by rw [hU]; exact hH.nil, hTP.warm hW⟩⟩ rfl (by rw [List.length_map]; exact hn) hlv.1 rfl (lv_room (by rw [a_map_cat]; exact hs)) hd ⟨by omega, by omega⟩) hH ?_
  · intro w hw
    unfold wsV at hw
    rcases List.mem_append.mp hw with hw | hw
    · simp only [List.mem_cons, List.not_mem_nil, or_false] at hw
      rcases hw with rfl | rfl | rfl | rfl
      · exact hv1
      · exact hv2
      · exact hv3
      · exact hy2
    · rcases List.mem_cons.mp hw with rfl | hw
      · exact hy1
      · exact hw
  · intro r2 M' H1 locs1 hq hHP1
    obtain ⟨q1, q2, q3⟩ := hq
    have hfin := q3 H1 locs1 (cells + 0) (slots + 0) lsA hHP1 hlv (by omega) (by omega) (by omega) (by omega)
    rw [List.map_append, a_omap] at hfin
    exact hfin
theorem s_is (C : a_Cx p l e R s m args below meth cd G sc own cc nL ini n0 s0 l1 l2) (hR : d + 1 ≤ R.frames ∧ 38 * (d + 1) ≤ R.locals) (hco : a_CO l G sc d call) : ∀ (pc : Nat) (ls : aL) (st : List Value) (M : aH) (idx n : Nat) (y : MethodName) (c2 : ByteArray) (nL2 : Nat) (ret2 : Option FieldType) (As rest : List Value), decode cc pc = .ok (.invokestatic idx, 3) → a_MS own idx y → a_MY y c2 nL2 ret2 n → As.length = n → st = As.reverse ++ rest → (rest.map fun v => v.category).sum ≤ 8 → call y c2 nL2 ret2 0 0 As M (fun r M' => a_WS p l e R s m args below meth cd G nL n0 s0 l1 l2 QQ (pc + 3) ls (r.toList ++ rest) M') → a_WS p l e R s m args below meth cd G nL n0 s0 l1 l2 QQ pc ls st M := by
  obtain ⟨hx, hb, hml, hown, hts, hTP, hini, hl9, hRc, hRs, hfr, hlo⟩ := C
  intro pc ls st M idx n y c2 nL2 ret2 As rest hd hv hy hn hst hs hcall H locs cells slots lsA hH hlv h3 h4 h5 h6
  subst hst
  obtain ⟨hv1, hv2⟩ := hv
  have hM := hco y c2 nL2 ret2 0 0 n As M _ hy (by omega) hcall
  obtain ⟨hy1, hy2, hy3, hy4, hy5⟩ := hy
  have hst2 : (As.reverse ++ rest).map (a_tr G) = (As.map (a_tr G)).reverse ++ rest.map (a_tr G) := by
    rw [List.map_append, List.map_reverse]
  rw [hst2]
  refine a_call (va_runS (As := As.map (a_tr G)) (rest := rest.map (a_tr G)) (Ts := a_gw) ⟨hx, hb, hml, hown, hts⟩ hM (va_cwS n hts (a_good ?_) rfl rfl rfl hy4 ⟨hR.1, by show 8 + (nL2 + 11) + 38 * d ≤ _; omega⟩) ⟨a_blind, fun U hU hW => ⟨rfl, by rw [hU]; exact hH.nil, hTP.warm hW⟩⟩ rfl (by rw [List.length_map]; exact hn) hlv.1 rfl (lv_room (by rw [a_map_cat]; exact hs)) hd ⟨by omega, by omega⟩) hH ?_
  · intro w hw
    unfold va_wsS at hw
    rcases List.mem_append.mp hw with hw | hw
    · simp only [List.mem_cons, List.not_mem_nil, or_false] at hw
      rcases hw with rfl | rfl | rfl
      · exact hv1
      · exact hv2
      · exact hy2
    · rcases List.mem_cons.mp hw with rfl | hw
      · exact hy1
      · exact hw
  · intro r2 M' H1 locs1 hq hHP1
    obtain ⟨q1, q2, q3⟩ := hq
    have hfin := q3 H1 locs1 (cells + 0) (slots + 0) lsA hHP1 hlv (by omega) (by omega) (by omega) (by omega)
    rw [List.map_append, a_omap] at hfin
    exact hfin
theorem s_ii (C : a_Cx p l e R s m args below meth cd G sc own cc nL ini n0 s0 l1 l2) (hR : d + 1 ≤ R.frames ∧ 38 * (d + 1) ≤ R.locals) (hco : a_CO l G sc d call) : ∀ (pc : Nat) (ls : aL) (M : aH) (idx a mc ms : Nat) (y : MethodName) (c2 : ByteArray) (nL2 : Nat) (rest : List Value), decode cc pc = .ok (.invokespecial idx, 3) → a_MI own idx y → a_MY y c2 nL2 none 0 → (rest.map fun v => v.category).sum ≤ 8 → M.length + mc ≤ l1 → a_sum M + ms ≤ l2 → call y c2 nL2 none mc ms [.ref a] M (fun r M' => r = none ∧ a_WS p l e R s m args below meth cd G nL n0 s0 l1 l2 QQ (pc + 3) ls rest M') → a_WS p l e R s m args below meth cd G nL n0 s0 l1 l2 QQ pc ls (.ref a :: rest) M := by
  obtain ⟨hx, hb, hml, hown, hts, hTP, hini, hl9, hRc, hRs, hfr, hlo⟩ := C
  intro pc ls M idx a mc ms y c2 nL2 rest hd hv hy hs hl1 hl2 hcall H locs cells slots lsA hH hlv h3 h4 h5 h6
  obtain ⟨hv1, hv2, hv3⟩ := hv
  have hM := hco y c2 nL2 none mc ms 0 [.ref a] M _ hy (by omega) hcall
  obtain ⟨hy1, hy2, hy3, hy4, hy5⟩ := hy
  have hG : GoodIn a_gw (Cond.code y c2 nL2 none :: a_gw) := a_good fun w hw => by
    rcases List.mem_cons.mp hw with rfl | hw
    · exact hy1
    · exact hw
  have hp : PreS s H (a_Pc G sc [.ref a] M) (.ref (a_ad G a) :: []) := ⟨a_blind, fun U hU hW => ⟨rfl, by rw [hU]; exact hH.nil, hTP.warm hW⟩⟩
  have hRR : (a_rm d mc ms).frames + 1 ≤ R.frames ∧ 8 + (nL2 + 11) + (a_rm d mc ms).locals ≤ R.locals := ⟨hR.1, by show 8 + (nL2 + 11) + 38 * d ≤ _; omega⟩
  have hfit : cells + mc ≤ R.cells ∧ slots + ms ≤ R.slots := ⟨by omega, by omega⟩
  have hrm := lv_room (m := m) (pc := pc) (ls := lsA) (rest := .ref (a_ad G a) :: rest.map (a_tr G)) (st := rest.map (a_tr G)) (by rw [a_map_cat]; exact hs)
  show W p l e R s m args below meth cd H locs cells slots QQ (F0 m pc lsA (.ref (a_ad G a) :: rest.map (a_tr G)))
  have hrun : va_Run p l e R s m args below meth cd H locs cells slots mc ms (F0 m pc lsA (.ref (a_ad G a) :: rest.map (a_tr G))) (rest.map (a_tr G)) (a_Qc G (fun r M' => M'.length = M.length + mc ∧ a_sum M' = a_sum M + ms ∧ r = none ∧ a_WS p l e R s m args below meth cd G nL n0 s0 l1 l2 QQ (pc + 3) ls rest M') (Value.ref (a_ad G a) :: []).toArray) (a_A G) := by
    rcases hv1 with hv1 | hv1
    · exact va_runI (As := []) (b := a_ad G a) (rest := rest.map (a_tr G)) (Ts := a_gw) ⟨hx, hb, hml, hown, hts⟩ hM (cwI 0 hts hG rfl rfl rfl (hts _ hy2) (hts _ hv1) (hts _ hv2) hv3 hy4 hRR) hp rfl rfl hlv.1 rfl hrm hd hfit
    · exact va_runIN (As := []) (b := a_ad G a) (host := "LoafFall") (rest := rest.map (a_tr G)) (Ts := a_gw) ⟨hx, hb, hml, hown, hts⟩ hM ⟨va_cnB 0 hts hG rfl rfl rfl (hTP.2.1 _ hv1) (hts _ hy2) hy4 hRR, hv3, hts _ hv2⟩ hp rfl rfl hlv.1 rfl hrm hd hfit
  refine a_call hrun hH ?_
  intro r2 M' H1 locs1 hq hHP1
  obtain ⟨q1, q2, rfl, q3⟩ := hq
  exact q3 H1 locs1 (cells + mc) (slots + ms) lsA hHP1 hlv (by omega) (by omega) (by omega) (by omega)
theorem a_sound (C : a_Cx p l e R s m args below meth cd G sc own cc nL ini n0 s0 l1 l2) (hR : d + 1 ≤ R.frames ∧ 38 * (d + 1) ≤ R.locals) (hco : a_CO l G sc d call) (hret : ∀ (pc : Nat) (ls : aL) (M : aH) (ins : Instr) (r : Option Value), decode cc pc = .ok (ins, 1) → a_ret ins ret r → Q r M → a_WS p l e R s m args below meth cd G nL n0 s0 l1 l2 QQ pc ls r.toList M) : a_Cl sc call own cc nL ret ini l1 l2 Q (a_WS p l e R s m args below meth cd G nL n0 s0 l1 l2 QQ) := by
  refine ⟨⟨s_iv C hR hco, s_is C hR hco, s_ii C hR hco, hret⟩, ?_, ?_, ?_, ?_, ?_, ?_, ?_, ?_, ?_, ?_⟩
  · exact ⟨s_iconst C, s_bipush C, s_sipush C, s_lconst C, s_iload_n C, s_iload C, s_istore_n C, s_istore C⟩
  · exact ⟨s_lload_n C, s_lload C, s_lstore_n C, s_lstore C, s_aload_n C, s_aload C, s_astore_n C, s_astore C⟩
  · exact ⟨s_iinc C, s_iadd C, s_isub C, s_imul C, s_iand C, s_ior C, s_ishl C, s_idiv C⟩
  · exact ⟨s_irem C, s_ineg C, s_ladd C, s_lmul C, s_ldiv C, s_lrem C, s_lcmp C, s_i2l C⟩
  · exact ⟨s_l2i C, s_i2b C, s_dup C, s_dup2 C, s_goto C, s_if_eq C, s_icmp_eq C, s_if_ne C⟩
  · exact ⟨s_icmp_ne C, s_if_lt C, s_icmp_lt C, s_if_ge C, s_icmp_ge C, s_if_gt C, s_icmp_gt C, s_if_le C⟩
  · exact ⟨s_icmp_le C, s_tabOut C, s_tabIn C, s_ldc2 C, s_get C, s_puti C, s_putl C, s_putF C⟩
  · exact ⟨s_gets C, s_iald C, s_sald C, s_bald C, s_zald C, s_aald C, s_iast C, s_bast C⟩
  · exact ⟨s_zast C, s_aast C, s_alen C, s_slen C, s_new C, s_newa C, s_anew C, s_objI C⟩
  · exact ⟨s_copy C, s_mmax C, s_mmin C, s_mabs C⟩
end SOUND2
theorem a_met (l : Launch) (G : aG) (sc : aS) : ∀ d, a_CO l G sc d (aRun sc d)
  | 0 => fun _ _ _ _ _ _ _ _ _ _ _ _ h => h.elim
  | d + 1 => by
    intro y c2 nL2 ret2 mc ms n as M Q hy hl hrun
    obtain ⟨hent, hV⟩ := hrun
    refine Met.ofW (cc := c2) (maxL := nL2) (ret := ret2) hy.2.2.1 rfl ?_
    intro p e s m args below meth cd s₁ B hml hv
    obtain ⟨rfl, hHP, hTP⟩ := hv
    have hts0 := atoms_spec (ws := Cond.code y c2 nL2 ret2 :: a_gw) B.pre
    have hown : s.vm.findClass y.cls = some m.cls := findClass_of_methodNamed B.named
    have hlocks := B.notSynchronized
    have hnm : meth.name = y.name := (name_of_methodNamed B.named B.method).1
    have hx := B.exec
    have hb := B.bytes
    have hr := B.returns
    have C : a_Cx p l e (a_rm (d + 1) mc ms) s m (as.map (a_tr G)).toArray below meth cd G sc y.cls c2 nL2 (y.name == "<init>") M.length (a_sum M) (M.length + mc) (a_sum M + ms) := ⟨hx, hb, hml, hown, fun w hw => hts0 w (List.mem_cons_of_mem _ hw), hTP, fun h => by rw [hnm]; exact eq_of_beq h, hl, Nat.le_refl _, Nat.le_refl _, by show 1 ≤ d + 1; omega, by show 38 ≤ 38 * (d + 1); omega⟩
    have hcl := a_sound (QQ := MQ below (a_Qc G (fun r M' => M'.length = M.length + mc ∧ a_sum M' = a_sum M + ms ∧ Q r M')) (as.map (a_tr G)).toArray s mc ms (a_A G)) (Q := fun r M' => M'.length = M.length + mc ∧ a_sum M' = a_sum M + ms ∧ Q r M') (ret := ret2) (d := d) C ⟨by show d + 1 ≤ d + 1; omega, by show 38 * (d + 1) ≤ 38 * (d + 1); omega⟩ (a_met l G sc d) (by
      intro pc ls M' ins r hd hr2 hq H locs cells slots lsA hH hlv h3 h4 h5 h6
      obtain rfl : cells = mc := by have := hq.1; omega
      obtain rfl : slots = ms := by have := hq.2.1; omega
      rcases hr2 with ⟨rfl, v, ty, rfl, hrt, hn⟩ | ⟨rfl, v, rfl, hrt⟩ | ⟨rfl, k, n', rfl, hrt⟩ | ⟨rfl, rfl, hrt⟩
      · exact W.zret hx hb (hr.trans hrt) hn (fun t ht hW => ⟨some (.int v), M', rfl, hq, by rw [ht]; exact hH.nil⟩) hH.2.1.2.2 hd
      · exact W.lret hx hb (hr.trans hrt) (fun t ht hW => ⟨some (.long v), M', rfl, hq, by rw [ht]; exact hH.nil⟩) hH.2.1.2.2 hd
      · exact W.aret hx hb (hr.trans hrt) (Or.inl ⟨_, rfl⟩) (Or.inr ⟨_, rfl⟩) (fun t ht hW => ⟨some (.ref k), M', rfl, hq, by rw [ht]; exact hH.nil⟩) hH.2.1.2.2 hd
      · exact W.vret hx hb (hr.trans hrt) (fun t ht hW => ⟨none, M', rfl, hq, by rw [ht]; exact hH.nil⟩) hH.2.1.2.2 hd)
    have hw := hV _ hcl s.heap [] 0 0 _ hHP (a_lv_entry G as hent) (by omega) (by omega) (by omega) (by omega)
    rw [lg_entry_eq]
    exact hw
