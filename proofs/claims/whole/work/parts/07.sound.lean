/-! ===== every rule of the abstract machine holds of the machine ===== -/
def a_WS (p : Program) (l : Launch) (e : Env) (R : Room) (s : State) (m : MethodId) (args : Array Value) (below : List Frame) (meth : Method) (cd : Code) (G : aG) (nL n0 s0 l1 l2 : Nat) (QQ : State → Prop) : aP := fun pc ls st M => ∀ (H : Heap) (locs : List Loc) (cells slots : Nat) (lsA : Array Slot), a_HP G M H locs → a_lv G lsA nL ls → cells + n0 = M.length → slots + s0 = a_sum M → M.length ≤ l1 → a_sum M ≤ l2 → W p l e R s m args below meth cd H locs cells slots QQ (F0 m pc lsA (st.map (a_tr G)))
def a_Cx (p : Program) (l : Launch) (e : Env) (R : Room) (s : State) (m : MethodId) (args : Array Value) (below : List Frame) (meth : Method) (cd : Code) (G : aG) (sc : aS) (own : String) (cc : ByteArray) (nL : Nat) (ini : Bool) (n0 s0 l1 l2 : Nat) : Prop := p.tables.exec = Jvm.exec ∧ cd.code = cc ∧ cd.maxLocals = nL ∧ s.vm.findClass own = some m.cls ∧ (∀ w ∈ a_gw, w.before args s = true) ∧ a_TP G sc s ∧ (ini = true → meth.name = "<init>") ∧ l1 ≤ 99999 ∧ l1 ≤ n0 + R.cells ∧ l2 ≤ s0 + R.slots ∧ 1 ≤ R.frames ∧ 38 ≤ R.locals
theorem a_sum_set {M : aH} {a : Nat} {e0 e : aE} (h : M[a]? = some e0) (hz : a_sz e = a_sz e0) : a_sum (M.set a e) = a_sum M := by
  unfold a_sum
  rw [List.map_set, hz]
  congr 1
  apply List.ext_getElem?
  intro i
  rw [List.getElem?_set]
  by_cases hi : a = i
  · subst hi
    rw [if_pos rfl, List.getElem?_map, h]
    have := (List.getElem?_eq_some_iff.mp h).1
    simp [this]
  · rw [if_neg hi]
theorem a_sum_push (M : aH) (e : aE) : a_sum (M ++ [e]) = a_sum M + a_sz e := by simp [a_sum]
section SOUND
variable {p : Program} {l : Launch} {e : Env} {R : Room} {s : State} {m : MethodId} {args : Array Value} {below : List Frame} {meth : Method} {cd : Code} {G : aG} {sc : aS} {own : String} {cc : ByteArray} {nL : Nat} {ini : Bool} {n0 s0 l1 l2 : Nat} {QQ : State → Prop}
theorem s_iconst (C : a_Cx p l e R s m args below meth cd G sc own cc nL ini n0 s0 l1 l2) : ∀ (pc : Nat) (ls : aL) (st : List Value) (M : aH) (n : Int) (v : Int32), decode cc pc = .ok (.iconst n, 1) → (Int32.ofInt n = v) → a_WS p l e R s m args below meth cd G nL n0 s0 l1 l2 QQ (pc + 1) ls (.int v :: st) M → a_WS p l e R s m args below meth cd G nL n0 s0 l1 l2 QQ pc ls (st) M := by
  obtain ⟨hx, hb, hml, hown, hts, hTP, hini, hl9, hRc, hRs, hfr, hlo⟩ := C
  intro pc ls st M n v hd hv k0 H locs cells slots lsA hH hlv h3 h4 h5 h6
  exact lv_iconst hx hb hd hv (k0 H locs cells slots lsA hH hlv h3 h4 h5 h6)
theorem s_bipush (C : a_Cx p l e R s m args below meth cd G sc own cc nL ini n0 s0 l1 l2) : ∀ (pc : Nat) (ls : aL) (st : List Value) (M : aH) (n : Int) (v : Int32), decode cc pc = .ok (.bipush n, 2) → ((Int8.ofInt n).toInt32 = v) → a_WS p l e R s m args below meth cd G nL n0 s0 l1 l2 QQ (pc + 2) ls (.int v :: st) M → a_WS p l e R s m args below meth cd G nL n0 s0 l1 l2 QQ pc ls (st) M := by
  obtain ⟨hx, hb, hml, hown, hts, hTP, hini, hl9, hRc, hRs, hfr, hlo⟩ := C
  intro pc ls st M n v hd hv k0 H locs cells slots lsA hH hlv h3 h4 h5 h6
  exact lv_bipush hx hb hd hv (k0 H locs cells slots lsA hH hlv h3 h4 h5 h6)
theorem s_sipush (C : a_Cx p l e R s m args below meth cd G sc own cc nL ini n0 s0 l1 l2) : ∀ (pc : Nat) (ls : aL) (st : List Value) (M : aH) (n : Int) (v : Int32), decode cc pc = .ok (.sipush n, 3) → ((Int16.ofInt n).toInt32 = v) → a_WS p l e R s m args below meth cd G nL n0 s0 l1 l2 QQ (pc + 3) ls (.int v :: st) M → a_WS p l e R s m args below meth cd G nL n0 s0 l1 l2 QQ pc ls (st) M := by
  obtain ⟨hx, hb, hml, hown, hts, hTP, hini, hl9, hRc, hRs, hfr, hlo⟩ := C
  intro pc ls st M n v hd hv k0 H locs cells slots lsA hH hlv h3 h4 h5 h6
  exact lv_sipush hx hb hd hv (k0 H locs cells slots lsA hH hlv h3 h4 h5 h6)
theorem s_lconst (C : a_Cx p l e R s m args below meth cd G sc own cc nL ini n0 s0 l1 l2) : ∀ (pc : Nat) (ls : aL) (st : List Value) (M : aH) (n : Fin 2) (v : Int64), decode cc pc = .ok (.lconst n, 1) → (Int64.ofNat (n : Nat) = v) → a_WS p l e R s m args below meth cd G nL n0 s0 l1 l2 QQ (pc + 1) ls (.long v :: st) M → a_WS p l e R s m args below meth cd G nL n0 s0 l1 l2 QQ pc ls (st) M := by
  obtain ⟨hx, hb, hml, hown, hts, hTP, hini, hl9, hRc, hRs, hfr, hlo⟩ := C
  intro pc ls st M n v hd hv k0 H locs cells slots lsA hH hlv h3 h4 h5 h6
  exact lv_lconst hx hb hd hv (k0 H locs cells slots lsA hH hlv h3 h4 h5 h6)
theorem s_iload_n (C : a_Cx p l e R s m args below meth cd G sc own cc nL ini n0 s0 l1 l2) : ∀ (pc : Nat) (ls : aL) (st : List Value) (M : aH) (k : Fin 4) (i : Nat) (x : Int32), decode cc pc = .ok (.iload_n k, 1) → ((k : Nat) = i) → (ls[i]? = some (some (.int x))) → a_WS p l e R s m args below meth cd G nL n0 s0 l1 l2 QQ (pc + 1) ls (.int x :: st) M → a_WS p l e R s m args below meth cd G nL n0 s0 l1 l2 QQ pc ls (st) M := by
  obtain ⟨hx, hb, hml, hown, hts, hTP, hini, hl9, hRc, hRs, hfr, hlo⟩ := C
  intro pc ls st M k i x hd hi hl k0 H locs cells slots lsA hH hlv h3 h4 h5 h6
  exact lv_iload_n hx hb hd hi (hlv.2.2 i _ hl) (k0 H locs cells slots lsA hH hlv h3 h4 h5 h6)
theorem s_iload (C : a_Cx p l e R s m args below meth cd G sc own cc nL ini n0 s0 l1 l2) : ∀ (pc : Nat) (ls : aL) (st : List Value) (M : aH) (i : Nat) (x : Int32), decode cc pc = .ok (.iload i, 2) → (ls[i]? = some (some (.int x))) → a_WS p l e R s m args below meth cd G nL n0 s0 l1 l2 QQ (pc + 2) ls (.int x :: st) M → a_WS p l e R s m args below meth cd G nL n0 s0 l1 l2 QQ pc ls (st) M := by
  obtain ⟨hx, hb, hml, hown, hts, hTP, hini, hl9, hRc, hRs, hfr, hlo⟩ := C
  intro pc ls st M i x hd hl k0 H locs cells slots lsA hH hlv h3 h4 h5 h6
  exact lv_iload hx hb hd (hlv.2.2 i _ hl) (k0 H locs cells slots lsA hH hlv h3 h4 h5 h6)
theorem s_istore_n (C : a_Cx p l e R s m args below meth cd G sc own cc nL ini n0 s0 l1 l2) : ∀ (pc : Nat) (ls : aL) (st : List Value) (M : aH) (k : Fin 4) (i : Nat) (x : Int32), decode cc pc = .ok (.istore_n k, 1) → ((k : Nat) = i) → (i < nL) → a_WS p l e R s m args below meth cd G nL n0 s0 l1 l2 QQ (pc + 1) (a_stI ls i (.int x)) (st) M → a_WS p l e R s m args below meth cd G nL n0 s0 l1 l2 QQ pc ls (.int x :: st) M := by
  obtain ⟨hx, hb, hml, hown, hts, hTP, hini, hl9, hRc, hRs, hfr, hlo⟩ := C
  intro pc ls st M k i x hd hi hn k0 H locs cells slots lsA hH hlv h3 h4 h5 h6
  exact lv_istore_n hx hb hd hi hlv.has hn rfl (fun lsB hlB => k0 H locs cells slots lsB hH (a_lv.st1 (v := .int x) hlB) h3 h4 h5 h6)
theorem s_istore (C : a_Cx p l e R s m args below meth cd G sc own cc nL ini n0 s0 l1 l2) : ∀ (pc : Nat) (ls : aL) (st : List Value) (M : aH) (i : Nat) (x : Int32), decode cc pc = .ok (.istore i, 2) → (i < nL) → a_WS p l e R s m args below meth cd G nL n0 s0 l1 l2 QQ (pc + 2) (a_stI ls i (.int x)) (st) M → a_WS p l e R s m args below meth cd G nL n0 s0 l1 l2 QQ pc ls (.int x :: st) M := by
  obtain ⟨hx, hb, hml, hown, hts, hTP, hini, hl9, hRc, hRs, hfr, hlo⟩ := C
  intro pc ls st M i x hd hn k0 H locs cells slots lsA hH hlv h3 h4 h5 h6
  exact lv_istore hx hb hd hlv.has hn rfl (fun lsB hlB => k0 H locs cells slots lsB hH (a_lv.st1 (v := .int x) hlB) h3 h4 h5 h6)
theorem s_lload_n (C : a_Cx p l e R s m args below meth cd G sc own cc nL ini n0 s0 l1 l2) : ∀ (pc : Nat) (ls : aL) (st : List Value) (M : aH) (k : Fin 4) (i : Nat) (x : Int64), decode cc pc = .ok (.lload_n k, 1) → ((k : Nat) = i) → (ls[i]? = some (some (.long x))) → a_WS p l e R s m args below meth cd G nL n0 s0 l1 l2 QQ (pc + 1) ls (.long x :: st) M → a_WS p l e R s m args below meth cd G nL n0 s0 l1 l2 QQ pc ls (st) M := by
  obtain ⟨hx, hb, hml, hown, hts, hTP, hini, hl9, hRc, hRs, hfr, hlo⟩ := C
  intro pc ls st M k i x hd hi hl k0 H locs cells slots lsA hH hlv h3 h4 h5 h6
  exact lv_lload_n hx hb hd hi (hlv.2.2 i _ hl) (k0 H locs cells slots lsA hH hlv h3 h4 h5 h6)
theorem s_lload (C : a_Cx p l e R s m args below meth cd G sc own cc nL ini n0 s0 l1 l2) : ∀ (pc : Nat) (ls : aL) (st : List Value) (M : aH) (i : Nat) (x : Int64), decode cc pc = .ok (.lload i, 2) → (ls[i]? = some (some (.long x))) → a_WS p l e R s m args below meth cd G nL n0 s0 l1 l2 QQ (pc + 2) ls (.long x :: st) M → a_WS p l e R s m args below meth cd G nL n0 s0 l1 l2 QQ pc ls (st) M := by
  obtain ⟨hx, hb, hml, hown, hts, hTP, hini, hl9, hRc, hRs, hfr, hlo⟩ := C
  intro pc ls st M i x hd hl k0 H locs cells slots lsA hH hlv h3 h4 h5 h6
  exact lv_lload hx hb hd (hlv.2.2 i _ hl) (k0 H locs cells slots lsA hH hlv h3 h4 h5 h6)
theorem s_lstore_n (C : a_Cx p l e R s m args below meth cd G sc own cc nL ini n0 s0 l1 l2) : ∀ (pc : Nat) (ls : aL) (st : List Value) (M : aH) (k : Fin 4) (i : Nat) (x : Int64), decode cc pc = .ok (.lstore_n k, 1) → ((k : Nat) = i) → (i + 1 < nL) → a_WS p l e R s m args below meth cd G nL n0 s0 l1 l2 QQ (pc + 1) (a_stL ls i (.long x)) (st) M → a_WS p l e R s m args below meth cd G nL n0 s0 l1 l2 QQ pc ls (.long x :: st) M := by
  obtain ⟨hx, hb, hml, hown, hts, hTP, hini, hl9, hRc, hRs, hfr, hlo⟩ := C
  intro pc ls st M k i x hd hi hn k0 H locs cells slots lsA hH hlv h3 h4 h5 h6
  exact lv_lstore_n hx hb hd hi hlv.has hn rfl (fun lsB hlB => k0 H locs cells slots lsB hH (a_lv.st2 (v := .long x) hlB) h3 h4 h5 h6)
theorem s_lstore (C : a_Cx p l e R s m args below meth cd G sc own cc nL ini n0 s0 l1 l2) : ∀ (pc : Nat) (ls : aL) (st : List Value) (M : aH) (i : Nat) (x : Int64), decode cc pc = .ok (.lstore i, 2) → (i + 1 < nL) → a_WS p l e R s m args below meth cd G nL n0 s0 l1 l2 QQ (pc + 2) (a_stL ls i (.long x)) (st) M → a_WS p l e R s m args below meth cd G nL n0 s0 l1 l2 QQ pc ls (.long x :: st) M := by
  obtain ⟨hx, hb, hml, hown, hts, hTP, hini, hl9, hRc, hRs, hfr, hlo⟩ := C
  intro pc ls st M i x hd hn k0 H locs cells slots lsA hH hlv h3 h4 h5 h6
  exact lv_lstore hx hb hd hlv.has hn rfl (fun lsB hlB => k0 H locs cells slots lsB hH (a_lv.st2 (v := .long x) hlB) h3 h4 h5 h6)
theorem s_aload_n (C : a_Cx p l e R s m args below meth cd G sc own cc nL ini n0 s0 l1 l2) : ∀ (pc : Nat) (ls : aL) (st : List Value) (M : aH) (k : Fin 4) (i : Nat) (x : Nat), decode cc pc = .ok (.aload_n k, 1) → ((k : Nat) = i) → (ls[i]? = some (some (.ref x))) → a_WS p l e R s m args below meth cd G nL n0 s0 l1 l2 QQ (pc + 1) ls (.ref x :: st) M → a_WS p l e R s m args below meth cd G nL n0 s0 l1 l2 QQ pc ls (st) M := by
  obtain ⟨hx, hb, hml, hown, hts, hTP, hini, hl9, hRc, hRs, hfr, hlo⟩ := C
  intro pc ls st M k i x hd hi hl k0 H locs cells slots lsA hH hlv h3 h4 h5 h6
  exact lv_aload_n hx hb hd hi (hlv.2.2 i _ hl) (k0 H locs cells slots lsA hH hlv h3 h4 h5 h6)
theorem s_aload (C : a_Cx p l e R s m args below meth cd G sc own cc nL ini n0 s0 l1 l2) : ∀ (pc : Nat) (ls : aL) (st : List Value) (M : aH) (i : Nat) (x : Nat), decode cc pc = .ok (.aload i, 2) → (ls[i]? = some (some (.ref x))) → a_WS p l e R s m args below meth cd G nL n0 s0 l1 l2 QQ (pc + 2) ls (.ref x :: st) M → a_WS p l e R s m args below meth cd G nL n0 s0 l1 l2 QQ pc ls (st) M := by
  obtain ⟨hx, hb, hml, hown, hts, hTP, hini, hl9, hRc, hRs, hfr, hlo⟩ := C
  intro pc ls st M i x hd hl k0 H locs cells slots lsA hH hlv h3 h4 h5 h6
  exact lv_aload hx hb hd (hlv.2.2 i _ hl) (k0 H locs cells slots lsA hH hlv h3 h4 h5 h6)
theorem s_astore_n (C : a_Cx p l e R s m args below meth cd G sc own cc nL ini n0 s0 l1 l2) : ∀ (pc : Nat) (ls : aL) (st : List Value) (M : aH) (k : Fin 4) (i : Nat) (x : Nat), decode cc pc = .ok (.astore_n k, 1) → ((k : Nat) = i) → (i < nL) → a_WS p l e R s m args below meth cd G nL n0 s0 l1 l2 QQ (pc + 1) (a_stI ls i (.ref x)) (st) M → a_WS p l e R s m args below meth cd G nL n0 s0 l1 l2 QQ pc ls (.ref x :: st) M := by
  obtain ⟨hx, hb, hml, hown, hts, hTP, hini, hl9, hRc, hRs, hfr, hlo⟩ := C
  intro pc ls st M k i x hd hi hn k0 H locs cells slots lsA hH hlv h3 h4 h5 h6
  exact lv_astore_n hx hb hd hi hlv.has hn rfl (fun lsB hlB => k0 H locs cells slots lsB hH (a_lv.st1 (v := .ref x) hlB) h3 h4 h5 h6)
theorem s_astore (C : a_Cx p l e R s m args below meth cd G sc own cc nL ini n0 s0 l1 l2) : ∀ (pc : Nat) (ls : aL) (st : List Value) (M : aH) (i : Nat) (x : Nat), decode cc pc = .ok (.astore i, 2) → (i < nL) → a_WS p l e R s m args below meth cd G nL n0 s0 l1 l2 QQ (pc + 2) (a_stI ls i (.ref x)) (st) M → a_WS p l e R s m args below meth cd G nL n0 s0 l1 l2 QQ pc ls (.ref x :: st) M := by
  obtain ⟨hx, hb, hml, hown, hts, hTP, hini, hl9, hRc, hRs, hfr, hlo⟩ := C
  intro pc ls st M i x hd hn k0 H locs cells slots lsA hH hlv h3 h4 h5 h6
  exact lv_astore hx hb hd hlv.has hn rfl (fun lsB hlB => k0 H locs cells slots lsB hH (a_lv.st1 (v := .ref x) hlB) h3 h4 h5 h6)
theorem s_iinc (C : a_Cx p l e R s m args below meth cd G sc own cc nL ini n0 s0 l1 l2) : ∀ (pc : Nat) (ls : aL) (st : List Value) (M : aH) (i : Nat) (n : Int) (x v : Int32), decode cc pc = .ok (.iinc i n, 3) → (ls[i]? = some (some (.int x))) → (x + Int32.ofInt n = v) → (i < nL) → a_WS p l e R s m args below meth cd G nL n0 s0 l1 l2 QQ (pc + 3) (a_stI ls i (.int v)) (st) M → a_WS p l e R s m args below meth cd G nL n0 s0 l1 l2 QQ pc ls (st) M := by
  obtain ⟨hx, hb, hml, hown, hts, hTP, hini, hl9, hRc, hRs, hfr, hlo⟩ := C
  intro pc ls st M i n x v hd hl hv hn k0 H locs cells slots lsA hH hlv h3 h4 h5 h6
  obtain ⟨kx, hkx⟩ := List.getElem?_of_mem (a_lst_mem (G := G).mpr ⟨_, hl, rfl⟩)
  exact lv_iinc hx hb hd hlv.has hkx hv hn rfl (fun lsB hlB => k0 H locs cells slots lsB hH (a_lv.st1 (v := .int v) hlB) h3 h4 h5 h6)
theorem s_iadd (C : a_Cx p l e R s m args below meth cd G sc own cc nL ini n0 s0 l1 l2) : ∀ (pc : Nat) (ls : aL) (st : List Value) (M : aH) (x y : Int32), decode cc pc = .ok (.iadd, 1) → a_WS p l e R s m args below meth cd G nL n0 s0 l1 l2 QQ (pc + 1) ls (.int (x + y) :: st) M → a_WS p l e R s m args below meth cd G nL n0 s0 l1 l2 QQ pc ls (.int y :: .int x :: st) M := by
  obtain ⟨hx, hb, hml, hown, hts, hTP, hini, hl9, hRc, hRs, hfr, hlo⟩ := C
  intro pc ls st M x y hd  k0 H locs cells slots lsA hH hlv h3 h4 h5 h6
  exact lv_iadd hx hb hd (k0 H locs cells slots lsA hH hlv h3 h4 h5 h6)
theorem s_isub (C : a_Cx p l e R s m args below meth cd G sc own cc nL ini n0 s0 l1 l2) : ∀ (pc : Nat) (ls : aL) (st : List Value) (M : aH) (x y : Int32), decode cc pc = .ok (.isub, 1) → a_WS p l e R s m args below meth cd G nL n0 s0 l1 l2 QQ (pc + 1) ls (.int (x - y) :: st) M → a_WS p l e R s m args below meth cd G nL n0 s0 l1 l2 QQ pc ls (.int y :: .int x :: st) M := by
  obtain ⟨hx, hb, hml, hown, hts, hTP, hini, hl9, hRc, hRs, hfr, hlo⟩ := C
  intro pc ls st M x y hd  k0 H locs cells slots lsA hH hlv h3 h4 h5 h6
  exact lv_isub hx hb hd (k0 H locs cells slots lsA hH hlv h3 h4 h5 h6)
theorem s_imul (C : a_Cx p l e R s m args below meth cd G sc own cc nL ini n0 s0 l1 l2) : ∀ (pc : Nat) (ls : aL) (st : List Value) (M : aH) (x y : Int32), decode cc pc = .ok (.imul, 1) → a_WS p l e R s m args below meth cd G nL n0 s0 l1 l2 QQ (pc + 1) ls (.int (x * y) :: st) M → a_WS p l e R s m args below meth cd G nL n0 s0 l1 l2 QQ pc ls (.int y :: .int x :: st) M := by
  obtain ⟨hx, hb, hml, hown, hts, hTP, hini, hl9, hRc, hRs, hfr, hlo⟩ := C
  intro pc ls st M x y hd  k0 H locs cells slots lsA hH hlv h3 h4 h5 h6
  exact lv_imul hx hb hd (k0 H locs cells slots lsA hH hlv h3 h4 h5 h6)
theorem s_iand (C : a_Cx p l e R s m args below meth cd G sc own cc nL ini n0 s0 l1 l2) : ∀ (pc : Nat) (ls : aL) (st : List Value) (M : aH) (x y : Int32), decode cc pc = .ok (.iand, 1) → a_WS p l e R s m args below meth cd G nL n0 s0 l1 l2 QQ (pc + 1) ls (.int (x &&& y) :: st) M → a_WS p l e R s m args below meth cd G nL n0 s0 l1 l2 QQ pc ls (.int y :: .int x :: st) M := by
  obtain ⟨hx, hb, hml, hown, hts, hTP, hini, hl9, hRc, hRs, hfr, hlo⟩ := C
  intro pc ls st M x y hd  k0 H locs cells slots lsA hH hlv h3 h4 h5 h6
  exact lv_iand hx hb hd (k0 H locs cells slots lsA hH hlv h3 h4 h5 h6)
theorem s_ior (C : a_Cx p l e R s m args below meth cd G sc own cc nL ini n0 s0 l1 l2) : ∀ (pc : Nat) (ls : aL) (st : List Value) (M : aH) (x y : Int32), decode cc pc = .ok (.ior, 1) → a_WS p l e R s m args below meth cd G nL n0 s0 l1 l2 QQ (pc + 1) ls (.int (x ||| y) :: st) M → a_WS p l e R s m args below meth cd G nL n0 s0 l1 l2 QQ pc ls (.int y :: .int x :: st) M := by
  obtain ⟨hx, hb, hml, hown, hts, hTP, hini, hl9, hRc, hRs, hfr, hlo⟩ := C
  intro pc ls st M x y hd  k0 H locs cells slots lsA hH hlv h3 h4 h5 h6
  exact lv_ior hx hb hd (k0 H locs cells slots lsA hH hlv h3 h4 h5 h6)
theorem s_ishl (C : a_Cx p l e R s m args below meth cd G sc own cc nL ini n0 s0 l1 l2) : ∀ (pc : Nat) (ls : aL) (st : List Value) (M : aH) (x y : Int32), decode cc pc = .ok (.ishl, 1) → a_WS p l e R s m args below meth cd G nL n0 s0 l1 l2 QQ (pc + 1) ls (.int (x <<< (y &&& 31)) :: st) M → a_WS p l e R s m args below meth cd G nL n0 s0 l1 l2 QQ pc ls (.int y :: .int x :: st) M := by
  obtain ⟨hx, hb, hml, hown, hts, hTP, hini, hl9, hRc, hRs, hfr, hlo⟩ := C
  intro pc ls st M x y hd  k0 H locs cells slots lsA hH hlv h3 h4 h5 h6
  exact lv_ishl hx hb hd (k0 H locs cells slots lsA hH hlv h3 h4 h5 h6)
theorem s_idiv (C : a_Cx p l e R s m args below meth cd G sc own cc nL ini n0 s0 l1 l2) : ∀ (pc : Nat) (ls : aL) (st : List Value) (M : aH) (x y : Int32), decode cc pc = .ok (.idiv, 1) → (¬ y = 0) → a_WS p l e R s m args below meth cd G nL n0 s0 l1 l2 QQ (pc + 1) ls (.int (x / y) :: st) M → a_WS p l e R s m args below meth cd G nL n0 s0 l1 l2 QQ pc ls (.int y :: .int x :: st) M := by
  obtain ⟨hx, hb, hml, hown, hts, hTP, hini, hl9, hRc, hRs, hfr, hlo⟩ := C
  intro pc ls st M x y hd hne k0 H locs cells slots lsA hH hlv h3 h4 h5 h6
  exact lv_idiv hx hb hd hne (k0 H locs cells slots lsA hH hlv h3 h4 h5 h6)
theorem s_irem (C : a_Cx p l e R s m args below meth cd G sc own cc nL ini n0 s0 l1 l2) : ∀ (pc : Nat) (ls : aL) (st : List Value) (M : aH) (x y : Int32), decode cc pc = .ok (.irem, 1) → (¬ y = 0) → a_WS p l e R s m args below meth cd G nL n0 s0 l1 l2 QQ (pc + 1) ls (.int (x - x / y * y) :: st) M → a_WS p l e R s m args below meth cd G nL n0 s0 l1 l2 QQ pc ls (.int y :: .int x :: st) M := by
  obtain ⟨hx, hb, hml, hown, hts, hTP, hini, hl9, hRc, hRs, hfr, hlo⟩ := C
  intro pc ls st M x y hd hne k0 H locs cells slots lsA hH hlv h3 h4 h5 h6
  exact lv_irem hx hb hd hne (k0 H locs cells slots lsA hH hlv h3 h4 h5 h6)
theorem s_ineg (C : a_Cx p l e R s m args below meth cd G sc own cc nL ini n0 s0 l1 l2) : ∀ (pc : Nat) (ls : aL) (st : List Value) (M : aH) (x : Int32), decode cc pc = .ok (.ineg, 1) → a_WS p l e R s m args below meth cd G nL n0 s0 l1 l2 QQ (pc + 1) ls (.int (-x) :: st) M → a_WS p l e R s m args below meth cd G nL n0 s0 l1 l2 QQ pc ls (.int x :: st) M := by
  obtain ⟨hx, hb, hml, hown, hts, hTP, hini, hl9, hRc, hRs, hfr, hlo⟩ := C
  intro pc ls st M x hd  k0 H locs cells slots lsA hH hlv h3 h4 h5 h6
  exact lv_ineg hx hb hd (k0 H locs cells slots lsA hH hlv h3 h4 h5 h6)
theorem s_ladd (C : a_Cx p l e R s m args below meth cd G sc own cc nL ini n0 s0 l1 l2) : ∀ (pc : Nat) (ls : aL) (st : List Value) (M : aH) (x y : Int64), decode cc pc = .ok (.ladd, 1) → a_WS p l e R s m args below meth cd G nL n0 s0 l1 l2 QQ (pc + 1) ls (.long (x + y) :: st) M → a_WS p l e R s m args below meth cd G nL n0 s0 l1 l2 QQ pc ls (.long y :: .long x :: st) M := by
  obtain ⟨hx, hb, hml, hown, hts, hTP, hini, hl9, hRc, hRs, hfr, hlo⟩ := C
  intro pc ls st M x y hd  k0 H locs cells slots lsA hH hlv h3 h4 h5 h6
  exact lv_ladd hx hb hd (k0 H locs cells slots lsA hH hlv h3 h4 h5 h6)
theorem s_lmul (C : a_Cx p l e R s m args below meth cd G sc own cc nL ini n0 s0 l1 l2) : ∀ (pc : Nat) (ls : aL) (st : List Value) (M : aH) (x y : Int64), decode cc pc = .ok (.lmul, 1) → a_WS p l e R s m args below meth cd G nL n0 s0 l1 l2 QQ (pc + 1) ls (.long (x * y) :: st) M → a_WS p l e R s m args below meth cd G nL n0 s0 l1 l2 QQ pc ls (.long y :: .long x :: st) M := by
  obtain ⟨hx, hb, hml, hown, hts, hTP, hini, hl9, hRc, hRs, hfr, hlo⟩ := C
  intro pc ls st M x y hd  k0 H locs cells slots lsA hH hlv h3 h4 h5 h6
  exact lv_lmul hx hb hd (k0 H locs cells slots lsA hH hlv h3 h4 h5 h6)
theorem s_ldiv (C : a_Cx p l e R s m args below meth cd G sc own cc nL ini n0 s0 l1 l2) : ∀ (pc : Nat) (ls : aL) (st : List Value) (M : aH) (x y : Int64), decode cc pc = .ok (.ldiv, 1) → (¬ y = 0) → a_WS p l e R s m args below meth cd G nL n0 s0 l1 l2 QQ (pc + 1) ls (.long (x / y) :: st) M → a_WS p l e R s m args below meth cd G nL n0 s0 l1 l2 QQ pc ls (.long y :: .long x :: st) M := by
  obtain ⟨hx, hb, hml, hown, hts, hTP, hini, hl9, hRc, hRs, hfr, hlo⟩ := C
  intro pc ls st M x y hd hne k0 H locs cells slots lsA hH hlv h3 h4 h5 h6
  exact lv_ldiv hx hb hd hne (k0 H locs cells slots lsA hH hlv h3 h4 h5 h6)
theorem s_lrem (C : a_Cx p l e R s m args below meth cd G sc own cc nL ini n0 s0 l1 l2) : ∀ (pc : Nat) (ls : aL) (st : List Value) (M : aH) (x y : Int64), decode cc pc = .ok (.lrem, 1) → (¬ y = 0) → a_WS p l e R s m args below meth cd G nL n0 s0 l1 l2 QQ (pc + 1) ls (.long (x - x / y * y) :: st) M → a_WS p l e R s m args below meth cd G nL n0 s0 l1 l2 QQ pc ls (.long y :: .long x :: st) M := by
  obtain ⟨hx, hb, hml, hown, hts, hTP, hini, hl9, hRc, hRs, hfr, hlo⟩ := C
  intro pc ls st M x y hd hne k0 H locs cells slots lsA hH hlv h3 h4 h5 h6
  exact lv_lrem hx hb hd hne (k0 H locs cells slots lsA hH hlv h3 h4 h5 h6)
theorem s_lcmp (C : a_Cx p l e R s m args below meth cd G sc own cc nL ini n0 s0 l1 l2) : ∀ (pc : Nat) (ls : aL) (st : List Value) (M : aH) (x y : Int64), decode cc pc = .ok (.lcmp, 1) → a_WS p l e R s m args below meth cd G nL n0 s0 l1 l2 QQ (pc + 1) ls (.int (lg_cmp x y) :: st) M → a_WS p l e R s m args below meth cd G nL n0 s0 l1 l2 QQ pc ls (.long y :: .long x :: st) M := by
  obtain ⟨hx, hb, hml, hown, hts, hTP, hini, hl9, hRc, hRs, hfr, hlo⟩ := C
  intro pc ls st M x y hd  k0 H locs cells slots lsA hH hlv h3 h4 h5 h6
  exact W.lcmp hx hb hd (k0 H locs cells slots lsA hH hlv h3 h4 h5 h6)
theorem s_i2l (C : a_Cx p l e R s m args below meth cd G sc own cc nL ini n0 s0 l1 l2) : ∀ (pc : Nat) (ls : aL) (st : List Value) (M : aH) (x : Int32), decode cc pc = .ok (.i2l, 1) → a_WS p l e R s m args below meth cd G nL n0 s0 l1 l2 QQ (pc + 1) ls (.long x.toInt64 :: st) M → a_WS p l e R s m args below meth cd G nL n0 s0 l1 l2 QQ pc ls (.int x :: st) M := by
  obtain ⟨hx, hb, hml, hown, hts, hTP, hini, hl9, hRc, hRs, hfr, hlo⟩ := C
  intro pc ls st M x hd  k0 H locs cells slots lsA hH hlv h3 h4 h5 h6
  exact lv_i2l hx hb hd rfl (k0 H locs cells slots lsA hH hlv h3 h4 h5 h6)
theorem s_l2i (C : a_Cx p l e R s m args below meth cd G sc own cc nL ini n0 s0 l1 l2) : ∀ (pc : Nat) (ls : aL) (st : List Value) (M : aH) (x : Int64), decode cc pc = .ok (.l2i, 1) → a_WS p l e R s m args below meth cd G nL n0 s0 l1 l2 QQ (pc + 1) ls (.int x.toInt32 :: st) M → a_WS p l e R s m args below meth cd G nL n0 s0 l1 l2 QQ pc ls (.long x :: st) M := by
  obtain ⟨hx, hb, hml, hown, hts, hTP, hini, hl9, hRc, hRs, hfr, hlo⟩ := C
  intro pc ls st M x hd  k0 H locs cells slots lsA hH hlv h3 h4 h5 h6
  exact lv_l2i hx hb hd rfl (k0 H locs cells slots lsA hH hlv h3 h4 h5 h6)
theorem s_i2b (C : a_Cx p l e R s m args below meth cd G sc own cc nL ini n0 s0 l1 l2) : ∀ (pc : Nat) (ls : aL) (st : List Value) (M : aH) (x : Int32), decode cc pc = .ok (.i2b, 1) → a_WS p l e R s m args below meth cd G nL n0 s0 l1 l2 QQ (pc + 1) ls (.int x.toInt8.toInt32 :: st) M → a_WS p l e R s m args below meth cd G nL n0 s0 l1 l2 QQ pc ls (.int x :: st) M := by
  obtain ⟨hx, hb, hml, hown, hts, hTP, hini, hl9, hRc, hRs, hfr, hlo⟩ := C
  intro pc ls st M x hd  k0 H locs cells slots lsA hH hlv h3 h4 h5 h6
  exact lv_i2b hx hb hd rfl (k0 H locs cells slots lsA hH hlv h3 h4 h5 h6)
theorem s_dup (C : a_Cx p l e R s m args below meth cd G sc own cc nL ini n0 s0 l1 l2) : ∀ (pc : Nat) (ls : aL) (st : List Value) (M : aH) (v : Value), decode cc pc = .ok (.dup, 1) → (v.category = 1) → a_WS p l e R s m args below meth cd G nL n0 s0 l1 l2 QQ (pc + 1) ls (v :: v :: st) M → a_WS p l e R s m args below meth cd G nL n0 s0 l1 l2 QQ pc ls (v :: st) M := by
  obtain ⟨hx, hb, hml, hown, hts, hTP, hini, hl9, hRc, hRs, hfr, hlo⟩ := C
  intro pc ls st M v hd hc k0 H locs cells slots lsA hH hlv h3 h4 h5 h6
  exact lv_dup hx hb hd (by rw [a_tr_cat]; exact hc) (k0 H locs cells slots lsA hH hlv h3 h4 h5 h6)
theorem s_dup2 (C : a_Cx p l e R s m args below meth cd G sc own cc nL ini n0 s0 l1 l2) : ∀ (pc : Nat) (ls : aL) (st : List Value) (M : aH) (v w : Value), decode cc pc = .ok (.dup2, 1) → (v.category = 1) → (w.category = 1) → a_WS p l e R s m args below meth cd G nL n0 s0 l1 l2 QQ (pc + 1) ls (v :: w :: v :: w :: st) M → a_WS p l e R s m args below meth cd G nL n0 s0 l1 l2 QQ pc ls (v :: w :: st) M := by
  obtain ⟨hx, hb, hml, hown, hts, hTP, hini, hl9, hRc, hRs, hfr, hlo⟩ := C
  intro pc ls st M v w hd hc hd2 k0 H locs cells slots lsA hH hlv h3 h4 h5 h6
  exact lv_dup2_11 hx hb hd (by rw [a_tr_cat]; exact hc) (by rw [a_tr_cat]; exact hd2) (k0 H locs cells slots lsA hH hlv h3 h4 h5 h6)
theorem s_goto (C : a_Cx p l e R s m args below meth cd G sc own cc nL ini n0 s0 l1 l2) : ∀ (pc : Nat) (ls : aL) (st : List Value) (M : aH) (off : Int) (tgt : Nat), decode cc pc = .ok (.goto off, 3) → ((pc : Int) + off = (tgt : Int)) → a_WS p l e R s m args below meth cd G nL n0 s0 l1 l2 QQ (tgt) ls (st) M → a_WS p l e R s m args below meth cd G nL n0 s0 l1 l2 QQ pc ls (st) M := by
  obtain ⟨hx, hb, hml, hown, hts, hTP, hini, hl9, hRc, hRs, hfr, hlo⟩ := C
  intro pc ls st M off tgt hd ht k0 H locs cells slots lsA hH hlv h3 h4 h5 h6
  exact lv_goto hx hb hd ht (k0 H locs cells slots lsA hH hlv h3 h4 h5 h6)
theorem s_if_eq (C : a_Cx p l e R s m args below meth cd G sc own cc nL ini n0 s0 l1 l2) : ∀ (pc : Nat) (ls : aL) (st : List Value) (M : aH) (x : Int32) (off : Int) (tgt : Nat), decode cc pc = .ok (.ifCond .eq off, 3) → ((pc : Int) + off = (tgt : Int)) → ((x = 0) → a_WS p l e R s m args below meth cd G nL n0 s0 l1 l2 QQ (tgt) ls (st) M) → ((¬ (x = 0)) → a_WS p l e R s m args below meth cd G nL n0 s0 l1 l2 QQ (pc + 3) ls (st) M) → a_WS p l e R s m args below meth cd G nL n0 s0 l1 l2 QQ pc ls (.int x :: st) M := by
  obtain ⟨hx, hb, hml, hown, hts, hTP, hini, hl9, hRc, hRs, hfr, hlo⟩ := C
  intro pc ls st M x off tgt hd ht k0 k1 H locs cells slots lsA hH hlv h3 h4 h5 h6
  exact lv_if_eq hx hb hd ht (fun h => k0 h H locs cells slots lsA hH hlv h3 h4 h5 h6) (fun h => k1 h H locs cells slots lsA hH hlv h3 h4 h5 h6)
theorem s_icmp_eq (C : a_Cx p l e R s m args below meth cd G sc own cc nL ini n0 s0 l1 l2) : ∀ (pc : Nat) (ls : aL) (st : List Value) (M : aH) (x y : Int32) (off : Int) (tgt : Nat), decode cc pc = .ok (.if_icmp .eq off, 3) → ((pc : Int) + off = (tgt : Int)) → ((x = y) → a_WS p l e R s m args below meth cd G nL n0 s0 l1 l2 QQ (tgt) ls (st) M) → ((¬ (x = y)) → a_WS p l e R s m args below meth cd G nL n0 s0 l1 l2 QQ (pc + 3) ls (st) M) → a_WS p l e R s m args below meth cd G nL n0 s0 l1 l2 QQ pc ls (.int y :: .int x :: st) M := by
  obtain ⟨hx, hb, hml, hown, hts, hTP, hini, hl9, hRc, hRs, hfr, hlo⟩ := C
  intro pc ls st M x y off tgt hd ht k0 k1 H locs cells slots lsA hH hlv h3 h4 h5 h6
  exact lv_icmp_eq hx hb hd ht (fun h => k0 h H locs cells slots lsA hH hlv h3 h4 h5 h6) (fun h => k1 h H locs cells slots lsA hH hlv h3 h4 h5 h6)
theorem s_if_ne (C : a_Cx p l e R s m args below meth cd G sc own cc nL ini n0 s0 l1 l2) : ∀ (pc : Nat) (ls : aL) (st : List Value) (M : aH) (x : Int32) (off : Int) (tgt : Nat), decode cc pc = .ok (.ifCond .ne off, 3) → ((pc : Int) + off = (tgt : Int)) → ((¬ x = 0) → a_WS p l e R s m args below meth cd G nL n0 s0 l1 l2 QQ (tgt) ls (st) M) → ((x = 0) → a_WS p l e R s m args below meth cd G nL n0 s0 l1 l2 QQ (pc + 3) ls (st) M) → a_WS p l e R s m args below meth cd G nL n0 s0 l1 l2 QQ pc ls (.int x :: st) M := by
  obtain ⟨hx, hb, hml, hown, hts, hTP, hini, hl9, hRc, hRs, hfr, hlo⟩ := C
  intro pc ls st M x off tgt hd ht k0 k1 H locs cells slots lsA hH hlv h3 h4 h5 h6
  exact lv_if_ne hx hb hd ht (fun h => k0 h H locs cells slots lsA hH hlv h3 h4 h5 h6) (fun h => k1 h H locs cells slots lsA hH hlv h3 h4 h5 h6)
theorem s_icmp_ne (C : a_Cx p l e R s m args below meth cd G sc own cc nL ini n0 s0 l1 l2) : ∀ (pc : Nat) (ls : aL) (st : List Value) (M : aH) (x y : Int32) (off : Int) (tgt : Nat), decode cc pc = .ok (.if_icmp .ne off, 3) → ((pc : Int) + off = (tgt : Int)) → ((¬ x = y) → a_WS p l e R s m args below meth cd G nL n0 s0 l1 l2 QQ (tgt) ls (st) M) → ((x = y) → a_WS p l e R s m args below meth cd G nL n0 s0 l1 l2 QQ (pc + 3) ls (st) M) → a_WS p l e R s m args below meth cd G nL n0 s0 l1 l2 QQ pc ls (.int y :: .int x :: st) M := by
  obtain ⟨hx, hb, hml, hown, hts, hTP, hini, hl9, hRc, hRs, hfr, hlo⟩ := C
  intro pc ls st M x y off tgt hd ht k0 k1 H locs cells slots lsA hH hlv h3 h4 h5 h6
  exact lv_icmp_ne hx hb hd ht (fun h => k0 h H locs cells slots lsA hH hlv h3 h4 h5 h6) (fun h => k1 h H locs cells slots lsA hH hlv h3 h4 h5 h6)
theorem s_if_lt (C : a_Cx p l e R s m args below meth cd G sc own cc nL ini n0 s0 l1 l2) : ∀ (pc : Nat) (ls : aL) (st : List Value) (M : aH) (x : Int32) (off : Int) (tgt : Nat), decode cc pc = .ok (.ifCond .lt off, 3) → ((pc : Int) + off = (tgt : Int)) → ((x < 0) → a_WS p l e R s m args below meth cd G nL n0 s0 l1 l2 QQ (tgt) ls (st) M) → ((¬ (x < 0)) → a_WS p l e R s m args below meth cd G nL n0 s0 l1 l2 QQ (pc + 3) ls (st) M) → a_WS p l e R s m args below meth cd G nL n0 s0 l1 l2 QQ pc ls (.int x :: st) M := by
  obtain ⟨hx, hb, hml, hown, hts, hTP, hini, hl9, hRc, hRs, hfr, hlo⟩ := C
  intro pc ls st M x off tgt hd ht k0 k1 H locs cells slots lsA hH hlv h3 h4 h5 h6
  exact lv_if_lt hx hb hd ht (fun h => k0 h H locs cells slots lsA hH hlv h3 h4 h5 h6) (fun h => k1 h H locs cells slots lsA hH hlv h3 h4 h5 h6)
theorem s_icmp_lt (C : a_Cx p l e R s m args below meth cd G sc own cc nL ini n0 s0 l1 l2) : ∀ (pc : Nat) (ls : aL) (st : List Value) (M : aH) (x y : Int32) (off : Int) (tgt : Nat), decode cc pc = .ok (.if_icmp .lt off, 3) → ((pc : Int) + off = (tgt : Int)) → ((x < y) → a_WS p l e R s m args below meth cd G nL n0 s0 l1 l2 QQ (tgt) ls (st) M) → ((¬ (x < y)) → a_WS p l e R s m args below meth cd G nL n0 s0 l1 l2 QQ (pc + 3) ls (st) M) → a_WS p l e R s m args below meth cd G nL n0 s0 l1 l2 QQ pc ls (.int y :: .int x :: st) M := by
  obtain ⟨hx, hb, hml, hown, hts, hTP, hini, hl9, hRc, hRs, hfr, hlo⟩ := C
  intro pc ls st M x y off tgt hd ht k0 k1 H locs cells slots lsA hH hlv h3 h4 h5 h6
  exact lv_icmp_lt hx hb hd ht (fun h => k0 h H locs cells slots lsA hH hlv h3 h4 h5 h6) (fun h => k1 h H locs cells slots lsA hH hlv h3 h4 h5 h6)
theorem s_if_ge (C : a_Cx p l e R s m args below meth cd G sc own cc nL ini n0 s0 l1 l2) : ∀ (pc : Nat) (ls : aL) (st : List Value) (M : aH) (x : Int32) (off : Int) (tgt : Nat), decode cc pc = .ok (.ifCond .ge off, 3) → ((pc : Int) + off = (tgt : Int)) → ((0 ≤ x) → a_WS p l e R s m args below meth cd G nL n0 s0 l1 l2 QQ (tgt) ls (st) M) → ((¬ (0 ≤ x)) → a_WS p l e R s m args below meth cd G nL n0 s0 l1 l2 QQ (pc + 3) ls (st) M) → a_WS p l e R s m args below meth cd G nL n0 s0 l1 l2 QQ pc ls (.int x :: st) M := by
  obtain ⟨hx, hb, hml, hown, hts, hTP, hini, hl9, hRc, hRs, hfr, hlo⟩ := C
  intro pc ls st M x off tgt hd ht k0 k1 H locs cells slots lsA hH hlv h3 h4 h5 h6
  exact lv_if_ge hx hb hd ht (fun h => k0 h H locs cells slots lsA hH hlv h3 h4 h5 h6) (fun h => k1 h H locs cells slots lsA hH hlv h3 h4 h5 h6)
theorem s_icmp_ge (C : a_Cx p l e R s m args below meth cd G sc own cc nL ini n0 s0 l1 l2) : ∀ (pc : Nat) (ls : aL) (st : List Value) (M : aH) (x y : Int32) (off : Int) (tgt : Nat), decode cc pc = .ok (.if_icmp .ge off, 3) → ((pc : Int) + off = (tgt : Int)) → ((y ≤ x) → a_WS p l e R s m args below meth cd G nL n0 s0 l1 l2 QQ (tgt) ls (st) M) → ((¬ (y ≤ x)) → a_WS p l e R s m args below meth cd G nL n0 s0 l1 l2 QQ (pc + 3) ls (st) M) → a_WS p l e R s m args below meth cd G nL n0 s0 l1 l2 QQ pc ls (.int y :: .int x :: st) M := by
  obtain ⟨hx, hb, hml, hown, hts, hTP, hini, hl9, hRc, hRs, hfr, hlo⟩ := C
  intro pc ls st M x y off tgt hd ht k0 k1 H locs cells slots lsA hH hlv h3 h4 h5 h6
  exact lv_icmp_ge hx hb hd ht (fun h => k0 h H locs cells slots lsA hH hlv h3 h4 h5 h6) (fun h => k1 h H locs cells slots lsA hH hlv h3 h4 h5 h6)
theorem s_if_gt (C : a_Cx p l e R s m args below meth cd G sc own cc nL ini n0 s0 l1 l2) : ∀ (pc : Nat) (ls : aL) (st : List Value) (M : aH) (x : Int32) (off : Int) (tgt : Nat), decode cc pc = .ok (.ifCond .gt off, 3) → ((pc : Int) + off = (tgt : Int)) → ((0 < x) → a_WS p l e R s m args below meth cd G nL n0 s0 l1 l2 QQ (tgt) ls (st) M) → ((¬ (0 < x)) → a_WS p l e R s m args below meth cd G nL n0 s0 l1 l2 QQ (pc + 3) ls (st) M) → a_WS p l e R s m args below meth cd G nL n0 s0 l1 l2 QQ pc ls (.int x :: st) M := by
  obtain ⟨hx, hb, hml, hown, hts, hTP, hini, hl9, hRc, hRs, hfr, hlo⟩ := C
  intro pc ls st M x off tgt hd ht k0 k1 H locs cells slots lsA hH hlv h3 h4 h5 h6
  exact lv_if_gt hx hb hd ht (fun h => k0 h H locs cells slots lsA hH hlv h3 h4 h5 h6) (fun h => k1 h H locs cells slots lsA hH hlv h3 h4 h5 h6)
theorem s_icmp_gt (C : a_Cx p l e R s m args below meth cd G sc own cc nL ini n0 s0 l1 l2) : ∀ (pc : Nat) (ls : aL) (st : List Value) (M : aH) (x y : Int32) (off : Int) (tgt : Nat), decode cc pc = .ok (.if_icmp .gt off, 3) → ((pc : Int) + off = (tgt : Int)) → ((y < x) → a_WS p l e R s m args below meth cd G nL n0 s0 l1 l2 QQ (tgt) ls (st) M) → ((¬ (y < x)) → a_WS p l e R s m args below meth cd G nL n0 s0 l1 l2 QQ (pc + 3) ls (st) M) → a_WS p l e R s m args below meth cd G nL n0 s0 l1 l2 QQ pc ls (.int y :: .int x :: st) M := by
  obtain ⟨hx, hb, hml, hown, hts, hTP, hini, hl9, hRc, hRs, hfr, hlo⟩ := C
  intro pc ls st M x y off tgt hd ht k0 k1 H locs cells slots lsA hH hlv h3 h4 h5 h6
  exact lv_icmp_gt hx hb hd ht (fun h => k0 h H locs cells slots lsA hH hlv h3 h4 h5 h6) (fun h => k1 h H locs cells slots lsA hH hlv h3 h4 h5 h6)
theorem s_if_le (C : a_Cx p l e R s m args below meth cd G sc own cc nL ini n0 s0 l1 l2) : ∀ (pc : Nat) (ls : aL) (st : List Value) (M : aH) (x : Int32) (off : Int) (tgt : Nat), decode cc pc = .ok (.ifCond .le off, 3) → ((pc : Int) + off = (tgt : Int)) → ((x ≤ 0) → a_WS p l e R s m args below meth cd G nL n0 s0 l1 l2 QQ (tgt) ls (st) M) → ((¬ (x ≤ 0)) → a_WS p l e R s m args below meth cd G nL n0 s0 l1 l2 QQ (pc + 3) ls (st) M) → a_WS p l e R s m args below meth cd G nL n0 s0 l1 l2 QQ pc ls (.int x :: st) M := by
  obtain ⟨hx, hb, hml, hown, hts, hTP, hini, hl9, hRc, hRs, hfr, hlo⟩ := C
  intro pc ls st M x off tgt hd ht k0 k1 H locs cells slots lsA hH hlv h3 h4 h5 h6
  exact lv_if_le hx hb hd ht (fun h => k0 h H locs cells slots lsA hH hlv h3 h4 h5 h6) (fun h => k1 h H locs cells slots lsA hH hlv h3 h4 h5 h6)
theorem s_icmp_le (C : a_Cx p l e R s m args below meth cd G sc own cc nL ini n0 s0 l1 l2) : ∀ (pc : Nat) (ls : aL) (st : List Value) (M : aH) (x y : Int32) (off : Int) (tgt : Nat), decode cc pc = .ok (.if_icmp .le off, 3) → ((pc : Int) + off = (tgt : Int)) → ((x ≤ y) → a_WS p l e R s m args below meth cd G nL n0 s0 l1 l2 QQ (tgt) ls (st) M) → ((¬ (x ≤ y)) → a_WS p l e R s m args below meth cd G nL n0 s0 l1 l2 QQ (pc + 3) ls (st) M) → a_WS p l e R s m args below meth cd G nL n0 s0 l1 l2 QQ pc ls (.int y :: .int x :: st) M := by
  obtain ⟨hx, hb, hml, hown, hts, hTP, hini, hl9, hRc, hRs, hfr, hlo⟩ := C
  intro pc ls st M x y off tgt hd ht k0 k1 H locs cells slots lsA hH hlv h3 h4 h5 h6
  exact lv_icmp_le hx hb hd ht (fun h => k0 h H locs cells slots lsA hH hlv h3 h4 h5 h6) (fun h => k1 h H locs cells slots lsA hH hlv h3 h4 h5 h6)
theorem s_tabOut (C : a_Cx p l e R s m args below meth cd G sc own cc nL ini n0 s0 l1 l2) : ∀ (pc : Nat) (ls : aL) (st : List Value) (M : aH) (dflt lo hi : Int) (offs : Array Int) (len : Nat) (x : Int32) (tgt : Nat), decode cc pc = .ok (.tableswitch dflt lo hi offs, len) → (x.toInt < lo ∨ hi < x.toInt) → ((pc : Int) + dflt = (tgt : Int)) → a_WS p l e R s m args below meth cd G nL n0 s0 l1 l2 QQ (tgt) ls (st) M → a_WS p l e R s m args below meth cd G nL n0 s0 l1 l2 QQ pc ls (.int x :: st) M := by
  obtain ⟨hx, hb, hml, hown, hts, hTP, hini, hl9, hRc, hRs, hfr, hlo⟩ := C
  intro pc ls st M dflt lo hi offs len x tgt hd h ht k0 H locs cells slots lsA hH hlv h3 h4 h5 h6
  exact lv_tableOut hx hb hd h ht (k0 H locs cells slots lsA hH hlv h3 h4 h5 h6)
theorem s_tabIn (C : a_Cx p l e R s m args below meth cd G sc own cc nL ini n0 s0 l1 l2) : ∀ (pc : Nat) (ls : aL) (st : List Value) (M : aH) (dflt lo hi : Int) (offs : Array Int) (len : Nat) (x : Int32) (off : Int) (tgt : Nat), decode cc pc = .ok (.tableswitch dflt lo hi offs, len) → (¬ x.toInt < lo) → (¬ hi < x.toInt) → (offs[(x.toInt - lo).toNat]? = some off) → ((pc : Int) + off = (tgt : Int)) → a_WS p l e R s m args below meth cd G nL n0 s0 l1 l2 QQ (tgt) ls (st) M → a_WS p l e R s m args below meth cd G nL n0 s0 l1 l2 QQ pc ls (.int x :: st) M := by
  obtain ⟨hx, hb, hml, hown, hts, hTP, hini, hl9, hRc, hRs, hfr, hlo⟩ := C
  intro pc ls st M dflt lo hi offs len x off tgt hd h1 h2 ho ht k0 H locs cells slots lsA hH hlv h3 h4 h5 h6
  exact lv_tableIn hx hb hd h1 h2 ho ht (k0 H locs cells slots lsA hH hlv h3 h4 h5 h6)
theorem s_ldc2 (C : a_Cx p l e R s m args below meth cd G sc own cc nL ini n0 s0 l1 l2) : ∀ (pc : Nat) (ls : aL) (st : List Value) (M : aH) (idx : Nat) (v : Int64), decode cc pc = .ok (.ldc2_w idx, 3) → (Cond.constantLong own idx v ∈ a_gw) → a_WS p l e R s m args below meth cd G nL n0 s0 l1 l2 QQ (pc + 3) ls (.long v :: st) M → a_WS p l e R s m args below meth cd G nL n0 s0 l1 l2 QQ pc ls (st) M := by
  obtain ⟨hx, hb, hml, hown, hts, hTP, hini, hl9, hRc, hRs, hfr, hlo⟩ := C
  intro pc ls st M idx v hd hw k0 H locs cells slots lsA hH hlv h3 h4 h5 h6
  exact lv_ldc2 hx hb hown (hts _ hw) hd (k0 H locs cells slots lsA hH hlv h3 h4 h5 h6)
theorem s_get (C : a_Cx p l e R s m args below meth cd G sc own cc nL ini n0 s0 l1 l2) : ∀ (pc : Nat) (ls : aL) (st : List Value) (M : aH) (idx a c k : Nat) (vs : List Value) (v : Value), decode cc pc = .ok (.getfield idx, 3) → (a_GF own idx c k) → (M[a]? = some (.inr (c, vs))) → (vs[k]? = some v) → a_WS p l e R s m args below meth cd G nL n0 s0 l1 l2 QQ (pc + 3) ls (v :: st) M → a_WS p l e R s m args below meth cd G nL n0 s0 l1 l2 QQ pc ls (.ref a :: st) M := by
  obtain ⟨hx, hb, hml, hown, hts, hTP, hini, hl9, hRc, hRs, hfr, hlo⟩ := C
  intro pc ls st M idx a c k vs v hd hg hm hv k0 H locs cells slots lsA hH hlv h3 h4 h5 h6
  obtain ⟨⟨C, T, N⟩, hc, hkN, hlink, hdecl⟩ := hg
  dsimp only at hc hkN hlink hdecl
  show W p l e R s m args below meth cd H locs cells slots QQ (F0 m pc lsA (.ref (a_ad G a) :: st.map (a_tr G)))
  rw [hH.ad (hH.lt hm)]
  exact va_get (D := a_D G) (ref := C) hx hb hts (a_in c _ hc) hown hTP.1 hH.1 a (a_ws_get hm) hc k hkN (hts _ hlink) (fun x h9 => by rw [hdecl] at h9; exact h9) (by show (vs.map (a_tr G))[k]? = _; rw [List.getElem?_map, hv]; rfl) hd (k0 H locs cells slots lsA hH hlv h3 h4 h5 h6)
theorem s_puti (C : a_Cx p l e R s m args below meth cd G sc own cc nL ini n0 s0 l1 l2) : ∀ (pc : Nat) (ls : aL) (st : List Value) (M : aH) (idx a c k : Nat) (vs : List Value) (ty : FieldType) (x : Int32), decode cc pc = .ok (.putfield idx, 3) → (a_PF own idx c k false ty) → (M[a]? = some (.inr (c, vs))) → (k < vs.length) → (narrow ty (.int x) = .int x) → (fits ty (.int x) = true) → a_WS p l e R s m args below meth cd G nL n0 s0 l1 l2 QQ (pc + 3) ls (st) (M.set a (.inr (c, vs.set k (.int x)))) → a_WS p l e R s m args below meth cd G nL n0 s0 l1 l2 QQ pc ls (.int x :: .ref a :: st) M := by
  obtain ⟨hx, hb, hml, hown, hts, hTP, hini, hl9, hRc, hRs, hfr, hlo⟩ := C
  intro pc ls st M idx a c k vs ty x hd hg hm hk hn hf k0 H locs cells slots lsA hH hlv h3 h4 h5 h6
  obtain ⟨⟨C, T, N⟩, hc, hkN, hlink, hdecl, hfin, hpd, hself⟩ := hg
  dsimp only at hc hkN hlink hdecl hfin hpd hself
  have hin := a_in c _ hc
  obtain ⟨ty0, hty, hnm⟩ := a_clsOK c _ hc
  have hK := hTP.1
  have hap := va_apart (own := own) hts hin ty0 hty hnm hK hc
  obtain ⟨r', h1', cell, q1, q2, q3, q4⟩ := hH.1 a _ (a_ws_get hm)
  have hr : r' = (C, T, N) := Option.some.inj (h1'.symm.trans hc)
  subst hr
  obtain ⟨hS, hfc, kC, hkC, hkind⟩ := hK.1 c _ hc
  obtain ⟨cf, kf, fi, f, hi, hsl⟩ := hS k hkN
  have hlay := hts _ (hin _ (u_in_lay hkN))
  unfold u_lay at hlay
  rw [if_neg (by rw [hfin]; decide)] at hlay
  have hst := (u_facts hfc hkC (u_lays hts hin hkN) hi).1
  have h6' := u_store hfc hkC hkind hlay hi hpd hn hf
  show W p l e R s m args below meth cd H locs cells slots QQ (F0 m pc lsA (.int x :: .ref (a_ad G a) :: st.map (a_tr G)))
  rw [hH.ad (hH.lt hm)]
  refine W.putK hx hb (f := f) (ref := C) ⟨hown, hts _ hlink, ⟨_, _, _, by rw [hdecl] at hi; exact hi⟩, hst⟩ (by rw [q2]; exact h6') q1 q3 (by rw [hsl]; exact k2_hasslot (q4 k hkN)) rfl rfl hd fun H' e1 e2 e3 => ?_
  rw [hsl] at e1 ⊢
  refine k0 H' _ cells slots lsA (hH.set hm (e := .inr (c, vs.set k (.int x))) ⟨_, hc, ?_⟩ e2 e3 _) hlv (by rw [List.length_set]; exact h3) (by rw [a_sum_set hm (by simp [a_sz])]; exact h4) (by rw [List.length_set]; exact h5) (by rw [a_sum_set hm (by simp [a_sz])]; exact h6)
  have hob := t_OB.to (V := updV (vp_V (vs.map (a_tr G))) k (.int x)) (V' := vp_V ((vs.set k (.int x)).map (a_tr G))) (N := N) ⟨_, e1, q2, q3, t_set q4 hap hkN _⟩ (fun j _ => by
    rw [vp_updV_set (by rw [List.length_map]; exact hk), List.map_set]
    rfl)
  exact hob
theorem s_putl (C : a_Cx p l e R s m args below meth cd G sc own cc nL ini n0 s0 l1 l2) : ∀ (pc : Nat) (ls : aL) (st : List Value) (M : aH) (idx a c k : Nat) (vs : List Value) (x : Int64), decode cc pc = .ok (.putfield idx, 3) → (a_PF own idx c k false .long) → (M[a]? = some (.inr (c, vs))) → (k < vs.length) → a_WS p l e R s m args below meth cd G nL n0 s0 l1 l2 QQ (pc + 3) ls (st) (M.set a (.inr (c, vs.set k (.long x)))) → a_WS p l e R s m args below meth cd G nL n0 s0 l1 l2 QQ pc ls (.long x :: .ref a :: st) M := by
  obtain ⟨hx, hb, hml, hown, hts, hTP, hini, hl9, hRc, hRs, hfr, hlo⟩ := C
  intro pc ls st M idx a c k vs x hd hg hm hk k0 H locs cells slots lsA hH hlv h3 h4 h5 h6
  obtain ⟨⟨C, T, N⟩, hc, hkN, hlink, hdecl, hfin, hpd, hself⟩ := hg
  dsimp only at hc hkN hlink hdecl hfin hpd hself
  have hin := a_in c _ hc
  obtain ⟨ty0, hty, hnm⟩ := a_clsOK c _ hc
  have hK := hTP.1
  have hap := va_apart (own := own) hts hin ty0 hty hnm hK hc
  obtain ⟨r', h1', cell, q1, q2, q3, q4⟩ := hH.1 a _ (a_ws_get hm)
  have hr : r' = (C, T, N) := Option.some.inj (h1'.symm.trans hc)
  subst hr
  obtain ⟨hS, hfc, kC, hkC, hkind⟩ := hK.1 c _ hc
  obtain ⟨cf, kf, fi, f, hi, hsl⟩ := hS k hkN
  have hlay := hts _ (hin _ (u_in_lay hkN))
  unfold u_lay at hlay
  rw [if_neg (by rw [hfin]; decide)] at hlay
  have hst := (u_facts hfc hkC (u_lays hts hin hkN) hi).1
  have h6' := u_store hfc hkC hkind hlay hi hpd (v := .long x) rfl rfl
  show W p l e R s m args below meth cd H locs cells slots QQ (F0 m pc lsA (.long x :: .ref (a_ad G a) :: st.map (a_tr G)))
  rw [hH.ad (hH.lt hm)]
  refine W.putK hx hb (f := f) (ref := C) ⟨hown, hts _ hlink, ⟨_, _, _, by rw [hdecl] at hi; exact hi⟩, hst⟩ (by rw [q2]; exact h6') q1 q3 (by rw [hsl]; exact k2_hasslot (q4 k hkN)) rfl rfl hd fun H' e1 e2 e3 => ?_
  rw [hsl] at e1 ⊢
  refine k0 H' _ cells slots lsA (hH.set hm (e := .inr (c, vs.set k (.long x))) ⟨_, hc, ?_⟩ e2 e3 _) hlv (by rw [List.length_set]; exact h3) (by rw [a_sum_set hm (by simp [a_sz])]; exact h4) (by rw [List.length_set]; exact h5) (by rw [a_sum_set hm (by simp [a_sz])]; exact h6)
  have hob := t_OB.to (V := updV (vp_V (vs.map (a_tr G))) k (.long x)) (V' := vp_V ((vs.set k (.long x)).map (a_tr G))) (N := N) ⟨_, e1, q2, q3, t_set q4 hap hkN _⟩ (fun j _ => by
    rw [vp_updV_set (by rw [List.length_map]; exact hk), List.map_set]
    rfl)
  exact hob
theorem s_putF (C : a_Cx p l e R s m args below meth cd G sc own cc nL ini n0 s0 l1 l2) : ∀ (pc : Nat) (ls : aL) (st : List Value) (M : aH) (idx a c k b : Nat) (vs : List Value) (ty : FieldType), decode cc pc = .ok (.putfield idx, 3) → (ini = true) → (a_PF own idx c k true ty) → (M[a]? = some (.inr (c, vs))) → (k < vs.length) → (b < M.length) → (∀ q, narrow ty (.ref q) = .ref q ∧ fits ty (.ref q) = true) → a_WS p l e R s m args below meth cd G nL n0 s0 l1 l2 QQ (pc + 3) ls (st) (M.set a (.inr (c, vs.set k (.ref b)))) → a_WS p l e R s m args below meth cd G nL n0 s0 l1 l2 QQ pc ls (.ref b :: .ref a :: st) M := by
  obtain ⟨hx, hb, hml, hown, hts, hTP, hini, hl9, hRc, hRs, hfr, hlo⟩ := C
  intro pc ls st M idx a c k b vs ty hd hi0 hg hm hk hbb hn k0 H locs cells slots lsA hH hlv h3 h4 h5 h6
  obtain ⟨⟨C, T, N⟩, hc, hkN, hlink, hdecl, hfin, hpd, hself⟩ := hg
  dsimp only at hc hkN hlink hdecl hfin hpd hself
  have hin := a_in c _ hc
  obtain ⟨ty0, hty, hnm⟩ := a_clsOK c _ hc
  have hK := hTP.1
  have hap := va_apart (own := own) hts hin ty0 hty hnm hK hc
  obtain ⟨r', h1', cell, q1, q2, q3, q4⟩ := hH.1 a _ (a_ws_get hm)
  have hr : r' = (C, T, N) := Option.some.inj (h1'.symm.trans hc)
  subst hr
  obtain ⟨hS, hfc, kC, hkC, hkind⟩ := hK.1 c _ hc
  obtain ⟨cf, kf, fi, f, hi, hsl⟩ := hS k hkN
  have hlay := hts _ (hin _ (u_in_lay hkN))
  unfold u_lay at hlay
  rw [if_pos hfin] at hlay
  have hst := (u_facts hfc hkC (u_lays hts hin hkN) hi).1
  have hcf : m.cls = cf := by
    obtain ⟨_, _, c', _, _, _, -, -, hf', -, -, -, hown2, -⟩ := Cond.laysFinal_spec hlay
    have e1 : c' = cf := by have := hi.symm.trans hf'; simp at this; exact this.1.symm
    rw [hdecl, hself rfl] at hown2
    rw [← e1]; exact Option.some.inj (hown.symm.trans hown2)
  have h6' := u_fits hfc hkC hkind (Or.inr hlay) hi hpd (v := .ref (a_ad G b)) (hn _).1 (hn _).2
  show W p l e R s m args below meth cd H locs cells slots QQ (F0 m pc lsA (.ref (a_ad G b) :: .ref (a_ad G a) :: st.map (a_tr G)))
  rw [hH.ad (hH.lt hm)]
  refine W.putFinK hx hb hown (hts _ hlink) (by rw [hdecl] at hi; exact hi) hst hcf (hini hi0) (by rw [q2]; exact h6') q1 q3 (by rw [hsl]; exact k2_hasslot (q4 k hkN)) rfl rfl hd fun H' e1 e2 e3 => ?_
  rw [hsl] at e1 ⊢
  refine k0 H' _ cells slots lsA (hH.set hm (e := .inr (c, vs.set k (.ref b))) ⟨_, hc, ?_⟩ e2 e3 _) hlv (by rw [List.length_set]; exact h3) (by rw [a_sum_set hm (by simp [a_sz])]; exact h4) (by rw [List.length_set]; exact h5) (by rw [a_sum_set hm (by simp [a_sz])]; exact h6)
  have hob := t_OB.to (V := updV (vp_V (vs.map (a_tr G))) k (.ref (a_ad G b))) (V' := vp_V ((vs.set k (.ref b)).map (a_tr G))) (N := N) ⟨_, e1, q2, q3, t_set q4 hap hkN _⟩ (fun j _ => by
    rw [vp_updV_set (by rw [List.length_map]; exact hk), List.map_set]
    rfl)
  exact hob
theorem s_gets (C : a_Cx p l e R s m args below meth cd G sc own cc nL ini n0 s0 l1 l2) : ∀ (pc : Nat) (ls : aL) (st : List Value) (M : aH) (idx i : Nat), decode cc pc = .ok (.getstatic idx, 3) → (a_GS own idx i) → a_WS p l e R s m args below meth cd G nL n0 s0 l1 l2 QQ (pc + 3) ls (.ref (100000 + i) :: st) M → a_WS p l e R s m args below meth cd G nL n0 s0 l1 l2 QQ pc ls (st) M := by
  obtain ⟨hx, hb, hml, hown, hts, hTP, hini, hl9, hRc, hRs, hfr, hlo⟩ := C
  intro pc ls st M idx i hd hg k0 H locs cells slots lsA hH hlv h3 h4 h5 h6
  obtain ⟨n, hn, hl⟩ := hg
  obtain ⟨cf, kf, fi, f, a, cell, z1, z2, z3, z4, z5, z6, z7, z8⟩ := hTP.2.2.2.2.1 i n hn
  have hcell : H[a]? = some cell := by rw [hH.2.1.2.1 a (Array.getElem?_eq_some_iff.mp z5).1 z8]; exact z5
  have k1 := k0 H locs cells slots lsA hH hlv h3 h4 h5 h6
  rw [show (Value.ref (100000 + i) :: st).map (a_tr G) = .ref (G.2.2.2.2 i) :: st.map (a_tr G) by rw [List.map_cons]; show Value.ref (a_ad G (100000 + i)) :: _ = _; rw [a_ad_s]] at k1
  rcases hl with hl | hl
  · exact W.gets hx hb hown (hts _ hl) z1 z2 z3 z4 hcell (fun e => by rw [e] at z6; cases z6) z7 rfl hd k1
  · exact va_WgetsN hx hb hown (va_Nw.use rfl (hTP.2.2.1 _ hl)) z1 z2 z3 z4 hcell (fun e => by rw [e] at z6; cases z6) z7 rfl hd k1
theorem s_iald (C : a_Cx p l e R s m args below meth cd G sc own cc nL ini n0 s0 l1 l2) : ∀ (pc : Nat) (ls : aL) (st : List Value) (M : aH) (a n : Nat) (f : Nat → Int32) (i : Int32), decode cc pc = .ok (.iaload, 1) → (M[a]? = some (.inl (100, n, .inl f))) → (vp_in i n) → a_WS p l e R s m args below meth cd G nL n0 s0 l1 l2 QQ (pc + 1) ls (.int (f i.toNatClampNeg) :: st) M → a_WS p l e R s m args below meth cd G nL n0 s0 l1 l2 QQ pc ls (.int i :: .ref a :: st) M := by
  obtain ⟨hx, hb, hml, hown, hts, hTP, hini, hl9, hRc, hRs, hfr, hlo⟩ := C
  intro pc ls st M a n f i hd hm hin k0 H locs cells slots lsA hH hlv h3 h4 h5 h6
  show W p l e R s m args below meth cd H locs cells slots QQ (F0 m pc lsA (.int i :: .ref (a_ad G a) :: st.map (a_tr G)))
  rw [hH.ad (hH.lt hm)]
  exact va_iald (D := a_D G) hx hb hTP.1 hH.1 a 0 (a_ws_get hm) rfl hin hd (k0 H locs cells slots lsA hH hlv h3 h4 h5 h6)
theorem s_sald (C : a_Cx p l e R s m args below meth cd G sc own cc nL ini n0 s0 l1 l2) : ∀ (pc : Nat) (ls : aL) (st : List Value) (M : aH) (j n : Nat) (f : Nat → Int32) (i : Int32), decode cc pc = .ok (.iaload, 1) → (sc[j]? = some (n, f)) → (vp_in i n) → a_WS p l e R s m args below meth cd G nL n0 s0 l1 l2 QQ (pc + 1) ls (.int (f i.toNatClampNeg) :: st) M → a_WS p l e R s m args below meth cd G nL n0 s0 l1 l2 QQ pc ls (.int i :: .ref (100000 + j) :: st) M := by
  obtain ⟨hx, hb, hml, hown, hts, hTP, hini, hl9, hRc, hRs, hfr, hlo⟩ := C
  intro pc ls st M j n f i hd hm hin k0 H locs cells slots lsA hH hlv h3 h4 h5 h6
  obtain ⟨cell, t1, t2, t3, t4, t5, t6, t7⟩ := hTP.2.2.2.2.2 j _ hm
  have hlt : i.toNatClampNeg < n := Nat.not_le.mp fun q => hin (Or.inr q)
  have hin' : ¬ (i < 0 ∨ cell.slots.size ≤ i.toNatClampNeg) := by
    intro q
    rcases q with q | q
    · exact hin (Or.inl q)
    · have : n ≤ cell.slots.size := t4
      omega
  show W p l e R s m args below meth cd H locs cells slots QQ (F0 m pc lsA (.int i :: .ref (a_ad G (100000 + j)) :: st.map (a_tr G)))
  rw [a_ad_s]
  exact W.iald hx hb (by rw [hH.2.1.2.1 _ (Array.getElem?_eq_some_iff.mp t1).1 t7]; exact t1) t2 t3 hin' (t6 _ hlt) rfl rfl hd (k0 H locs cells slots lsA hH hlv h3 h4 h5 h6)
theorem s_bald (C : a_Cx p l e R s m args below meth cd G sc own cc nL ini n0 s0 l1 l2) : ∀ (pc : Nat) (ls : aL) (st : List Value) (M : aH) (a n : Nat) (f : Nat → Int32) (i : Int32), decode cc pc = .ok (.baload, 1) → (M[a]? = some (.inl (101, n, .inl f))) → (vp_in i n) → a_WS p l e R s m args below meth cd G nL n0 s0 l1 l2 QQ (pc + 1) ls (.int (f i.toNatClampNeg) :: st) M → a_WS p l e R s m args below meth cd G nL n0 s0 l1 l2 QQ pc ls (.int i :: .ref a :: st) M := by
  obtain ⟨hx, hb, hml, hown, hts, hTP, hini, hl9, hRc, hRs, hfr, hlo⟩ := C
  intro pc ls st M a n f i hd hm hin k0 H locs cells slots lsA hH hlv h3 h4 h5 h6
  show W p l e R s m args below meth cd H locs cells slots QQ (F0 m pc lsA (.int i :: .ref (a_ad G a) :: st.map (a_tr G)))
  rw [hH.ad (hH.lt hm)]
  exact va_bald (D := a_D G) hx hb hTP.1 hH.1 a 1 (a_ws_get hm) rfl hin hd (k0 H locs cells slots lsA hH hlv h3 h4 h5 h6)
theorem s_zald (C : a_Cx p l e R s m args below meth cd G sc own cc nL ini n0 s0 l1 l2) : ∀ (pc : Nat) (ls : aL) (st : List Value) (M : aH) (a n : Nat) (f : Nat → Int32) (i : Int32), decode cc pc = .ok (.baload, 1) → (M[a]? = some (.inl (102, n, .inl f))) → (vp_in i n) → a_WS p l e R s m args below meth cd G nL n0 s0 l1 l2 QQ (pc + 1) ls (.int (f i.toNatClampNeg) :: st) M → a_WS p l e R s m args below meth cd G nL n0 s0 l1 l2 QQ pc ls (.int i :: .ref a :: st) M := by
  obtain ⟨hx, hb, hml, hown, hts, hTP, hini, hl9, hRc, hRs, hfr, hlo⟩ := C
  intro pc ls st M a n f i hd hm hin k0 H locs cells slots lsA hH hlv h3 h4 h5 h6
  show W p l e R s m args below meth cd H locs cells slots QQ (F0 m pc lsA (.int i :: .ref (a_ad G a) :: st.map (a_tr G)))
  rw [hH.ad (hH.lt hm)]
  exact va_zald (D := a_D G) hx hb hTP.1 hH.1 a 2 (a_ws_get hm) rfl hin hd (k0 H locs cells slots lsA hH hlv h3 h4 h5 h6)
theorem s_aald (C : a_Cx p l e R s m args below meth cd G sc own cc nL ini n0 s0 l1 l2) : ∀ (pc : Nat) (ls : aL) (st : List Value) (M : aH) (a c n b : Nat) (f : Nat → Option Nat) (i : Int32), decode cc pc = .ok (.aaload, 1) → ((vwCl[c]?.map (·.1)).any (a_ao.contains ·) = true) → (M[a]? = some (.inl (110 + c, n, .inr f))) → (vp_in i n) → (f i.toNatClampNeg = some b) → a_WS p l e R s m args below meth cd G nL n0 s0 l1 l2 QQ (pc + 1) ls (.ref b :: st) M → a_WS p l e R s m args below meth cd G nL n0 s0 l1 l2 QQ pc ls (.int i :: .ref a :: st) M := by
  obtain ⟨hx, hb, hml, hown, hts, hTP, hini, hl9, hRc, hRs, hfr, hlo⟩ := C
  intro pc ls st M a c n b f i hd hc hm hin hb0 k0 H locs cells slots lsA hH hlv h3 h4 h5 h6
  obtain ⟨t0, C, ht0⟩ := a_tyq G hc
  show W p l e R s m args below meth cd H locs cells slots QQ (F0 m pc lsA (.int i :: .ref (a_ad G a) :: st.map (a_tr G)))
  rw [hH.ad (hH.lt hm)]
  refine va_aldq (D := a_D G) hx hb hTP.1 hH.1 a t0 (a_ws_get hm) ht0 hin hd ?_
  rw [show ((f i.toNatClampNeg).map (a_ad G)) = some (a_ad G b) by rw [hb0]; rfl]
  exact (k0 H locs cells slots lsA hH hlv h3 h4 h5 h6)
theorem s_iast (C : a_Cx p l e R s m args below meth cd G sc own cc nL ini n0 s0 l1 l2) : ∀ (pc : Nat) (ls : aL) (st : List Value) (M : aH) (a n : Nat) (f : Nat → Int32) (i x : Int32), decode cc pc = .ok (.iastore, 1) → (M[a]? = some (.inl (100, n, .inl f))) → (vp_in i n) → a_WS p l e R s m args below meth cd G nL n0 s0 l1 l2 QQ (pc + 1) ls (st) (M.set a (.inl (100, n, .inl (upd f i.toNatClampNeg x)))) → a_WS p l e R s m args below meth cd G nL n0 s0 l1 l2 QQ pc ls (.int x :: .int i :: .ref a :: st) M := by
  obtain ⟨hx, hb, hml, hown, hts, hTP, hini, hl9, hRc, hRs, hfr, hlo⟩ := C
  intro pc ls st M a n f i x hd hm hin k0 H locs cells slots lsA hH hlv h3 h4 h5 h6
  show W p l e R s m args below meth cd H locs cells slots QQ (F0 m pc lsA (.int x :: .int i :: .ref (a_ad G a) :: st.map (a_tr G)))
  rw [hH.ad (hH.lt hm)]
  have hc1 : H[G.1.size + a]? = some (vp_cell (G.2.2.2.1 100) (n, .inl f)) := hH.1 a _ (a_ws_get hm)
  refine W.iast hx hb hc1 ((hTP.1.2 0 _ rfl).1 n (fun j => .int (f j))) (fun q => by cases q) (by show ¬ (i < 0 ∨ (arrV _ _ _).slots.size ≤ _); rw [arrV_size]; exact hin) rfl rfl hd fun H1 e z oq => ?_
  refine k0 H1 _ cells slots lsA (hH.set hm (e := .inl (100, n, .inl (upd f i.toNatClampNeg x))) ?_ z oq _) hlv (by rw [List.length_set]; exact h3) (by rw [a_sum_set hm (by rfl)]; exact h4) (by rw [List.length_set]; exact h5) (by rw [a_sum_set hm (by rfl)]; exact h6)
  show H1[G.1.size + a]? = some (vp_cell _ _)
  rw [e, vp_cell_i, vp_cell_i, arrV_store]
  congr 2
  funext q
  by_cases hq : q = i.toNatClampNeg
  · subst hq
    simp [updV, upd]
  · simp [updV, upd, hq]
theorem s_bast (C : a_Cx p l e R s m args below meth cd G sc own cc nL ini n0 s0 l1 l2) : ∀ (pc : Nat) (ls : aL) (st : List Value) (M : aH) (a n : Nat) (f : Nat → Int32) (i x : Int32), decode cc pc = .ok (.bastore, 1) → (M[a]? = some (.inl (101, n, .inl f))) → (vp_in i n) → (narrow .byte (.int x) = .int x) → a_WS p l e R s m args below meth cd G nL n0 s0 l1 l2 QQ (pc + 1) ls (st) (M.set a (.inl (101, n, .inl (upd f i.toNatClampNeg x)))) → a_WS p l e R s m args below meth cd G nL n0 s0 l1 l2 QQ pc ls (.int x :: .int i :: .ref a :: st) M := by
  obtain ⟨hx, hb, hml, hown, hts, hTP, hini, hl9, hRc, hRs, hfr, hlo⟩ := C
  intro pc ls st M a n f i x hd hm hin hn k0 H locs cells slots lsA hH hlv h3 h4 h5 h6
  show W p l e R s m args below meth cd H locs cells slots QQ (F0 m pc lsA (.int x :: .int i :: .ref (a_ad G a) :: st.map (a_tr G)))
  rw [hH.ad (hH.lt hm)]
  have hc1 : H[G.1.size + a]? = some (vp_cell (G.2.2.2.1 101) (n, .inl f)) := hH.1 a _ (a_ws_get hm)
  refine W.bast hx hb hc1 ((hTP.1.2 1 _ rfl).1 n (fun j => .int (f j))) (fun q => by cases q) (by show ¬ (i < 0 ∨ (arrV _ _ _).slots.size ≤ _); rw [arrV_size]; exact hin) rfl rfl hd fun H1 e z oq => ?_
  refine k0 H1 _ cells slots lsA (hH.set hm (e := .inl (101, n, .inl (upd f i.toNatClampNeg x))) ?_ z oq _) hlv (by rw [List.length_set]; exact h3) (by rw [a_sum_set hm (by rfl)]; exact h4) (by rw [List.length_set]; exact h5) (by rw [a_sum_set hm (by rfl)]; exact h6)
  show H1[G.1.size + a]? = some (vp_cell _ _)
  rw [e, hn, vp_cell_i, vp_cell_i, arrV_store]
  congr 2
  funext q
  by_cases hq : q = i.toNatClampNeg
  · subst hq
    simp [updV, upd]
  · simp [updV, upd, hq]
theorem s_zast (C : a_Cx p l e R s m args below meth cd G sc own cc nL ini n0 s0 l1 l2) : ∀ (pc : Nat) (ls : aL) (st : List Value) (M : aH) (a n : Nat) (f : Nat → Int32) (i x : Int32), decode cc pc = .ok (.bastore, 1) → (M[a]? = some (.inl (102, n, .inl f))) → (vp_in i n) → (narrow .boolean (.int x) = .int x) → a_WS p l e R s m args below meth cd G nL n0 s0 l1 l2 QQ (pc + 1) ls (st) (M.set a (.inl (102, n, .inl (upd f i.toNatClampNeg x)))) → a_WS p l e R s m args below meth cd G nL n0 s0 l1 l2 QQ pc ls (.int x :: .int i :: .ref a :: st) M := by
  obtain ⟨hx, hb, hml, hown, hts, hTP, hini, hl9, hRc, hRs, hfr, hlo⟩ := C
  intro pc ls st M a n f i x hd hm hin hn k0 H locs cells slots lsA hH hlv h3 h4 h5 h6
  show W p l e R s m args below meth cd H locs cells slots QQ (F0 m pc lsA (.int x :: .int i :: .ref (a_ad G a) :: st.map (a_tr G)))
  rw [hH.ad (hH.lt hm)]
  have hc1 : H[G.1.size + a]? = some (vp_cell (G.2.2.2.1 102) (n, .inl f)) := hH.1 a _ (a_ws_get hm)
  refine W.zast hx hb hc1 ((hTP.1.2 2 _ rfl).1 n (fun j => .int (f j))) (fun q => by cases q) (by show ¬ (i < 0 ∨ (arrV _ _ _).slots.size ≤ _); rw [arrV_size]; exact hin) rfl rfl hd fun H1 e z oq => ?_
  refine k0 H1 _ cells slots lsA (hH.set hm (e := .inl (102, n, .inl (upd f i.toNatClampNeg x))) ?_ z oq _) hlv (by rw [List.length_set]; exact h3) (by rw [a_sum_set hm (by rfl)]; exact h4) (by rw [List.length_set]; exact h5) (by rw [a_sum_set hm (by rfl)]; exact h6)
  show H1[G.1.size + a]? = some (vp_cell _ _)
  rw [e, hn, vp_cell_i, vp_cell_i, arrV_store]
  congr 2
  funext q
  by_cases hq : q = i.toNatClampNeg
  · subst hq
    simp [updV, upd]
  · simp [updV, upd, hq]
theorem s_aast (C : a_Cx p l e R s m args below meth cd G sc own cc nL ini n0 s0 l1 l2) : ∀ (pc : Nat) (ls : aL) (st : List Value) (M : aH) (a c n b : Nat) (f : Nat → Option Nat) (vs : List Value) (i : Int32), decode cc pc = .ok (.aastore, 1) → ((vwCl[c]?.map (·.1)).any (a_ao.contains ·) = true) → (M[a]? = some (.inl (110 + c, n, .inr f))) → (vp_in i n) → (M[b]? = some (.inr (c, vs))) → a_WS p l e R s m args below meth cd G nL n0 s0 l1 l2 QQ (pc + 1) ls (st) (M.set a (.inl (110 + c, n, .inr (a_up f i.toNatClampNeg (some b))))) → a_WS p l e R s m args below meth cd G nL n0 s0 l1 l2 QQ pc ls (.ref b :: .int i :: .ref a :: st) M := by
  obtain ⟨hx, hb, hml, hown, hts, hTP, hini, hl9, hRc, hRs, hfr, hlo⟩ := C
  intro pc ls st M a c n b f vs i hd hc hm hin hb0 k0 H locs cells slots lsA hH hlv h3 h4 h5 h6
  obtain ⟨⟨C, T, N⟩, hr, t0, ht0⟩ := a_tyq2 G hc
  have hlt : i.toNatClampNeg < n := Nat.not_le.mp fun q => hin (Or.inr q)
  have h0 : ¬ i < 0 := fun q => hin (Or.inl q)
  obtain ⟨r', hr', cellV, g1, g2, g3, -⟩ := hH.1 b _ (a_ws_get hb0)
  have hcls := (hTP.1.1 c _ hr).2
  obtain ⟨kA, comp, k1, k2, k3, -⟩ := (hTP.1.2 t0 _ ht0).2
  have hcomp : comp = (a_D G).1 c := Option.some.inj (k3.symm.trans hcls.1)
  subst hcomp
  obtain ⟨kC, hkC, -⟩ := hcls.2
  show W p l e R s m args below meth cd H locs cells slots QQ (F0 m pc lsA (.ref (a_ad G b) :: .int i :: .ref (a_ad G a) :: st.map (a_tr G)))
  rw [hH.ad (hH.lt hm), hH.ad (hH.lt hb0)]
  have hc1 : H[G.1.size + a]? = some (vp_cell (G.2.2.2.1 (110 + c)) (n, .inr (.inr (.inr (.inr (fun j => (f j).map (a_ad G))))))) := hH.1 a _ (a_ws_get hm)
  refine W.aast hx hb hc1 (fun q h => by cases h) (fun h => by cases h) k1 k2 rfl hkC ⟨h0, by show _ < (arrV _ _ _).slots.size; rw [arrV_size]; exact hlt⟩ g1 (fun q h => by rw [g3] at h; cases h) (by rw [g2]; exact hkC) (by rw [g2]; exact va_assign hcls) rfl rfl hd fun H1 e z oq => ?_
  refine k0 H1 _ cells slots lsA (hH.set hm (e := .inl (110 + c, n, .inr (a_up f i.toNatClampNeg (some b)))) ?_ z oq _) hlv (by rw [List.length_set]; exact h3) (by rw [a_sum_set hm (by rfl)]; exact h4) (by rw [List.length_set]; exact h5) (by rw [a_sum_set hm (by rfl)]; exact h6)
  show H1[G.1.size + a]? = some (vp_cell _ _)
  rw [e, vp_cell_q, vp_cell_q, arrV_store]
  congr 2
  funext q
  by_cases hq : q = i.toNatClampNeg
  · subst hq
    simp [updV, a_up, va_rf, hH.ad (hH.lt hb0)]
  · simp [updV, a_up, hq]
theorem s_alen (C : a_Cx p l e R s m args below meth cd G sc own cc nL ini n0 s0 l1 l2) : ∀ (pc : Nat) (ls : aL) (st : List Value) (M : aH) (a n : Nat) (f : Nat → Int32) (v : Int32), decode cc pc = .ok (.arraylength, 1) → (M[a]? = some (.inl (100, n, .inl f))) → (Int32.ofNat n = v) → a_WS p l e R s m args below meth cd G nL n0 s0 l1 l2 QQ (pc + 1) ls (.int v :: st) M → a_WS p l e R s m args below meth cd G nL n0 s0 l1 l2 QQ pc ls (.ref a :: st) M := by
  obtain ⟨hx, hb, hml, hown, hts, hTP, hini, hl9, hRc, hRs, hfr, hlo⟩ := C
  intro pc ls st M a n f v hd hm hv k0 H locs cells slots lsA hH hlv h3 h4 h5 h6
  show W p l e R s m args below meth cd H locs cells slots QQ (F0 m pc lsA (.ref (a_ad G a) :: st.map (a_tr G)))
  rw [hH.ad (hH.lt hm)]
  exact va_alen (D := a_D G) hx hb hTP.1 hH.1 a 0 (a_ws_get hm) rfl hv hd (k0 H locs cells slots lsA hH hlv h3 h4 h5 h6)
theorem s_slen (C : a_Cx p l e R s m args below meth cd G sc own cc nL ini n0 s0 l1 l2) : ∀ (pc : Nat) (ls : aL) (st : List Value) (M : aH) (j n : Nat) (f : Nat → Int32) (v : Int32), decode cc pc = .ok (.arraylength, 1) → (sc[j]? = some (n, f)) → (Int32.ofNat n = v) → a_WS p l e R s m args below meth cd G nL n0 s0 l1 l2 QQ (pc + 1) ls (.int v :: st) M → a_WS p l e R s m args below meth cd G nL n0 s0 l1 l2 QQ pc ls (.ref (100000 + j) :: st) M := by
  obtain ⟨hx, hb, hml, hown, hts, hTP, hini, hl9, hRc, hRs, hfr, hlo⟩ := C
  intro pc ls st M j n f v hd hm hv k0 H locs cells slots lsA hH hlv h3 h4 h5 h6
  obtain ⟨cell, t1, t2, t3, t4, t5, t6, t7⟩ := hTP.2.2.2.2.2 j _ hm
  subst hv
  show W p l e R s m args below meth cd H locs cells slots QQ (F0 m pc lsA (.ref (a_ad G (100000 + j)) :: st.map (a_tr G)))
  rw [a_ad_s]
  exact W.alen (n := Int32.ofNat n) hx hb (by rw [hH.2.1.2.1 _ (Array.getElem?_eq_some_iff.mp t1).1 t7]; exact t1) t2 t5 rfl rfl hd (k0 H locs cells slots lsA hH hlv h3 h4 h5 h6)
theorem s_new (C : a_Cx p l e R s m args below meth cd G sc own cc nL ini n0 s0 l1 l2) : ∀ (pc : Nat) (ls : aL) (st : List Value) (M : aH) (idx c : Nat) (vs : List Value), decode cc pc = .ok (.new idx, 3) → (a_NW own idx c vs) → (M.length + 1 ≤ l1) → (a_sum M + vs.length ≤ l2) → a_WS p l e R s m args below meth cd G nL n0 s0 l1 l2 QQ (pc + 3) ls ((.ref M.length :: st)) (M ++ [.inr (c, vs)]) → a_WS p l e R s m args below meth cd G nL n0 s0 l1 l2 QQ pc ls (st) M := by
  obtain ⟨hx, hb, hml, hown, hts, hTP, hini, hl9, hRc, hRs, hfr, hlo⟩ := C
  intro pc ls st M idx c vs hd hg h1 h2 k0 H locs cells slots lsA hH hlv h3 h4 h5 h6
  obtain ⟨⟨C, T, N⟩, ty, hc, hcl, hinst, hini2, hty, hlen, hdef, hnr⟩ := hg
  dsimp only at hc hcl hinst hini2 hty hlen hdef
  have hKn := hTP.1.1 c _ hc
  refine W.newcK hx hb hown (hts _ hcl) (hts _ hinst) (hts _ hini2) rfl hd (by omega) (by omega) hKn.2.1 rfl fun H1 kC hkC e1 z1 o1 => ?_
  have hva : va_at (a_D G) vwCl (H.size, a_en G (.inr (c, vs))) H1 := by
    refine ⟨_, hc, ?_⟩
    refine (u_born ty hts (a_in c _ hc) hKn hkC e1 hty).to fun k hk => ?_
    rw [hdef k hk]
    show vp_V vs k = vp_V (vs.map (a_tr G)) k
    unfold vp_V
    rw [List.getD_eq_getElem?_getD, List.getD_eq_getElem?_getD, List.getElem?_map]
    cases hv : vs[k]? with
    | none => rfl
    | some v =>
      have hvr := hnr v (List.mem_of_getElem? hv)
      cases v <;> first | rfl | exact absurd rfl (hvr _)
  have k1 := k0 H1 locs (cells + 1) (slots + N) lsA (hH.push (e := .inr (c, vs)) (by omega) hva z1 o1) hlv (by rw [List.length_append]; show cells + 1 + n0 = M.length + 1; omega) (by rw [a_sum_push]; show slots + N + s0 = a_sum M + vs.length; omega) (by rw [List.length_append]; exact h1) (by rw [a_sum_push]; exact h2)
  · have e2 : (Value.ref M.length :: st).map (a_tr G) = .ref H.size :: st.map (a_tr G) := by
      show Value.ref (a_ad G M.length) :: _ = _
      rw [a_ad_lt G (by omega), hH.2.2.1]
    rw [e2] at k1
    exact k1
theorem s_newa (C : a_Cx p l e R s m args below meth cd G sc own cc nL ini n0 s0 l1 l2) : ∀ (pc : Nat) (ls : aL) (st : List Value) (M : aH) (at_ : ArrayType) (t N : Nat) (n : Int32), decode cc pc = .ok (.newarray at_, 2) → ((at_ = .int ∧ t = 100) ∨ (at_ = .byte ∧ t = 101) ∨ (at_ = .boolean ∧ t = 102)) → (¬ n < 0) → (n.toNatClampNeg = N) → (N ≤ 10000) → (M.length + 1 ≤ l1) → (a_sum M + N ≤ l2) → a_WS p l e R s m args below meth cd G nL n0 s0 l1 l2 QQ (pc + 2) ls ((.ref M.length :: st)) (M ++ [.inl (t, N, .inl (fun _ => 0))]) → a_WS p l e R s m args below meth cd G nL n0 s0 l1 l2 QQ pc ls (.int n :: st) M := by
  obtain ⟨hx, hb, hml, hown, hts, hTP, hini, hl9, hRc, hRs, hfr, hlo⟩ := C
  intro pc ls st M at_ t N n hd ha hn hN hs h1 h2 k0 H locs cells slots lsA hH hlv h3 h4 h5 h6
  have hta : ∃ t0 : Nat, (a_tys G)[t0]? = some (G.2.2.2.1 t, newarray.typeOf at_) ∧ Cond.arrayClass (newarray.typeOf at_) ∈ a_gw ∧ defaultValue (newarray.typeOf at_) = .int 0 ∧ componentBytes (newarray.typeOf at_) ≤ 8 ∧ (∀ cA, va_RA s cA (newarray.typeOf at_) → s.vm.findClass ("[" ++ (newarray.typeOf at_).toString) = some cA) := by
    rcases ha with ⟨rfl, rfl⟩ | ⟨rfl, rfl⟩ | ⟨rfl, rfl⟩
    · exact ⟨0, rfl, a_acI, rfl, by decide, fun _ h => h⟩
    · exact ⟨1, rfl, a_acB, rfl, by decide, fun _ h => h⟩
    · exact ⟨2, rfl, a_acZ, rfl, by decide, fun _ h => h⟩
  obtain ⟨t0, ht0, hac, hdef, hcb, hra⟩ := hta
  have hNn := hra _ (hTP.1.2 t0 _ ht0).2
  have hby : N * componentBytes (newarray.typeOf at_) ≤ 536870912 := Nat.le_trans (Nat.mul_le_mul hs hcb) (by decide)
  refine va_newaK hx hb (hts _ hac) (g := F0 m pc lsA (.int n :: st.map (a_tr G))) rfl hd rfl hn hN hby (by omega) (by omega) rfl fun H1 cA e1 z1 o1 hAr hNm => ?_
  have hcA : cA = G.2.2.2.1 t := Option.some.inj (hNm.symm.trans hNn)
  subst hcA
  have hva : va_at (a_D G) vwCl (H.size, a_en G (.inl (t, N, .inl (fun _ => 0)))) H1 := by
    show H1[H.size]? = some (vp_cell _ _)
    rw [e1, hdef]
    rfl
  have k1 := k0 H1 locs (cells + 1) (slots + N) lsA (hH.push (e := .inl (t, N, .inl (fun _ => 0))) (by omega) hva z1 o1) hlv (by rw [List.length_append]; show cells + 1 + n0 = M.length + 1; omega) (by rw [a_sum_push]; show slots + N + s0 = a_sum M + N; omega) (by rw [List.length_append]; exact h1) (by rw [a_sum_push]; exact h2)
  · have e2 : (Value.ref M.length :: st).map (a_tr G) = .ref H.size :: st.map (a_tr G) := by
      show Value.ref (a_ad G M.length) :: _ = _
      rw [a_ad_lt G (by omega), hH.2.2.1]
    rw [e2] at k1
    exact k1
theorem s_anew (C : a_Cx p l e R s m args below meth cd G sc own cc nL ini n0 s0 l1 l2) : ∀ (pc : Nat) (ls : aL) (st : List Value) (M : aH) (idx c N : Nat) (n : Int32), decode cc pc = .ok (.anewarray idx, 3) → (a_AN own idx c) → (¬ n < 0) → (n.toNatClampNeg = N) → (N ≤ 10000) → (M.length + 1 ≤ l1) → (a_sum M + N ≤ l2) → a_WS p l e R s m args below meth cd G nL n0 s0 l1 l2 QQ (pc + 3) ls ((.ref M.length :: st)) (M ++ [.inl (110 + c, N, .inr (fun _ => none))]) → a_WS p l e R s m args below meth cd G nL n0 s0 l1 l2 QQ pc ls (.int n :: st) M := by
  obtain ⟨hx, hb, hml, hown, hts, hTP, hini, hl9, hRc, hRs, hfr, hlo⟩ := C
  intro pc ls st M idx c N n hd hg hn hN hs h1 h2 k0 H locs cells slots lsA hH hlv h3 h4 h5 h6
  obtain ⟨⟨C, T, N2⟩, hc, hcl, hao⟩ := hg
  dsimp only at hc hcl hao
  obtain ⟨⟨C2, T2, N3⟩, hr2, t0, ht0⟩ := a_tyq2 G (c := c) (by rw [hc]; exact a_aoc hao)
  have e0 : (C2, T2, N3) = (C, T, N2) := Option.some.inj (hr2.symm.trans hc)
  cases e0
  subst hN
  refine W.anew hx hb hown (hts _ hcl) (va_AO.use (hTP.2.2.2.1 C hao)) (g := F0 m pc lsA (.int n :: st.map (a_tr G))) rfl hd rfl hn (by omega) (by omega) (by omega) fun cA kA comp f1 f2 f3 f4 => ?_
  obtain ⟨kA', comp', k1, k2, k3, k4⟩ := (hTP.1.2 t0 _ ht0).2
  have hcA : cA = G.2.2.2.1 (110 + c) := Option.some.inj (f1.symm.trans k4)
  subst hcA
  generalize hH1 : H.push ({ cls := G.2.2.2.1 (110 + c), slots := Array.replicate n.toNatClampNeg .null, vm := .none } : Cell) = H1
  have z1 : H1.size = H.size + 1 := by rw [← hH1, Array.size_push]
  have e1 : H1[H.size]? = some (arrV (G.2.2.2.1 (110 + c)) n.toNatClampNeg (fun _ => .null)) := by rw [← hH1, Array.getElem?_push_size, ← arrV_new]
  have o1 : ∀ q : Nat, q < H.size → H1[q]? = H[q]? := fun q hq => by rw [← hH1, Array.getElem?_push, if_neg (Nat.ne_of_lt hq)]
  have hva : va_at (a_D G) vwCl (H.size, a_en G (.inl (110 + c, n.toNatClampNeg, .inr (fun _ => none)))) H1 := by
    show H1[H.size]? = some (vp_cell _ _)
    rw [e1]
    rfl
  have kf := k0 H1 locs (cells + 1) (slots + n.toNatClampNeg) lsA (hH.push (e := .inl (110 + c, n.toNatClampNeg, .inr (fun _ => none))) (by omega) hva z1 o1) hlv (by rw [List.length_append]; show cells + 1 + n0 = M.length + 1; omega) (by rw [a_sum_push]; show slots + n.toNatClampNeg + s0 = a_sum M + n.toNatClampNeg; omega) (by rw [List.length_append]; exact h1) (by rw [a_sum_push]; exact h2)
  · have e2 : (Value.ref M.length :: st).map (a_tr G) = .ref H.size :: st.map (a_tr G) := by
      show Value.ref (a_ad G M.length) :: _ = _
      rw [a_ad_lt G (by omega), hH.2.2.1]
    rw [e2] at kf
    exact kf
theorem s_objI (C : a_Cx p l e R s m args below meth cd G sc own cc nL ini n0 s0 l1 l2) : ∀ (pc : Nat) (ls : aL) (st : List Value) (M : aH) (idx a : Nat), decode cc pc = .ok (.invokespecial idx, 3) → (a_OI own idx) → ((st.map fun v => v.category).sum ≤ 8) → a_WS p l e R s m args below meth cd G nL n0 s0 l1 l2 QQ (pc + 3) ls (st) M → a_WS p l e R s m args below meth cd G nL n0 s0 l1 l2 QQ pc ls (.ref a :: st) M := by
  obtain ⟨hx, hb, hml, hown, hts, hTP, hini, hl9, hRc, hRs, hfr, hlo⟩ := C
  intro pc ls st M idx a hd hg hs k0 H locs cells slots lsA hH hlv h3 h4 h5 h6
  refine W.objInit hx hb hown (hts _ hg) (hts _ a_oi1) (hts _ a_oi2) (g := F0 m pc lsA (.ref (a_ad G a) :: st.map (a_tr G))) rfl (by rw [hml]; exact hlv.1) rfl hd hfr ?_ (k0 H locs cells slots lsA hH hlv h3 h4 h5 h6)
  rw [a_map_cat]
  show 2 * 0 + _ + 12 ≤ R.locals
  omega
theorem s_copy (C : a_Cx p l e R s m args below meth cd G sc own cc nL ini n0 s0 l1 l2) : ∀ (pc : Nat) (ls : aL) (st : List Value) (M : aH) (idx a0 a n0_ n1 : Nat) (f g : Nat → Int32) (sp dp n : Int32), decode cc pc = .ok (.invokestatic idx, 3) → (a_CP own idx) → (M[a0]? = some (.inl (100, n0_, .inl f))) → (M[a]? = some (.inl (100, n1, .inl g))) → (¬ sp < 0) → (¬ dp < 0) → (¬ n < 0) → (sp.toNatClampNeg + n.toNatClampNeg ≤ n0_) → (dp.toNatClampNeg + n.toNatClampNeg ≤ n1) → (st.length = 0) → a_WS p l e R s m args below meth cd G nL n0 s0 l1 l2 QQ (pc + 3) ls (st) (M.set a (.inl (100, n1, .inl (va_cpy f g sp.toNatClampNeg dp.toNatClampNeg n.toNatClampNeg)))) → a_WS p l e R s m args below meth cd G nL n0 s0 l1 l2 QQ pc ls (.int n :: .int dp :: .ref a :: .int sp :: .ref a0 :: st) M := by
  obtain ⟨hx, hb, hml, hown, hts, hTP, hini, hl9, hRc, hRs, hfr, hlo⟩ := C
  intro pc ls st M idx a0 a n0_ n1 f g sp dp n hd hg h0 h1 hsp hdp hn hs hd2 hst k0 H locs cells slots lsA hH hlv h3 h4 h5 h6
  obtain rfl : st = [] := List.length_eq_zero_iff.mp hst
  have nn : ∀ z : Int32, ¬ z < 0 → z.toInt = (z.toNatClampNeg : Int) := by
    intro z hz
    have hz0 : (0 : Int) ≤ z.toInt := by
      have := Int32.not_lt.mp hz
      simpa using Int32.le_iff_toInt_le.mp this
    show z.toInt = ((z.toInt.toNat : Nat) : Int)
    omega
  show W p l e R s m args below meth cd H locs cells slots QQ (F0 m pc lsA (.int n :: .int dp :: .ref (a_ad G a) :: .int sp :: .ref (a_ad G a0) :: []))
  rw [hH.ad (hH.lt h0), hH.ad (hH.lt h1)]
  have hnf : nativeFrameWords "java/lang/System" "arraycopy" 5 + 11 ≤ 38 := by decide +kernel
  intro T hT X
  have hc0 : H[G.1.size + a0]? = some (vp_cell (G.2.2.2.1 100) (n0_, .inl f)) := hH.1 a0 _ (a_ws_get h0)
  have hc1 : H[G.1.size + a]? = some (vp_cell (G.2.2.2.1 100) (n1, .inl g)) := hH.1 a _ (a_ws_get h1)
  have hAr := (hTP.1.2 0 _ rfl).1
  obtain ⟨-, kk0, hk0, cm0, hkk0⟩ := hAr n0_ (fun j => .int (f j))
  obtain ⟨-, kk1, hk1, cm1, hkk1⟩ := hAr n1 (fun j => .int (g j))
  obtain ⟨vm', X', step⟩ := X.arraycopy hx hown (hts _ hg) (hts _ a_cp1) (hts _ a_cp2) (hts _ a_cp3) (src := G.1.size + a0) (dst := G.1.size + a) (cs := vp_cell (G.2.2.2.1 100) (n0_, .inl f)) (cd := vp_cell (G.2.2.2.1 100) (n1, .inl g)) (srcPos := sp) (destPos := dp) (n := n) (by rw [hT]; exact hc0) (by rw [hT]; exact hc1)
    (fun _ h => by cases h) (fun _ h => by cases h) (fun h => by cases h) (fun h => by cases h) hk0 hk1 hkk0 hkk1 (by simp [refKind]) hsp hdp hn
    (by rw [nn sp hsp, nn n hn]; show ¬ _ > ((arrV (G.2.2.2.1 100) n0_ (fun j => .int (f j))).slots.size : Int); rw [arrV_size]; omega)
    (by rw [nn dp hdp, nn n hn]; show ¬ _ > ((arrV (G.2.2.2.1 100) n1 (fun j => .int (g j))).slots.size : Int); rw [arrV_size]; omega)
    (fun vm₁ _ i hi => by
      have e : (vp_cell (G.2.2.2.1 100) (n0_, .inl f)).slots.getD (sp.toNatClampNeg + i) .null = .int (f (sp.toNatClampNeg + i)) := by
        show (arrV (G.2.2.2.1 100) n0_ (fun j => .int (f j))).slots.getD _ _ = _
        rw [Array.getD_eq_getD_getElem?, arrV_read _ _ (by omega)]
        rfl
      refine ⟨?_, ?_⟩
      · rw [e]
        rfl
      · rw [e]
        exact trivial)
    (g := F0 m pc lsA (.int n :: .int dp :: .ref (G.1.size + a) :: .int sp :: .ref (G.1.size + a0) :: [])) rfl (by rw [hml]; exact hlv.1) (rest := []) rfl (by rw [hb]; exact hd) hfr (by show 2 * 0 + 0 + _ ≤ _; omega)
  have e1 : copied (vp_cell (G.2.2.2.1 100) (n0_, .inl f)) (vp_cell (G.2.2.2.1 100) (n1, .inl g)) sp dp n = vp_cell (G.2.2.2.1 100) (n1, .inl (va_cpy f g sp.toNatClampNeg dp.toNatClampNeg n.toNatClampNeg)) := va_copied (fun z => .int z) _ _ f g hs
  rw [e1] at X' step
  have hl : G.1.size + a < H.size := (Array.getElem?_eq_some_iff.mp hc1).1
  have hheap : ((T.setVm vm').setCell (G.1.size + a) (vp_cell (G.2.2.2.1 100) (n1, .inl (va_cpy f g sp.toNatClampNeg dp.toNatClampNeg n.toNatClampNeg)))).heap = H.setIfInBounds (G.1.size + a) (vp_cell (G.2.2.2.1 100) (n1, .inl (va_cpy f g sp.toNatClampNeg dp.toNatClampNeg n.toNatClampNeg))) := by rw [← hT]; rfl
  have oq : ∀ q : Nat, q ≠ G.1.size + a → (H.setIfInBounds (G.1.size + a) (vp_cell (G.2.2.2.1 100) (n1, .inl (va_cpy f g sp.toNatClampNeg dp.toNatClampNeg n.toNatClampNeg))))[q]? = H[q]? := fun q hq => by simp [Array.getElem?_setIfInBounds, Ne.symm hq]
  have hset := hH.set h1 (e := .inl (100, n1, .inl (va_cpy f g sp.toNatClampNeg dp.toNatClampNeg n.toNatClampNeg))) (H1 := H.setIfInBounds (G.1.size + a) (vp_cell (G.2.2.2.1 100) (n1, .inl (va_cpy f g sp.toNatClampNeg dp.toNatClampNeg n.toNatClampNeg)))) (show (H.setIfInBounds (G.1.size + a) _)[G.1.size + a]? = some _ by simp [Array.getElem?_setIfInBounds, hl]) (by simp) oq 0
  obtain ⟨t, a1, b1⟩ := k0 _ _ cells slots lsA (by
      refine a_HP.relocs hset hH.2.1.2.2 ?_
      intro q hq
      obtain ⟨z, -, hz⟩ := List.mem_map.mp hq
      rw [← hz]
      show G.1.size ≤ G.1.size + a
      omega) hlv (by rw [List.length_set]; exact h3) (by rw [a_sum_set h1 (by rfl)]; exact h4) (by rw [List.length_set]; exact h5) (by rw [a_sum_set h1 (by rfl)]; exact h6) _ hheap X'
  exact ⟨t, step t a1, b1⟩
theorem s_mmax (C : a_Cx p l e R s m args below meth cd G sc own cc nL ini n0 s0 l1 l2) : ∀ (pc : Nat) (ls : aL) (st : List Value) (M : aH) (idx : Nat) (x y : Int32), decode cc pc = .ok (.invokestatic idx, 3) → (Cond.methodLink own idx Lib.Math.max.name ∈ a_gw) → ((st.map fun v => v.category).sum ≤ 8) → a_WS p l e R s m args below meth cd G nL n0 s0 l1 l2 QQ (pc + 3) ls (.int (if x < y then y else x) :: st) M → a_WS p l e R s m args below meth cd G nL n0 s0 l1 l2 QQ pc ls (.int y :: .int x :: st) M := by
  obtain ⟨hx, hb, hml, hown, hts, hTP, hini, hl9, hRc, hRs, hfr, hlo⟩ := C
  intro pc ls st M idx x y hd hg hs k0 H locs cells slots lsA hH hlv h3 h4 h5 h6
  exact va_mmax hx hb (by rw [hml]; exact hlv.1.symm) hown (hts _ hg) (hts _ a_mmax1) (hts _ a_mm0) (hts _ a_mmax2) hfr (by rw [a_map_cat]; omega) (by omega) (by omega) hd (k0 H locs cells slots lsA hH hlv h3 h4 h5 h6)
theorem s_mmin (C : a_Cx p l e R s m args below meth cd G sc own cc nL ini n0 s0 l1 l2) : ∀ (pc : Nat) (ls : aL) (st : List Value) (M : aH) (idx : Nat) (x y : Int32), decode cc pc = .ok (.invokestatic idx, 3) → (Cond.methodLink own idx Lib.Math.min.name ∈ a_gw) → ((st.map fun v => v.category).sum ≤ 8) → a_WS p l e R s m args below meth cd G nL n0 s0 l1 l2 QQ (pc + 3) ls (.int (if y < x then y else x) :: st) M → a_WS p l e R s m args below meth cd G nL n0 s0 l1 l2 QQ pc ls (.int y :: .int x :: st) M := by
  obtain ⟨hx, hb, hml, hown, hts, hTP, hini, hl9, hRc, hRs, hfr, hlo⟩ := C
  intro pc ls st M idx x y hd hg hs k0 H locs cells slots lsA hH hlv h3 h4 h5 h6
  exact va_mmin hx hb (by rw [hml]; exact hlv.1.symm) hown (hts _ hg) (hts _ a_mmin1) (hts _ a_mm0) (hts _ a_mmin2) hfr (by rw [a_map_cat]; omega) (by omega) (by omega) hd (k0 H locs cells slots lsA hH hlv h3 h4 h5 h6)
theorem s_mabs (C : a_Cx p l e R s m args below meth cd G sc own cc nL ini n0 s0 l1 l2) : ∀ (pc : Nat) (ls : aL) (st : List Value) (M : aH) (idx : Nat) (x : Int32), decode cc pc = .ok (.invokestatic idx, 3) → (Cond.methodLink own idx Lib.Math.abs.name ∈ a_gw) → ((st.map fun v => v.category).sum ≤ 8) → a_WS p l e R s m args below meth cd G nL n0 s0 l1 l2 QQ (pc + 3) ls (.int (if 0 ≤ x then x else 0 - x) :: st) M → a_WS p l e R s m args below meth cd G nL n0 s0 l1 l2 QQ pc ls (.int x :: st) M := by
  obtain ⟨hx, hb, hml, hown, hts, hTP, hini, hl9, hRc, hRs, hfr, hlo⟩ := C
  intro pc ls st M idx x hd hg hs k0 H locs cells slots lsA hH hlv h3 h4 h5 h6
  exact va_mabs hx hb (by rw [hml]; exact hlv.1.symm) hown (hts _ hg) (hts _ a_mabs1) (hts _ a_mm0) (hts _ a_mabs2) hfr (by rw [a_map_cat]; omega) (by omega) (by omega) hd (k0 H locs cells slots lsA hH hlv h3 h4 h5 h6)
end SOUND
