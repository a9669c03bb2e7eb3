/-! ===== the machine's side of the abstract machine ===== -/
abbrev aG : Type := Heap × (Nat → ClassId) × (Nat → Nat → Nat) × (Nat → ClassId) × (Nat → Nat)
def a_ad (G : aG) (k : Nat) : Nat := if k < 100000 then G.1.size + k else G.2.2.2.2 (k - 100000)
def a_tr (G : aG) (v : Value) : Value := match v with
  | .ref k => .ref (a_ad G k)
  | v => v
def a_en (G : aG) (e : aE) : va_E := match e with
  | .inl (t, n, .inl f) => .inl (G.2.2.2.1 t, n, .inl f)
  | .inl (t, n, .inr g) => .inl (G.2.2.2.1 t, n, .inr (.inr (.inr (.inr (fun j => (g j).map (a_ad G))))))
  | .inr (c, vs) => .inr (c, vs.map (a_tr G))
def a_ws (G : aG) (M : aH) : va_W := M.mapIdx (fun k e => (G.1.size + k, a_en G e))
abbrev a_D (G : aG) : va_G := (G.2.1, G.2.2.1)
abbrev a_A (G : aG) : Nat → Prop := fun q => G.1.size ≤ q
def a_HP (G : aG) (M : aH) (H : Heap) (locs : List Loc) : Prop := va_P (a_D G) vwCl (a_ws G M) H ∧ va_S (a_A G) G.1 H locs ∧ H.size = G.1.size + M.length ∧ M.length ≤ 99999
theorem a_ad_lt (G : aG) {k : Nat} (h : k < 100000) : a_ad G k = G.1.size + k := if_pos h
theorem a_ad_s (G : aG) (i : Nat) : a_ad G (100000 + i) = G.2.2.2.2 i := by
  unfold a_ad
  rw [if_neg (by omega), show 100000 + i - 100000 = i by omega]
theorem a_tr_cat (G : aG) (v : Value) : (a_tr G v).category = v.category := by cases v <;> rfl
theorem a_map_cat (G : aG) (l : List Value) : ((l.map (a_tr G)).map fun v => v.category) = l.map fun v => v.category := by
  rw [List.map_map]
  exact List.map_congr_left fun v _ => a_tr_cat G v
theorem a_ws_get {G : aG} {M : aH} {k : Nat} {e : aE} (h : M[k]? = some e) : (a_ws G M)[k]? = some (G.1.size + k, a_en G e) := by
  simp [a_ws, List.getElem?_mapIdx, h]
theorem a_ws_at {G : aG} {M : aH} {k : Nat} {q : Nat × va_E} (h : (a_ws G M)[k]? = some q) : q.1 = G.1.size + k := by
  simp only [a_ws, List.getElem?_mapIdx, Option.map_eq_some_iff] at h
  obtain ⟨e, -, rfl⟩ := h
  rfl
theorem a_ws_D (G : aG) (M : aH) : va_D (a_A G) (a_ws G M) :=
  ⟨fun i j p q hi hj e => by
    have h1 := a_ws_at hi
    have h2 := a_ws_at hj
    omega, fun k q h => by
    have h1 := a_ws_at h
    show G.1.size ≤ q.1
    omega⟩
theorem a_ws_set (G : aG) (M : aH) (k : Nat) (e : aE) : (a_ws G M).set k (G.1.size + k, a_en G e) = a_ws G (M.set k e) := by
  apply List.ext_getElem?
  intro i
  simp only [a_ws, List.getElem?_mapIdx, List.getElem?_set, List.length_mapIdx]
  by_cases h : k = i
  · subst h
    by_cases h2 : k < M.length <;> simp [h2]
  · simp [h]
theorem a_ws_push (G : aG) (M : aH) (e : aE) : a_ws G (M ++ [e]) = a_ws G M ++ [(G.1.size + M.length, a_en G e)] := by
  simp [a_ws, List.mapIdx_append]
theorem a_HP.lt {G : aG} {M : aH} {H : Heap} {locs : List Loc} (_h : a_HP G M H locs) {k : Nat} {e : aE} (hk : M[k]? = some e) : k < M.length := (List.getElem?_eq_some_iff.mp hk).1
theorem a_HP.ad {G : aG} {M : aH} {H : Heap} {locs : List Loc} (h : a_HP G M H locs) {k : Nat} (hk : k < M.length) : a_ad G k = G.1.size + k := a_ad_lt G (by have := h.2.2.2; omega)
theorem a_HP.nil {G : aG} {M : aH} {H : Heap} {locs : List Loc} (h : a_HP G M H locs) : a_HP G M H [] := ⟨h.1, ⟨h.2.1.1, h.2.1.2.1, fun _ q => absurd q List.not_mem_nil⟩, h.2.2⟩
theorem a_HP.set {G : aG} {M : aH} {H H1 : Heap} {locs : List Loc} (h : a_HP G M H locs) {k : Nat} {e0 e : aE} (hk : M[k]? = some e0) (he : va_at (a_D G) vwCl (G.1.size + k, a_en G e) H1) (z : H1.size = H.size) (oq : ∀ q : Nat, q ≠ G.1.size + k → H1[q]? = H[q]?) (j : Nat) : a_HP G (M.set k e) H1 (locs ++ [⟨G.1.size + k, j⟩]) := by
  refine ⟨?_, h.2.1.put z oq (by show G.1.size ≤ G.1.size + k; omega), ?_, ?_⟩
  · rw [← a_ws_set]
    exact h.1.set (a_ws_D G M) (a_ws_get hk) he oq
  · rw [z, h.2.2.1, List.length_set]
  · rw [List.length_set]
    exact h.2.2.2
theorem a_HP.push {G : aG} {M : aH} {H H1 : Heap} {locs : List Loc} (h : a_HP G M H locs) (hl : M.length + 1 ≤ 99999) {e : aE} (he : va_at (a_D G) vwCl (H.size, a_en G e) H1) (z : H1.size = H.size + 1) (oq : ∀ q : Nat, q < H.size → H1[q]? = H[q]?) : a_HP G (M ++ [e]) H1 locs := by
  refine ⟨?_, ⟨?_, fun q h1 h2 => (oq q ?_).trans (h.2.1.2.1 q h1 h2), h.2.1.2.2⟩, ?_, ?_⟩
  · rw [a_ws_push]
    refine (h.1.kept (fun k q hq => oq q.1 (h.1 k q hq).lt)).app ?_
    intro k q hq
    have hz : k < 1 := (List.getElem?_eq_some_iff.mp hq).1
    rw [show k = 0 by omega] at hq
    cases hq
    rw [← h.2.2.1]
    exact he
  · have := h.2.1.1
    omega
  · have := h.2.1.1
    omega
  · rw [z, h.2.2.1, List.length_append]
    rfl
  · rw [List.length_append]
    exact hl
/-! tables -/
def a_tys (G : aG) : List (ClassId × FieldType) := [(G.2.2.2.1 100, .int), (G.2.2.2.1 101, .byte), (G.2.2.2.1 102, .boolean), (G.2.2.2.1 111, .object RX1), (G.2.2.2.1 112, .object RX2), (G.2.2.2.1 114, .object RX4), (G.2.2.2.1 116, .object RX6), (G.2.2.2.1 118, .object RX8), (G.2.2.2.1 120, .object RX10)]
def a_TP (G : aG) (sc : aS) (U : State) : Prop := va_K (a_D G) vwCl (a_tys G) U ∧ (∀ q ∈ a_nm, va_Nw (.methodLinkNest q.1 q.2.1 q.2.2 "LoafFall") U) ∧ (∀ q ∈ a_nf, va_Nw (.fieldLinkNest q.1 q.2.1 "LoafFall" q.2.2 "[I" "LoafFall") U) ∧ (∀ C ∈ a_ao, va_AO C U) ∧ (∀ (i : Nat) (n : String), a_sn[i]? = some n → va_Z "LoafFall" n "[I" (.ref (G.2.2.2.2 i)) (a_A G) U G.1) ∧ ∀ (i : Nat) (q : Nat × (Nat → Int32)), sc[i]? = some q → va_T .int (G.2.2.2.2 i) q.1 (fun j => .int (q.2 j)) (a_A G) U G.1
theorem a_TP.warm {G : aG} {sc : aS} {s U : State} (hW : s.WarmedH U.vm) (h : a_TP G sc s) : a_TP G sc U :=
  ⟨va_K.moved hW.alike h.1, fun q hq => va_Nw.warmM hW (h.2.1 q hq), fun q hq => va_Nw.warmF hW (h.2.2.1 q hq), fun C hC => (h.2.2.2.1 C hC).moved hW.alike, fun i n hn => (h.2.2.2.2.1 i n hn).moved hW.alike, fun i q hq => (h.2.2.2.2.2 i q hq).moved hW.alike⟩
/-! locals -/
def a_lv (G : aG) (lsA : Array Slot) (nL : Nat) (ls : aL) : Prop := lsA.size = nL ∧ lv_wf lsA ∧ ∀ (i : Nat) (v : Value), ls[i]? = some (some v) → lsA[i]? = some (.val (a_tr G v))
def a_lst (G : aG) (ls : aL) : List (Nat × Value) := (List.range ls.length).filterMap (fun i => (ls[i]?.join).map (fun v => (i, a_tr G v)))
theorem a_lst_mem {G : aG} {ls : aL} {i : Nat} {v : Value} : (i, v) ∈ a_lst G ls ↔ ∃ w, ls[i]? = some (some w) ∧ v = a_tr G w := by
  constructor
  · intro h
    obtain ⟨j, -, hj⟩ := List.mem_filterMap.mp h
    obtain ⟨w, hw, e⟩ := Option.map_eq_some_iff.mp hj
    cases e
    exact ⟨w, Option.join_eq_some_iff.mp hw, rfl⟩
  · rintro ⟨w, hw, rfl⟩
    refine List.mem_filterMap.mpr ⟨i, List.mem_range.mpr (List.getElem?_eq_some_iff.mp hw).1, ?_⟩
    rw [hw]
    rfl
theorem a_lv.has {G : aG} {lsA : Array Slot} {nL : Nat} {ls : aL} (h : a_lv G lsA nL ls) : lv_has lsA nL (a_lst G ls) :=
  ⟨h.1, h.2.1, fun q hq => by
    obtain ⟨i, v⟩ := q
    obtain ⟨w, hw, rfl⟩ := a_lst_mem.mp hq
    exact h.2.2 i w hw⟩
theorem a_isL_cat {v : Value} (h : ¬ a_isL (some v) = true) : ¬ v.category = 2 := fun e => h (by simp [a_isL, e])
theorem a_stI_get (ls : aL) (i : Nat) (v : Value) (j : Nat) (w : Value) (h : (a_stI ls i v)[j]? = some (some w)) : (j = i ∧ w = v) ∨ (j ≠ i ∧ ls[j]? = some (some w) ∧ ¬ (j + 1 = i ∧ w.category = 2)) := by
  induction ls generalizing i j with
  | nil => simp [a_stI] at h
  | cons o l ih =>
    match i, j with
    | 0, 0 => simp [a_stI] at h; exact Or.inl ⟨rfl, h.symm⟩
    | 0, j + 1 => simp [a_stI] at h; exact Or.inr ⟨by omega, by simpa using h, by omega⟩
    | 1, 0 =>
      simp only [a_stI, List.getElem?_cons_zero, Option.some.injEq] at h
      by_cases hL : a_isL o = true
      · rw [if_pos hL] at h; cases h
      · rw [if_neg hL] at h
        subst h
        exact Or.inr ⟨by omega, by simp, fun q => a_isL_cat hL q.2⟩
    | 1, j + 1 =>
      simp only [a_stI, List.getElem?_cons_succ] at h
      rcases ih 0 j h with ⟨h1, h2⟩ | ⟨h1, h2, h3⟩
      · exact Or.inl ⟨by omega, h2⟩
      · exact Or.inr ⟨by omega, by simpa using h2, fun q => by omega⟩
    | i + 2, 0 =>
      simp only [a_stI, List.getElem?_cons_zero] at h
      exact Or.inr ⟨by omega, by simpa using h, by omega⟩
    | i + 2, j + 1 =>
      simp only [a_stI, List.getElem?_cons_succ] at h
      rcases ih (i + 1) j h with ⟨h1, h2⟩ | ⟨h1, h2, h3⟩
      · exact Or.inl ⟨by omega, h2⟩
      · exact Or.inr ⟨by omega, by simpa using h2, fun q => h3 ⟨by omega, q.2⟩⟩
theorem a_stL_get (ls : aL) (i : Nat) (v : Value) (j : Nat) (w : Value) (h : (a_stL ls i v)[j]? = some (some w)) : (j = i ∧ w = v) ∨ (j ≠ i ∧ j ≠ i + 1 ∧ ls[j]? = some (some w) ∧ ¬ (j + 1 = i ∧ w.category = 2)) := by
  induction ls generalizing i j with
  | nil => simp [a_stL] at h
  | cons o l ih =>
    match i, j with
    | 0, 0 => simp [a_stL] at h; exact Or.inl ⟨rfl, h.symm⟩
    | 0, 1 => cases l <;> simp [a_stL, a_kill] at h
    | 0, j + 2 =>
      cases l with
      | nil => simp [a_stL, a_kill] at h
      | cons o2 l2 =>
        simp only [a_stL, a_kill, List.getElem?_cons_succ] at h
        exact Or.inr ⟨by omega, by omega, by simpa using h, by omega⟩
    | 1, 0 =>
      simp only [a_stL, List.getElem?_cons_zero, Option.some.injEq] at h
      by_cases hL : a_isL o = true
      · rw [if_pos hL] at h; cases h
      · rw [if_neg hL] at h
        subst h
        exact Or.inr ⟨by omega, by omega, by simp, fun q => a_isL_cat hL q.2⟩
    | 1, j + 1 =>
      simp only [a_stL, List.getElem?_cons_succ] at h
      rcases ih 0 j h with ⟨h1, h2⟩ | ⟨h1, h1b, h2, h3⟩
      · exact Or.inl ⟨by omega, h2⟩
      · exact Or.inr ⟨by omega, by omega, by simpa using h2, fun q => by omega⟩
    | i + 2, 0 =>
      simp only [a_stL, List.getElem?_cons_zero] at h
      exact Or.inr ⟨by omega, by omega, by simpa using h, by omega⟩
    | i + 2, j + 1 =>
      simp only [a_stL, List.getElem?_cons_succ] at h
      rcases ih (i + 1) j h with ⟨h1, h2⟩ | ⟨h1, h1b, h2, h3⟩
      · exact Or.inl ⟨by omega, h2⟩
      · exact Or.inr ⟨by omega, by omega, by simpa using h2, fun q => h3 ⟨by omega, q.2⟩⟩
theorem a_lv.st1 {G : aG} {lsA : Array Slot} {nL i : Nat} {ls : aL} {v : Value} (h : lv_has lsA nL ((i, a_tr G v) :: (a_lst G ls).filter (fun q => !(q.1 == i) && !(q.1 + 1 == i && q.2.category == 2)))) : a_lv G lsA nL (a_stI ls i v) := by
  refine ⟨h.1, h.2.1, fun j w hj => ?_⟩
  rcases a_stI_get ls i v j w hj with ⟨rfl, rfl⟩ | ⟨h1, h2, h3⟩
  · exact h.2.2 _ List.mem_cons_self
  · refine h.2.2 (j, a_tr G w) (List.mem_cons_of_mem _ (List.mem_filter.mpr ⟨a_lst_mem.mpr ⟨w, h2, rfl⟩, ?_⟩))
    simp only [a_tr_cat, Bool.and_eq_true, Bool.not_eq_true', beq_eq_false_iff_ne, ne_eq, Bool.and_eq_false_iff]
    refine ⟨h1, ?_⟩
    by_cases q : j + 1 = i
    · exact Or.inr (fun e => h3 ⟨q, e⟩)
    · exact Or.inl q
theorem a_lv.st2 {G : aG} {lsA : Array Slot} {nL i : Nat} {ls : aL} {v : Value} (h : lv_has lsA nL ((i, a_tr G v) :: (a_lst G ls).filter (fun q => !(q.1 == i) && (!(q.1 == i + 1) && !(q.1 + 1 == i && q.2.category == 2))))) : a_lv G lsA nL (a_stL ls i v) := by
  refine ⟨h.1, h.2.1, fun j w hj => ?_⟩
  rcases a_stL_get ls i v j w hj with ⟨rfl, rfl⟩ | ⟨h1, h1b, h2, h3⟩
  · exact h.2.2 _ List.mem_cons_self
  · refine h.2.2 (j, a_tr G w) (List.mem_cons_of_mem _ (List.mem_filter.mpr ⟨a_lst_mem.mpr ⟨w, h2, rfl⟩, ?_⟩))
    simp only [a_tr_cat, Bool.and_eq_true, Bool.not_eq_true', beq_eq_false_iff_ne, ne_eq, Bool.and_eq_false_iff]
    refine ⟨h1, h1b, ?_⟩
    by_cases q : j + 1 = i
    · exact Or.inr (fun e => h3 ⟨q, e⟩)
    · exact Or.inl q
theorem a_ent_sl (G : aG) (as : List Value) : (lg_sl (as.map (a_tr G))).length = (a_ent as).length ∧ ∀ (i : Nat) (v : Value), (a_ent as)[i]? = some (some v) → (lg_sl (as.map (a_tr G)))[i]? = some (.val (a_tr G v)) := by
  induction as with
  | nil => exact ⟨rfl, fun i v h => by simp [a_ent] at h⟩
  | cons a l ih =>
    have e : lg_sl ((a :: l).map (a_tr G)) = (if a.category = 2 then [.val (a_tr G a), .second] else [.val (a_tr G a)]) ++ lg_sl (l.map (a_tr G)) := by
      show (if (a_tr G a).category = 2 then [Slot.val (a_tr G a), .second] else [.val (a_tr G a)]) ++ _ = _
      rw [a_tr_cat]
      rfl
    rw [e]
    by_cases hc : a.category = 2
    · rw [if_pos hc]
      simp only [a_ent, if_pos hc]
      refine ⟨by simp [ih.1], fun i v h => ?_⟩
      match i with
      | 0 => simp at h; subst h; simp
      | 1 => simp at h
      | i + 2 => simpa using ih.2 i v (by simpa using h)
    · rw [if_neg hc]
      simp only [a_ent, if_neg hc]
      refine ⟨by simp [ih.1], fun i v h => ?_⟩
      match i with
      | 0 => simp at h; subst h; simp
      | i + 1 => simpa using ih.2 i v (by simpa using h)
theorem a_lv_entry (G : aG) (as : List Value) {n : Nat} (h : (a_ent as).length ≤ n) : a_lv G ((lg_sl (as.map (a_tr G)) ++ List.replicate (n - (lg_sl (as.map (a_tr G))).length) Slot.unset).toArray) n (a_entry as n) := by
  obtain ⟨e1, e2⟩ := a_ent_sl G as
  have hh := lv_entry (as.map (a_tr G)) (n := n) (by rw [e1]; exact h)
  refine ⟨hh.1, hh.2.1, fun i v hi => ?_⟩
  unfold a_entry at hi
  by_cases hlt : i < (a_ent as).length
  · rw [List.getElem?_append_left hlt] at hi
    have := e2 i v hi
    simp only [List.getElem?_toArray]
    rw [List.getElem?_append_left (by rw [e1]; exact hlt)]
    exact this
  · rw [List.getElem?_append_right (by omega), List.getElem?_replicate] at hi
    split at hi <;> cases hi
