/-! ===== what the constructors leave ===== -/
def okM (m : sM) (n : sN) : Nat → List sE → aH → Prop
  | _, [], [] => True
  | i, e :: es, x :: xs => x = s_cell m n i e ∧ okM m n (i + 1) es xs
  | _, _, _ => False
theorem okM_bld {m : sM} {n : sN} : ∀ (es : List sE) (xs : aH) (i : Nat), okM m n i es xs → xs = es.mapIdx (fun k e => s_cell m n (i + k) e) := by
  intro es
  induction es with
  | nil => intro xs i h; cases xs with
    | nil => rfl
    | cons x xs => exact h.elim
  | cons e es ih => intro xs i h; cases xs with
    | nil => exact h.elim
    | cons x xs =>
      rw [List.mapIdx_cons, h.1, ih xs (i + 1) h.2]
      congr 1
      congr 1
      funext k e
      rw [show i + 1 + k = i + (k + 1) by omega]
theorem bld_of {m : sM} {n : sN} {M : aH} (h : okM m n 0 shp M) : M = bld m n := by
  rw [okM_bld shp M 0 h]
  unfold bld
  congr 1
  funext k e
  rw [Nat.zero_add]
