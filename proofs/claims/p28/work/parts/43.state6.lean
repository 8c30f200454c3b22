-- ===== copying a State =====
theorem row_eq {cI : ClassId} {n : Nat} {f g : Nat → Int32} (h : ∀ j, j < n → f j = g j) : vp_cell cI (n, .inl f) = vp_cell cI (n, .inl g) := by
  show arrV cI n (fun j => .int (f j)) = arrV cI n (fun j => .int (g j))
  unfold arrV
  have e : (fun j : Fin n => (Value.int (f j.val))) = (fun j : Fin n => (Value.int (g j.val))) := funext fun j => by rw [h j.val j.isLt]
  rw [e]
theorem P_row {D : va_G} {cl : List vw_C} {A : Nat → Prop} {ws : va_W} {H : Heap} {cI : ClassId} {n a : Nat} {f : Nat → Int32} (hP : va_P D cl ws H) (hD : va_D A ws) (k : Nat) (ha : ws[k]? = some (a, .inl (cI, n, .inl f))) (g : Nat → Int32) (h : ∀ j, j < n → f j = g j) : va_P D cl (ws.set k (a, .inl (cI, n, .inl g))) H := by
  refine hP.set hD ha ?_ (fun _ _ => rfl)
  show H[a]? = some (vp_cell cI (n, .inl g))
  rw [← row_eq h]
  exact hP k _ ha
theorem cpy_all {f g : Nat → Int32} {n : Nat} : ∀ j, j < n → va_cpy f g (0 : Int32).toNatClampNeg (0 : Int32).toNatClampNeg n j = f j := fun j hj => by
  have e : (0 : Int32).toNatClampNeg = 0 := by decide
  rw [e]
  unfold va_cpy
  rw [if_pos ⟨Nat.zero_le _, by omega⟩]
  simp
