-- ===== the law's own calls of the class: with handlers =====
/-- the cell of the law's answer -/
abbrev oW (cO : ClassId) (o0 : Nat) (f : Nat → Int64) : va_W := [(o0, .inl (cO, 1, .inr (.inl f)))]
/-- which exception is none of another's kind -/
def NC (U : State) : Prop := va_Nc eA eI U ∧ va_Nc eS eI U ∧ va_Nc eS eA U ∧ va_Nc eI eA U
theorem NC.moved {u U : State} (hv : u.vm.Alike U.vm) (h : NC u) : NC U := ⟨va_Nc.moved hv h.1, va_Nc.moved hv h.2.1, va_Nc.moved hv h.2.2.1, va_Nc.moved hv h.2.2.2⟩
def preL (D : va_G) (cI cO : ClassId) (ws : va_W) (sz : Nat) (U : State) : Prop := U.heap.size = sz ∧ va_P D vwCl ws U.heap ∧ va_K D vwCl [(cI, .int), (cO, .long)] U ∧ XV U ∧ va_D (fun _ => True) ws ∧ TX (va_A ws sz) U U.heap ∧ NC U
theorem preL_blind {av : List Value} {D : va_G} {cI cO : ClassId} {ws : va_W} {sz : Nat} : FrameBlind (va_Pc av (preL D cI cO ws sz)) := fun a U g mk q => by
  obtain ⟨q0, q1, qP, qK, qE, qD, qT, qN⟩ := q
  exact ⟨q0, q1, qP, va_K.moved (u := U) (U := U.calling g mk a) (Vm.Alike.refl U.vm) qK, XV.same (u := U) (U := U.calling g mk a) rfl qE, qD, ⟨vx_Zq.moved (u := U) (U := U.calling g mk a) (Vm.Alike.refl U.vm) qT.1, vx_Zq.moved (u := U) (U := U.calling g mk a) (Vm.Alike.refl U.vm) qT.2⟩, NC.moved (u := U) (U := U.calling g mk a) (Vm.Alike.refl U.vm) qN⟩
theorem preL_of {D : va_G} {cI cO : ClassId} {ws : va_W} {A : Nat → Prop} {s : State} {H : Heap} {locs : List Loc} (hP : va_P D vwCl ws H) (hK : va_K D vwCl [(cI, .int), (cO, .long)] s) (hE : XV s) (hD : va_D A ws) (hT : TX A s s.heap) (hN : NC s) (hS : va_S A s.heap H locs) (hF : ∀ q, va_A ws H.size q → A q) (av : List Value) : ∀ U : State, U.heap = H → s.WarmedH U.vm → va_Pc av (preL D cI cO ws H.size) av.toArray U := fun U hU hW => ⟨rfl, by rw [hU], by rw [hU]; exact hP, va_K.moved hW.alike hK, XV.warm hW hE, hD.weaken (fun _ _ _ _ => trivial), hT.pass hS hF hU hW.alike, NC.moved hW.alike hN⟩
theorem K_1 {D : va_G} {cl : List vw_C} {cI cO : ClassId} {s : State} (h : va_K D cl [(cI, .int), (cO, .long)] s) : va_K D cl [(cI, .int)] s := ⟨h.1, fun k q hq => by
  cases k with
  | zero => exact h.2 0 q hq
  | succ k => exact nomatch hq⟩
theorem thr1 {n : Nat} (h : ¬ n = 0) (h1 : n ≤ 1) : n = 1 := by omega
theorem thr2 {n : Nat} (h : ¬ n = 0) (h1 : n ≤ 2) : n = 1 ∨ n = 2 := by omega
theorem thr3 {n : Nat} (h : ¬ n = 0) (h1 : n ≤ 3) : n = 1 ∨ n = 2 ∨ n = 3 := by omega
/-- after the call: the answer's cell alone -/
def posO (D : va_G) (cO : ClassId) (A : Nat → Prop) (o0 : Nat) (u : Nat → Int64) (t : State) : Prop := va_P D vwCl (oW cO o0 u) t.heap ∧ va_D A (oW cO o0 u)
