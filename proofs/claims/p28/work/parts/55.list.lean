-- ===== the first game that is saved: the list's first element =====
def oJ : String := "java/lang/Object"
/-- ten places of a list -/
abbrev pW (cP : ClassId) (q : Nat) (f : Nat → Option Nat) : va_W := [(q, .inl (cP, 10, .inr (.inr (.inr (.inr f)))))]
/-- the list's empty row has no place -/
def ET (e0 : Nat) (A : Nat → Prop) (U : State) (H : Heap) : Prop := va_T (.object "java/lang/Object") e0 0 (fun _ => .null) A U H
def castSO : Cond := .castable RX2 "java/lang/Object"
/-- what the list's growing asks -/
def EX (e0 : Nat) (A : Nat → Prop) (U : State) (H : Heap) : Prop := ZE e0 A U H ∧ ET e0 A U H ∧ va_AO "java/lang/Object" U ∧ va_Nw castSO U
theorem EX.pass {e0 : Nat} {A B : Nat → Prop} {s : State} {H : Heap} {locs : List Loc} (h : EX e0 A s s.heap) (hS : va_S A s.heap H locs) (hB : ∀ q, B q → A q) {U : State} (hU : U.heap = H) (hW : s.WarmedH U.vm) : EX e0 B U U.heap := by
  rw [hU]
  exact ⟨va_Z.moved hW.alike ((va_Z.kept h.1 (fun q h1 h2 => hS.2.1 q h1 h2)).narrow hB), va_T.moved hW.alike ((va_T.kept h.2.1 (fun q h1 h2 => hS.2.1 q h1 h2)).narrow hB), va_AO.moved hW.alike h.2.2.1, castN hW h.2.2.2⟩
theorem EX.same {e0 : Nat} {A : Nat → Prop} {u U : State} {H : Heap} (hv : u.vm = U.vm) (h : EX e0 A u H) : EX e0 A U H :=
  ⟨va_Z.moved (hv ▸ Vm.Alike.refl u.vm) h.1, va_T.moved (hv ▸ Vm.Alike.refl u.vm) h.2.1, va_AO.moved (hv ▸ Vm.Alike.refl u.vm) h.2.2.1, va_Nw.same rfl hv h.2.2.2⟩
def preE (D : va_G) (cI : ClassId) (ws : va_W) (sz e0 : Nat) (U : State) : Prop := preM D cI ws sz U ∧ EX e0 (va_A ws sz) U U.heap
theorem preE_blind {av : List Value} {D : va_G} {cI : ClassId} {ws : va_W} {sz e0 : Nat} : FrameBlind (va_Pc av (preE D cI ws sz e0)) := fun a U g mk q => by
  obtain ⟨q0, q1, q2⟩ := q
  exact ⟨q0, (preM_blind (av := av) a U g mk ⟨q0, q1⟩).2, EX.same (u := U) (U := U.calling g mk a) rfl q2⟩
theorem preE_of {D : va_G} {cI : ClassId} {ws : va_W} {A : Nat → Prop} {s : State} {H : Heap} {locs : List Loc} {e0 : Nat} (hP : va_P D vwCl ws H) (hK : va_K D vwCl [(cI, .int)] s) (hE : EV s) (hD : va_D A ws) (hX : EX e0 A s s.heap) (hS : va_S A s.heap H locs) (hF : ∀ q, va_A ws H.size q → A q) (av : List Value) : ∀ U : State, U.heap = H → s.WarmedH U.vm → va_Pc av (preE D cI ws H.size e0) av.toArray U := fun U hU hW =>
  ⟨rfl, (preM_of hP hK hE hD av U hU hW).2, hX.pass hS hF hU hW⟩
/-- with the class of the list's new row -/
def posP (D : va_G) (cI cP : ClassId) (A : Nat → Prop) (ws : va_W) (t : State) : Prop := va_P D vwCl ws t.heap ∧ va_K D vwCl [(cI, .int), (cP, .object "java/lang/Object")] t ∧ va_D A ws
def preXE (D : va_G) (cI : ClassId) (ws : va_W) (sz e0 : Nat) (U : State) : Prop := preX D cI ws sz U ∧ EX e0 (va_A ws sz) U U.heap
theorem preXE_blind {av : List Value} {D : va_G} {cI : ClassId} {ws : va_W} {sz e0 : Nat} : FrameBlind (va_Pc av (preXE D cI ws sz e0)) := fun a U g mk q => by
  obtain ⟨q0, q1, q2⟩ := q
  exact ⟨q0, (preX_blind (av := av) a U g mk ⟨q0, q1⟩).2, EX.same (u := U) (U := U.calling g mk a) rfl q2⟩
theorem preXE_of {D : va_G} {cI : ClassId} {ws : va_W} {A : Nat → Prop} {s : State} {H : Heap} {locs : List Loc} {e0 : Nat} (hP : va_P D vwCl ws H) (hK : va_K D vwCl [(cI, .int)] s) (hE : XV s) (hD : va_D A ws) (hT : TX A s s.heap) (hX : EX e0 A s s.heap) (hS : va_S A s.heap H locs) (hF : ∀ q, va_A ws H.size q → A q) (av : List Value) : ∀ U : State, U.heap = H → s.WarmedH U.vm → va_Pc av (preXE D cI ws H.size e0) av.toArray U := fun U hU hW =>
  ⟨rfl, (preX_of hP hK hE hD hT hS hF av U hU hW).2, hX.pass hS hF hU hW⟩
/-- the list's row stands: its class is known -/
def preLP (D : va_G) (cI cP : ClassId) (ws : va_W) (sz : Nat) (U : State) : Prop := U.heap.size = sz ∧ va_P D vwCl ws U.heap ∧ va_K D vwCl [(cI, .int), (cP, .object "java/lang/Object")] U ∧ XV U ∧ va_D (fun _ => True) ws ∧ TX (va_A ws sz) U U.heap ∧ va_Nw castSO U
theorem preLP_blind {av : List Value} {D : va_G} {cI cP : ClassId} {ws : va_W} {sz : Nat} : FrameBlind (va_Pc av (preLP D cI cP ws sz)) := fun a U g mk q => by
  obtain ⟨q0, q1, qP, qK, qE, qD, qT, qC⟩ := q
  exact ⟨q0, q1, qP, va_K.moved (u := U) (U := U.calling g mk a) (Vm.Alike.refl U.vm) qK, XV.same (u := U) (U := U.calling g mk a) rfl qE, qD, ⟨vx_Zq.moved (u := U) (U := U.calling g mk a) (Vm.Alike.refl U.vm) qT.1, vx_Zq.moved (u := U) (U := U.calling g mk a) (Vm.Alike.refl U.vm) qT.2⟩, va_Nw.same rfl rfl qC⟩
theorem preLP_of {D : va_G} {cI cP : ClassId} {ws : va_W} {A : Nat → Prop} {s : State} {H : Heap} {locs : List Loc} (hP : va_P D vwCl ws H) (hK : va_K D vwCl [(cI, .int), (cP, .object "java/lang/Object")] s) (hE : XV s) (hD : va_D A ws) (hT : TX A s s.heap) (hC : va_Nw castSO s) (hS : va_S A s.heap H locs) (hF : ∀ q, va_A ws H.size q → A q) (av : List Value) : ∀ U : State, U.heap = H → s.WarmedH U.vm → va_Pc av (preLP D cI cP ws H.size) av.toArray U := fun U hU hW => ⟨rfl, by rw [hU], by rw [hU]; exact hP, va_K.moved hW.alike hK, XV.warm hW hE, hD.weaken (fun _ _ _ _ => trivial), hT.pass hS hF hU hW.alike, castN hW hC⟩
theorem K_P {D : va_G} {cl : List vw_C} {cI cP : ClassId} {s : State} (h : va_K D cl [(cI, .int), (cP, .object "java/lang/Object")] s) : va_K D cl [(cI, .int)] s := ⟨h.1, fun k q hq => by
  cases k with
  | zero => exact h.2 0 q hq
  | succ k => exact nomatch hq⟩
section WLP
variable {p : Program} {l : Launch} {e : Env} {R : Room} {s : State} {m : MethodId} {args : Array Value} {below : List Frame} {meth : Method} {c : Code} {H : Heap} {locs : List Loc} {cells slots : Nat} {Q : State → Prop}
variable {cc : ByteArray} {pc : Nat} {ls : Array Slot} {rest : List Value} {D : va_G} {cl : List vw_C} {ws : va_W} {a : Nat}
theorem w_ldP (hexec : p.tables.exec = Jvm.exec) (hb : c.code = cc) {tys : List (ClassId × FieldType)} (hK : va_K D cl tys s) (hP : va_P D cl ws H) (q0 t0 : Nat) {cA : ClassId} {C : String} {n v : Nat} {f : Nat → Option Nat} (ha : ws[q0]? = some (a, .inl (cA, n, .inr (.inr (.inr (.inr f)))))) (ht : tys[t0]? = some (cA, .object C)) {i : Int32} (hin : vp_in i n) (hf : f i.toNatClampNeg = some v) (hdg : decode cc pc = .ok (.aaload, 1))
    (kk : W p l e R s m args below meth c H locs cells slots Q (F0 m (pc + 1) ls (.ref v :: rest))) : W p l e R s m args below meth c H locs cells slots Q (F0 m pc ls (.int i :: .ref a :: rest)) :=
  va_aldq hexec hb hK hP q0 t0 ha ht hin hdg (by rw [hf]; exact kk)
end WLP
def meanF (σ : SS) : UInt64 := if livingF σ 0 + livingF σ 1 = 0 then FP.dconst0 else FP.ddiv (FP.i2d (lifeF σ 0 + lifeF σ 1)) (FP.i2d (livingF σ 0 + livingF σ 1))
