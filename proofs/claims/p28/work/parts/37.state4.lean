-- ===== Warren =====
abbrev wW (h s0 t0 l0 m0 : Nat) : va_W := [(h, .inr (4, [.ref s0, .ref t0, .ref l0, .ref m0]))]
abbrev wL (l0 : Nat) (mc : Int32) (e0 : Nat) (n : Nat) : va_W := [(l0, .inr (0, [.int mc, .ref e0, .int (nI n)]))]
def withinB (x y z : Int32) : Bool := if x < y then false else if z < x then false else true
def cellB (x : Int32) : Bool := if x < 0 then false else if 160 ≤ x then false else true
def sideB (x : Int32) : Bool := if x = 0 then true else if x = 1 then true else false
section WN
variable {p : Program} {l : Launch} {e : Env} {R : Room} {s : State} {m : MethodId} {args : Array Value} {below : List Frame} {meth : Method} {c : Code} {H : Heap} {locs : List Loc} {cells slots : Nat} {Q : State → Prop}
variable {cc : ByteArray} {pc : Nat} {ls : Array Slot} {rest : List Value} {D : va_G} {cl : List vw_C} {A : Nat → Prop} {ws : va_W} {H0 : Heap} {cI : ClassId}
/-- a new row of ints, all 0: its class is the one that is known -/
theorem w_newI (hexec : p.tables.exec = Jvm.exec) (hb : c.code = cc) (harr : (Cond.arrayClass .int).before args s = true) (hK : va_K D cl [(cI, .int)] s) (hP : va_P D cl ws H) (hD : va_D A ws) (hS : va_S A H0 H locs) (hA : ∀ q, H0.size ≤ q → A q)
    {n : Int32} {N' : Nat} (hn : ¬ n < 0) (hN : n.toNatClampNeg = N') (hbytes : N' * 4 ≤ 536870912) (hcells : cells + 1 ≤ R.cells) (hslots : slots + N' ≤ R.slots) (hdg : decode cc pc = .ok (.newarray .int, 2))
    (kk : ∀ (q : Nat) (H1 : Heap), va_P D cl (ws ++ [(q, .inl (cI, N', .inl (fun _ => 0)))]) H1 → va_D A (ws ++ [(q, .inl (cI, N', .inl (fun _ => 0)))]) → va_S A H0 H1 locs →
      W p l e R s m args below meth c H1 locs (cells + 1) (slots + N') Q (F0 m (pc + 2) ls (.ref q :: rest))) : W p l e R s m args below meth c H locs cells slots Q (F0 m pc ls (.int n :: rest)) := by
  refine va_newa (atype := .int) (ty := .int) (a0 := (N', .inl (fun _ => 0))) hexec hb harr rfl hK hP hD hS hA (fun cA => rfl) hn hN hbytes hcells hslots hdg (fun q cA H1 hK1 hP1 hD1 hS1 => ?_)
  have e1 : cA = cI := by
    have h1 := (hK1.2 1 _ rfl).2
    have h2 := (hK.2 0 _ rfl).2
    exact Option.some.inj (h1.symm.trans h2)
  subst e1
  exact kk q H1 hP1 hD1 hS1
end WN
def fillL (x : Int32) : Nat → Nat → (Nat → Int32) → (Nat → Int32)
  | 0, _, g => g
  | m + 1, k, g => fillL x m (k + 1) (upd g (nI k).toNatClampNeg x)
def fillF (f : Nat → Int32) (n : Nat) (x : Int32) : Nat → Int32 := fillL x n 0 f
abbrev z0 : Nat → Int32 := fun _ => 0
/-- a State as its constructor leaves it -/
def s0 : SS := (fillF z0 160 1, z0, z0, z0, z0, 0, 0, 0)
abbrev ad6 (a b c d e f : Nat) : Nat → Nat := fun k => match k with
  | 0 => a
  | 1 => b
  | 2 => c
  | 3 => d
  | 4 => e
  | _ => f
-- ===== what the throwing methods share =====
theorem P_kept {D : va_G} {cl : List vw_C} {ws : va_W} {H H1 : Heap} (hP : va_P D cl ws H) (h : ∀ q, q < H.size → H1[q]? = H[q]?) : va_P D cl ws H1 := fun k q hq => (hP k q hq).kept (h _ (hP k q hq).lt)
def eA : String := "java/lang/IllegalArgumentException"
def eS : String := "java/lang/IllegalStateException"
def eI : String := "java/lang/IndexOutOfBoundsException"
def strs : List (Nat × String) := [(39, "the room is not on the map"), (54, "no such cell"), (60, "no such kind there"), (71, "a being is on it"), (88, "no such side"), (93, "no such side or life"), (99, "it cannot be there, or there were 10"), (108, "no such being"), (110, "no such force, guard or speed"), (120, "no such effect, stack or turns"), (125, "it is dead"), (134, "no such thing to ask"), (139, "no such effect"), (144, "no such thing to count"), (149, "no such action"), (161, "there is no turn, or it is not possible"), (167, "turns is not 1 to 40"), (175, "no such being or cell"), (195, "there are 5"), (205, "no such game")]
def SB (U : State) : Prop := ∀ q ∈ strs, ∃ sa : Nat, vk_R RX4 q.1 q.2 sa U
def cast_A : Cond := .castable eA eA
def cast_S : Cond := .castable eS eS
def cast_I : Cond := .castable eI eI
theorem castN {a b : String} {s U : State} (hW : s.WarmedH U.vm) (h : va_Nw (.castable a b) s) : va_Nw (.castable a b) U := va_tabs rfl (rfl : (s.setVm U.vm).vm = U.vm) ((Cond.castable_setVm hW.alike a b).trans h)
def decl_1 : Cond := .declares (Bundle.initS "java/lang/RuntimeException")
def decl_2 : Cond := .declares (Bundle.initS "java/lang/Exception")
def decl_3 : Cond := .declares (Bundle.initS Bundle.tN)
theorem declN {y : MethodName} {s U : State} (hW : s.WarmedH U.vm) (h : va_Nw (.declares y) s) : va_Nw (.declares y) U := va_tabs rfl (rfl : (s.setVm U.vm).vm = U.vm) (show (Cond.declares y).before #[] (s.setVm U.vm) = true by rw [Cond.declares_setVm hW.alike]; exact h)
def ySize : MethodName := ⟨"java/util/List", "size", "()I"⟩
def yAdd : MethodName := ⟨"java/util/List", "add", "(Ljava/lang/Object;)Z"⟩
def yGet : MethodName := ⟨"java/util/List", "get", "(I)Ljava/lang/Object;"⟩
/-- the list's methods, called through the interface -/
def FV (U : State) : Prop := va_Fw RJx4a65c ySize yJx4a65c_size_8abf5 U ∧ va_Fw RJx4a65c yAdd yJx4a65c_add_9ea2d U ∧ va_Fw RJx4a65c yGet yJx4a65c_get_915e3 U
theorem FV.alike {u U : State} (hv : u.vm.Alike U.vm) (h : FV u) : FV U := by
  obtain ⟨h1, h2, h3⟩ := h
  exact ⟨va_Fw.moved (by decide) hv h1, va_Fw.moved (by decide) hv h2, va_Fw.moved (by decide) hv h3⟩
/-- the texts, that a thrown one is of its own class, and whence its constructors come -/
def XV (U : State) : Prop := EV U ∧ SB U ∧ va_Nw cast_A U ∧ va_Nw cast_S U ∧ va_Nw cast_I U ∧ va_Nw decl_1 U ∧ va_Nw decl_2 U ∧ va_Nw decl_3 U ∧ FV U
theorem XV.warm {s U : State} (hW : s.WarmedH U.vm) (h : XV s) : XV U := by
  obtain ⟨h1, h2, h3, h4, h5, h6, h7, h8, h9⟩ := h
  exact ⟨EV.warm hW h1, fun q hq => (h2 q hq).elim fun sa ha => ⟨sa, vk_R.warm hW ha⟩, castN hW h3, castN hW h4, castN hW h5, declN hW h6, declN hW h7, declN hW h8, FV.alike hW.alike h9⟩
theorem XV.same {u U : State} (hv : u.vm = U.vm) (h : XV u) : XV U := by
  obtain ⟨h1, h2, h3, h4, h5, h6, h7, h8, h9⟩ := h
  exact ⟨EV.same hv h1, fun q hq => (h2 q hq).elim fun sa ha => ⟨sa, vk_R.same hv.symm ha⟩, va_Nw.same rfl hv h3, va_Nw.same rfl hv h4, va_Nw.same rfl hv h5, va_Nw.same rfl hv h6, va_Nw.same rfl hv h7, va_Nw.same rfl hv h8, FV.alike (hv ▸ Vm.Alike.refl u.vm) h9⟩
/-- the two statics of Throwable that a throw reads -/
def TX (A : Nat → Prop) (U : State) (H : Heap) : Prop := vx_Zq Bundle.tN "UNASSIGNED_STACK" Bundle.steD A U H ∧ vx_Zq Bundle.tN "SUPPRESSED_SENTINEL" Bundle.listD A U H
theorem TX.pass {A B : Nat → Prop} {s : State} {H : Heap} {locs : List Loc} (h : TX A s s.heap) (hS : va_S A s.heap H locs) (hB : ∀ q, B q → A q) {U : State} (hU : U.heap = H) (hal : s.vm.Alike U.vm) : TX B U U.heap := by
  rw [hU]
  exact ⟨vx_Zq.moved hal ((vx_Zq.kept h.1 (fun q h1 h2 => hS.2.1 q h1 h2)).narrow hB), vx_Zq.moved hal ((vx_Zq.kept h.2 (fun q h1 h2 => hS.2.1 q h1 h2)).narrow hB)⟩
/-- what a method that may throw asks -/
def preX (D : va_G) (cI : ClassId) (ws : va_W) (sz : Nat) (U : State) : Prop := U.heap.size = sz ∧ va_P D vwCl ws U.heap ∧ va_K D vwCl [(cI, .int)] U ∧ XV U ∧ va_D (fun _ => True) ws ∧ TX (va_A ws sz) U U.heap
theorem preX_blind {av : List Value} {D : va_G} {cI : ClassId} {ws : va_W} {sz : Nat} : FrameBlind (va_Pc av (preX D cI ws sz)) := fun a U g mk q => by
  obtain ⟨q0, q1, qP, qK, qE, qD, qT⟩ := q
  exact ⟨q0, q1, qP, va_K.moved (u := U) (U := U.calling g mk a) (Vm.Alike.refl U.vm) qK, XV.same (u := U) (U := U.calling g mk a) rfl qE, qD, vx_Zq.moved (u := U) (U := U.calling g mk a) (Vm.Alike.refl U.vm) qT.1, vx_Zq.moved (u := U) (U := U.calling g mk a) (Vm.Alike.refl U.vm) qT.2⟩
theorem preX_of {D : va_G} {cI : ClassId} {ws : va_W} {A : Nat → Prop} {s : State} {H : Heap} {locs : List Loc} (hP : va_P D vwCl ws H) (hK : va_K D vwCl [(cI, .int)] s) (hE : XV s) (hD : va_D A ws) (hT : TX A s s.heap) (hS : va_S A s.heap H locs) (hF : ∀ q, va_A ws H.size q → A q) (av : List Value) : ∀ U : State, U.heap = H → s.WarmedH U.vm → va_Pc av (preX D cI ws H.size) av.toArray U := fun U hU hW => ⟨rfl, by rw [hU], by rw [hU]; exact hP, va_K.moved hW.alike hK, XV.warm hW hE, hD.weaken (fun _ _ _ _ => trivial), hT.pass hS hF hU hW.alike⟩
/-- which of its exceptions a method throws (n of them in order), and the world then -/
def thrX (n : Nat) (nm : Nat → String) (D : va_G) (cI : ClassId) (A : Nat → Prop) (ws : va_W) : String → State → State → Prop := vx_X (fun (_ : Unit) => ¬ n = 0) (fun E _ t => E = nm n ∧ posM D cI A ws t) A
def nmA : Nat → String := fun _ => eA
def nmI : Nat → String := fun _ => eI
def nmS : Nat → String := fun _ => eS
def nmIAS : Nat → String
  | 1 => eI
  | 2 => eA
  | _ => eS
def nmAI : Nat → String
  | 1 => eA
  | _ => eI
def nmAS : Nat → String
  | 1 => eA
  | _ => eS
theorem thr_of {n : Nat} {nm : Nat → String} {D : va_G} {cI : ClassId} {A : Nat → Prop} {ws : va_W} {s : State} {H : Heap} {locs : List Loc} {E : String} (hn : ¬ n = 0) (hE : E = nm n) (hP : va_P D vwCl ws H) (hK : va_K D vwCl [(cI, .int)] s) (hD : va_D A ws) (hS : va_S A s.heap H locs) :
    ∀ t : State, s.vm.Alike t.vm → H.size ≤ t.heap.size → (∀ q : Nat, q < H.size → t.heap[q]? = H[q]?) → thrX n nm D cI A ws E s t := fun t hal hsz hq =>
  ⟨(), hn, ⟨hE, P_kept hP hq, va_K.moved hal hK, hD⟩, Nat.le_trans hS.1 hsz, fun q h1 h2 => (hq q (Nat.lt_of_lt_of_le h1 hS.1)).trans (hS.2.1 q h1 h2)⟩
/-- a read that calls the list too -/
def preF (D : va_G) (cI : ClassId) (ws : va_W) (U : State) : Prop := preR D cI ws U ∧ FV U
theorem preF_blind {av : List Value} {D : va_G} {cI : ClassId} {ws : va_W} : FrameBlind (va_Pc av (preF D cI ws)) := fun a U g mk q => by
  obtain ⟨q0, q1, q2⟩ := q
  exact ⟨q0, (preR_blind (av := av) a U g mk ⟨q0, q1⟩).2, FV.alike (u := U) (U := U.calling g mk a) (Vm.Alike.refl U.vm) q2⟩
theorem preF_of {D : va_G} {cI : ClassId} {ws : va_W} {s : State} {H : Heap} (hP : va_P D vwCl ws H) (hK : va_K D vwCl [(cI, .int)] s) (hE : EV s) (hF : FV s) (av : List Value) : ∀ U : State, U.heap = H → s.WarmedH U.vm → va_Pc av (preF D cI ws) av.toArray U := fun U hU hW => ⟨rfl, (preR_of hP hK hE av U hU hW).2, FV.alike hW.alike hF⟩
