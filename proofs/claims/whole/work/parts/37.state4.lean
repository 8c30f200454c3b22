-- ===== Warren =====
abbrev wW (h s0 t0 l0 m0 : Nat) : va_W := [(h, .inr (4, [.ref s0, .ref t0, .ref l0, .ref m0]))]
abbrev wL (l0 : Nat) (mc : Int32) (e0 : Nat) (n : Nat) : va_W := [(l0, .inr (0, [.int mc, .ref e0, .int (nI n)]))]
def withinB (x y z : Int32) : Bool := if x < y then false else if z < x then false else true
def cellB (x : Int32) : Bool := if x < 0 then false else if 160 ≤ x then false else true
def sideB (x : Int32) : Bool := if x = 0 then true else if x = 1 then true else false
section WN
variable {p : Program} {l : Launch} {e : Env} {R : Room} {s : State} {m : MethodId} {args : Array Value} {below : List Frame} {meth : Method} {c : Code} {H : Heap} {locs : List Loc} {cells slots : Nat} {Q : State → Prop}
variable {cc : ByteArray} {pc : Nat} {ls : Array Slot} {rest : List Value} {D : va_G} {cl : List vw_C} {A : Nat → Prop} {ws : va_W} {H0 : Heap} {cI : ClassId}
/-- a new row of ints, all 0: its class is the one that is known -/
theorem w_newI (hexec : p.tables.exec = Jvm.exec) (hb : c.code = cc) (harr : (Cond.arrayClass .int).before args s = true) (hK : va_K D cl [(cI, .int)] s) (hP : va_P D cl ws H) (hD : va_D A ws) (hS : va_S A H0 H locs) (hA : ∀ q, H0.size ≤ q → A q)
    {n : Int32} {N' : Nat} (hn : ¬ n < 0) (hN : n.toNatClampNeg = N') (hbytes : N' * 4 ≤ 536870912) (hcells : cells + 1 ≤ R.cells) (hslots : slots + N' ≤ R.slots) (hdg : decode cc pc = .ok (.newarray .int, 2))
    (kk : ∀ (q : Nat) (H1 : Heap), va_P D cl (ws ++ [(q, .inl (cI, N', .inl (fun _ => 0)))]) H1 → va_D A (ws ++ [(q, .inl (cI, N', .inl (fun _ => 0)))]) → va_S A H0 H1 locs →
      W p l e R s m args below meth c H1 locs (cells + 1) (slots + N') Q (F0 m (pc + 2) ls (.ref q :: rest))) : W p l e R s m args below meth c H locs cells slots Q (F0 m pc ls (.int n :: rest)) := by
  refine va_newa (atype := .int) (ty := .int) (a0 := (N', .inl (fun _ => 0))) hexec hb harr rfl hK hP hD hS hA (fun cA => rfl) hn hN hbytes hcells hslots hdg (fun q cA H1 hK1 hP1 hD1 hS1 => ?_)
  have e1 : cA = cI := by
    have h1 := (hK1.2 1 _ rfl).2
    have h2 := (hK.2 0 _ rfl).2
    exact Option.some.inj (h1.symm.trans h2)
  subst e1
  exact kk q H1 hP1 hD1 hS1
end WN
def fillL (x : Int32) : Nat → Nat → (Nat → Int32) → (Nat → Int32)
  | 0, _, g => g
  | m + 1, k, g => fillL x m (k + 1) (upd g (nI k).toNatClampNeg x)
def fillF (f : Nat → Int32) (n : Nat) (x : Int32) : Nat → Int32 := fillL x n 0 f
abbrev z0 : Nat → Int32 := fun _ => 0
/-- a State as its constructor leaves it -/
def s0 : SS := (fillF z0 160 1, z0, z0, z0, z0, 0, 0, 0)
abbrev ad6 (a b c d e f : Nat) : Nat → Nat := fun k => match k with
  | 0 => a
  | 1 => b
  | 2 => c
  | 3 => d
  | 4 => e
  | _ => f
