-- ===== words for what a State of the class holds, and what the walks share =====
/-- a State: kinds, known, traits, stacks, turns (rows of 160, 160, 90, 50, 50), how many beings, actions, hits -/
abbrev SS : Type := (Nat → Int32) × (Nat → Int32) × (Nat → Int32) × (Nat → Int32) × (Nat → Int32) × Nat × Int32 × Int32
/-- its cells: the object at a 0, its rows at a 1 .. a 5 -/
abbrev sW (cI : ClassId) (a : Nat → Nat) (σ : SS) : va_W := [(a 0, .inr (2, [.ref (a 1), .ref (a 2), .ref (a 3), .ref (a 4), .ref (a 5), .int (nI σ.2.2.2.2.2.1), .int σ.2.2.2.2.2.2.1, .int σ.2.2.2.2.2.2.2])), (a 1, .inl (cI, 160, .inl σ.1)), (a 2, .inl (cI, 160, .inl σ.2.1)), (a 3, .inl (cI, 90, .inl σ.2.2.1)), (a 4, .inl (cI, 50, .inl σ.2.2.2.1)), (a 5, .inl (cI, 50, .inl σ.2.2.2.2.1))]
abbrev s_ki (σ : SS) : Nat → Int32 := σ.1
abbrev s_kn (σ : SS) : Nat → Int32 := σ.2.1
abbrev s_tr (σ : SS) : Nat → Int32 := σ.2.2.1
abbrev s_st (σ : SS) : Nat → Int32 := σ.2.2.2.1
abbrev s_tu (σ : SS) : Nat → Int32 := σ.2.2.2.2.1
abbrev s_n (σ : SS) : Nat := σ.2.2.2.2.2.1
abbrev s_ac (σ : SS) : Int32 := σ.2.2.2.2.2.2.1
abbrev s_hi (σ : SS) : Int32 := σ.2.2.2.2.2.2.2
/-- the links between the classes of one nest: what the tables say of them -/
def nest_1 : Cond := .methodLinkNest RX2 49 yX4_isEdge RX4
def nest_2 : Cond := .methodLinkNest RX2 79 yX4_stopsSight RX4
def nest_3 : Cond := .fieldLinkNest RX2 123 RX4 "STEPS" "[I" RX4
def nest_4 : Cond := .fieldLinkNest RX3 34 RX2 "beings" "I" RX4
def nest_5 : Cond := .fieldLinkNest RX3 65 RX4 "STEPS" "[I" RX4
def nest_6 : Cond := .fieldLinkNest RX1 43 RX4 "STEPS" "[I" RX4
def nest_7 : Cond := .fieldLinkNest RX1 66 RX2 "actions" "I" RX4
def nest_8 : Cond := .fieldLinkNest RX1 82 RX2 "hits" "I" RX4
def nest_9 : Cond := .fieldLinkNest RX4 234 RX2 "beings" "I" RX4
def nest_10 : Cond := .fieldLinkNest RX4 238 RX2 "actions" "I" RX4
def nest_11 : Cond := .fieldLinkNest RX4 241 RX2 "hits" "I" RX4
def EV (U : State) : Prop := va_Nw nest_1 U ∧ va_Nw nest_2 U ∧ va_Nw nest_3 U ∧ va_Nw nest_4 U ∧ va_Nw nest_5 U ∧ va_Nw nest_6 U ∧ va_Nw nest_7 U ∧ va_Nw nest_8 U ∧ va_Nw nest_9 U ∧ va_Nw nest_10 U ∧ va_Nw nest_11 U
theorem EV.warm {s U : State} (hW : s.WarmedH U.vm) (h : EV s) : EV U := by
  obtain ⟨h1, h2, h3, h4, h5, h6, h7, h8, h9, h10, h11⟩ := h
  exact ⟨va_Nw.warmM hW h1, va_Nw.warmM hW h2, va_Nw.warmF hW h3, va_Nw.warmF hW h4, va_Nw.warmF hW h5, va_Nw.warmF hW h6, va_Nw.warmF hW h7, va_Nw.warmF hW h8, va_Nw.warmF hW h9, va_Nw.warmF hW h10, va_Nw.warmF hW h11⟩
theorem EV.same {u U : State} (hv : u.vm = U.vm) (h : EV u) : EV U := by
  obtain ⟨h1, h2, h3, h4, h5, h6, h7, h8, h9, h10, h11⟩ := h
  exact ⟨va_Nw.same rfl hv h1, va_Nw.same rfl hv h2, va_Nw.same rfl hv h3, va_Nw.same rfl hv h4, va_Nw.same rfl hv h5, va_Nw.same rfl hv h6, va_Nw.same rfl hv h7, va_Nw.same rfl hv h8, va_Nw.same rfl hv h9, va_Nw.same rfl hv h10, va_Nw.same rfl hv h11⟩
/-- what a method that only reads asks of its start: the cells, the tables, the links of the nest -/
def preR (D : va_G) (cI : ClassId) (ws : va_W) (U : State) : Prop := va_P D vwCl ws U.heap ∧ va_K D vwCl [(cI, .int)] U ∧ EV U
theorem preR_blind {av : List Value} {D : va_G} {cI : ClassId} {ws : va_W} : FrameBlind (va_Pc av (preR D cI ws)) := fun a U g mk q => by
  obtain ⟨q0, qP, qK, qE⟩ := q
  exact ⟨q0, qP, va_K.moved (u := U) (U := U.calling g mk a) (Vm.Alike.refl U.vm) qK, EV.same (u := U) (U := U.calling g mk a) rfl qE⟩
theorem preR_of {D : va_G} {cI : ClassId} {ws : va_W} {s : State} {H : Heap} (hP : va_P D vwCl ws H) (hK : va_K D vwCl [(cI, .int)] s) (hE : EV s) (av : List Value) : ∀ U : State, U.heap = H → s.WarmedH U.vm → va_Pc av (preR D cI ws) av.toArray U := fun U hU hW => ⟨rfl, by rw [hU]; exact hP, va_K.moved hW.alike hK, EV.warm hW hE⟩
/-- what a method that writes asks: the cells are apart too, and the heap's size is known -/
def preM (D : va_G) (cI : ClassId) (ws : va_W) (sz : Nat) (U : State) : Prop := U.heap.size = sz ∧ va_P D vwCl ws U.heap ∧ va_K D vwCl [(cI, .int)] U ∧ EV U ∧ va_D (fun _ => True) ws
theorem preM_blind {av : List Value} {D : va_G} {cI : ClassId} {ws : va_W} {sz : Nat} : FrameBlind (va_Pc av (preM D cI ws sz)) := fun a U g mk q => by
  obtain ⟨q0, q1, qP, qK, qE, qD⟩ := q
  exact ⟨q0, q1, qP, va_K.moved (u := U) (U := U.calling g mk a) (Vm.Alike.refl U.vm) qK, EV.same (u := U) (U := U.calling g mk a) rfl qE, qD⟩
theorem preM_of {D : va_G} {cI : ClassId} {ws : va_W} {A : Nat → Prop} {s : State} {H : Heap} (hP : va_P D vwCl ws H) (hK : va_K D vwCl [(cI, .int)] s) (hE : EV s) (hD : va_D A ws) (av : List Value) : ∀ U : State, U.heap = H → s.WarmedH U.vm → va_Pc av (preM D cI ws H.size) av.toArray U := fun U hU hW => ⟨rfl, by rw [hU], by rw [hU]; exact hP, va_K.moved hW.alike hK, EV.warm hW hE, hD.weaken (fun _ _ _ _ => trivial)⟩
/-- what it leaves: the cells, the tables, apart -/
def posM (D : va_G) (cI : ClassId) (A : Nat → Prop) (ws : va_W) (t : State) : Prop := va_P D vwCl ws t.heap ∧ va_K D vwCl [(cI, .int)] t ∧ va_D A ws
theorem hnil {P : Loc → Prop} : ∀ q ∈ ([] : List Loc), P q := fun _ h => nomatch h
/-- an index that was looked at -/
theorem vin {i : Int32} {n : Nat} (hn : n < 2 ^ 31) (h0 : ¬ i < 0) (h1 : ¬ nI n ≤ i) : vp_in i n := by
  obtain ⟨j, hj, rfl⟩ := nI_of h0
  exact vp_in_nI (Nat.lt_of_not_le fun q => h1 (nI_le q hj)) hn
/-- a truth as an int -/
def bi (b : Bool) : Int32 := if b then 1 else 0
theorem bi_0 {b : Bool} : bi b = 0 ↔ b = false := by cases b <;> simp [bi]
theorem bi_n0 {b : Bool} : ¬ bi b = 0 ↔ b = true := by cases b <;> simp [bi]
theorem bi_nar (b : Bool) : narrow .boolean (.int (bi b)) = .int (bi b) := by cases b <;> rfl
section WB
variable {p : Program} {l : Launch} {e : Env} {R : Room} {s : State} {m : MethodId} {args : Array Value} {below : List Frame} {meth : Method} {c : Code} {H : Heap} {locs : List Loc} {cells slots : Nat} {Q : State → Prop}
variable {cc : ByteArray} {pc : Nat} {ls : Array Slot} {rest : List Value}
theorem w_bz (hexec : p.tables.exec = Jvm.exec) (hb : c.code = cc) {b : Bool} {off : Int} {tgt : Nat} (hdg : decode cc pc = .ok (.ifCond .eq off, 3)) (ht : (pc : Int) + off = (tgt : Int))
    (kt : b = false → W p l e R s m args below meth c H locs cells slots Q (F0 m tgt ls rest)) (kf : b = true → W p l e R s m args below meth c H locs cells slots Q (F0 m (pc + 3) ls rest)) : W p l e R s m args below meth c H locs cells slots Q (F0 m pc ls (.int (bi b) :: rest)) :=
  lv_if_eq hexec hb hdg ht (fun q => kt (bi_0.mp q)) (fun q => kf (bi_n0.mp q))
theorem w_bnz (hexec : p.tables.exec = Jvm.exec) (hb : c.code = cc) {b : Bool} {off : Int} {tgt : Nat} (hdg : decode cc pc = .ok (.ifCond .ne off, 3)) (ht : (pc : Int) + off = (tgt : Int))
    (kt : b = true → W p l e R s m args below meth c H locs cells slots Q (F0 m tgt ls rest)) (kf : b = false → W p l e R s m args below meth c H locs cells slots Q (F0 m (pc + 3) ls rest)) : W p l e R s m args below meth c H locs cells slots Q (F0 m pc ls (.int (bi b) :: rest)) :=
  lv_if_ne hexec hb hdg ht (fun q => kt (bi_n0.mp q)) (fun q => kf (bi_0.mp q))
end WB
abbrev w_ki (σ : SS) (f : Nat → Int32) : SS := (f, σ.2)
abbrev w_kn (σ : SS) (f : Nat → Int32) : SS := (σ.1, f, σ.2.2)
abbrev w_tr (σ : SS) (f : Nat → Int32) : SS := (σ.1, σ.2.1, f, σ.2.2.2)
abbrev w_st (σ : SS) (f : Nat → Int32) : SS := (σ.1, σ.2.1, σ.2.2.1, f, σ.2.2.2.2)
abbrev w_tu (σ : SS) (f : Nat → Int32) : SS := (σ.1, σ.2.1, σ.2.2.1, σ.2.2.2.1, f, σ.2.2.2.2.2)
abbrev w_n (σ : SS) (n : Nat) : SS := (σ.1, σ.2.1, σ.2.2.1, σ.2.2.2.1, σ.2.2.2.2.1, n, σ.2.2.2.2.2.2)
abbrev w_ac (σ : SS) (x : Int32) : SS := (σ.1, σ.2.1, σ.2.2.1, σ.2.2.2.1, σ.2.2.2.2.1, σ.2.2.2.2.2.1, x, σ.2.2.2.2.2.2.2)
abbrev w_hi (σ : SS) (x : Int32) : SS := (σ.1, σ.2.1, σ.2.2.1, σ.2.2.2.1, σ.2.2.2.2.1, σ.2.2.2.2.2.1, σ.2.2.2.2.2.2.1, x)
-- ===== what the methods of State answer, in the code's own words =====
/-- a row of n places read with a look at the index -/
def rd (f : Nat → Int32) (n : Nat) (d i : Int32) : Int32 := if i < 0 then d else if nI n ≤ i then d else f i.toNatClampNeg
def wr (f : Nat → Int32) (n : Nat) (i x : Int32) : Nat → Int32 := if i < 0 then f else if nI n ≤ i then f else upd f i.toNatClampNeg x
def kindF (σ : SS) (c : Int32) : Int32 := rd (s_ki σ) 160 1 c
def traitF (σ : SS) (b w : Int32) : Int32 := rd (s_tr σ) 90 0 (b * 9 + w)
def stackF (σ : SS) (b x : Int32) : Int32 := rd (s_st σ) 50 0 (b * 5 + x)
def turnsF (σ : SS) (b x : Int32) : Int32 := rd (s_tu σ) 50 0 (b * 5 + x)
def beingB (σ : SS) (b : Int32) : Bool := if b < 0 then false else if nI (s_n σ) ≤ b then false else true
def roomB (σ : SS) : Bool := if (10 : Int32) ≤ nI (s_n σ) then false else true
def aliveB (σ : SS) (b : Int32) : Bool := if traitF σ b 2 ≤ 0 then false else true
def afraidB (σ : SS) (b : Int32) : Bool := if traitF σ b 3 ≤ 3 * traitF σ b 2 then false else true
/-- the first of k, k + 1, .. (n of them) for which it holds, else -1 -/
def fstI (q : Nat → Bool) : Nat → Nat → Int32
  | 0, _ => -1
  | n + 1, k => if q k = true then nI k else fstI q n (k + 1)
def onF (σ : SS) (c : Int32) : Int32 := fstI (fun j => decide (traitF σ (nI j) 1 = c)) (s_n σ) 0
