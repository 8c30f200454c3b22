-- ===== Ways, Mind: what they hold =====
/-- lengths (160), queue (320), queued -/
abbrev YS : Type := (Nat → Int32) × (Nat → Int32) × Int32
abbrev yW (cI : ClassId) (b : Nat → Nat) (ψ : YS) : va_W := [(b 0, .inr (3, [.ref (b 1), .ref (b 2), .int ψ.2.2])), (b 1, .inl (cI, 160, .inl ψ.1)), (b 2, .inl (cI, 320, .inl ψ.2.1))]
abbrev mW (cI : ClassId) (m0 y0 w0 : Nat) (f : Nat → Int32) : va_W := [(m0, .inr (1, [.ref y0, .ref w0])), (w0, .inl (cI, 8, .inl f))]
abbrev ad3 (a b c : Nat) : Nat → Nat := fun k => match k with
  | 0 => a
  | 1 => b
  | _ => c
abbrev ad4 (a b c d : Nat) : Nat → Nat := fun k => match k with
  | 0 => a
  | 1 => b
  | 2 => c
  | _ => d
def y0s : YS := (z0, z0, 0)
def ecD : String := "DEFAULTCAPACITY_EMPTY_ELEMENTDATA"
/-- the list's empty row, a static of the JDK's -/
def ZE (e0 : Nat) (A : Nat → Prop) (U : State) (H : Heap) : Prop := va_Z "java/util/ArrayList" "DEFAULTCAPACITY_EMPTY_ELEMENTDATA" "[Ljava/lang/Object;" (.ref e0) A U H
def mind_nest : Cond := .methodLinkNest RX4 28 yX0_init RX4
def ways_nest : Cond := .methodLinkNest RX0 11 yX3_init RX4
def preZ (D : va_G) (cI : ClassId) (ws : va_W) (sz : Nat) (e0 : Nat) (U : State) : Prop := preM D cI ws sz U ∧ ZE e0 (va_A ws sz) U U.heap ∧ va_Nw mind_nest U ∧ va_Nw ways_nest U
theorem preZ_blind {av : List Value} {D : va_G} {cI : ClassId} {ws : va_W} {sz e0 : Nat} : FrameBlind (va_Pc av (preZ D cI ws sz e0)) := fun a U g mk q => by
  obtain ⟨q0, q1, q2, q3, q4⟩ := q
  exact ⟨q0, (preM_blind (av := av) a U g mk ⟨q0, q1⟩).2, va_Z.moved (u := U) (U := U.calling g mk a) (Vm.Alike.refl U.vm) q2, va_Nw.same (u := U) (U := U.calling g mk a) rfl rfl q3, va_Nw.same (u := U) (U := U.calling g mk a) rfl rfl q4⟩
theorem preZ_of {D : va_G} {cI : ClassId} {ws : va_W} {A : Nat → Prop} {s : State} {H : Heap} {locs : List Loc} {e0 : Nat} (hP : va_P D vwCl ws H) (hK : va_K D vwCl [(cI, .int)] s) (hE : EV s) (hD : va_D A ws) (hZ : ZE e0 A s s.heap) (h1 : va_Nw mind_nest s) (h2 : va_Nw ways_nest s) (hS : va_S A s.heap H locs) (hF : ∀ q, va_A ws H.size q → A q) (av : List Value) : ∀ U : State, U.heap = H → s.WarmedH U.vm → va_Pc av (preZ D cI ws H.size e0) av.toArray U := fun U hU hW =>
  ⟨rfl, (preM_of hP hK hE hD av U hU hW).2, by rw [hU]; exact va_Z.moved hW.alike ((va_Z.kept hZ (fun q h1 h2 => hS.2.1 q h1 h2)).narrow hF), va_Nw.warmM hW h1, va_Nw.warmM hW h2⟩
