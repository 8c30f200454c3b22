-- ===== the table of steps, beside what a method asks; what the rest of the class does, in the code's own words =====
def SX (t : Nat) (A : Nat → Prop) (U : State) (H : Heap) : Prop := va_Z RX4 "STEPS" "[I" (.ref t) A U H ∧ va_T .int t 4 stV A U H
theorem SX.pass {t : Nat} {A B : Nat → Prop} {s : State} {H : Heap} {locs : List Loc} (h : SX t A s s.heap) (hS : va_S A s.heap H locs) (hB : ∀ q, B q → A q) {U : State} (hU : U.heap = H) (hW : s.vm.Alike U.vm) : SX t B U U.heap := by
  rw [hU]
  exact ⟨va_Z.moved hW ((va_Z.kept h.1 (fun q h1 h2 => hS.2.1 q h1 h2)).narrow hB), va_T.moved hW ((va_T.kept h.2 (fun q h1 h2 => hS.2.1 q h1 h2)).narrow hB)⟩
theorem SX.same {t : Nat} {A : Nat → Prop} {u U : State} {H : Heap} (hv : u.vm = U.vm) (h : SX t A u H) : SX t A U H :=
  ⟨va_Z.moved (hv ▸ Vm.Alike.refl u.vm) h.1, va_T.moved (hv ▸ Vm.Alike.refl u.vm) h.2⟩
/-- a method that only reads, the table too -/
def preRS (D : va_G) (cI : ClassId) (ws : va_W) (t : Nat) (U : State) : Prop := preR D cI ws U ∧ SX t (fun _ => False) U U.heap
theorem preRS_blind {av : List Value} {D : va_G} {cI : ClassId} {ws : va_W} {t : Nat} : FrameBlind (va_Pc av (preRS D cI ws t)) := fun a U g mk q => by
  obtain ⟨q0, q1, q2⟩ := q
  exact ⟨q0, (preR_blind (av := av) a U g mk ⟨q0, q1⟩).2, SX.same (u := U) (U := U.calling g mk a) rfl q2⟩
theorem preRS_of {D : va_G} {cI : ClassId} {ws : va_W} {A : Nat → Prop} {s : State} {H : Heap} {locs : List Loc} {t : Nat} (hP : va_P D vwCl ws H) (hK : va_K D vwCl [(cI, .int)] s) (hE : EV s) (hX : SX t A s s.heap) (hS : va_S A s.heap H locs) (av : List Value) : ∀ U : State, U.heap = H → s.WarmedH U.vm → va_Pc av (preRS D cI ws t) av.toArray U := fun U hU hW =>
  ⟨rfl, (preR_of hP hK hE av U hU hW).2, hX.pass hS (fun _ z => z.elim) hU hW.alike⟩
/-- a method that writes -/
def preSX (D : va_G) (cI : ClassId) (ws : va_W) (sz t : Nat) (U : State) : Prop := preM D cI ws sz U ∧ SX t (va_A ws sz) U U.heap
theorem preSX_blind {av : List Value} {D : va_G} {cI : ClassId} {ws : va_W} {sz t : Nat} : FrameBlind (va_Pc av (preSX D cI ws sz t)) := fun a U g mk q => by
  obtain ⟨q0, q1, q2⟩ := q
  exact ⟨q0, (preM_blind (av := av) a U g mk ⟨q0, q1⟩).2, SX.same (u := U) (U := U.calling g mk a) rfl q2⟩
theorem preSX_of {D : va_G} {cI : ClassId} {ws : va_W} {A : Nat → Prop} {s : State} {H : Heap} {locs : List Loc} {t : Nat} (hP : va_P D vwCl ws H) (hK : va_K D vwCl [(cI, .int)] s) (hE : EV s) (hD : va_D A ws) (hX : SX t A s s.heap) (hS : va_S A s.heap H locs) (hF : ∀ q, va_A ws H.size q → A q) (av : List Value) : ∀ U : State, U.heap = H → s.WarmedH U.vm → va_Pc av (preSX D cI ws H.size t) av.toArray U := fun U hU hW =>
  ⟨rfl, (preM_of hP hK hE hD av U hU hW).2, hX.pass hS hF hU hW.alike⟩
/-- a method of the face -/
def preXS (D : va_G) (cI : ClassId) (ws : va_W) (sz t : Nat) (U : State) : Prop := preX D cI ws sz U ∧ SX t (va_A ws sz) U U.heap
theorem preXS_blind {av : List Value} {D : va_G} {cI : ClassId} {ws : va_W} {sz t : Nat} : FrameBlind (va_Pc av (preXS D cI ws sz t)) := fun a U g mk q => by
  obtain ⟨q0, q1, q2⟩ := q
  exact ⟨q0, (preX_blind (av := av) a U g mk ⟨q0, q1⟩).2, SX.same (u := U) (U := U.calling g mk a) rfl q2⟩
theorem preXS_of {D : va_G} {cI : ClassId} {ws : va_W} {A : Nat → Prop} {s : State} {H : Heap} {locs : List Loc} {t : Nat} (hP : va_P D vwCl ws H) (hK : va_K D vwCl [(cI, .int)] s) (hE : XV s) (hD : va_D A ws) (hT : TX A s s.heap) (hX : SX t A s s.heap) (hS : va_S A s.heap H locs) (hF : ∀ q, va_A ws H.size q → A q) (av : List Value) : ∀ U : State, U.heap = H → s.WarmedH U.vm → va_Pc av (preXS D cI ws H.size t) av.toArray U := fun U hU hW =>
  ⟨rfl, (preX_of hP hK hE hD hT hS hF av U hU hW).2, hX.pass hS hF hU hW.alike⟩
-- Ways
def lenF (ψ : YS) (c : Int32) : Int32 := rd ψ.1 160 (-2) c
def putLenF (ψ : YS) (c x : Int32) : YS := (wr ψ.1 160 c x, ψ.2)
def enqF (ψ : YS) (x : Int32) : YS := if ψ.2.2 < 0 then ψ else if nI 320 ≤ ψ.2.2 then ψ else (ψ.1, upd ψ.2.1 ψ.2.2.toNatClampNeg x, ψ.2.2 + 1)
def fromF (ψ : YS) (c : Int32) : Int32 := maxI (lenF ψ c) (-1)
def reachL (σ : SS) (x y : Int32) : Nat → Nat → YS → YS
  | 0, _, ψ => ψ
  | m + 1, k, ψ => reachL σ x y m (k + 1) (if lenF ψ (x + stF k) = -1 then if kindF σ (x + stF k) = 1 then ψ else enqF (putLenF ψ (x + stF k) y) (2 * (x + stF k)) else ψ)
def reachF (σ : SS) (ψ : YS) (x y : Int32) : YS := reachL σ x y 4 0 ψ
/-- one entry of the queue -/
def entryF (σ : SS) (ψ : YS) (e : Int32) : YS :=
  if kindF σ (e / 2) = 0 then reachF σ ψ (e / 2) (lenF ψ (e / 2) + 1)
  else if remI e 2 = 1 then reachF σ ψ (e / 2) (lenF ψ (e / 2) + 2) else enqF ψ (2 * (e / 2) + 1)
def spreadL (σ : SS) : Nat → Nat → YS → YS
  | 0, _, ψ => ψ
  | m + 1, k, ψ => if ψ.2.2 ≤ nI k then ψ else spreadL σ m (k + 1) (entryF σ ψ (ψ.2.1 k))
def spreadF (σ : SS) (ψ : YS) : YS := spreadL σ 320 0 ψ
def blockL (σ : SS) (w : Int32) : Nat → Nat → YS → YS
  | 0, _, ψ => ψ
  | m + 1, k, ψ => blockL σ w m (k + 1) (if nI k = w then ψ else putLenF ψ (traitF σ (nI k) 1) (-2))
def clearF (ψ : YS) : YS := (fillF ψ.1 160 (-1), ψ.2.1, 0)
def measureF (σ : SS) (ψ : YS) (w g : Int32) : YS :=
  if kindF σ g = 1 then clearF ψ else spreadF σ (enqF (putLenF (blockL σ w (s_n σ) 0 (clearF ψ)) g 0) (2 * g))
-- Rules
def towF (σ : SS) (b a : Int32) : Int32 := traitF σ b 1 + (if a - 1 < 0 then 0 else if nI 4 ≤ a - 1 then 0 else stF (a - 1).toNatClampNeg)
def canGoB (σ : SS) (b c : Int32) : Bool := if kindF σ c = 1 then false else if onF σ c = -1 then true else foeB σ b (onF σ c)
def magicB (σ : SS) (b a : Int32) : Bool := if traitF σ b 7 < 3 then false else if a = 5 then if targetF σ b = -1 then false else true else true
def possB (σ : SS) (b a : Int32) : Bool := if aliveB σ b = true then if a = 0 then true else if a < 1 then magicB σ b a else if 4 < a then magicB σ b a else canGoB σ b (towF σ b a) else false
def hitsF (σ : SS) : SS := w_hi σ (s_hi σ + 1)
def goS (σ : SS) (b c : Int32) : SS := if onF σ c = -1 then if kindF σ c = 2 then putKindF σ c 0 else putTraitF σ b 1 c else takeF (hitsF σ) (onF σ c) (hitF (hitsF σ) b (onF σ c))
def goR (σ : SS) (b c : Int32) : Int32 := if onF σ c = -1 then 0 else tookF (hitsF σ) (onF σ c) (hitF (hitsF σ) b (onF σ c))
def manaF (σ : SS) (b : Int32) : SS := putTraitF σ b 7 (traitF σ b 7 - 3)
def conjF (σ : SS) (b a : Int32) : SS := if a = 5 then addEffectF (manaF σ b) (targetF (manaF σ b) b) 0 2 3 else if a = 6 then addEffectF (manaF σ b) b 3 3 4 else addEffectF (manaF σ b) b 1 2 4
def restF (σ : SS) (b : Int32) : SS := if aliveB σ b = true then putTraitF σ b 2 (minI (traitF σ b 2 + stackF σ b 1) (traitF σ b 3)) else σ
def offL (b : Int32) : Nat → Nat → SS → SS
  | 0, _, σ => σ
  | m + 1, k, σ => offL b m (k + 1) (putEffectF σ b (nI k) (if turnsF σ b (nI k) - 1 ≤ 0 then 0 else stackF σ b (nI k)) (maxI (turnsF σ b (nI k) - 1) 0))
def wearF (σ : SS) (b : Int32) : SS := offL b 5 0 (restF (takeF σ b (stackF σ b 0)) b)
def tickF (σ : SS) (b : Int32) : Int32 := if traitF σ b 6 ≤ 0 then 0 else 12 / traitF σ b 6
def passF (σ : SS) (b z : Int32) : SS := putTraitF σ b 8 (traitF σ b 8 + (if z = 0 then tickF σ b else 2 * tickF σ b))
def slowF (σ : SS) (b : Int32) : Int32 := if stackF σ b 4 ≤ 0 then 0 else 1
def doF (σ : SS) (b a : Int32) : SS := if a = 0 then putTraitF σ b 7 (minI (traitF σ b 7 + 1) 9) else if 4 < a then conjF σ b a else goS σ b (towF σ b a)
def lostF (σ : SS) (b a : Int32) : Int32 := if a = 0 then 0 else if 4 < a then 0 else goR σ b (towF σ b a)
def actedF (σ : SS) : SS := w_ac σ (s_ac σ + 1)
def seenF (σ : SS) (b : Int32) : SS := if aliveB σ b = true then lookF σ b else σ
def perfF (σ : SS) (b a : Int32) : SS := seenF (passF (wearF (actedF (doF σ b a)) b) b (slowF σ b)) b
-- the ways once more, over what counts of them: the lengths, and the queue's entries alone
abbrev YA : Type := (Nat → Int32) × List Int32
def lenA (L : Nat → Int32) (c : Int32) : Int32 := rd L 160 (-2) c
def putA (z : YA) (c x : Int32) : YA := (wr z.1 160 c x, z.2)
def enqA (z : YA) (x : Int32) : YA := if z.2.length < 320 then (z.1, z.2 ++ [x]) else z
def reachAL (σ : SS) (x y : Int32) : Nat → Nat → YA → YA
  | 0, _, z => z
  | m + 1, k, z => reachAL σ x y m (k + 1) (if lenA z.1 (x + stF k) = -1 then if kindF σ (x + stF k) = 1 then z else enqA (putA z (x + stF k) y) (2 * (x + stF k)) else z)
def reachA (σ : SS) (z : YA) (x y : Int32) : YA := reachAL σ x y 4 0 z
def entryA (σ : SS) (z : YA) (e : Int32) : YA :=
  if kindF σ (e / 2) = 0 then reachA σ z (e / 2) (lenA z.1 (e / 2) + 1)
  else if remI e 2 = 1 then reachA σ z (e / 2) (lenA z.1 (e / 2) + 2) else enqA z (2 * (e / 2) + 1)
def spreadA (σ : SS) : Nat → Nat → YA → YA
  | 0, _, z => z
  | m + 1, k, z => match z.2[k]? with
    | none => z
    | some e => spreadA σ m (k + 1) (entryA σ z e)
def blockA (σ : SS) (w : Int32) : Nat → Nat → (Nat → Int32) → (Nat → Int32)
  | 0, _, L => L
  | m + 1, k, L => blockA σ w m (k + 1) (if nI k = w then L else wr L 160 (traitF σ (nI k) 1) (-2))
def measureA (σ : SS) (w g : Int32) : YA :=
  if kindF σ g = 1 then (fun _ => -1, []) else spreadA σ 320 0 (wr (blockA σ w (s_n σ) 0 (fun _ => -1)) 160 g 0, [2 * g])
/-- the lengths from every cell to g -/
def lensF (σ : SS) (w g : Int32) : Nat → Int32 := (measureA σ w g).1
def fromL (L : Nat → Int32) (c : Int32) : Int32 := maxI (lenA L c) (-1)
def relY (ψ : YS) (z : YA) : Prop := (∀ j, j < 160 → ψ.1 j = z.1 j) ∧ ψ.2.2 = nI z.2.length ∧ z.2.length ≤ 320 ∧ ∀ (j : Nat) (e : Int32), z.2[j]? = some e → ψ.2.1 j = e
theorem rd_congr {f g : Nat → Int32} {n : Nat} (hn : n < 2 ^ 31) (h : ∀ j, j < n → f j = g j) (d c : Int32) : rd f n d c = rd g n d c := by
  unfold rd
  rcases pk_ix c hn with q | q | ⟨j, hj, rfl⟩
  · rw [if_pos q, if_pos q]
  · by_cases q0 : c < 0
    · rw [if_pos q0, if_pos q0]
    · rw [if_neg q0, if_neg q0, if_pos q, if_pos q]
  · rw [if_neg (nI_pos (by omega)), if_neg (nI_pos (by omega)), if_neg (nI_ge hj (by omega)), if_neg (nI_ge hj (by omega)), nI_clamp (by omega), h j hj]
theorem wr_congr {f g : Nat → Int32} {n : Nat} (hn : n < 2 ^ 31) (h : ∀ j, j < n → f j = g j) (c x : Int32) : ∀ j, j < n → wr f n c x j = wr g n c x j := by
  intro j hj
  unfold wr
  rcases pk_ix c hn with q | q | ⟨i, hi, rfl⟩
  · rw [if_pos q, if_pos q]; exact h j hj
  · by_cases q0 : c < 0
    · rw [if_pos q0, if_pos q0]; exact h j hj
    · rw [if_neg q0, if_neg q0, if_pos q, if_pos q]; exact h j hj
  · rw [if_neg (nI_pos (by omega)), if_neg (nI_pos (by omega)), if_neg (nI_ge hi (by omega)), if_neg (nI_ge hi (by omega))]
    unfold upd
    by_cases q : j = (nI i).toNatClampNeg
    · rw [if_pos q, if_pos q]
    · rw [if_neg q, if_neg q]; exact h j hj
theorem rel_len {ψ : YS} {z : YA} (h : relY ψ z) (c : Int32) : lenF ψ c = lenA z.1 c := rd_congr (by decide) h.1 (-2) c
theorem rel_put {ψ : YS} {z : YA} (h : relY ψ z) (c x : Int32) : relY (putLenF ψ c x) (putA z c x) := ⟨wr_congr (by decide) h.1 c x, h.2.1, h.2.2.1, h.2.2.2⟩
theorem rel_enq {ψ : YS} {z : YA} (h : relY ψ z) (x : Int32) : relY (enqF ψ x) (enqA z x) := by
  obtain ⟨h1, h2, h3, h4⟩ := h
  unfold enqF enqA
  rw [h2, if_neg (nI_pos (by omega))]
  by_cases q : z.2.length < 320
  · rw [if_neg (nI_ge q (by decide)), if_pos q, nI_clamp (by omega), nI_1]
    refine ⟨h1, by simp, by simp; omega, ?_⟩
    intro j e he
    show upd ψ.2.1 z.2.length x j = e
    by_cases hj : j = z.2.length
    · subst hj
      rw [pk_us]
      simpa using he
    · rw [pk_un hj]
      have hl := (List.getElem?_eq_some_iff.mp he).1
      simp only [List.length_append, List.length_cons, List.length_nil] at hl
      exact h4 j e (by rw [List.getElem?_append_left (by omega)] at he; exact he)
  · rw [if_pos (nI_le (a := 320) (by omega) (by omega)), if_neg q]
    exact ⟨h1, h2, h3, h4⟩
theorem rel_reachL (σ : SS) (x y : Int32) : ∀ (m k : Nat) {ψ : YS} {z : YA}, relY ψ z → relY (reachL σ x y m k ψ) (reachAL σ x y m k z)
  | 0, _, _, _, h => h
  | m + 1, k, ψ, z, h => by
    unfold reachL reachAL
    refine rel_reachL σ x y m (k + 1) ?_
    rw [rel_len h]
    split
    · split
      · exact h
      · exact rel_enq (rel_put h _ _) _
    · exact h
theorem rel_entry (σ : SS) {ψ : YS} {z : YA} (h : relY ψ z) (e : Int32) : relY (entryF σ ψ e) (entryA σ z e) := by
  unfold entryF entryA
  rw [rel_len h]
  split
  · exact rel_reachL σ _ _ 4 0 h
  · split
    · exact rel_reachL σ _ _ 4 0 h
    · exact rel_enq h _
theorem rel_spread (σ : SS) : ∀ (m k : Nat) {ψ : YS} {z : YA}, k + m = 320 → relY ψ z → relY (spreadL σ m k ψ) (spreadA σ m k z)
  | 0, _, _, _, _, h => h
  | m + 1, k, ψ, z, hk, h => by
    unfold spreadL spreadA
    rw [h.2.1]
    cases he : z.2[k]? with
    | none =>
      have hl : z.2.length ≤ k := List.getElem?_eq_none_iff.mp he
      rw [if_pos (nI_le hl (by omega))]
      exact h
    | some e =>
      have hl := (List.getElem?_eq_some_iff.mp he).1
      rw [if_neg (nI_ge hl (by have := h.2.2.1; omega)), h.2.2.2 k e he]
      exact rel_spread σ m (k + 1) (by omega) (rel_entry σ h e)
theorem rel_block (σ : SS) (w : Int32) : ∀ (m k : Nat) {ψ : YS} {L : Nat → Int32}, relY ψ (L, []) → relY (blockL σ w m k ψ) (blockA σ w m k L, [])
  | 0, _, _, _, h => h
  | m + 1, k, ψ, L, h => by
    unfold blockL blockA
    refine rel_block σ w m (k + 1) ?_
    split
    · exact h
    · exact rel_put h _ _
theorem fillL_ge (x : Int32) : ∀ (m k : Nat) (f : Nat → Int32) (j : Nat), k + m < 2 ^ 31 → (fillL x m k f j = if k ≤ j ∧ j < k + m then x else f j)
  | 0, k, f, j, _ => by rw [if_neg (by omega)]; rfl
  | m + 1, k, f, j, h => by
    show fillL x m (k + 1) (upd f (nI k).toNatClampNeg x) j = _
    rw [fillL_ge x m (k + 1) _ j (by omega), nI_clamp (by omega)]
    by_cases h1 : k + 1 ≤ j ∧ j < k + 1 + m
    · rw [if_pos h1, if_pos (by omega)]
    · rw [if_neg h1]
      by_cases h2 : j = k
      · subst h2; rw [pk_us, if_pos (by omega)]
      · rw [pk_un h2, if_neg (by omega)]
theorem rel_clear (ψ : YS) : relY (clearF ψ) (fun _ => -1, []) := ⟨fun j hj => by
  show fillL (-1) 160 0 ψ.1 j = -1
  rw [fillL_ge (-1) 160 0 ψ.1 j (by decide), if_pos (by omega)], rfl, by decide, fun j e h => by simp at h⟩
theorem rel_measure (σ : SS) (ψ : YS) (w g : Int32) : relY (measureF σ ψ w g) (measureA σ w g) := by
  unfold measureF measureA
  split
  · exact rel_clear ψ
  · refine rel_spread σ 320 0 rfl ?_
    have h := rel_enq (rel_put (rel_block σ w (s_n σ) 0 (rel_clear ψ)) g 0) (2 * g)
    exact h
theorem measure_lens (σ : SS) (ψ : YS) (w g : Int32) : ∀ j, j < 160 → (measureF σ ψ w g).1 j = lensF σ w g j := (rel_measure σ ψ w g).1
theorem from_L (ψ : YS) (c : Int32) : fromF ψ c = fromL ψ.1 c := rfl
-- Mind
def guardF (σ : SS) (b : Int32) : Int32 := if afraidB σ b = true then 24 - 3 * stackF σ b 3 else if besideB σ b = true then 24 - 3 * stackF σ b 3 else 0
def goW (σ : SS) (L : Nat → Int32) (b c : Int32) : Int32 :=
  if onF σ c = -1 then if kindF σ c = 2 then 6
    else if fromL L (traitF σ b 1) = -1 then 0 else if fromL L c = -1 then 0
    else 10 + 4 * (if afraidB σ b = true then fromL L c - fromL L (traitF σ b 1) else fromL L (traitF σ b 1) - fromL L c)
  else 20 + 3 * hitF σ b (onF σ c) + (if hitF σ b (onF σ c) < traitF σ (onF σ c) 2 then 0 else 30)
def worthP (σ : SS) (L : Nat → Int32) (b a t : Int32) : Int32 :=
  if a = 0 then 1 else if a = 5 then 14 - stackF σ t 0 else if a = 6 then guardF σ b else if a = 7 then traitF σ b 3 - traitF σ b 2 - 2 * stackF σ b 1 else goW σ L b (towF σ b a)
def preyF (σ : SS) (b : Int32) : Int32 := if targetF σ b = -1 then firstFoeF σ b else targetF σ b
def goalF (σ : SS) (b : Int32) : Int32 := if preyF σ b = -1 then -1 else traitF σ (preyF σ b) 1
def worthF (σ : SS) (b : Int32) (k : Nat) : Int32 := if possB σ b (nI k) = true then worthP σ (lensF σ b (goalF σ b)) b (nI k) (targetF σ b) else -1000
def worthOfF (f : Nat → Int32) (a : Int32) : Int32 := rd f 8 (-1000) a
def bestL (f : Nat → Int32) : Nat → Nat → Int32 → Int32 → Int32
  | 0, _, b, _ => b
  | m + 1, k, b, w => if f k ≤ w then bestL f m (k + 1) b w else bestL f m (k + 1) (nI k) (f k)
def bestF (f : Nat → Int32) : Int32 := bestL f 8 0 (-1) (-1000)
def wayF (σ : SS) (b c : Int32) : Int32 := if aliveB σ b = true then fromL (lensF σ b c) (traitF σ b 1) else -1
def planF (σ : SS) (b : Int32) : Int32 := bestF (worthF σ b)
-- playing on
def turnS (σ : SS) : SS := perfF σ (turnF σ) (planF σ (turnF σ))
def playS : Nat → SS → SS
  | 0, σ => σ
  | m + 1, σ => if livingF σ 0 ≤ 0 then σ else if livingF σ 1 ≤ 0 then σ else playS m (turnS σ)
def playN : Nat → SS → Nat
  | 0, _ => 0
  | m + 1, σ => if livingF σ 0 ≤ 0 then 0 else if livingF σ 1 ≤ 0 then 0 else playN m (turnS σ) + 1
-- the number of beings stays
theorem n_put (σ : SS) (b x v : Int32) : s_n (putTraitF σ b x v) = s_n σ := rfl
theorem n_eff (σ : SS) (b x v w : Int32) : s_n (putEffectF σ b x v w) = s_n σ := rfl
theorem n_kind (σ : SS) (c k : Int32) : s_n (putKindF σ c k) = s_n σ := rfl
theorem n_take (σ : SS) (b x : Int32) : s_n (takeF σ b x) = s_n σ := by unfold takeF; split <;> rfl
theorem n_look (f s : Int32) : ∀ (m k : Nat) (σ : SS), s_n (lookL f s m k σ) = s_n σ
  | 0, _, _ => rfl
  | m + 1, k, σ => by
    unfold lookL
    split
    · exact n_look f s m (k + 1) σ
    · split
      · exact (n_look f s m (k + 1) _).trans rfl
      · exact n_look f s m (k + 1) σ
theorem n_seen (σ : SS) (b : Int32) : s_n (seenF σ b) = s_n σ := by unfold seenF; split; exact n_look _ _ 160 0 σ; rfl
theorem n_off (b : Int32) : ∀ (m k : Nat) (σ : SS), s_n (offL b m k σ) = s_n σ
  | 0, _, _ => rfl
  | m + 1, k, σ => by unfold offL; rw [n_off b m (k + 1)]; rfl
theorem n_rest (σ : SS) (b : Int32) : s_n (restF σ b) = s_n σ := by unfold restF; split <;> rfl
theorem n_wear (σ : SS) (b : Int32) : s_n (wearF σ b) = s_n σ := by unfold wearF; rw [n_off, n_rest, n_take]
theorem n_go (σ : SS) (b c : Int32) : s_n (goS σ b c) = s_n σ := by
  unfold goS
  repeat' split
  · rfl
  · rfl
  · exact n_take _ _ _
theorem n_conj (σ : SS) (b a : Int32) : s_n (conjF σ b a) = s_n σ := by
  unfold conjF
  repeat' split
  all_goals rfl
theorem n_do (σ : SS) (b a : Int32) : s_n (doF σ b a) = s_n σ := by
  unfold doF
  repeat' split
  · rfl
  · exact n_conj _ _ _
  · exact n_go _ _ _
theorem n_pass (σ : SS) (b z : Int32) : s_n (passF σ b z) = s_n σ := rfl
theorem n_acted (σ : SS) : s_n (actedF σ) = s_n σ := rfl
theorem n_perf (σ : SS) (b a : Int32) : s_n (perfF σ b a) = s_n σ := by
  unfold perfF
  rw [n_seen, n_pass, n_wear, n_acted, n_do]
theorem n_turn (σ : SS) : s_n (turnS σ) = s_n σ := n_perf _ _ _
theorem n_play : ∀ (m : Nat) (σ : SS), s_n (playS m σ) = s_n σ
  | 0, _ => rfl
  | m + 1, σ => by
    unfold playS
    repeat' split
    · rfl
    · rfl
    · rw [n_play m]; exact n_turn σ
theorem wv_put {f : Nat → Int32} {g : Nat → Int32} {k : Nat} {v : Int32} (h : ∀ j, j < k → f j = g j) (hk : k < 2 ^ 31) (hv : v = g k) : ∀ j, j < k + 1 → upd f (nI k).toNatClampNeg v j = g j := fun j hj => by
  rw [nI_clamp hk]
  by_cases q : j = k
  · subst q; rw [pk_us, hv]
  · rw [pk_un q]; exact h j (by omega)
-- the checksum
def daL (σ : SS) (b : Int32) : Nat → Nat → Int64 → Int64
  | 0, _, d => d
  | m + 1, k, d => daL σ b m (k + 1) (d * 31 + (answerF σ b (nI k)).toInt64)
def deL (σ : SS) (b : Int32) : Nat → Nat → Int64 → Int64
  | 0, _, d => d
  | m + 1, k, d => deL σ b m (k + 1) ((d * 31 + (stackF σ b (nI k)).toInt64) * 31 + (turnsF σ b (nI k)).toInt64)
def dwL (f : Nat → Int32) : Nat → Nat → Int64 → Int64
  | 0, _, d => d
  | m + 1, k, d => dwL f m (k + 1) (d * 31 + (worthOfF f (nI k)).toInt64)
def dgOne (σ : SS) (d : Int64) (b : Int32) : Int64 := dwL (worthF σ b) 8 0 ((deL σ b 5 0 (daL σ b 10 0 d) * 31 + (targetF σ b).toInt64) * 31 + (bestF (worthF σ b)).toInt64)
def dgBL (σ : SS) : Nat → Nat → Int64 → Int64
  | 0, _, d => d
  | m + 1, k, d => dgBL σ m (k + 1) (dgOne σ d (nI k))
def dgBs (σ : SS) (g : Nat) : Int64 := dgBL σ (s_n σ) 0 (dgC σ 160 0 (dgW σ g 9 0 58090))
def digestF (σ : SS) (g : Nat) : Int64 := if turnF σ = -1 then dgBs σ g else dgBs σ g * 31 + (watchF σ 0 (traitF σ (turnF σ) 1)).toInt64
def actT (σ : SS) (a : Int32) : Nat := if withinB a 0 7 = true then if possB σ (turnF σ) a = true then 0 else 2 else 1
def wayT (σ : SS) (b c : Int32) : Nat := if beingB σ b = true then if cellB c = true then 0 else 1 else 1
def worthT (σ : SS) (b a : Int32) : Nat := if beingB σ b = true then if withinB a 0 7 = true then 0 else 2 else 1
theorem within_t {T : Nat} (h1 : 1 ≤ T) (h2 : T ≤ 40) : withinB (nI T) 1 40 = true := by
  unfold withinB
  rw [if_neg (show ¬ nI T < 1 from nI_nlt (b := 1) h1 (by omega)), if_neg (show ¬ (40 : Int32) < nI T from nI_nlt (a := 40) h2 (by omega))]
theorem being_ge {σ : SS} {k : Nat} (h : s_n σ ≤ k) (hk : k < 2 ^ 31) : ¬ beingB σ (nI k) = true := by
  unfold beingB
  rw [if_neg (nI_pos hk), if_pos (nI_le h hk)]
  decide
theorem being_lt {σ : SS} {k : Nat} (h : k < s_n σ) (hk : s_n σ < 2 ^ 31) : ¬ beingB σ (nI k) = false := by
  unfold beingB
  rw [if_neg (nI_pos (by omega)), if_neg (nI_ge h hk)]
  decide
