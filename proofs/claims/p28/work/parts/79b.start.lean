-- ===== what the law's tables say at its start =====
set_option maxRecDepth 100000 in
theorem st_EV {args : Array Value} {s : State} (hts : ∀ w ∈ lw_tbl, w.before args s = true) : EV s := ⟨(va_Nw.of (w := nest_1) rfl (hts _ (by decide +kernel))), (va_Nw.of (w := nest_2) rfl (hts _ (by decide +kernel))), (va_Nw.of (w := nest_3) rfl (hts _ (by decide +kernel))), (va_Nw.of (w := nest_4) rfl (hts _ (by decide +kernel))), (va_Nw.of (w := nest_5) rfl (hts _ (by decide +kernel))), (va_Nw.of (w := nest_6) rfl (hts _ (by decide +kernel))), (va_Nw.of (w := nest_7) rfl (hts _ (by decide +kernel))), (va_Nw.of (w := nest_8) rfl (hts _ (by decide +kernel))), (va_Nw.of (w := nest_9) rfl (hts _ (by decide +kernel))), (va_Nw.of (w := nest_10) rfl (hts _ (by decide +kernel))), (va_Nw.of (w := nest_11) rfl (hts _ (by decide +kernel)))⟩
theorem st_NC {s : State} : NC s := trivial
theorem st_str {args : Array Value} {s : State} {m : ClassId} (hc : s.vm.findClass RX4 = some m) {k : Nat} {tx : String} (h : (Cond.stringRef RX4 k tx).before args s = true) : ∃ sa : Nat, vk_R RX4 k tx sa s := by
  obtain ⟨-, -, -, a, -, -, -, -, -, h9⟩ := Cond.stringRef_spec hc h
  exact ⟨a, h, h9⟩
set_option maxRecDepth 100000 in
theorem st_SB {args : Array Value} {s : State} {m : ClassId} (hc : s.vm.findClass RX4 = some m) (hts : ∀ w ∈ lw_tbl, w.before args s = true) : SB s := by
  intro q hq
  simp only [strs, List.mem_cons, List.not_mem_nil, or_false] at hq
  rcases hq with rfl | rfl | rfl | rfl | rfl | rfl | rfl | rfl | rfl | rfl | rfl | rfl | rfl | rfl | rfl | rfl | rfl | rfl | rfl | rfl
  · exact st_str hc (hts (.stringRef RX4 39 "the room is not on the map") (by decide +kernel))
  · exact st_str hc (hts (.stringRef RX4 54 "no such cell") (by decide +kernel))
  · exact st_str hc (hts (.stringRef RX4 60 "no such kind there") (by decide +kernel))
  · exact st_str hc (hts (.stringRef RX4 71 "a being is on it") (by decide +kernel))
  · exact st_str hc (hts (.stringRef RX4 88 "no such side") (by decide +kernel))
  · exact st_str hc (hts (.stringRef RX4 93 "no such side or life") (by decide +kernel))
  · exact st_str hc (hts (.stringRef RX4 99 "it cannot be there, or there were 10") (by decide +kernel))
  · exact st_str hc (hts (.stringRef RX4 108 "no such being") (by decide +kernel))
  · exact st_str hc (hts (.stringRef RX4 110 "no such force, guard or speed") (by decide +kernel))
  · exact st_str hc (hts (.stringRef RX4 120 "no such effect, stack or turns") (by decide +kernel))
  · exact st_str hc (hts (.stringRef RX4 125 "it is dead") (by decide +kernel))
  · exact st_str hc (hts (.stringRef RX4 134 "no such thing to ask") (by decide +kernel))
  · exact st_str hc (hts (.stringRef RX4 139 "no such effect") (by decide +kernel))
  · exact st_str hc (hts (.stringRef RX4 144 "no such thing to count") (by decide +kernel))
  · exact st_str hc (hts (.stringRef RX4 149 "no such action") (by decide +kernel))
  · exact st_str hc (hts (.stringRef RX4 161 "there is no turn, or it is not possible") (by decide +kernel))
  · exact st_str hc (hts (.stringRef RX4 167 "turns is not 1 to 40") (by decide +kernel))
  · exact st_str hc (hts (.stringRef RX4 175 "no such being or cell") (by decide +kernel))
  · exact st_str hc (hts (.stringRef RX4 195 "there are 5") (by decide +kernel))
  · exact st_str hc (hts (.stringRef RX4 205 "no such game") (by decide +kernel))
set_option maxRecDepth 100000 in
theorem st_FV {args : Array Value} {s : State} (hts : ∀ w ∈ lw_tbl, w.before args s = true) : FV s := ⟨va_Fw.of (A := args) (hts _ (by decide +kernel)) (hts _ (by decide +kernel)) (hts _ (by decide +kernel)) (hts _ (by decide +kernel)) (hts _ (by decide +kernel)), va_Fw.of (A := args) (hts _ (by decide +kernel)) (hts _ (by decide +kernel)) (hts _ (by decide +kernel)) (hts _ (by decide +kernel)) (hts _ (by decide +kernel)), va_Fw.of (A := args) (hts _ (by decide +kernel)) (hts _ (by decide +kernel)) (hts _ (by decide +kernel)) (hts _ (by decide +kernel)) (hts _ (by decide +kernel))⟩
set_option maxRecDepth 100000 in
theorem st_XV {args : Array Value} {s : State} {m : ClassId} (hc : s.vm.findClass RX4 = some m) (hts : ∀ w ∈ lw_tbl, w.before args s = true) : XV s := ⟨st_EV hts, st_SB hc hts, (va_Nw.of (w := cast_A) rfl (hts _ (by decide +kernel))), (va_Nw.of (w := cast_S) rfl (hts _ (by decide +kernel))), (va_Nw.of (w := cast_I) rfl (hts _ (by decide +kernel))), (va_Nw.of (w := decl_1) rfl (hts _ (by decide +kernel))), (va_Nw.of (w := decl_2) rfl (hts _ (by decide +kernel))), (va_Nw.of (w := decl_3) rfl (hts _ (by decide +kernel))), st_FV hts⟩
set_option maxRecDepth 100000 in
theorem st_nests {args : Array Value} {s : State} (hts : ∀ w ∈ lw_tbl, w.before args s = true) : va_Nw mind_nest s ∧ va_Nw ways_nest s ∧ va_Nw castSO s ∧ va_AO "java/lang/Object" s ∧ (Cond.arrayOver (.array .int)).before args s = true := ⟨(va_Nw.of (w := mind_nest) rfl (hts _ (by decide +kernel))), (va_Nw.of (w := ways_nest) rfl (hts _ (by decide +kernel))), (va_Nw.of (w := castSO) rfl (hts _ (by decide +kernel))), va_AO.of (A := args) (hts _ (by decide +kernel)), (hts _ (by decide +kernel))⟩
theorem st_arr {args : Array Value} {s : State} {ty : FieldType} (h : (Cond.arrayClass ty).before args s = true) (hn : ∀ C, ty ≠ .object C) : ∃ cA : ClassId, ArrOfT s cA ty ∧ va_RA s cA ty := by
  obtain ⟨c, k, comp, h1, h2, h3⟩ := Cond.arrayClass_spec h
  refine ⟨c, fun N z => ⟨(fun q e => by cases e), k, h2, comp, h3⟩, ?_⟩
  cases ty with
  | object C => exact absurd rfl (hn C)
  | _ => exact h1
theorem st_arrO {args : Array Value} {s : State} {ty : FieldType} (h : (Cond.arrayOver (.array ty)).before args s = true) : ∃ (cA comp : ClassId) (k : Class), s.vm.findClass ("[" ++ (FieldType.array ty).toString) = some cA ∧ s.vm.classes[cA]? = some k ∧ k.kind = .array comp (.array ty) ∧ s.vm.findClass (FieldType.array ty).toString = some comp ∧ ArrOfT s cA (.array ty) ∧ va_RA s cA (.array ty) := by
  obtain ⟨comp, c, k, h1, h2, h3, h4⟩ := Cond.arrayOver_specA h
  exact ⟨c, comp, k, h4, h2, h3, h1, fun N z => ⟨(fun q e => by cases e), k, h2, comp, h3⟩, h4⟩
set_option maxRecDepth 100000 in
theorem st_K {args : Array Value} {s : State} (hts : ∀ w ∈ lw_tbl, w.before args s = true) : ∃ (D : va_G) (cI cZ cG cY : ClassId), va_K D vwCl (KD cI cZ cG cY) s ∧ RowG cG s := by
  obtain ⟨c0, i0, h0⟩ := u_known (C := RJx4a65c) (T := TJx4a65c) (N := 3) (n := 3) hts inJx4a65c (hts (.instantiable RJx4a65c 3) (by decide +kernel))
  obtain ⟨c1, i1, h1⟩ := u_known (C := RX0) (T := TX0) (N := 2) (n := 2) hts inX0 (hts (.instantiable RX0 2) (by decide +kernel))
  obtain ⟨c2, i2, h2⟩ := u_known (C := RX2) (T := TX2) (N := 8) (n := 8) hts inX2 (hts (.instantiable RX2 8) (by decide +kernel))
  obtain ⟨c3, i3, h3⟩ := u_known (C := RX3) (T := TX3) (N := 3) (n := 3) hts inX3 (hts (.instantiable RX3 3) (by decide +kernel))
  obtain ⟨c4, i4, h4⟩ := u_known (C := RX4) (T := TX4) (N := 4) (n := 4) hts inX4 (hts (.instantiable RX4 4) (by decide +kernel))
  obtain ⟨c5, i5, h5⟩ := u_known (C := RX5) (T := TX5) (N := 8) (n := 8) hts inX5 (hts (.instantiable RX5 8) (by decide +kernel))
  obtain ⟨cI, a1, a2⟩ := st_arr (hts (.arrayClass .int) (by decide +kernel)) (fun C h => by cases h)
  obtain ⟨cZ, b1, b2⟩ := st_arr (hts (.arrayClass .boolean) (by decide +kernel)) (fun C h => by cases h)
  obtain ⟨cG, g1, g2, g3, g4, g5, g6, g7, g8⟩ := st_arrO (ty := .int) (hts (.arrayOver (.array .int)) (by decide +kernel))
  obtain ⟨cY, y1, y2, y3, y4, y5, y6, y7, y8⟩ := st_arrO (ty := .boolean) (hts (.arrayOver (.array .boolean)) (by decide +kernel))
  refine ⟨(fun k => if k = 0 then c0 else if k = 1 then c1 else if k = 2 then c2 else if k = 3 then c3 else if k = 4 then c4 else c5, fun k => if k = 0 then i0 else if k = 1 then i1 else if k = 2 then i2 else if k = 3 then i3 else if k = 4 then i4 else i5), cI, cZ, cG, cY, ⟨?_, ?_⟩, g2, g1, g3, g4, g5, g6⟩
  · intro k q hq
    match k, hq with
    | 0, hq => cases hq; exact h0
    | 1, hq => cases hq; exact h1
    | 2, hq => cases hq; exact h2
    | 3, hq => cases hq; exact h3
    | 4, hq => cases hq; exact h4
    | 5, hq => cases hq; exact h5
    | k + 6, hq => simp [vwCl] at hq
  · intro k q hq
    match k, hq with
    | 0, hq => cases hq; exact ⟨a1, a2⟩
    | 1, hq => cases hq; exact ⟨b1, b2⟩
    | 2, hq => cases hq; exact ⟨g7, g8⟩
    | 3, hq => cases hq; exact ⟨y7, y8⟩
    | k + 4, hq => simp at hq
set_option maxRecDepth 100000 in
theorem st_TX {args : Array Value} {s : State} {A : Nat → Prop} (hts : ∀ w ∈ lw_tbl, w.before args s = true) (hU : (Cond.isRef (.static Bundle.tN "UNASSIGNED_STACK" Bundle.steD)).before args s = true) (hN : (Cond.isRef (.static Bundle.tN "SUPPRESSED_SENTINEL" Bundle.listD)).before args s = true) (hA : ∀ a : Nat, a < s.heap.size → ¬ A a) : TX A s s.heap :=
  ⟨vx_Zqof (hts _ (by decide +kernel)) (hts (.initialized Bundle.tN) (by decide +kernel)) hU hA, vx_Zqof (hts _ (by decide +kernel)) (hts (.initialized Bundle.tN) (by decide +kernel)) hN hA⟩
set_option maxRecDepth 100000 in
theorem st_given {args : Array Value} {s : State} (hgv : (Jvm.Cond.and given_1 narrow_1).before args s = true) : (Cond.isRef (.static Bundle.tN "UNASSIGNED_STACK" Bundle.steD)).before args s = true ∧ (Cond.isRef (.static Bundle.tN "SUPPRESSED_SENTINEL" Bundle.listD)).before args s = true ∧ (Cond.isRef (.static "java/util/ArrayList" "DEFAULTCAPACITY_EMPTY_ELEMENTDATA" "[Ljava/lang/Object;")).before args s = true ∧ (Cond.arrayOf (.static "java/util/ArrayList" "DEFAULTCAPACITY_EMPTY_ELEMENTDATA" "[Ljava/lang/Object;") (.object "java/lang/Object")).before args s = true ∧ (Cond.eq (.length (.static "java/util/ArrayList" "DEFAULTCAPACITY_EMPTY_ELEMENTDATA" "[Ljava/lang/Object;")) (.int 0)).before args s = true := ⟨flat_of_before _ hgv _ (by decide +kernel), flat_of_before _ hgv _ (by decide +kernel), flat_of_before _ hgv _ (by decide +kernel), flat_of_before _ hgv _ (by decide +kernel), flat_of_before _ hgv _ (by decide +kernel)⟩
set_option maxRecDepth 100000 in
theorem st_EX {args : Array Value} {s : State} {A : Nat → Prop} (hts : ∀ w ∈ lw_tbl, w.before args s = true) (hgv : (Jvm.Cond.and given_1 narrow_1).before args s = true) (hA : ∀ a : Nat, a < s.heap.size → ¬ A a) : ∃ e0 : Nat, EX e0 A s s.heap := by
  obtain ⟨-, -, -, h4, h5⟩ := st_given hgv
  obtain ⟨y, e1, e2⟩ := Cond.eq_one h5
  cases e2
  obtain ⟨e0, he, hT⟩ := va_Tof (N := 0) (f := fun _ => .null) (by decide) h4 e1 (fun j h => absurd h (Nat.not_lt_zero _)) hA
  exact ⟨e0, va_Zof (hts _ (by decide +kernel)) (hts (.initialized "java/util/ArrayList") (by decide +kernel)) he hA, hT, (st_nests hts).2.2.2.1, (st_nests hts).2.2.1⟩
abbrev stepsT : Term := .static "Warren" "STEPS" "[I"
set_option maxRecDepth 100000 in
theorem st_steps {args : Array Value} {s : State} (hgv : (Jvm.Cond.and given_1 narrow_1).before args s = true) : (Cond.arrayOf stepsT .int).before args s = true ∧ (Cond.eq (.length stepsT) (.int 4)).before args s = true ∧ (Cond.eq (.elem stepsT (.int 0)) (.int (-16))).before args s = true ∧ (Cond.eq (.elem stepsT (.int 1)) (.int 1)).before args s = true ∧ (Cond.eq (.elem stepsT (.int 2)) (.int 16)).before args s = true ∧ (Cond.eq (.elem stepsT (.int 3)) (.int (-1))).before args s = true := ⟨flat_of_before _ hgv _ (by decide +kernel), flat_of_before _ hgv _ (by decide +kernel), flat_of_before _ hgv _ (by decide +kernel), flat_of_before _ hgv _ (by decide +kernel), flat_of_before _ hgv _ (by decide +kernel), flat_of_before _ hgv _ (by decide +kernel)⟩
theorem st_eq {args : Array Value} {s : State} {a b : Term} {v : Value} (h : (Cond.eq a b).before args s = true) (hb : b.eval args s none [] s = some v) : a.eval args s none [] s = some v := by
  obtain ⟨y, e1, e2⟩ := Cond.eq_one h
  rw [hb] at e2
  cases e2
  exact e1
set_option maxRecDepth 100000 in
theorem st_SX {args : Array Value} {s : State} {A : Nat → Prop} (hts : ∀ w ∈ lw_tbl, w.before args s = true) (hgv : (Jvm.Cond.and given_1 narrow_1).before args s = true) (hA : ∀ a : Nat, a < s.heap.size → ¬ A a) : ∃ t : Nat, SX t A s s.heap := by
  obtain ⟨h1, h2, h3, h4, h5, h6⟩ := st_steps hgv
  obtain ⟨t, ht, hT⟩ := va_Tof (N := 4) (f := stV) (by decide) h1 (st_eq h2 rfl) (fun j hj => by
    rcases (show j = 0 ∨ j = 1 ∨ j = 2 ∨ j = 3 by omega) with q | q | q | q <;> subst q
    · exact st_eq h3 rfl
    · exact st_eq h4 rfl
    · exact st_eq h5 rfl
    · exact st_eq h6 rfl) hA
  exact ⟨t, va_Zof (hts _ (by decide +kernel)) (hts (.initialized RX4) (by decide +kernel)) ht hA, hT⟩
set_option maxRecDepth 100000 in
theorem st_dens {args : Array Value} {s : State} (hts : ∀ w ∈ lw_tbl, w.before args s = true) : va_Nw den_cell s ∧ va_Nw den_below s ∧ (Cond.arrayOver (.array .boolean)).before args s = true := ⟨(va_Nw.of (w := den_cell) rfl (hts _ (by decide +kernel))), (va_Nw.of (w := den_below) rfl (hts _ (by decide +kernel))), (hts _ (by decide +kernel))⟩
