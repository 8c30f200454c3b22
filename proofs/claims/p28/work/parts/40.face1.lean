set_option maxHeartbeats 4000000 in
set_option maxRecDepth 100000 in
theorem c_X4_isWithin (l : Launch) (x y z : Int32) : Met l yX4_isWithin wsX4_isWithin ({ frames := 0, cells := 0, slots := 0, locals := 0 } : Room) (va_Pc [.int x, .int y, .int z] (fun _ => True)) (vp_Si (fun r => r = bi (withinB x y z))) 0 0 (fun _ => False) := by
  refine Met.ofW (cc := cX4_isWithin) (maxL := 3) (ret := (some .boolean)) (by decide) rfl ?_
  intro p e s m args below meth c s₁ B hml hv
  obtain ⟨rfl, -⟩ := hv
  have hx := B.exec
  have hb := B.bytes
  have hr := B.returns
  have hts := atoms_spec (ws := wsX4_isWithin) B.pre
  have hown : s.vm.findClass RX4 = some m.cls := findClass_of_methodNamed B.named
  have hlocks := B.notSynchronized
  have hl := lv_entry ([.int x, .int y, .int z]) (n := 3) (Nat.le_of_ble_eq_true rfl)
  rw [lg_entry_eq]
  generalize (lg_sl ([.int x, .int y, .int z]) ++ List.replicate (3 - (lg_sl ([.int x, .int y, .int z])).length) Slot.unset).toArray = ls at hl ⊢
  have hl : lv_has ls 3 [(0, .int x), (1, .int y), (2, .int z)] := hl
  refine lv_iload_n hx hb dX4_isWithin_0 rfl (lv_at hl 0 rfl) ?_
  refine lv_iload_n hx hb dX4_isWithin_1 rfl (lv_at hl 1 rfl) ?_
  refine lv_icmp_lt (tgt := 14) hx hb dX4_isWithin_2 (by decide) (fun c_2 => ?_) (fun c_2 => ?_)
  · refine lv_iconst (v := 0) hx hb dX4_isWithin_14 (by decide) ?_
    exact W.zret (v := 0) hx hb hr rfl (fun T9 ht _ => ⟨_, rfl, by first | rfl | (simp only [withinB, if_pos c_2]; done) | (simp only [withinB, if_pos c_2]; rfl) | (simp [withinB, c_2]; done) | (simp [withinB, c_2]; rfl), ht⟩) hnil dX4_isWithin_15
  · refine lv_iload_n hx hb dX4_isWithin_5 rfl (lv_at hl 0 rfl) ?_
    refine lv_iload_n hx hb dX4_isWithin_6 rfl (lv_at hl 2 rfl) ?_
    refine lv_icmp_gt (tgt := 14) hx hb dX4_isWithin_7 (by decide) (fun c_7 => ?_) (fun c_7 => ?_)
    · refine lv_iconst (v := 0) hx hb dX4_isWithin_14 (by decide) ?_
      exact W.zret (v := 0) hx hb hr rfl (fun T9 ht _ => ⟨_, rfl, by first | rfl | (simp only [withinB, if_neg c_2, if_pos c_7]; done) | (simp only [withinB, if_neg c_2, if_pos c_7]; rfl) | (simp [withinB, c_2, c_7]; done) | (simp [withinB, c_2, c_7]; rfl), ht⟩) hnil dX4_isWithin_15
    · refine lv_iconst (v := 1) hx hb dX4_isWithin_10 (by decide) ?_
      refine lv_goto (tgt := 15) hx hb dX4_isWithin_11 (by decide) ?_
      exact W.zret (v := 1) hx hb hr rfl (fun T9 ht _ => ⟨_, rfl, by first | rfl | (simp only [withinB, if_neg c_2, if_neg c_7]; done) | (simp only [withinB, if_neg c_2, if_neg c_7]; rfl) | (simp [withinB, c_2, c_7]; done) | (simp [withinB, c_2, c_7]; rfl), ht⟩) hnil dX4_isWithin_15

set_option maxHeartbeats 4000000 in
set_option maxRecDepth 100000 in
theorem c_X4_isCell (l : Launch) (x : Int32) : Met l yX4_isCell wsX4_isCell ({ frames := 0, cells := 0, slots := 0, locals := 0 } : Room) (va_Pc [.int x] (fun _ => True)) (vp_Si (fun r => r = bi (cellB x))) 0 0 (fun _ => False) := by
  refine Met.ofW (cc := cX4_isCell) (maxL := 1) (ret := (some .boolean)) (by decide) rfl ?_
  intro p e s m args below meth c s₁ B hml hv
  obtain ⟨rfl, -⟩ := hv
  have hx := B.exec
  have hb := B.bytes
  have hr := B.returns
  have hts := atoms_spec (ws := wsX4_isCell) B.pre
  have hown : s.vm.findClass RX4 = some m.cls := findClass_of_methodNamed B.named
  have hlocks := B.notSynchronized
  have hl := lv_entry ([.int x]) (n := 1) (Nat.le_of_ble_eq_true rfl)
  rw [lg_entry_eq]
  generalize (lg_sl ([.int x]) ++ List.replicate (1 - (lg_sl ([.int x])).length) Slot.unset).toArray = ls at hl ⊢
  have hl : lv_has ls 1 [(0, .int x)] := hl
  refine lv_iload_n hx hb dX4_isCell_0 rfl (lv_at hl 0 rfl) ?_
  refine lv_if_lt (tgt := 15) hx hb dX4_isCell_1 (by decide) (fun c_1 => ?_) (fun c_1 => ?_)
  · refine lv_iconst (v := 0) hx hb dX4_isCell_15 (by decide) ?_
    exact W.zret (v := 0) hx hb hr rfl (fun T9 ht _ => ⟨_, rfl, by first | rfl | (simp only [cellB, if_pos c_1]; done) | (simp only [cellB, if_pos c_1]; rfl) | (simp [cellB, c_1]; done) | (simp [cellB, c_1]; rfl), ht⟩) hnil dX4_isCell_16
  · refine lv_iload_n hx hb dX4_isCell_4 rfl (lv_at hl 0 rfl) ?_
    refine lv_sipush (v := 160) hx hb dX4_isCell_5 (by decide) ?_
    refine lv_icmp_ge (tgt := 15) hx hb dX4_isCell_8 (by decide) (fun c_8 => ?_) (fun c_8 => ?_)
    · refine lv_iconst (v := 0) hx hb dX4_isCell_15 (by decide) ?_
      exact W.zret (v := 0) hx hb hr rfl (fun T9 ht _ => ⟨_, rfl, by first | rfl | (simp only [cellB, if_neg c_1, if_pos c_8]; done) | (simp only [cellB, if_neg c_1, if_pos c_8]; rfl) | (simp [cellB, c_1, c_8]; done) | (simp [cellB, c_1, c_8]; rfl), ht⟩) hnil dX4_isCell_16
    · refine lv_iconst (v := 1) hx hb dX4_isCell_11 (by decide) ?_
      refine lv_goto (tgt := 16) hx hb dX4_isCell_12 (by decide) ?_
      exact W.zret (v := 1) hx hb hr rfl (fun T9 ht _ => ⟨_, rfl, by first | rfl | (simp only [cellB, if_neg c_1, if_neg c_8]; done) | (simp only [cellB, if_neg c_1, if_neg c_8]; rfl) | (simp [cellB, c_1, c_8]; done) | (simp [cellB, c_1, c_8]; rfl), ht⟩) hnil dX4_isCell_16

set_option maxHeartbeats 4000000 in
set_option maxRecDepth 100000 in
theorem c_X4_isSide (l : Launch) (x : Int32) : Met l yX4_isSide wsX4_isSide ({ frames := 0, cells := 0, slots := 0, locals := 0 } : Room) (va_Pc [.int x] (fun _ => True)) (vp_Si (fun r => r = bi (sideB x))) 0 0 (fun _ => False) := by
  refine Met.ofW (cc := cX4_isSide) (maxL := 1) (ret := (some .boolean)) (by decide) rfl ?_
  intro p e s m args below meth c s₁ B hml hv
  obtain ⟨rfl, -⟩ := hv
  have hx := B.exec
  have hb := B.bytes
  have hr := B.returns
  have hts := atoms_spec (ws := wsX4_isSide) B.pre
  have hown : s.vm.findClass RX4 = some m.cls := findClass_of_methodNamed B.named
  have hlocks := B.notSynchronized
  have hl := lv_entry ([.int x]) (n := 1) (Nat.le_of_ble_eq_true rfl)
  rw [lg_entry_eq]
  generalize (lg_sl ([.int x]) ++ List.replicate (1 - (lg_sl ([.int x])).length) Slot.unset).toArray = ls at hl ⊢
  have hl : lv_has ls 1 [(0, .int x)] := hl
  refine lv_iload_n hx hb dX4_isSide_0 rfl (lv_at hl 0 rfl) ?_
  refine lv_if_eq (tgt := 9) hx hb dX4_isSide_1 (by decide) (fun c_1 => ?_) (fun c_1 => ?_)
  · refine lv_iconst (v := 1) hx hb dX4_isSide_9 (by decide) ?_
    refine lv_goto (tgt := 14) hx hb dX4_isSide_10 (by decide) ?_
    exact W.zret (v := 1) hx hb hr rfl (fun T9 ht _ => ⟨_, rfl, by first | rfl | (simp only [sideB, if_pos c_1]; done) | (simp only [sideB, if_pos c_1]; rfl) | (simp [sideB, c_1]; done) | (simp [sideB, c_1]; rfl), ht⟩) hnil dX4_isSide_14
  · refine lv_iload_n hx hb dX4_isSide_4 rfl (lv_at hl 0 rfl) ?_
    refine lv_iconst (v := 1) hx hb dX4_isSide_5 (by decide) ?_
    refine lv_icmp_ne (tgt := 13) hx hb dX4_isSide_6 (by decide) (fun c_6 => ?_) (fun c_6 => ?_)
    · refine lv_iconst (v := 0) hx hb dX4_isSide_13 (by decide) ?_
      exact W.zret (v := 0) hx hb hr rfl (fun T9 ht _ => ⟨_, rfl, by first | rfl | (simp only [sideB, if_neg c_1, if_neg c_6]; done) | (simp only [sideB, if_neg c_1, if_neg c_6]; rfl) | (simp [sideB, c_1, c_6]; done) | (simp [sideB, c_1, c_6]; rfl), ht⟩) hnil dX4_isSide_14
    · refine lv_iconst (v := 1) hx hb dX4_isSide_9 (by decide) ?_
      refine lv_goto (tgt := 14) hx hb dX4_isSide_10 (by decide) ?_
      exact W.zret (v := 1) hx hb hr rfl (fun T9 ht _ => ⟨_, rfl, by first | rfl | (simp only [sideB, if_neg c_1, if_pos c_6]; done) | (simp only [sideB, if_neg c_1, if_pos c_6]; rfl) | (simp [sideB, c_1, c_6]; done) | (simp [sideB, c_1, c_6]; rfl), ht⟩) hnil dX4_isSide_14

set_option maxHeartbeats 4000000 in
set_option maxRecDepth 100000 in
theorem c_X4_cell (l : Launch) (hst : l.stackTraces = false) (D : va_G) (cI : ClassId) (sz : Nat) (h t0 l0 m0 : Nat) (a : Nat → Nat) (σ : SS) (x : Int32) : vx_Met l yX4_cell wsX4_cell ({ frames := 6, cells := 1, slots := 6, locals := 82 } : Room) (va_Pc [.ref h, .int x] (preX D cI (wW h (a 0) t0 l0 m0 ++ sW cI a σ) sz)) (va_Qi (fun (r : Int32) (u : SS) => cellT x = 0 ∧ r = kindF σ x ∧ u = σ) (fun (u : SS) => posM D cI (va_A (wW h (a 0) t0 l0 m0 ++ sW cI a σ) sz) (wW h (a 0) t0 l0 m0 ++ sW cI a u)) (va_A (wW h (a 0) t0 l0 m0 ++ sW cI a σ) sz)) (thrX (cellT x) nmI D cI (va_A (wW h (a 0) t0 l0 m0 ++ sW cI a σ) sz) (wW h (a 0) t0 l0 m0 ++ sW cI a σ)) 1 6 (va_A (wW h (a 0) t0 l0 m0 ++ sW cI a σ) sz) := by
  refine vx_ofW (cc := cX4_cell) (maxL := 2) (ret := (some .int)) (by decide) rfl ?_
  intro p e s m args below meth c s₁ B hml hno hv
  obtain ⟨rfl, hsz, hP, hK, hXV, hD0, hTX⟩ := hv
  have hE := hXV.1
  have hx := B.exec
  have hb := B.bytes
  have hr := B.returns
  have hts := atoms_spec (ws := wsX4_cell) B.pre
  have hown : s.vm.findClass RX4 = some m.cls := findClass_of_methodNamed B.named
  have hlocks := B.notSynchronized
  subst hsz
  have hD := hD0.self (sz := s.heap.size)
  generalize hAe : va_A (wW h (a 0) t0 l0 m0 ++ sW cI a σ) s.heap.size = A at hD hTX ⊢
  have hA : ∀ q : Nat, s.heap.size ≤ q → A q := fun q h => by rw [← hAe]; exact Or.inr h
  have hS : va_S A s.heap s.heap [] := va_S.rf
  have hP : va_P D vwCl (wW h (a 0) t0 l0 m0 ++ sW cI a σ) s.heap := hP
  have hl := lv_entry ([.ref h, .int x]) (n := 2) (Nat.le_of_ble_eq_true rfl)
  rw [lg_entry_eq]
  generalize (lg_sl ([.ref h, .int x]) ++ List.replicate (2 - (lg_sl ([.ref h, .int x])).length) Slot.unset).toArray = ls at hl ⊢
  have hl : lv_has ls 2 [(0, .ref h), (1, .int x)] := hl
  refine lv_iload_n hx hb dX4_cell_0 rfl (lv_at hl 1 rfl) ?_
  refine vp_callSi (va_Run.run (va_runS (As := [.int x]) (rest := []) ⟨hx, hb, hml, hown, hts⟩ (c_X4_isCell l x) (va_cwS 1 hts gX4_cell_X4_isCell rfl rfl rfl (by decide +kernel) ⟨Nat.le_of_ble_eq_true rfl, Nat.le_of_ble_eq_true rfl⟩) ⟨fun _ _ _ _ q => q, fun _ _ _ => ⟨rfl, trivial⟩⟩ rfl rfl hl.1 rfl (lv_room (Nat.le_of_ble_eq_true rfl)) dX4_cell_1 ⟨Nat.zero_le _, Nat.zero_le _⟩)) (fun r hr9 => ?_)
  subst hr9
  refine w_bnz (tgt := 17) hx hb dX4_cell_4 (by decide) (fun c_4 => ?_) (fun c_4 => ?_)
  · refine lv_aload_n hx hb dX4_cell_17 rfl (lv_at hl 0 rfl) ?_
    refine va_get (D := D) (ci := 4) (v := .ref (a 0)) (C := RX4) (T := TX4) (N := 4) hx hb hts (by decide +kernel) hown hK hP 0 rfl rfl 0 (by decide) (hts (.fieldLink RX4 12 "Warren" "state" "LWarren$State;") (by decide +kernel)) (fun _ h9 => h9) rfl dX4_cell_18 ?_
    refine lv_iload_n hx hb dX4_cell_21 rfl (lv_at hl 1 rfl) ?_
    refine vp_callSi (va_Run.run (va_runV (As := [.int x]) (rest := []) ⟨hx, hb, hml, hown, hts⟩ (c_X2_kindAt l D cI a σ x) (cwV 1 hts gX4_cell_X2_kindAt rfl rfl rfl (by decide +kernel) ⟨Nat.le_of_ble_eq_true rfl, Nat.le_of_ble_eq_true rfl⟩) ⟨preR_blind, va_recv hK hP (ci := 2) (q0 := 1) rfl rfl, preR_of (hP.sub (ws' := sW cI a σ) [1, 2, 3, 4, 5, 6] rfl) hK hE [.ref (a 0), .int x]⟩ rfl rfl hl.1 rfl (lv_room (Nat.le_of_ble_eq_true rfl)) dX4_cell_22 ⟨Nat.zero_le _, Nat.zero_le _⟩)) (fun r hr9 => ?_)
    subst hr9
    have hP9 := hP
    have hD9 := hD
    refine W.widen (k := 1) (n := 6) (Nat.le_of_ble_eq_true rfl) (Nat.le_of_ble_eq_true rfl) ?_
    refine vx_ret ?_
    exact W.iret (v := (kindF σ x)) hx hb hr (fun T9 ht hW => ⟨⟨(kindF σ x), σ, rfl, ⟨by first | (simp only [cellT, c_4, Bool.false_eq_true, if_false, if_true]; done) | (simp [cellT, c_4]; done), by first | rfl | (simp [c_4]; done) | (simp [c_4]; rfl), by first | rfl | (simp [c_4]; done)⟩, by rw [ht]; exact hP9, va_K.moved hW.alike hK, hD9⟩, hS.F ht⟩) hS.2.2 dX4_cell_25
  · have hT : cellT x = 1 := by first | (simp only [cellT, c_4, Bool.false_eq_true, if_false, if_true]; done) | (simp [cellT, c_4]; done)
    obtain ⟨sa, hstr⟩ := hXV.2.1 _ (List.mem_of_getElem? (i := 1) (a := (54, "no such cell")) rfl)
    have hat : ∀ w ∈ vx_atS RX4 56 "java/lang/IndexOutOfBoundsException" ["java/lang/RuntimeException", "java/lang/Exception"], w.before _ s = true := vx_hat (B := [.castable "java/lang/IndexOutOfBoundsException" "java/lang/IndexOutOfBoundsException", decl_1, decl_2, decl_3]) (fun w h => hts w (List.mem_cons_of_mem _ (List.mem_append_right _ h))) (by decide +kernel) (vx_c (va_Nw.use rfl hXV.2.2.2.2.1) (vx_c (va_Nw.use rfl hXV.2.2.2.2.2.1) (vx_c (va_Nw.use rfl hXV.2.2.2.2.2.2.1) (vx_c (va_Nw.use rfl hXV.2.2.2.2.2.2.2.1) vx_n))))
    exact vx_throwS (own := RX4) (cls := "java/lang/IndexOutOfBoundsException") (text := "no such cell") (names := ["java/lang/RuntimeException", "java/lang/Exception"]) (ik := 52) (is := 54) (ic := 56) (sa := sa) (A := A) hx hb hst hown (by decide +kernel) (by decide +kernel) (hts (.classLink RX4 52 "java/lang/IndexOutOfBoundsException") (by decide +kernel)) (hts (.initialized "java/lang/IndexOutOfBoundsException") (by decide +kernel)) hstr hat (by decide +kernel) hTX.1 hTX.2 hS (hl.1.trans hml.symm) dX4_cell_7 dX4_cell_10 dX4_cell_11 dX4_cell_13 dX4_cell_16 (fun x hx9 => (hno x hx9).elim) (Nat.le_of_ble_eq_true rfl) (Nat.le_of_ble_eq_true rfl) (Nat.le_of_ble_eq_true rfl) (Nat.le_of_ble_eq_true rfl) hlocks (thr_of (by rw [hT]; decide) (by rw [hT]; rfl) hP hK hD hS) hS.2.2 (Nat.le_of_ble_eq_true rfl) (Nat.le_of_ble_eq_true rfl)

