set_option maxHeartbeats 4000000 in
set_option maxRecDepth 100000 in
theorem c_X5_isIn (l : Launch) (x y z : Int32) : Met l yX5_isIn wsX5_isIn ({ frames := 0, cells := 0, slots := 0, locals := 0 } : Room) (va_Pc [.int x, .int y, .int z] (fun _ => True)) (vp_Si (fun r => r = bi (withinB x y z))) 0 0 (fun _ => False) := by
  refine Met.ofW (cc := cX5_isIn) (maxL := 3) (ret := (some .boolean)) (by decide) rfl ?_
  intro p e s m args below meth c s₁ B hml hv
  obtain ⟨rfl, -⟩ := hv
  have hx := B.exec
  have hb := B.bytes
  have hr := B.returns
  have hts := atoms_spec (ws := wsX5_isIn) B.pre
  have hown : s.vm.findClass RX5 = some m.cls := findClass_of_methodNamed B.named
  have hlocks := B.notSynchronized
  have hl := lv_entry ([.int x, .int y, .int z]) (n := 3) (Nat.le_of_ble_eq_true rfl)
  rw [lg_entry_eq]
  generalize (lg_sl ([.int x, .int y, .int z]) ++ List.replicate (3 - (lg_sl ([.int x, .int y, .int z])).length) Slot.unset).toArray = ls at hl ⊢
  have hl : lv_has ls 3 [(0, .int x), (1, .int y), (2, .int z)] := hl
  refine lv_iload_n hx hb dX5_isIn_0 rfl (lv_at hl 0 rfl) ?_
  refine lv_iload_n hx hb dX5_isIn_1 rfl (lv_at hl 1 rfl) ?_
  refine lv_icmp_lt (tgt := 14) hx hb dX5_isIn_2 (by decide) (fun c_2 => ?_) (fun c_2 => ?_)
  · refine lv_iconst (v := 0) hx hb dX5_isIn_14 (by decide) ?_
    exact W.zret (v := 0) hx hb hr rfl (fun T9 ht _ => ⟨_, rfl, by first | rfl | (simp only [withinB, if_pos c_2]; done) | (simp only [withinB, if_pos c_2]; rfl) | (simp [withinB, c_2]; done) | (simp [withinB, c_2]; rfl), ht⟩) hnil dX5_isIn_15
  · refine lv_iload_n hx hb dX5_isIn_5 rfl (lv_at hl 0 rfl) ?_
    refine lv_iload_n hx hb dX5_isIn_6 rfl (lv_at hl 2 rfl) ?_
    refine lv_icmp_gt (tgt := 14) hx hb dX5_isIn_7 (by decide) (fun c_7 => ?_) (fun c_7 => ?_)
    · refine lv_iconst (v := 0) hx hb dX5_isIn_14 (by decide) ?_
      exact W.zret (v := 0) hx hb hr rfl (fun T9 ht _ => ⟨_, rfl, by first | rfl | (simp only [withinB, if_neg c_2, if_pos c_7]; done) | (simp only [withinB, if_neg c_2, if_pos c_7]; rfl) | (simp [withinB, c_2, c_7]; done) | (simp [withinB, c_2, c_7]; rfl), ht⟩) hnil dX5_isIn_15
    · refine lv_iconst (v := 1) hx hb dX5_isIn_10 (by decide) ?_
      refine lv_goto (tgt := 15) hx hb dX5_isIn_11 (by decide) ?_
      exact W.zret (v := 1) hx hb hr rfl (fun T9 ht _ => ⟨_, rfl, by first | rfl | (simp only [withinB, if_neg c_2, if_neg c_7]; done) | (simp only [withinB, if_neg c_2, if_neg c_7]; rfl) | (simp [withinB, c_2, c_7]; done) | (simp [withinB, c_2, c_7]; rfl), ht⟩) hnil dX5_isIn_15

set_option maxHeartbeats 4000000 in
set_option maxRecDepth 100000 in
theorem c_X5_isEdge (l : Launch) (x : Int32) : Met l yX5_isEdge wsX5_isEdge ({ frames := 0, cells := 0, slots := 0, locals := 0 } : Room) (va_Pc [.int x] (fun _ => True)) (vp_Si (fun r => r = bi (edgeB x))) 0 0 (fun _ => False) := by
  refine Met.ofW (cc := cX5_isEdge) (maxL := 1) (ret := (some .boolean)) (by decide) rfl ?_
  intro p e s m args below meth c s₁ B hml hv
  obtain ⟨rfl, -⟩ := hv
  have hx := B.exec
  have hb := B.bytes
  have hr := B.returns
  have hts := atoms_spec (ws := wsX5_isEdge) B.pre
  have hown : s.vm.findClass RX5 = some m.cls := findClass_of_methodNamed B.named
  have hlocks := B.notSynchronized
  have hl := lv_entry ([.int x]) (n := 1) (Nat.le_of_ble_eq_true rfl)
  rw [lg_entry_eq]
  generalize (lg_sl ([.int x]) ++ List.replicate (1 - (lg_sl ([.int x])).length) Slot.unset).toArray = ls at hl ⊢
  have hl : lv_has ls 1 [(0, .int x)] := hl
  refine lv_iload_n hx hb dX5_isEdge_0 rfl (lv_at hl 0 rfl) ?_
  refine lv_bipush (v := 16) hx hb dX5_isEdge_1 (by decide) ?_
  refine lv_irem hx hb dX5_isEdge_3 (by decide) ?_
  refine lv_if_eq (tgt := 32) hx hb dX5_isEdge_4 (by decide) (fun c_4 => ?_) (fun c_4 => ?_)
  · refine lv_iconst (v := 1) hx hb dX5_isEdge_32 (by decide) ?_
    refine lv_goto (tgt := 37) hx hb dX5_isEdge_33 (by decide) ?_
    exact W.zret (v := 1) hx hb hr rfl (fun T9 ht _ => ⟨_, rfl, by first | rfl | (simp only [edgeB, colI, rowI, remI, if_pos c_4]; done) | (simp only [edgeB, colI, rowI, remI, if_pos c_4]; rfl) | (simp [edgeB, colI, rowI, remI, c_4]; done) | (simp [edgeB, colI, rowI, remI, c_4]; rfl), ht⟩) hnil dX5_isEdge_37
  · refine lv_iload_n hx hb dX5_isEdge_7 rfl (lv_at hl 0 rfl) ?_
    refine lv_bipush (v := 16) hx hb dX5_isEdge_8 (by decide) ?_
    refine lv_irem hx hb dX5_isEdge_10 (by decide) ?_
    refine lv_bipush (v := 15) hx hb dX5_isEdge_11 (by decide) ?_
    refine lv_icmp_eq (tgt := 32) hx hb dX5_isEdge_13 (by decide) (fun c_13 => ?_) (fun c_13 => ?_)
    · refine lv_iconst (v := 1) hx hb dX5_isEdge_32 (by decide) ?_
      refine lv_goto (tgt := 37) hx hb dX5_isEdge_33 (by decide) ?_
      exact W.zret (v := 1) hx hb hr rfl (fun T9 ht _ => ⟨_, rfl, by first | rfl | (simp only [edgeB, colI, rowI, remI, if_neg c_4, if_pos c_13]; done) | (simp only [edgeB, colI, rowI, remI, if_neg c_4, if_pos c_13]; rfl) | (simp [edgeB, colI, rowI, remI, c_4, c_13]; done) | (simp [edgeB, colI, rowI, remI, c_4, c_13]; rfl), ht⟩) hnil dX5_isEdge_37
    · refine lv_iload_n hx hb dX5_isEdge_16 rfl (lv_at hl 0 rfl) ?_
      refine lv_bipush (v := 16) hx hb dX5_isEdge_17 (by decide) ?_
      refine lv_idiv hx hb dX5_isEdge_19 (by decide) ?_
      refine lv_if_eq (tgt := 32) hx hb dX5_isEdge_20 (by decide) (fun c_20 => ?_) (fun c_20 => ?_)
      · refine lv_iconst (v := 1) hx hb dX5_isEdge_32 (by decide) ?_
        refine lv_goto (tgt := 37) hx hb dX5_isEdge_33 (by decide) ?_
        exact W.zret (v := 1) hx hb hr rfl (fun T9 ht _ => ⟨_, rfl, by first | rfl | (simp only [edgeB, colI, rowI, remI, if_neg c_4, if_neg c_13, if_pos c_20]; done) | (simp only [edgeB, colI, rowI, remI, if_neg c_4, if_neg c_13, if_pos c_20]; rfl) | (simp [edgeB, colI, rowI, remI, c_4, c_13, c_20]; done) | (simp [edgeB, colI, rowI, remI, c_4, c_13, c_20]; rfl), ht⟩) hnil dX5_isEdge_37
      · refine lv_iload_n hx hb dX5_isEdge_23 rfl (lv_at hl 0 rfl) ?_
        refine lv_bipush (v := 16) hx hb dX5_isEdge_24 (by decide) ?_
        refine lv_idiv hx hb dX5_isEdge_26 (by decide) ?_
        refine lv_bipush (v := 9) hx hb dX5_isEdge_27 (by decide) ?_
        refine lv_icmp_ne (tgt := 36) hx hb dX5_isEdge_29 (by decide) (fun c_29 => ?_) (fun c_29 => ?_)
        · refine lv_iconst (v := 0) hx hb dX5_isEdge_36 (by decide) ?_
          exact W.zret (v := 0) hx hb hr rfl (fun T9 ht _ => ⟨_, rfl, by first | rfl | (simp only [edgeB, colI, rowI, remI, if_neg c_4, if_neg c_13, if_neg c_20, if_neg c_29]; done) | (simp only [edgeB, colI, rowI, remI, if_neg c_4, if_neg c_13, if_neg c_20, if_neg c_29]; rfl) | (simp [edgeB, colI, rowI, remI, c_4, c_13, c_20, c_29]; done) | (simp [edgeB, colI, rowI, remI, c_4, c_13, c_20, c_29]; rfl), ht⟩) hnil dX5_isEdge_37
        · refine lv_iconst (v := 1) hx hb dX5_isEdge_32 (by decide) ?_
          refine lv_goto (tgt := 37) hx hb dX5_isEdge_33 (by decide) ?_
          exact W.zret (v := 1) hx hb hr rfl (fun T9 ht _ => ⟨_, rfl, by first | rfl | (simp only [edgeB, colI, rowI, remI, if_neg c_4, if_neg c_13, if_neg c_20, if_pos c_29]; done) | (simp only [edgeB, colI, rowI, remI, if_neg c_4, if_neg c_13, if_neg c_20, if_pos c_29]; rfl) | (simp [edgeB, colI, rowI, remI, c_4, c_13, c_20, c_29]; done) | (simp [edgeB, colI, rowI, remI, c_4, c_13, c_20, c_29]; rfl), ht⟩) hnil dX5_isEdge_37

set_option maxHeartbeats 4000000 in
set_option maxRecDepth 100000 in
theorem c_X5_isCell (l : Launch) (x : Int32) : Met l yX5_isCell wsX5_isCell ({ frames := 1, cells := 0, slots := 0, locals := 22 } : Room) (va_Pc [.int x] (fun _ => True)) (vp_Si (fun r => r = bi (cellB x))) 0 0 (fun _ => False) := by
  refine Met.ofW (cc := cX5_isCell) (maxL := 1) (ret := (some .boolean)) (by decide) rfl ?_
  intro p e s m args below meth c s₁ B hml hv
  obtain ⟨rfl, -⟩ := hv
  have hx := B.exec
  have hb := B.bytes
  have hr := B.returns
  have hts := atoms_spec (ws := wsX5_isCell) B.pre
  have hown : s.vm.findClass RX5 = some m.cls := findClass_of_methodNamed B.named
  have hlocks := B.notSynchronized
  have hl := lv_entry ([.int x]) (n := 1) (Nat.le_of_ble_eq_true rfl)
  rw [lg_entry_eq]
  generalize (lg_sl ([.int x]) ++ List.replicate (1 - (lg_sl ([.int x])).length) Slot.unset).toArray = ls at hl ⊢
  have hl : lv_has ls 1 [(0, .int x)] := hl
  refine lv_iload_n hx hb dX5_isCell_0 rfl (lv_at hl 0 rfl) ?_
  refine lv_iconst (v := 0) hx hb dX5_isCell_1 (by decide) ?_
  refine lv_sipush (v := 159) hx hb dX5_isCell_2 (by decide) ?_
  refine vp_callSi (va_Run.run (va_runS (As := [.int x, .int 0, .int 159]) (rest := []) ⟨hx, hb, hml, hown, hts⟩ (c_X5_isIn l x 0 159) (va_cwS 3 hts gX5_isCell_X5_isIn rfl rfl rfl (by decide +kernel) ⟨Nat.le_of_ble_eq_true rfl, Nat.le_of_ble_eq_true rfl⟩) ⟨fun _ _ _ _ q => q, fun _ _ _ => ⟨rfl, trivial⟩⟩ rfl rfl hl.1 rfl (lv_room (Nat.le_of_ble_eq_true rfl)) dX5_isCell_5 ⟨Nat.zero_le _, Nat.zero_le _⟩)) (fun r hr9 => ?_)
  subst hr9
  exact W.zret (v := (bi (withinB x 0 159))) hx hb hr (bi_nar _) (fun T9 ht _ => ⟨_, rfl, by rw [cell_within], ht⟩) hnil dX5_isCell_8

set_option maxHeartbeats 4000000 in
set_option maxRecDepth 100000 in
theorem c_X5_apart (l : Launch) (x y : Int32) : Met l yX5_apart wsX5_apart ({ frames := 1, cells := 0, slots := 0, locals := 14 } : Room) (va_Pc [.int x, .int y] (fun _ => True)) (vp_Si (fun r => r = apartM x y)) 0 0 (fun _ => False) := by
  refine Met.ofW (cc := cX5_apart) (maxL := 2) (ret := (some .int)) (by decide) rfl ?_
  intro p e s m args below meth c s₁ B hml hv
  obtain ⟨rfl, -⟩ := hv
  have hx := B.exec
  have hb := B.bytes
  have hr := B.returns
  have hts := atoms_spec (ws := wsX5_apart) B.pre
  have hown : s.vm.findClass RX5 = some m.cls := findClass_of_methodNamed B.named
  have hlocks := B.notSynchronized
  have hl := lv_entry ([.int x, .int y]) (n := 2) (Nat.le_of_ble_eq_true rfl)
  rw [lg_entry_eq]
  generalize (lg_sl ([.int x, .int y]) ++ List.replicate (2 - (lg_sl ([.int x, .int y])).length) Slot.unset).toArray = ls at hl ⊢
  have hl : lv_has ls 2 [(0, .int x), (1, .int y)] := hl
  refine lv_iload_n hx hb dX5_apart_0 rfl (lv_at hl 0 rfl) ?_
  refine lv_bipush (v := 16) hx hb dX5_apart_1 (by decide) ?_
  refine lv_irem hx hb dX5_apart_3 (by decide) ?_
  refine lv_iload_n hx hb dX5_apart_4 rfl (lv_at hl 1 rfl) ?_
  refine lv_bipush (v := 16) hx hb dX5_apart_5 (by decide) ?_
  refine lv_irem hx hb dX5_apart_7 (by decide) ?_
  refine lv_isub hx hb dX5_apart_8 ?_
  refine va_mabs hx hb (hml.trans hl.1.symm) hown (hts (.methodLink RX5 44 Lib.Math.abs.name) (by decide +kernel)) (hts (.static Lib.Math.abs.name) (by decide +kernel)) (hts (.initialized "java/lang/Math") (by decide +kernel)) (hts (.code Lib.Math.abs.name Lib.Math.abs.code 1 (some .int)) (by decide +kernel)) (Nat.le_of_ble_eq_true rfl) (Nat.le_of_ble_eq_true rfl) (Nat.zero_le _) (Nat.zero_le _) dX5_apart_9 ?_
  refine lv_iload_n hx hb dX5_apart_12 rfl (lv_at hl 0 rfl) ?_
  refine lv_bipush (v := 16) hx hb dX5_apart_13 (by decide) ?_
  refine lv_idiv hx hb dX5_apart_15 (by decide) ?_
  refine lv_iload_n hx hb dX5_apart_16 rfl (lv_at hl 1 rfl) ?_
  refine lv_bipush (v := 16) hx hb dX5_apart_17 (by decide) ?_
  refine lv_idiv hx hb dX5_apart_19 (by decide) ?_
  refine lv_isub hx hb dX5_apart_20 ?_
  refine va_mabs hx hb (hml.trans hl.1.symm) hown (hts (.methodLink RX5 44 Lib.Math.abs.name) (by decide +kernel)) (hts (.static Lib.Math.abs.name) (by decide +kernel)) (hts (.initialized "java/lang/Math") (by decide +kernel)) (hts (.code Lib.Math.abs.name Lib.Math.abs.code 1 (some .int)) (by decide +kernel)) (Nat.le_of_ble_eq_true rfl) (Nat.le_of_ble_eq_true rfl) (Nat.zero_le _) (Nat.zero_le _) dX5_apart_21 ?_
  refine va_mmax hx hb (hml.trans hl.1.symm) hown (hts (.methodLink RX5 49 Lib.Math.max.name) (by decide +kernel)) (hts (.static Lib.Math.max.name) (by decide +kernel)) (hts (.initialized "java/lang/Math") (by decide +kernel)) (hts (.code Lib.Math.max.name Lib.Math.max.code 2 (some .int)) (by decide +kernel)) (Nat.le_of_ble_eq_true rfl) (Nat.le_of_ble_eq_true rfl) (Nat.zero_le _) (Nat.zero_le _) dX5_apart_24 ?_
  exact W.iret (v := (maxI (absI ((remI x 16) - (remI y 16))) (absI ((x / 16) - (y / 16))))) hx hb hr (fun T9 ht _ => ⟨_, rfl, by first | rfl | (simp only [apartM, colI, rowI, remI]; done) | (simp only [apartM, colI, rowI, remI]; rfl) | (simp [apartM, colI, rowI, remI]; done) | (simp [apartM, colI, rowI, remI]; rfl), ht⟩) hnil dX5_apart_27

set_option maxHeartbeats 4000000 in
set_option maxRecDepth 100000 in
theorem c_X5_round (l : Launch) (x y : Int32) (j : Nat) (hj : 1 ≤ j ∧ j ≤ 7) : Met l yX5_round wsX5_round ({ frames := 0, cells := 0, slots := 0, locals := 0 } : Room) (va_Pc [.int x, .int y, .int (nI j)] (fun _ => True)) (vp_Si (fun r => r = roundM x y (nI j))) 0 0 (fun _ => False) := by
  refine Met.ofW (cc := cX5_round) (maxL := 4) (ret := (some .int)) (by decide) rfl ?_
  intro p e s m args below meth c s₁ B hml hv
  obtain ⟨rfl, -⟩ := hv
  have hx := B.exec
  have hb := B.bytes
  have hr := B.returns
  have hts := atoms_spec (ws := wsX5_round) B.pre
  have hown : s.vm.findClass RX5 = some m.cls := findClass_of_methodNamed B.named
  have hlocks := B.notSynchronized
  have hl := lv_entry ([.int x, .int y, .int (nI j)]) (n := 4) (Nat.le_of_ble_eq_true rfl)
  rw [lg_entry_eq]
  generalize (lg_sl ([.int x, .int y, .int (nI j)]) ++ List.replicate (4 - (lg_sl ([.int x, .int y, .int (nI j)])).length) Slot.unset).toArray = ls at hl ⊢
  have hl : lv_has ls 4 [(0, .int x), (1, .int y), (2, .int (nI j))] := hl
  refine lv_iconst (v := 2) hx hb dX5_round_0 (by decide) ?_
  refine lv_iload_n hx hb dX5_round_1 rfl (lv_at hl 0 rfl) ?_
  refine lv_imul hx hb dX5_round_2 ?_
  refine lv_iload_n hx hb dX5_round_3 rfl (lv_at hl 1 rfl) ?_
  refine lv_imul hx hb dX5_round_4 ?_
  refine lv_iload_n hx hb dX5_round_5 rfl (lv_at hl 2 rfl) ?_
  refine lv_iadd hx hb dX5_round_6 ?_
  refine lv_iconst (v := 2) hx hb dX5_round_7 (by decide) ?_
  refine lv_iload_n hx hb dX5_round_8 rfl (lv_at hl 2 rfl) ?_
  refine lv_imul hx hb dX5_round_9 ?_
  refine lv_bipush (v := 20) hx hb dX5_round_10 (by decide) ?_
  refine lv_imul hx hb dX5_round_12 ?_
  refine lv_iadd hx hb dX5_round_13 ?_
  refine lv_istore_n (lv' := [(3, .int ((((2 * x) * y) + (nI j)) + ((2 * (nI j)) * 20))), (0, .int x), (1, .int y), (2, .int (nI j))]) hx hb dX5_round_14 rfl hl (by decide) rfl (fun ls hl => ?_)
  refine lv_iload_n hx hb dX5_round_15 rfl (lv_at hl 0 rfl) ?_
  refine lv_iconst (v := 2) hx hb dX5_round_16 (by decide) ?_
  refine lv_iload_n hx hb dX5_round_17 rfl (lv_at hl 3 rfl) ?_
  refine lv_imul hx hb dX5_round_18 ?_
  refine lv_idiv hx hb dX5_round_19 (nz2r hj.1 hj.2) ?_
  refine lv_bipush (v := 20) hx hb dX5_round_20 (by decide) ?_
  refine lv_isub hx hb dX5_round_22 ?_
  exact W.iret (v := ((((((2 * x) * y) + (nI j)) + ((2 * (nI j)) * 20)) / (2 * (nI j))) - 20)) hx hb hr (fun T9 ht _ => ⟨_, rfl, by first | rfl | (simp only [roundM]; done) | (simp only [roundM]; rfl) | (simp [roundM]; done) | (simp [roundM]; rfl), ht⟩) hnil dX5_round_23

set_option maxHeartbeats 4000000 in
set_option maxRecDepth 100000 in
theorem c_X5_thrown (l : Launch) (D : va_G) (cI : ClassId) (h g0 v0 : Nat) (th : Int32) (g : Nat → Int32) (gm : Int32) : Met l yX5_thrown wsX5_thrown ({ frames := 0, cells := 0, slots := 0, locals := 0 } : Room) (va_Pc [.ref h] (preR D cI (qW cI h g0 v0 th g gm))) (vp_Si (fun r => r = th)) 0 0 (fun _ => False) := by
  refine Met.ofW (cc := cX5_thrown) (maxL := 1) (ret := (some .int)) (by decide) rfl ?_
  intro p e s m args below meth c s₁ B hml hv
  obtain ⟨rfl, hP, hK, hE⟩ := hv
  have hx := B.exec
  have hb := B.bytes
  have hr := B.returns
  have hts := atoms_spec (ws := wsX5_thrown) B.pre
  have hown : s.vm.findClass RX5 = some m.cls := findClass_of_methodNamed B.named
  have hlocks := B.notSynchronized
  have hl := lv_entry ([.ref h]) (n := 1) (Nat.le_of_ble_eq_true rfl)
  rw [lg_entry_eq]
  generalize (lg_sl ([.ref h]) ++ List.replicate (1 - (lg_sl ([.ref h])).length) Slot.unset).toArray = ls at hl ⊢
  have hl : lv_has ls 1 [(0, .ref h)] := hl
  refine lv_aload_n hx hb dX5_thrown_0 rfl (lv_at hl 0 rfl) ?_
  refine va_get (D := D) (ci := 5) (v := .int th) (C := RX5) (T := TX5) (N := 4) hx hb hts (by decide +kernel) hown hK hP 0 rfl rfl 0 (by decide) (hts (.fieldLink RX5 18 "WarrenModel" "thrown" "I") (by decide +kernel)) (fun _ h9 => h9) rfl dX5_thrown_1 ?_
  exact W.iret (v := th) hx hb hr (fun T9 ht _ => ⟨_, rfl, by first | rfl | (simp only []; done) | (simp only []; rfl) | (simp []; done) | (simp []; rfl), ht⟩) hnil dX5_thrown_4

set_option maxHeartbeats 4000000 in
set_option maxRecDepth 100000 in
theorem c_X5_isBeing_0 (l : Launch) (D : va_G) (cI : ClassId) (h g0 v0 : Nat) (th : Int32) (g : Nat → Int32) (gm : Int32) (x : Int32) (hg0 : g (680 : Int32).toNatClampNeg = 0) : Met l yX5_isBeing wsX5_isBeing ({ frames := 1, cells := 0, slots := 0, locals := 22 } : Room) (va_Pc [.ref h, .int x] (preR D cI (qW cI h g0 v0 th g gm))) (vp_Si (fun r => r = bi false)) 0 0 (fun _ => False) := by
  refine Met.ofW (cc := cX5_isBeing) (maxL := 2) (ret := (some .boolean)) (by decide) rfl ?_
  intro p e s m args below meth c s₁ B hml hv
  obtain ⟨rfl, hP, hK, hE⟩ := hv
  have hx := B.exec
  have hb := B.bytes
  have hr := B.returns
  have hts := atoms_spec (ws := wsX5_isBeing) B.pre
  have hown : s.vm.findClass RX5 = some m.cls := findClass_of_methodNamed B.named
  have hlocks := B.notSynchronized
  have hl := lv_entry ([.ref h, .int x]) (n := 2) (Nat.le_of_ble_eq_true rfl)
  rw [lg_entry_eq]
  generalize (lg_sl ([.ref h, .int x]) ++ List.replicate (2 - (lg_sl ([.ref h, .int x])).length) Slot.unset).toArray = ls at hl ⊢
  have hl : lv_has ls 2 [(0, .ref h), (1, .int x)] := hl
  refine lv_iload_n hx hb dX5_isBeing_0 rfl (lv_at hl 1 rfl) ?_
  refine lv_iconst (v := 0) hx hb dX5_isBeing_1 (by decide) ?_
  refine lv_aload_n hx hb dX5_isBeing_2 rfl (lv_at hl 0 rfl) ?_
  refine va_get (D := D) (ci := 5) (v := .ref g0) (C := RX5) (T := TX5) (N := 4) hx hb hts (by decide +kernel) hown hK hP 0 rfl rfl 1 (by decide) (hts (.fieldLink RX5 9 "WarrenModel" "g" "[I") (by decide +kernel)) (fun _ h9 => h9) rfl dX5_isBeing_3 ?_
  refine lv_sipush (v := 680) hx hb dX5_isBeing_6 (by decide) ?_
  refine va_iald hx hb hK hP 1 0 rfl rfl (vp_in_nI (n := 680) (by decide) (by decide)) dX5_isBeing_9 ?_
  refine lv_iconst (v := 1) hx hb dX5_isBeing_10 (by decide) ?_
  refine lv_isub hx hb dX5_isBeing_11 ?_
  rw [hg0]
  refine vp_callSi (va_Run.run (va_runS (As := [.int x, .int 0, .int (0 - 1)]) (rest := []) ⟨hx, hb, hml, hown, hts⟩ (c_X5_isIn l x 0 (0 - 1)) (va_cwS 3 hts gX5_isBeing_X5_isIn rfl rfl rfl (by decide +kernel) ⟨Nat.le_of_ble_eq_true rfl, Nat.le_of_ble_eq_true rfl⟩) ⟨fun _ _ _ _ q => q, fun _ _ _ => ⟨rfl, trivial⟩⟩ rfl rfl hl.1 rfl (lv_room (Nat.le_of_ble_eq_true rfl)) dX5_isBeing_12 ⟨Nat.zero_le _, Nat.zero_le _⟩)) (fun r hr9 => ?_)
  subst hr9
  exact W.zret (v := (bi (withinB x 0 (0 - 1)))) hx hb hr (bi_nar _) (fun T9 ht _ => ⟨_, rfl, by show bi (withinB x 0 (0 - 1)) = bi false; rw [show (0 : Int32) - 1 = -1 from by decide, within_m1], ht⟩) hnil dX5_isBeing_15

set_option maxHeartbeats 4000000 in
set_option maxRecDepth 100000 in
theorem c_X5_onNow_0 (l : Launch) (D : va_G) (cI : ClassId) (h g0 v0 : Nat) (th : Int32) (g : Nat → Int32) (gm : Int32) (x : Int32) (hg0 : g (680 : Int32).toNatClampNeg = 0) : Met l yX5_onNow wsX5_onNow ({ frames := 0, cells := 0, slots := 0, locals := 0 } : Room) (va_Pc [.ref h, .int x] (preR D cI (qW cI h g0 v0 th g gm))) (vp_Si (fun r => r = -1)) 0 0 (fun _ => False) := by
  refine Met.ofW (cc := cX5_onNow) (maxL := 3) (ret := (some .int)) (by decide) rfl ?_
  intro p e s m args below meth c s₁ B hml hv
  obtain ⟨rfl, hP, hK, hE⟩ := hv
  have hx := B.exec
  have hb := B.bytes
  have hr := B.returns
  have hts := atoms_spec (ws := wsX5_onNow) B.pre
  have hown : s.vm.findClass RX5 = some m.cls := findClass_of_methodNamed B.named
  have hlocks := B.notSynchronized
  have hl := lv_entry ([.ref h, .int x]) (n := 3) (Nat.le_of_ble_eq_true rfl)
  rw [lg_entry_eq]
  generalize (lg_sl ([.ref h, .int x]) ++ List.replicate (3 - (lg_sl ([.ref h, .int x])).length) Slot.unset).toArray = ls at hl ⊢
  have hl : lv_has ls 3 [(0, .ref h), (1, .int x)] := hl
  refine lv_iconst (v := 0) hx hb dX5_onNow_0 (by decide) ?_
  refine lv_istore_n (lv' := [(2, .int 0), (0, .ref h), (1, .int x)]) hx hb dX5_onNow_1 rfl hl (by decide) rfl (fun ls hl => ?_)
  refine lv_iload_n hx hb dX5_onNow_2 rfl (lv_at hl 0 rfl) ?_
  refine lv_aload_n hx hb dX5_onNow_3 rfl (lv_at hl 1 rfl) ?_
  refine va_get (D := D) (ci := 5) (v := .ref g0) (C := RX5) (T := TX5) (N := 4) hx hb hts (by decide +kernel) hown hK hP 0 rfl rfl 1 (by decide) (hts (.fieldLink RX5 9 "WarrenModel" "g" "[I") (by decide +kernel)) (fun _ h9 => h9) rfl dX5_onNow_4 ?_
  refine lv_sipush (v := 680) hx hb dX5_onNow_7 (by decide) ?_
  refine va_iald hx hb hK hP 1 0 rfl rfl (vp_in_nI (n := 680) (by decide) (by decide)) dX5_onNow_10 ?_
  refine lv_icmp_ge (tgt := 32) hx hb dX5_onNow_11 (by decide) (fun c_11 => ?_) (fun c_11 => absurd ((by rw [hg0]; decide)) c_11)
  refine lv_iconst (v := (-1)) hx hb dX5_onNow_32 (by decide) ?_
  exact W.iret (v := (-1)) hx hb hr (fun T9 ht _ => ⟨_, rfl, rfl, ht⟩) hnil dX5_onNow_33

set_option maxHeartbeats 4000000 in
set_option maxRecDepth 100000 in
theorem c_X5_turn_0 (l : Launch) (D : va_G) (cI : ClassId) (h g0 v0 : Nat) (th : Int32) (g : Nat → Int32) (gm : Int32) (hg0 : g (680 : Int32).toNatClampNeg = 0) : Met l yX5_turn wsX5_turn ({ frames := 0, cells := 0, slots := 0, locals := 0 } : Room) (va_Pc [.ref h] (preR D cI (qW cI h g0 v0 th g gm))) (vp_Si (fun r => r = -1)) 0 0 (fun _ => False) := by
  refine Met.ofW (cc := cX5_turn) (maxL := 3) (ret := (some .int)) (by decide) rfl ?_
  intro p e s m args below meth c s₁ B hml hv
  obtain ⟨rfl, hP, hK, hE⟩ := hv
  have hx := B.exec
  have hb := B.bytes
  have hr := B.returns
  have hts := atoms_spec (ws := wsX5_turn) B.pre
  have hown : s.vm.findClass RX5 = some m.cls := findClass_of_methodNamed B.named
  have hlocks := B.notSynchronized
  have hl := lv_entry ([.ref h]) (n := 3) (Nat.le_of_ble_eq_true rfl)
  rw [lg_entry_eq]
  generalize (lg_sl ([.ref h]) ++ List.replicate (3 - (lg_sl ([.ref h])).length) Slot.unset).toArray = ls at hl ⊢
  have hl : lv_has ls 3 [(0, .ref h)] := hl
  refine lv_iconst (v := (-1)) hx hb dX5_turn_0 (by decide) ?_
  refine lv_istore_n (lv' := [(1, .int (-1)), (0, .ref h)]) hx hb dX5_turn_1 rfl hl (by decide) rfl (fun ls hl => ?_)
  refine lv_iconst (v := 0) hx hb dX5_turn_2 (by decide) ?_
  refine lv_istore_n (lv' := [(2, .int 0), (1, .int (-1)), (0, .ref h)]) hx hb dX5_turn_3 rfl hl (by decide) rfl (fun ls hl => ?_)
  refine lv_iload_n hx hb dX5_turn_4 rfl (lv_at hl 0 rfl) ?_
  refine lv_aload_n hx hb dX5_turn_5 rfl (lv_at hl 2 rfl) ?_
  refine va_get (D := D) (ci := 5) (v := .ref g0) (C := RX5) (T := TX5) (N := 4) hx hb hts (by decide +kernel) hown hK hP 0 rfl rfl 1 (by decide) (hts (.fieldLink RX5 9 "WarrenModel" "g" "[I") (by decide +kernel)) (fun _ h9 => h9) rfl dX5_turn_6 ?_
  refine lv_sipush (v := 680) hx hb dX5_turn_9 (by decide) ?_
  refine va_iald hx hb hK hP 1 0 rfl rfl (vp_in_nI (n := 680) (by decide) (by decide)) dX5_turn_12 ?_
  refine lv_icmp_ge (tgt := 54) hx hb dX5_turn_13 (by decide) (fun c_13 => ?_) (fun c_13 => absurd ((by rw [hg0]; decide)) c_13)
  refine lv_iload_n hx hb dX5_turn_54 rfl (lv_at hl 1 rfl) ?_
  exact W.iret (v := (-1)) hx hb hr (fun T9 ht _ => ⟨_, rfl, rfl, ht⟩) hnil dX5_turn_55

set_option maxHeartbeats 4000000 in
set_option maxRecDepth 100000 in
theorem c_X5_alive_0 (l : Launch) (D : va_G) (cI : ClassId) (h g0 v0 : Nat) (th : Int32) (g : Nat → Int32) (gm : Int32) (x : Int32) (hg0 : g (680 : Int32).toNatClampNeg = 0) : Met l yX5_alive wsX5_alive ({ frames := 0, cells := 0, slots := 0, locals := 0 } : Room) (va_Pc [.ref h, .int x] (preR D cI (qW cI h g0 v0 th g gm))) (vp_Si (fun r => r = 0)) 0 0 (fun _ => False) := by
  refine Met.ofW (cc := cX5_alive) (maxL := 4) (ret := (some .int)) (by decide) rfl ?_
  intro p e s m args below meth c s₁ B hml hv
  obtain ⟨rfl, hP, hK, hE⟩ := hv
  have hx := B.exec
  have hb := B.bytes
  have hr := B.returns
  have hts := atoms_spec (ws := wsX5_alive) B.pre
  have hown : s.vm.findClass RX5 = some m.cls := findClass_of_methodNamed B.named
  have hlocks := B.notSynchronized
  have hl := lv_entry ([.ref h, .int x]) (n := 4) (Nat.le_of_ble_eq_true rfl)
  rw [lg_entry_eq]
  generalize (lg_sl ([.ref h, .int x]) ++ List.replicate (4 - (lg_sl ([.ref h, .int x])).length) Slot.unset).toArray = ls at hl ⊢
  have hl : lv_has ls 4 [(0, .ref h), (1, .int x)] := hl
  refine lv_iconst (v := 0) hx hb dX5_alive_0 (by decide) ?_
  refine lv_istore_n (lv' := [(2, .int 0), (0, .ref h), (1, .int x)]) hx hb dX5_alive_1 rfl hl (by decide) rfl (fun ls hl => ?_)
  refine lv_iconst (v := 0) hx hb dX5_alive_2 (by decide) ?_
  refine lv_istore_n (lv' := [(3, .int 0), (2, .int 0), (0, .ref h), (1, .int x)]) hx hb dX5_alive_3 rfl hl (by decide) rfl (fun ls hl => ?_)
  refine lv_iload_n hx hb dX5_alive_4 rfl (lv_at hl 0 rfl) ?_
  refine lv_aload_n hx hb dX5_alive_5 rfl (lv_at hl 2 rfl) ?_
  refine va_get (D := D) (ci := 5) (v := .ref g0) (C := RX5) (T := TX5) (N := 4) hx hb hts (by decide +kernel) hown hK hP 0 rfl rfl 1 (by decide) (hts (.fieldLink RX5 9 "WarrenModel" "g" "[I") (by decide +kernel)) (fun _ h9 => h9) rfl dX5_alive_6 ?_
  refine lv_sipush (v := 680) hx hb dX5_alive_9 (by decide) ?_
  refine va_iald hx hb hK hP 1 0 rfl rfl (vp_in_nI (n := 680) (by decide) (by decide)) dX5_alive_12 ?_
  refine lv_icmp_ge (tgt := 48) hx hb dX5_alive_13 (by decide) (fun c_13 => ?_) (fun c_13 => absurd ((by rw [hg0]; decide)) c_13)
  refine lv_iload_n hx hb dX5_alive_48 rfl (lv_at hl 1 rfl) ?_
  exact W.iret (v := 0) hx hb hr (fun T9 ht _ => ⟨_, rfl, rfl, ht⟩) hnil dX5_alive_49

set_option maxHeartbeats 4000000 in
set_option maxRecDepth 100000 in
theorem c_X5_life_0 (l : Launch) (D : va_G) (cI : ClassId) (h g0 v0 : Nat) (th : Int32) (g : Nat → Int32) (gm : Int32) (x : Int32) (hg0 : g (680 : Int32).toNatClampNeg = 0) : Met l yX5_life wsX5_life ({ frames := 0, cells := 0, slots := 0, locals := 0 } : Room) (va_Pc [.ref h, .int x] (preR D cI (qW cI h g0 v0 th g gm))) (vp_Si (fun r => r = 0)) 0 0 (fun _ => False) := by
  refine Met.ofW (cc := cX5_life) (maxL := 4) (ret := (some .int)) (by decide) rfl ?_
  intro p e s m args below meth c s₁ B hml hv
  obtain ⟨rfl, hP, hK, hE⟩ := hv
  have hx := B.exec
  have hb := B.bytes
  have hr := B.returns
  have hts := atoms_spec (ws := wsX5_life) B.pre
  have hown : s.vm.findClass RX5 = some m.cls := findClass_of_methodNamed B.named
  have hlocks := B.notSynchronized
  have hl := lv_entry ([.ref h, .int x]) (n := 4) (Nat.le_of_ble_eq_true rfl)
  rw [lg_entry_eq]
  generalize (lg_sl ([.ref h, .int x]) ++ List.replicate (4 - (lg_sl ([.ref h, .int x])).length) Slot.unset).toArray = ls at hl ⊢
  have hl : lv_has ls 4 [(0, .ref h), (1, .int x)] := hl
  refine lv_iconst (v := 0) hx hb dX5_life_0 (by decide) ?_
  refine lv_istore_n (lv' := [(2, .int 0), (0, .ref h), (1, .int x)]) hx hb dX5_life_1 rfl hl (by decide) rfl (fun ls hl => ?_)
  refine lv_iconst (v := 0) hx hb dX5_life_2 (by decide) ?_
  refine lv_istore_n (lv' := [(3, .int 0), (2, .int 0), (0, .ref h), (1, .int x)]) hx hb dX5_life_3 rfl hl (by decide) rfl (fun ls hl => ?_)
  refine lv_iload_n hx hb dX5_life_4 rfl (lv_at hl 0 rfl) ?_
  refine lv_aload_n hx hb dX5_life_5 rfl (lv_at hl 2 rfl) ?_
  refine va_get (D := D) (ci := 5) (v := .ref g0) (C := RX5) (T := TX5) (N := 4) hx hb hts (by decide +kernel) hown hK hP 0 rfl rfl 1 (by decide) (hts (.fieldLink RX5 9 "WarrenModel" "g" "[I") (by decide +kernel)) (fun _ h9 => h9) rfl dX5_life_6 ?_
  refine lv_sipush (v := 680) hx hb dX5_life_9 (by decide) ?_
  refine va_iald hx hb hK hP 1 0 rfl rfl (vp_in_nI (n := 680) (by decide) (by decide)) dX5_life_12 ?_
  refine lv_icmp_ge (tgt := 45) hx hb dX5_life_13 (by decide) (fun c_13 => ?_) (fun c_13 => absurd ((by rw [hg0]; decide)) c_13)
  refine lv_iload_n hx hb dX5_life_45 rfl (lv_at hl 1 rfl) ?_
  exact W.iret (v := 0) hx hb hr (fun T9 ht _ => ⟨_, rfl, rfl, ht⟩) hnil dX5_life_46

set_option maxHeartbeats 4000000 in
set_option maxRecDepth 100000 in
theorem c_X5_dangerNow_0 (l : Launch) (D : va_G) (cI : ClassId) (h g0 v0 : Nat) (th : Int32) (g : Nat → Int32) (gm : Int32) (x y : Int32) (hg0 : g (680 : Int32).toNatClampNeg = 0) : Met l yX5_dangerNow wsX5_dangerNow ({ frames := 0, cells := 0, slots := 0, locals := 0 } : Room) (va_Pc [.ref h, .int x, .int y] (preR D cI (qW cI h g0 v0 th g gm))) (vp_Si (fun r => r = 0)) 0 0 (fun _ => False) := by
  refine Met.ofW (cc := cX5_dangerNow) (maxL := 5) (ret := (some .int)) (by decide) rfl ?_
  intro p e s m args below meth c s₁ B hml hv
  obtain ⟨rfl, hP, hK, hE⟩ := hv
  have hx := B.exec
  have hb := B.bytes
  have hr := B.returns
  have hts := atoms_spec (ws := wsX5_dangerNow) B.pre
  have hown : s.vm.findClass RX5 = some m.cls := findClass_of_methodNamed B.named
  have hlocks := B.notSynchronized
  have hl := lv_entry ([.ref h, .int x, .int y]) (n := 5) (Nat.le_of_ble_eq_true rfl)
  rw [lg_entry_eq]
  generalize (lg_sl ([.ref h, .int x, .int y]) ++ List.replicate (5 - (lg_sl ([.ref h, .int x, .int y])).length) Slot.unset).toArray = ls at hl ⊢
  have hl : lv_has ls 5 [(0, .ref h), (1, .int x), (2, .int y)] := hl
  refine lv_iconst (v := 0) hx hb dX5_dangerNow_0 (by decide) ?_
  refine lv_istore_n (lv' := [(3, .int 0), (0, .ref h), (1, .int x), (2, .int y)]) hx hb dX5_dangerNow_1 rfl hl (by decide) rfl (fun ls hl => ?_)
  refine lv_iconst (v := 0) hx hb dX5_dangerNow_2 (by decide) ?_
  refine lv_istore (lv' := [(4, .int 0), (3, .int 0), (0, .ref h), (1, .int x), (2, .int y)]) hx hb dX5_dangerNow_3 hl (by decide) rfl (fun ls hl => ?_)
  refine lv_iload hx hb dX5_dangerNow_5 (lv_at hl 0 rfl) ?_
  refine lv_aload_n hx hb dX5_dangerNow_7 rfl (lv_at hl 2 rfl) ?_
  refine va_get (D := D) (ci := 5) (v := .ref g0) (C := RX5) (T := TX5) (N := 4) hx hb hts (by decide +kernel) hown hK hP 0 rfl rfl 1 (by decide) (hts (.fieldLink RX5 9 "WarrenModel" "g" "[I") (by decide +kernel)) (fun _ h9 => h9) rfl dX5_dangerNow_8 ?_
  refine lv_sipush (v := 680) hx hb dX5_dangerNow_11 (by decide) ?_
  refine va_iald hx hb hK hP 1 0 rfl rfl (vp_in_nI (n := 680) (by decide) (by decide)) dX5_dangerNow_14 ?_
  refine lv_icmp_ge (tgt := 67) hx hb dX5_dangerNow_15 (by decide) (fun c_15 => ?_) (fun c_15 => absurd ((by rw [hg0]; decide)) c_15)
  refine lv_iload_n hx hb dX5_dangerNow_67 rfl (lv_at hl 1 rfl) ?_
  exact W.iret (v := 0) hx hb hr (fun T9 ht _ => ⟨_, rfl, rfl, ht⟩) hnil dX5_dangerNow_68

set_option maxHeartbeats 4000000 in
set_option maxRecDepth 100000 in
theorem c_X5_followNow_0 (l : Launch) (D : va_G) (cI : ClassId) (h g0 v0 : Nat) (th : Int32) (g : Nat → Int32) (gm : Int32) (x : Int32) (hg0 : g (680 : Int32).toNatClampNeg = 0) : Met l yX5_followNow wsX5_followNow ({ frames := 1, cells := 0, slots := 0, locals := 23 } : Room) (va_Pc [.ref h, .int x] (preR D cI (qW cI h g0 v0 th g gm))) (vp_Si (fun r => r = 0)) 0 0 (fun _ => False) := by
  refine Met.ofW (cc := cX5_followNow) (maxL := 4) (ret := (some .int)) (by decide) rfl ?_
  intro p e s m args below meth c s₁ B hml hv
  obtain ⟨rfl, hP, hK, hE⟩ := hv
  have hx := B.exec
  have hb := B.bytes
  have hr := B.returns
  have hts := atoms_spec (ws := wsX5_followNow) B.pre
  have hown : s.vm.findClass RX5 = some m.cls := findClass_of_methodNamed B.named
  have hlocks := B.notSynchronized
  have hl := lv_entry ([.ref h, .int x]) (n := 4) (Nat.le_of_ble_eq_true rfl)
  rw [lg_entry_eq]
  generalize (lg_sl ([.ref h, .int x]) ++ List.replicate (4 - (lg_sl ([.ref h, .int x])).length) Slot.unset).toArray = ls at hl ⊢
  have hl : lv_has ls 4 [(0, .ref h), (1, .int x)] := hl
  refine lv_iconst (v := 0) hx hb dX5_followNow_0 (by decide) ?_
  refine lv_istore_n (lv' := [(2, .int 0), (0, .ref h), (1, .int x)]) hx hb dX5_followNow_1 rfl hl (by decide) rfl (fun ls hl => ?_)
  refine lv_iload_n hx hb dX5_followNow_2 rfl (lv_at hl 0 rfl) ?_
  refine lv_iload_n hx hb dX5_followNow_3 rfl (lv_at hl 2 rfl) ?_
  refine lv_icmp_ge (tgt := 45) hx hb dX5_followNow_4 (by decide) (fun c_4 => ?_) (fun c_4 => ?_)
  · refine lv_iload_n hx hb dX5_followNow_45 rfl (lv_at hl 0 rfl) ?_
    exact W.iret (v := 0) hx hb hr (fun T9 ht _ => ⟨_, rfl, rfl, ht⟩) hnil dX5_followNow_46
  · refine lv_aload_n hx hb dX5_followNow_7 rfl (lv_at hl 1 rfl) ?_
    refine lv_iconst (v := 0) hx hb dX5_followNow_8 (by decide) ?_
    refine vp_callSi (va_Run.run (va_runV (As := [.int 0]) (rest := []) ⟨hx, hb, hml, hown, hts⟩ (c_X5_alive_0 l D cI h g0 v0 th g gm 0 hg0) (cwV 1 hts gX5_followNow_X5_alive rfl rfl rfl (by decide +kernel) ⟨Nat.le_of_ble_eq_true rfl, Nat.le_of_ble_eq_true rfl⟩) ⟨preR_blind, va_recv hK hP (ci := 5) (q0 := 0) rfl rfl, preR_of hP hK hE [.ref h, .int 0]⟩ rfl rfl hl.1 rfl (lv_room (Nat.le_of_ble_eq_true rfl)) dX5_followNow_9 ⟨Nat.zero_le _, Nat.zero_le _⟩)) (fun r hr9 => ?_)
    subst hr9
    refine lv_if_le (tgt := 45) hx hb dX5_followNow_12 (by decide) (fun c_12 => ?_) (fun c_12 => absurd ((by decide)) c_12)
    refine lv_iload_n hx hb dX5_followNow_45 rfl (lv_at hl 0 rfl) ?_
    exact W.iret (v := 0) hx hb hr (fun T9 ht _ => ⟨_, rfl, rfl, ht⟩) hnil dX5_followNow_46

set_option maxHeartbeats 4000000 in
set_option maxRecDepth 100000 in
theorem c_X5_no (l : Launch) (D : va_G) (cI : ClassId) (sz : Nat) (h g0 v0 : Nat) (th : Int32) (g : Nat → Int32) (gm : Int32) (x : Int32) : Met l yX5_no wsX5_no ({ frames := 0, cells := 0, slots := 0, locals := 0 } : Room) (va_Pc [.ref h, .int x] (preM D cI (qW cI h g0 v0 th g gm) sz)) (va_Qi (fun (r : Int32) (u : (Int32 × (Nat → Int32) × Int32)) => r = 0 ∧ u = (x, g, gm)) (fun (u : (Int32 × (Nat → Int32) × Int32)) => posM D cI (va_A (qW cI h g0 v0 th g gm) sz) (qW cI h g0 v0 u.1 u.2.1 u.2.2)) (va_A (qW cI h g0 v0 th g gm) sz)) 0 0 (va_A (qW cI h g0 v0 th g gm) sz) := by
  refine Met.ofW (cc := cX5_no) (maxL := 2) (ret := (some .int)) (by decide) rfl ?_
  intro p e s m args below meth c s₁ B hml hv
  obtain ⟨rfl, hsz, hP, hK, hE, hD0⟩ := hv
  have hx := B.exec
  have hb := B.bytes
  have hr := B.returns
  have hts := atoms_spec (ws := wsX5_no) B.pre
  have hown : s.vm.findClass RX5 = some m.cls := findClass_of_methodNamed B.named
  have hlocks := B.notSynchronized
  subst hsz
  have hD := hD0.self (sz := s.heap.size)
  generalize hAe : va_A (qW cI h g0 v0 th g gm) s.heap.size = A at hD ⊢
  have hA : ∀ q : Nat, s.heap.size ≤ q → A q := fun q h => by rw [← hAe]; exact Or.inr h
  have hS : va_S A s.heap s.heap [] := va_S.rf
  have hP : va_P D vwCl (qW cI h g0 v0 th g gm) s.heap := hP
  have hl := lv_entry ([.ref h, .int x]) (n := 2) (Nat.le_of_ble_eq_true rfl)
  rw [lg_entry_eq]
  generalize (lg_sl ([.ref h, .int x]) ++ List.replicate (2 - (lg_sl ([.ref h, .int x])).length) Slot.unset).toArray = ls at hl ⊢
  have hl : lv_has ls 2 [(0, .ref h), (1, .int x)] := hl
  refine lv_aload_n hx hb dX5_no_0 rfl (lv_at hl 0 rfl) ?_
  refine lv_iload_n hx hb dX5_no_1 rfl (lv_at hl 1 rfl) ?_
  refine va_put (D := D) (ci := 5) (v := .int x) (ty := .int) (C := RX5) (T := TX5) (N := 4) hx hb hts (by decide +kernel) tyX5 tyX5_ok nmX5 hown hK hP hD hS 0 rfl rfl 0 (by decide) (hts (.fieldLink RX5 18 "WarrenModel" "thrown" "I") (by decide +kernel)) (fun _ h9 => h9) rfl (by decide +kernel) rfl rfl (Nat.le_of_ble_eq_true rfl) dX5_no_2 (fun H locs hP hD hS => ?_)
  have hP : va_P D vwCl (qW cI h g0 v0 x g gm) H := hP
  have hD : va_D A (qW cI h g0 v0 x g gm) := hD
  refine lv_iconst (v := 0) hx hb dX5_no_5 (by decide) ?_
  have hP9 := hP
  have hD9 := hD
  exact W.iret (v := 0) hx hb hr (fun T9 ht hW => ⟨⟨0, (x, g, gm), rfl, ⟨rfl, rfl⟩, by rw [ht]; exact hP9, va_K.moved hW.alike hK, hD9⟩, hS.F ht⟩) hS.2.2 dX5_no_6

set_option maxHeartbeats 4000000 in
set_option maxRecDepth 100000 in
theorem c_X5_isClear_1 (l : Launch) (D : va_G) (cI : ClassId) (h g0 v0 : Nat) (th : Int32) (g : Nat → Int32) (gm : Int32) (x y : Int32) (hgk : ∀ j, j < 160 → g j = 1) (hcx : cellB x = true) (hcy : cellB y = true) (hd : apartM x y ≤ 7) : Met l yX5_isClear wsX5_isClear ({ frames := 2, cells := 0, slots := 0, locals := 35 } : Room) (va_Pc [.ref h, .int x, .int y] (preR D cI (qW cI h g0 v0 th g gm))) (vp_Si (fun r => r = bi (decide (apartM x y ≤ 1)))) 0 0 (fun _ => False) := by
  refine Met.ofW (cc := cX5_isClear) (maxL := 6) (ret := (some .boolean)) (by decide) rfl ?_
  intro p e s m args below meth c s₁ B hml hv
  obtain ⟨rfl, hP, hK, hE⟩ := hv
  have hx := B.exec
  have hb := B.bytes
  have hr := B.returns
  have hts := atoms_spec (ws := wsX5_isClear) B.pre
  have hown : s.vm.findClass RX5 = some m.cls := findClass_of_methodNamed B.named
  have hlocks := B.notSynchronized
  have hl := lv_entry ([.ref h, .int x, .int y]) (n := 6) (Nat.le_of_ble_eq_true rfl)
  rw [lg_entry_eq]
  generalize (lg_sl ([.ref h, .int x, .int y]) ++ List.replicate (6 - (lg_sl ([.ref h, .int x, .int y])).length) Slot.unset).toArray = ls at hl ⊢
  have hl : lv_has ls 6 [(0, .ref h), (1, .int x), (2, .int y)] := hl
  refine lv_iload_n hx hb dX5_isClear_0 rfl (lv_at hl 1 rfl) ?_
  refine lv_iload_n hx hb dX5_isClear_1 rfl (lv_at hl 2 rfl) ?_
  refine vp_callSi (va_Run.run (va_runS (As := [.int x, .int y]) (rest := []) ⟨hx, hb, hml, hown, hts⟩ (c_X5_apart l x y) (va_cwS 2 hts gX5_isClear_X5_apart rfl rfl rfl (by decide +kernel) ⟨Nat.le_of_ble_eq_true rfl, Nat.le_of_ble_eq_true rfl⟩) ⟨fun _ _ _ _ q => q, fun _ _ _ => ⟨rfl, trivial⟩⟩ rfl rfl hl.1 rfl (lv_room (Nat.le_of_ble_eq_true rfl)) dX5_isClear_2 ⟨Nat.zero_le _, Nat.zero_le _⟩)) (fun r hr9 => ?_)
  subst hr9
  refine lv_istore_n (lv' := [(3, .int (apartM x y)), (0, .ref h), (1, .int x), (2, .int y)]) hx hb dX5_isClear_5 rfl hl (by decide) rfl (fun ls hl => ?_)
  obtain ⟨j, hj, ej⟩ := apartM_le hcx hcy hd
  rw [ej] at hl
  refine lv_iconst (v := 1) hx hb dX5_isClear_6 (by decide) ?_
  refine lv_istore (lv' := [(4, .int 1), (3, .int (nI j)), (0, .ref h), (1, .int x), (2, .int y)]) hx hb dX5_isClear_7 hl (by decide) rfl (fun ls hl => ?_)
  refine lv_iload hx hb dX5_isClear_9 (lv_at hl 0 rfl) ?_
  refine lv_iload_n hx hb dX5_isClear_11 rfl (lv_at hl 1 rfl) ?_
  refine lv_icmp_ge (tgt := 84) hx hb dX5_isClear_12 (by decide) (fun c_12 => ?_) (fun c_12 => ?_)
  · refine lv_iconst (v := 1) hx hb dX5_isClear_84 (by decide) ?_
    exact W.zret (v := 1) hx hb hr rfl (fun T9 ht _ => ⟨_, rfl, by rw [ej]; simp [c_12, bi], ht⟩) hnil dX5_isClear_85
  · refine lv_iload_n hx hb dX5_isClear_15 rfl (lv_at hl 3 rfl) ?_
    refine lv_bipush (v := 16) hx hb dX5_isClear_16 (by decide) ?_
    refine lv_idiv hx hb dX5_isClear_18 (by decide) ?_
    refine lv_iload hx hb dX5_isClear_19 (lv_at hl 0 rfl) ?_
    refine lv_iload_n hx hb dX5_isClear_21 rfl (lv_at hl 4 rfl) ?_
    refine lv_bipush (v := 16) hx hb dX5_isClear_22 (by decide) ?_
    refine lv_idiv hx hb dX5_isClear_24 (by decide) ?_
    refine lv_iload_n hx hb dX5_isClear_25 rfl (lv_at hl 3 rfl) ?_
    refine lv_bipush (v := 16) hx hb dX5_isClear_26 (by decide) ?_
    refine lv_idiv hx hb dX5_isClear_28 (by decide) ?_
    refine lv_isub hx hb dX5_isClear_29 ?_
    refine lv_iload_n hx hb dX5_isClear_30 rfl (lv_at hl 1 rfl) ?_
    refine vp_callSi (va_Run.run (va_runS (As := [.int 1, .int ((y / 16) - (x / 16)), .int (nI j)]) (rest := [.int (x / 16)]) ⟨hx, hb, hml, hown, hts⟩ (c_X5_round l 1 ((y / 16) - (x / 16)) j ⟨Nat.le_of_succ_le (n2_of c_12), hj⟩) (va_cwS 3 hts gX5_isClear_X5_round rfl rfl rfl (by decide +kernel) ⟨Nat.le_of_ble_eq_true rfl, Nat.le_of_ble_eq_true rfl⟩) ⟨fun _ _ _ _ q => q, fun _ _ _ => ⟨rfl, trivial⟩⟩ rfl rfl hl.1 rfl (lv_room (Nat.le_of_ble_eq_true rfl)) dX5_isClear_31 ⟨Nat.zero_le _, Nat.zero_le _⟩)) (fun r hr9 => ?_)
    subst hr9
    refine lv_iadd hx hb dX5_isClear_34 ?_
    refine lv_bipush (v := 16) hx hb dX5_isClear_35 (by decide) ?_
    refine lv_imul hx hb dX5_isClear_37 ?_
    refine lv_iload_n hx hb dX5_isClear_38 rfl (lv_at hl 3 rfl) ?_
    refine lv_bipush (v := 16) hx hb dX5_isClear_39 (by decide) ?_
    refine lv_irem hx hb dX5_isClear_41 (by decide) ?_
    refine lv_iadd hx hb dX5_isClear_42 ?_
    refine lv_iload hx hb dX5_isClear_43 (lv_at hl 0 rfl) ?_
    refine lv_iload_n hx hb dX5_isClear_45 rfl (lv_at hl 4 rfl) ?_
    refine lv_bipush (v := 16) hx hb dX5_isClear_46 (by decide) ?_
    refine lv_irem hx hb dX5_isClear_48 (by decide) ?_
    refine lv_iload_n hx hb dX5_isClear_49 rfl (lv_at hl 3 rfl) ?_
    refine lv_bipush (v := 16) hx hb dX5_isClear_50 (by decide) ?_
    refine lv_irem hx hb dX5_isClear_52 (by decide) ?_
    refine lv_isub hx hb dX5_isClear_53 ?_
    refine lv_iload_n hx hb dX5_isClear_54 rfl (lv_at hl 1 rfl) ?_
    refine vp_callSi (va_Run.run (va_runS (As := [.int 1, .int ((remI y 16) - (remI x 16)), .int (nI j)]) (rest := [.int ((((x / 16) + (roundM 1 ((y / 16) - (x / 16)) (nI j))) * 16) + (remI x 16))]) ⟨hx, hb, hml, hown, hts⟩ (c_X5_round l 1 ((remI y 16) - (remI x 16)) j ⟨Nat.le_of_succ_le (n2_of c_12), hj⟩) (va_cwS 3 hts gX5_isClear_X5_round rfl rfl rfl (by decide +kernel) ⟨Nat.le_of_ble_eq_true rfl, Nat.le_of_ble_eq_true rfl⟩) ⟨fun _ _ _ _ q => q, fun _ _ _ => ⟨rfl, trivial⟩⟩ rfl rfl hl.1 rfl (lv_room (Nat.le_of_ble_eq_true rfl)) dX5_isClear_55 ⟨Nat.zero_le _, Nat.zero_le _⟩)) (fun r hr9 => ?_)
    subst hr9
    refine lv_iadd hx hb dX5_isClear_58 ?_
    refine lv_istore (lv' := [(5, .int (((((x / 16) + (roundM 1 ((y / 16) - (x / 16)) (nI j))) * 16) + (remI x 16)) + (roundM 1 ((remI y 16) - (remI x 16)) (nI j)))), (4, .int 1), (3, .int (nI j)), (0, .ref h), (1, .int x), (2, .int y)]) hx hb dX5_isClear_59 hl (by decide) rfl (fun ls hl => ?_)
    refine lv_aload_n hx hb dX5_isClear_61 rfl (lv_at hl 3 rfl) ?_
    refine va_get (D := D) (ci := 5) (v := .ref g0) (C := RX5) (T := TX5) (N := 4) hx hb hts (by decide +kernel) hown hK hP 0 rfl rfl 1 (by decide) (hts (.fieldLink RX5 9 "WarrenModel" "g" "[I") (by decide +kernel)) (fun _ h9 => h9) rfl dX5_isClear_62 ?_
    refine lv_iload hx hb dX5_isClear_65 (lv_at hl 0 rfl) ?_
    refine va_iald hx hb hK hP 1 0 rfl rfl (vinL (by decide) (by decide) (clear_cell hcx hcy hj (n2_of c_12) ej)) dX5_isClear_67 ?_
    rw [show (g (((((x / 16) + (roundM 1 ((y / 16) - (x / 16)) (nI j))) * 16) + (remI x 16)) + (roundM 1 ((remI y 16) - (remI x 16)) (nI j))).toNatClampNeg) = 1 from kind_1 hgk (clear_cell hcx hcy hj (n2_of c_12) ej)]
    refine lv_iconst (v := 1) hx hb dX5_isClear_68 (by decide) ?_
    refine lv_iconst (v := 2) hx hb dX5_isClear_69 (by decide) ?_
    refine vp_callSi (va_Run.run (va_runS (As := [.int 1, .int 1, .int 2]) (rest := []) ⟨hx, hb, hml, hown, hts⟩ (c_X5_isIn l 1 1 2) (va_cwS 3 hts gX5_isClear_X5_isIn rfl rfl rfl (by decide +kernel) ⟨Nat.le_of_ble_eq_true rfl, Nat.le_of_ble_eq_true rfl⟩) ⟨fun _ _ _ _ q => q, fun _ _ _ => ⟨rfl, trivial⟩⟩ rfl rfl hl.1 rfl (lv_room (Nat.le_of_ble_eq_true rfl)) dX5_isClear_70 ⟨Nat.zero_le _, Nat.zero_le _⟩)) (fun r hr9 => ?_)
    subst hr9
    refine w_bz (tgt := 78) hx hb dX5_isClear_73 (by decide) (fun c_73 => absurd c_73 ((by decide))) (fun c_73 => ?_)
    refine lv_iconst (v := 0) hx hb dX5_isClear_76 (by decide) ?_
    exact W.zret (v := 0) hx hb hr rfl (fun T9 ht _ => ⟨_, rfl, by rw [ej]; simp [c_12, bi], ht⟩) hnil dX5_isClear_77

set_option maxHeartbeats 4000000 in
set_option maxRecDepth 100000 in
theorem c_X5_seesNow_1 (l : Launch) (D : va_G) (cI : ClassId) (h g0 v0 : Nat) (th : Int32) (g : Nat → Int32) (gm : Int32) (x y : Int32) (hgk : ∀ j, j < 160 → g j = 1) (hcx : cellB x = true) (hcy : cellB y = true) : Met l yX5_seesNow wsX5_seesNow ({ frames := 3, cells := 0, slots := 0, locals := 60 } : Room) (va_Pc [.ref h, .int x, .int y] (preR D cI (qW cI h g0 v0 th g gm))) (vp_Si (fun r => r = bi (decide (apartM x y ≤ 1)))) 0 0 (fun _ => False) := by
  refine Met.ofW (cc := cX5_seesNow) (maxL := 3) (ret := (some .boolean)) (by decide) rfl ?_
  intro p e s m args below meth c s₁ B hml hv
  obtain ⟨rfl, hP, hK, hE⟩ := hv
  have hx := B.exec
  have hb := B.bytes
  have hr := B.returns
  have hts := atoms_spec (ws := wsX5_seesNow) B.pre
  have hown : s.vm.findClass RX5 = some m.cls := findClass_of_methodNamed B.named
  have hlocks := B.notSynchronized
  have hl := lv_entry ([.ref h, .int x, .int y]) (n := 3) (Nat.le_of_ble_eq_true rfl)
  rw [lg_entry_eq]
  generalize (lg_sl ([.ref h, .int x, .int y]) ++ List.replicate (3 - (lg_sl ([.ref h, .int x, .int y])).length) Slot.unset).toArray = ls at hl ⊢
  have hl : lv_has ls 3 [(0, .ref h), (1, .int x), (2, .int y)] := hl
  refine lv_iload_n hx hb dX5_seesNow_0 rfl (lv_at hl 1 rfl) ?_
  refine lv_iload_n hx hb dX5_seesNow_1 rfl (lv_at hl 2 rfl) ?_
  refine vp_callSi (va_Run.run (va_runS (As := [.int x, .int y]) (rest := []) ⟨hx, hb, hml, hown, hts⟩ (c_X5_apart l x y) (va_cwS 2 hts gX5_seesNow_X5_apart rfl rfl rfl (by decide +kernel) ⟨Nat.le_of_ble_eq_true rfl, Nat.le_of_ble_eq_true rfl⟩) ⟨fun _ _ _ _ q => q, fun _ _ _ => ⟨rfl, trivial⟩⟩ rfl rfl hl.1 rfl (lv_room (Nat.le_of_ble_eq_true rfl)) dX5_seesNow_2 ⟨Nat.zero_le _, Nat.zero_le _⟩)) (fun r hr9 => ?_)
  subst hr9
  refine lv_bipush (v := 7) hx hb dX5_seesNow_5 (by decide) ?_
  refine lv_icmp_gt (tgt := 32) hx hb dX5_seesNow_7 (by decide) (fun c_7 => ?_) (fun c_7 => ?_)
  · refine lv_iconst (v := 0) hx hb dX5_seesNow_32 (by decide) ?_
    exact W.zret (v := 0) hx hb hr rfl (fun T9 ht _ => ⟨_, rfl, by first | (rw [c_16]; rfl) | (rw [apartM_comm hcx hcy, c_25]; rfl) | exact far_0 c_7, ht⟩) hnil dX5_seesNow_33
  · refine lv_aload_n hx hb dX5_seesNow_10 rfl (lv_at hl 0 rfl) ?_
    refine lv_iload_n hx hb dX5_seesNow_11 rfl (lv_at hl 1 rfl) ?_
    refine lv_iload_n hx hb dX5_seesNow_12 rfl (lv_at hl 2 rfl) ?_
    refine vp_callSi (va_Run.run (va_runV (As := [.int x, .int y]) (rest := []) ⟨hx, hb, hml, hown, hts⟩ (c_X5_isClear_1 l D cI h g0 v0 th g gm x y hgk hcx hcy (Int32.not_lt.mp c_7)) (cwV 2 hts gX5_seesNow_X5_isClear rfl rfl rfl (by decide +kernel) ⟨Nat.le_of_ble_eq_true rfl, Nat.le_of_ble_eq_true rfl⟩) ⟨preR_blind, va_recv hK hP (ci := 5) (q0 := 0) rfl rfl, preR_of hP hK hE [.ref h, .int x, .int y]⟩ rfl rfl hl.1 rfl (lv_room (Nat.le_of_ble_eq_true rfl)) dX5_seesNow_13 ⟨Nat.zero_le _, Nat.zero_le _⟩)) (fun r hr9 => ?_)
    subst hr9
    refine w_bnz (tgt := 28) hx hb dX5_seesNow_16 (by decide) (fun c_16 => ?_) (fun c_16 => ?_)
    · refine lv_iconst (v := 1) hx hb dX5_seesNow_28 (by decide) ?_
      refine lv_goto (tgt := 33) hx hb dX5_seesNow_29 (by decide) ?_
      exact W.zret (v := 1) hx hb hr rfl (fun T9 ht _ => ⟨_, rfl, by first | (rw [c_16]; rfl) | (rw [apartM_comm hcx hcy, c_25]; rfl) | exact far_0 c_7, ht⟩) hnil dX5_seesNow_33
    · refine lv_aload_n hx hb dX5_seesNow_19 rfl (lv_at hl 0 rfl) ?_
      refine lv_iload_n hx hb dX5_seesNow_20 rfl (lv_at hl 2 rfl) ?_
      refine lv_iload_n hx hb dX5_seesNow_21 rfl (lv_at hl 1 rfl) ?_
      refine vp_callSi (va_Run.run (va_runV (As := [.int y, .int x]) (rest := []) ⟨hx, hb, hml, hown, hts⟩ (c_X5_isClear_1 l D cI h g0 v0 th g gm y x hgk hcy hcx (by rw [apartM_comm hcy hcx]; exact Int32.not_lt.mp c_7)) (cwV 2 hts gX5_seesNow_X5_isClear rfl rfl rfl (by decide +kernel) ⟨Nat.le_of_ble_eq_true rfl, Nat.le_of_ble_eq_true rfl⟩) ⟨preR_blind, va_recv hK hP (ci := 5) (q0 := 0) rfl rfl, preR_of hP hK hE [.ref h, .int y, .int x]⟩ rfl rfl hl.1 rfl (lv_room (Nat.le_of_ble_eq_true rfl)) dX5_seesNow_22 ⟨Nat.zero_le _, Nat.zero_le _⟩)) (fun r hr9 => ?_)
      subst hr9
      refine w_bz (tgt := 32) hx hb dX5_seesNow_25 (by decide) (fun c_25 => ?_) (fun c_25 => ?_)
      · refine lv_iconst (v := 0) hx hb dX5_seesNow_32 (by decide) ?_
        exact W.zret (v := 0) hx hb hr rfl (fun T9 ht _ => ⟨_, rfl, by first | (rw [c_16]; rfl) | (rw [apartM_comm hcx hcy, c_25]; rfl) | exact far_0 c_7, ht⟩) hnil dX5_seesNow_33
      · refine lv_iconst (v := 1) hx hb dX5_seesNow_28 (by decide) ?_
        refine lv_goto (tgt := 33) hx hb dX5_seesNow_29 (by decide) ?_
        exact W.zret (v := 1) hx hb hr rfl (fun T9 ht _ => ⟨_, rfl, by first | (rw [c_16]; rfl) | (rw [apartM_comm hcx hcy, c_25]; rfl) | exact far_0 c_7, ht⟩) hnil dX5_seesNow_33

set_option maxHeartbeats 4000000 in
set_option maxRecDepth 100000 in
theorem c_X5_manyNow_0 (l : Launch) (D : va_G) (cI : ClassId) (h g0 v0 : Nat) (th : Int32) (g : Nat → Int32) (gm : Int32) (x : Int32) (hg0 : g (680 : Int32).toNatClampNeg = 0) (hgz : ∀ j, 160 ≤ j → j < 683 → g j = 0) (hgm : gm = 0) (hx8 : withinB x 0 8 = true) : Met l yX5_manyNow wsX5_manyNow ({ frames := 1, cells := 0, slots := 0, locals := 23 } : Room) (va_Pc [.ref h, .int x] (preR D cI (qW cI h g0 v0 th g gm))) (vp_Si (fun r => r = manyM x.toNatClampNeg)) 0 0 (fun _ => False) := by
  refine Met.ofW (cc := cX5_manyNow) (maxL := 4) (ret := (some .int)) (by decide) rfl ?_
  intro p e s m args below meth c s₁ B hml hv
  obtain ⟨rfl, hP, hK, hE⟩ := hv
  have hx := B.exec
  have hb := B.bytes
  have hr := B.returns
  have hts := atoms_spec (ws := wsX5_manyNow) B.pre
  have hown : s.vm.findClass RX5 = some m.cls := findClass_of_methodNamed B.named
  have hlocks := B.notSynchronized
  have hl := lv_entry ([.ref h, .int x]) (n := 4) (Nat.le_of_ble_eq_true rfl)
  rw [lg_entry_eq]
  generalize (lg_sl ([.ref h, .int x]) ++ List.replicate (4 - (lg_sl ([.ref h, .int x])).length) Slot.unset).toArray = ls at hl ⊢
  have hl : lv_has ls 4 [(0, .ref h), (1, .int x)] := hl
  obtain ⟨j, hj, ej⟩ := within_0 (n := 8) (by decide) hx8
  rw [ej] at hl
  refine lv_iconst (v := 0) hx hb dX5_manyNow_0 (by decide) ?_
  refine lv_istore_n (lv' := [(2, .int 0), (0, .ref h), (1, .int (nI j))]) hx hb dX5_manyNow_1 rfl hl (by decide) rfl (fun ls hl => ?_)
  refine lv_iload_n hx hb dX5_manyNow_2 rfl (lv_at hl 2 rfl) ?_
  rcases (show j = 0 ∨ j = 1 ∨ j = 2 ∨ j = 3 ∨ j = 4 ∨ j = 5 ∨ j = 6 ∨ j = 7 ∨ j = 8 by omega) with rfl | rfl | rfl | rfl | rfl | rfl | rfl | rfl | rfl
  · refine lv_tableIn (off := 49) (tgt := 52) hx hb dX5_manyNow_3 (by decide) (by decide) (by decide) (by decide) ?_
    refine lv_aload_n hx hb dX5_manyNow_52 rfl (lv_at hl 1 rfl) ?_
    refine va_get (D := D) (ci := 5) (v := .ref g0) (C := RX5) (T := TX5) (N := 4) hx hb hts (by decide +kernel) hown hK hP 0 rfl rfl 1 (by decide) (hts (.fieldLink RX5 9 "WarrenModel" "g" "[I") (by decide +kernel)) (fun _ h9 => h9) rfl dX5_manyNow_53 ?_
    refine lv_sipush (v := 680) hx hb dX5_manyNow_56 (by decide) ?_
    refine va_iald hx hb hK hP 1 0 rfl rfl (vp_in_nI (n := 680) (by decide) (by decide)) dX5_manyNow_59 ?_
    rw [hg0]
    exact W.iret (v := 0) hx hb hr (fun T9 ht _ => ⟨_, rfl, by rw [ej]; first | rfl | (rw [hgm]; rfl), ht⟩) hnil dX5_manyNow_60
  · refine lv_tableIn (off := 58) (tgt := 61) hx hb dX5_manyNow_3 (by decide) (by decide) (by decide) (by decide) ?_
    refine lv_aload_n hx hb dX5_manyNow_61 rfl (lv_at hl 1 rfl) ?_
    refine lv_iload_n hx hb dX5_manyNow_62 rfl (lv_at hl 2 rfl) ?_
    refine lv_iconst (v := 1) hx hb dX5_manyNow_63 (by decide) ?_
    refine lv_isub hx hb dX5_manyNow_64 ?_
    refine vp_callSi (va_Run.run (va_runV (As := [.int ((nI 1) - 1)]) (rest := []) ⟨hx, hb, hml, hown, hts⟩ (c_X5_alive_0 l D cI h g0 v0 th g gm ((nI 1) - 1) hg0) (cwV 1 hts gX5_manyNow_X5_alive rfl rfl rfl (by decide +kernel) ⟨Nat.le_of_ble_eq_true rfl, Nat.le_of_ble_eq_true rfl⟩) ⟨preR_blind, va_recv hK hP (ci := 5) (q0 := 0) rfl rfl, preR_of hP hK hE [.ref h, .int ((nI 1) - 1)]⟩ rfl rfl hl.1 rfl (lv_room (Nat.le_of_ble_eq_true rfl)) dX5_manyNow_65 ⟨Nat.zero_le _, Nat.zero_le _⟩)) (fun r hr9 => ?_)
    subst hr9
    exact W.iret (v := 0) hx hb hr (fun T9 ht _ => ⟨_, rfl, by rw [ej]; first | rfl | (rw [hgm]; rfl), ht⟩) hnil dX5_manyNow_68
  · refine lv_tableIn (off := 58) (tgt := 61) hx hb dX5_manyNow_3 (by decide) (by decide) (by decide) (by decide) ?_
    refine lv_aload_n hx hb dX5_manyNow_61 rfl (lv_at hl 1 rfl) ?_
    refine lv_iload_n hx hb dX5_manyNow_62 rfl (lv_at hl 2 rfl) ?_
    refine lv_iconst (v := 1) hx hb dX5_manyNow_63 (by decide) ?_
    refine lv_isub hx hb dX5_manyNow_64 ?_
    refine vp_callSi (va_Run.run (va_runV (As := [.int ((nI 2) - 1)]) (rest := []) ⟨hx, hb, hml, hown, hts⟩ (c_X5_alive_0 l D cI h g0 v0 th g gm ((nI 2) - 1) hg0) (cwV 1 hts gX5_manyNow_X5_alive rfl rfl rfl (by decide +kernel) ⟨Nat.le_of_ble_eq_true rfl, Nat.le_of_ble_eq_true rfl⟩) ⟨preR_blind, va_recv hK hP (ci := 5) (q0 := 0) rfl rfl, preR_of hP hK hE [.ref h, .int ((nI 2) - 1)]⟩ rfl rfl hl.1 rfl (lv_room (Nat.le_of_ble_eq_true rfl)) dX5_manyNow_65 ⟨Nat.zero_le _, Nat.zero_le _⟩)) (fun r hr9 => ?_)
    subst hr9
    exact W.iret (v := 0) hx hb hr (fun T9 ht _ => ⟨_, rfl, by rw [ej]; first | rfl | (rw [hgm]; rfl), ht⟩) hnil dX5_manyNow_68
  · refine lv_tableIn (off := 66) (tgt := 69) hx hb dX5_manyNow_3 (by decide) (by decide) (by decide) (by decide) ?_
    refine lv_aload_n hx hb dX5_manyNow_69 rfl (lv_at hl 1 rfl) ?_
    refine vp_callSi (va_Run.run (va_runV (As := []) (rest := []) ⟨hx, hb, hml, hown, hts⟩ (c_X5_turn_0 l D cI h g0 v0 th g gm  hg0) (cwV 0 hts gX5_manyNow_X5_turn rfl rfl rfl (by decide +kernel) ⟨Nat.le_of_ble_eq_true rfl, Nat.le_of_ble_eq_true rfl⟩) ⟨preR_blind, va_recv hK hP (ci := 5) (q0 := 0) rfl rfl, preR_of hP hK hE [.ref h]⟩ rfl rfl hl.1 rfl (lv_room (Nat.le_of_ble_eq_true rfl)) dX5_manyNow_70 ⟨Nat.zero_le _, Nat.zero_le _⟩)) (fun r hr9 => ?_)
    subst hr9
    exact W.iret (v := (-1)) hx hb hr (fun T9 ht _ => ⟨_, rfl, by rw [ej]; first | rfl | (rw [hgm]; rfl), ht⟩) hnil dX5_manyNow_73
  · refine lv_tableIn (off := 71) (tgt := 74) hx hb dX5_manyNow_3 (by decide) (by decide) (by decide) (by decide) ?_
    refine lv_aload_n hx hb dX5_manyNow_74 rfl (lv_at hl 1 rfl) ?_
    refine va_get (D := D) (ci := 5) (v := .ref g0) (C := RX5) (T := TX5) (N := 4) hx hb hts (by decide +kernel) hown hK hP 0 rfl rfl 1 (by decide) (hts (.fieldLink RX5 9 "WarrenModel" "g" "[I") (by decide +kernel)) (fun _ h9 => h9) rfl dX5_manyNow_75 ?_
    refine lv_sipush (v := 681) hx hb dX5_manyNow_78 (by decide) ?_
    refine va_iald hx hb hK hP 1 0 rfl rfl (vp_in_nI (n := 681) (by decide) (by decide)) dX5_manyNow_81 ?_
    rw [show (g (681 : Int32).toNatClampNeg) = 0 from hgz _ (by decide) (by decide)]
    exact W.iret (v := 0) hx hb hr (fun T9 ht _ => ⟨_, rfl, by rw [ej]; first | rfl | (rw [hgm]; rfl), ht⟩) hnil dX5_manyNow_82
  · refine lv_tableIn (off := 80) (tgt := 83) hx hb dX5_manyNow_3 (by decide) (by decide) (by decide) (by decide) ?_
    refine lv_aload_n hx hb dX5_manyNow_83 rfl (lv_at hl 1 rfl) ?_
    refine va_get (D := D) (ci := 5) (v := .ref g0) (C := RX5) (T := TX5) (N := 4) hx hb hts (by decide +kernel) hown hK hP 0 rfl rfl 1 (by decide) (hts (.fieldLink RX5 9 "WarrenModel" "g" "[I") (by decide +kernel)) (fun _ h9 => h9) rfl dX5_manyNow_84 ?_
    refine lv_sipush (v := 682) hx hb dX5_manyNow_87 (by decide) ?_
    refine va_iald hx hb hK hP 1 0 rfl rfl (vp_in_nI (n := 682) (by decide) (by decide)) dX5_manyNow_90 ?_
    rw [show (g (682 : Int32).toNatClampNeg) = 0 from hgz _ (by decide) (by decide)]
    exact W.iret (v := 0) hx hb hr (fun T9 ht _ => ⟨_, rfl, by rw [ej]; first | rfl | (rw [hgm]; rfl), ht⟩) hnil dX5_manyNow_91
  · refine lv_tableIn (off := 94) (tgt := 97) hx hb dX5_manyNow_3 (by decide) (by decide) (by decide) (by decide) ?_
    refine lv_iconst (v := 0) hx hb dX5_manyNow_97 (by decide) ?_
    refine lv_istore_n (lv' := [(3, .int 0), (2, .int 0), (0, .ref h), (1, .int (nI 6))]) hx hb dX5_manyNow_98 rfl hl (by decide) rfl (fun ls hl => ?_)
    have L99 : ∀ (n k : Nat) (hk : k + n = 160) (ls : Array Slot), lv_has ls 4 [(3, .int (nI k)), (2, .int 0), (0, .ref h), (1, .int (nI 6))] → W p l e ({ frames := 1, cells := 0, slots := 0, locals := 23 } : Room) s m ([.ref h, .int x] : List Value).toArray below meth c s.heap [] 0 0 (MQ below (vp_Si (fun r => r = manyM x.toNatClampNeg)) ([.ref h, .int x] : List Value).toArray s 0 0 (fun _ => False)) (F0 m 99 ls []) := by
      intro n
      induction n with
      | zero =>
        intro k hk ls hl
        refine lv_iload_n hx hb dX5_manyNow_99 rfl (lv_at hl 0 rfl) ?_
        refine lv_sipush (v := 160) hx hb dX5_manyNow_100 (by decide) ?_
        refine lv_icmp_ge (tgt := 134) hx hb dX5_manyNow_103 (by decide) (fun c_103 => ?_) (fun c_103 => absurd (nI_le (b := k) (a := 160) (by omega) (by omega)) c_103)
        refine lv_iload_n hx hb dX5_manyNow_134 rfl (lv_at hl 1 rfl) ?_
        exact W.iret (v := 0) hx hb hr (fun T9 ht _ => ⟨_, rfl, by rw [ej]; first | rfl | (rw [hgm]; rfl), ht⟩) hnil dX5_manyNow_135
      | succ n ih99 =>
        intro k hk ls hl
        refine lv_iload_n hx hb dX5_manyNow_99 rfl (lv_at hl 0 rfl) ?_
        refine lv_sipush (v := 160) hx hb dX5_manyNow_100 (by decide) ?_
        refine lv_icmp_ge (tgt := 134) hx hb dX5_manyNow_103 (by decide) (fun c_103 => absurd c_103 (nI_ge (b := 160) (by omega) (by omega))) (fun c_103 => ?_)
        refine lv_iload_n hx hb dX5_manyNow_106 rfl (lv_at hl 1 rfl) ?_
        refine lv_aload_n hx hb dX5_manyNow_107 rfl (lv_at hl 2 rfl) ?_
        refine va_get (D := D) (ci := 5) (v := .ref g0) (C := RX5) (T := TX5) (N := 4) hx hb hts (by decide +kernel) hown hK hP 0 rfl rfl 1 (by decide) (hts (.fieldLink RX5 9 "WarrenModel" "g" "[I") (by decide +kernel)) (fun _ h9 => h9) rfl dX5_manyNow_108 ?_
        refine lv_sipush (v := 160) hx hb dX5_manyNow_111 (by decide) ?_
        refine lv_iload_n hx hb dX5_manyNow_114 rfl (lv_at hl 3 rfl) ?_
        refine lv_bipush (v := 6) hx hb dX5_manyNow_115 (by decide) ?_
        refine lv_isub hx hb dX5_manyNow_117 ?_
        refine lv_sipush (v := 160) hx hb dX5_manyNow_118 (by decide) ?_
        refine lv_imul hx hb dX5_manyNow_121 ?_
        refine lv_iadd hx hb dX5_manyNow_122 ?_
        refine lv_iload_n hx hb dX5_manyNow_123 rfl (lv_at hl 0 rfl) ?_
        refine lv_iadd hx hb dX5_manyNow_124 ?_
        refine va_iald hx hb hK hP 1 0 rfl rfl (know_vin (many_w (x := nI 6 - 6) (a := 0) (b := k) (by decide) (by omega) (by omega)).1 (many_w (x := nI 6 - 6) (a := 0) (b := k) (by decide) (by omega) (by omega)).2) dX5_manyNow_125 ?_
        rw [show (g ((160 + (((nI 6) - 6) * 160)) + (nI k)).toNatClampNeg) = 0 from know_0 hgz (many_w (x := nI 6 - 6) (a := 0) (b := k) (by decide) (by omega) (by omega)).1 (many_w (x := nI 6 - 6) (a := 0) (b := k) (by decide) (by omega) (by omega)).2]
        refine lv_iadd hx hb dX5_manyNow_126 ?_
        rw [show ((0 + 0) : Int32) = 0 from rfl]
        refine lv_istore_n (lv' := [(2, .int 0), (3, .int (nI k)), (0, .ref h), (1, .int (nI 6))]) hx hb dX5_manyNow_127 rfl hl (by decide) rfl (fun ls hl => ?_)
        refine lv_iinc (v := (nI (k + 1))) (lv' := [(3, .int (nI (k + 1))), (2, .int 0), (0, .ref h), (1, .int (nI 6))]) hx hb dX5_manyNow_128 hl (k := 1) rfl (nI_1 k) (by decide) rfl (fun ls hl => ?_)
        refine lv_goto (tgt := 99) hx hb dX5_manyNow_131 (by decide) ?_
        exact ih99 (k + 1) (by omega) ls (lv_sub hl [0, 1, 2, 3] rfl)
    exact L99 160 0 (by omega) ls (lv_sub hl [0, 1, 2, 3] rfl)
  · refine lv_tableIn (off := 94) (tgt := 97) hx hb dX5_manyNow_3 (by decide) (by decide) (by decide) (by decide) ?_
    refine lv_iconst (v := 0) hx hb dX5_manyNow_97 (by decide) ?_
    refine lv_istore_n (lv' := [(3, .int 0), (2, .int 0), (0, .ref h), (1, .int (nI 7))]) hx hb dX5_manyNow_98 rfl hl (by decide) rfl (fun ls hl => ?_)
    have L99 : ∀ (n k : Nat) (hk : k + n = 160) (ls : Array Slot), lv_has ls 4 [(3, .int (nI k)), (2, .int 0), (0, .ref h), (1, .int (nI 7))] → W p l e ({ frames := 1, cells := 0, slots := 0, locals := 23 } : Room) s m ([.ref h, .int x] : List Value).toArray below meth c s.heap [] 0 0 (MQ below (vp_Si (fun r => r = manyM x.toNatClampNeg)) ([.ref h, .int x] : List Value).toArray s 0 0 (fun _ => False)) (F0 m 99 ls []) := by
      intro n
      induction n with
      | zero =>
        intro k hk ls hl
        refine lv_iload_n hx hb dX5_manyNow_99 rfl (lv_at hl 0 rfl) ?_
        refine lv_sipush (v := 160) hx hb dX5_manyNow_100 (by decide) ?_
        refine lv_icmp_ge (tgt := 134) hx hb dX5_manyNow_103 (by decide) (fun c_103 => ?_) (fun c_103 => absurd (nI_le (b := k) (a := 160) (by omega) (by omega)) c_103)
        refine lv_iload_n hx hb dX5_manyNow_134 rfl (lv_at hl 1 rfl) ?_
        exact W.iret (v := 0) hx hb hr (fun T9 ht _ => ⟨_, rfl, by rw [ej]; first | rfl | (rw [hgm]; rfl), ht⟩) hnil dX5_manyNow_135
      | succ n ih99 =>
        intro k hk ls hl
        refine lv_iload_n hx hb dX5_manyNow_99 rfl (lv_at hl 0 rfl) ?_
        refine lv_sipush (v := 160) hx hb dX5_manyNow_100 (by decide) ?_
        refine lv_icmp_ge (tgt := 134) hx hb dX5_manyNow_103 (by decide) (fun c_103 => absurd c_103 (nI_ge (b := 160) (by omega) (by omega))) (fun c_103 => ?_)
        refine lv_iload_n hx hb dX5_manyNow_106 rfl (lv_at hl 1 rfl) ?_
        refine lv_aload_n hx hb dX5_manyNow_107 rfl (lv_at hl 2 rfl) ?_
        refine va_get (D := D) (ci := 5) (v := .ref g0) (C := RX5) (T := TX5) (N := 4) hx hb hts (by decide +kernel) hown hK hP 0 rfl rfl 1 (by decide) (hts (.fieldLink RX5 9 "WarrenModel" "g" "[I") (by decide +kernel)) (fun _ h9 => h9) rfl dX5_manyNow_108 ?_
        refine lv_sipush (v := 160) hx hb dX5_manyNow_111 (by decide) ?_
        refine lv_iload_n hx hb dX5_manyNow_114 rfl (lv_at hl 3 rfl) ?_
        refine lv_bipush (v := 6) hx hb dX5_manyNow_115 (by decide) ?_
        refine lv_isub hx hb dX5_manyNow_117 ?_
        refine lv_sipush (v := 160) hx hb dX5_manyNow_118 (by decide) ?_
        refine lv_imul hx hb dX5_manyNow_121 ?_
        refine lv_iadd hx hb dX5_manyNow_122 ?_
        refine lv_iload_n hx hb dX5_manyNow_123 rfl (lv_at hl 0 rfl) ?_
        refine lv_iadd hx hb dX5_manyNow_124 ?_
        refine va_iald hx hb hK hP 1 0 rfl rfl (know_vin (many_w (x := nI 7 - 6) (a := 1) (b := k) (by decide) (by omega) (by omega)).1 (many_w (x := nI 7 - 6) (a := 1) (b := k) (by decide) (by omega) (by omega)).2) dX5_manyNow_125 ?_
        rw [show (g ((160 + (((nI 7) - 6) * 160)) + (nI k)).toNatClampNeg) = 0 from know_0 hgz (many_w (x := nI 7 - 6) (a := 1) (b := k) (by decide) (by omega) (by omega)).1 (many_w (x := nI 7 - 6) (a := 1) (b := k) (by decide) (by omega) (by omega)).2]
        refine lv_iadd hx hb dX5_manyNow_126 ?_
        rw [show ((0 + 0) : Int32) = 0 from rfl]
        refine lv_istore_n (lv' := [(2, .int 0), (3, .int (nI k)), (0, .ref h), (1, .int (nI 7))]) hx hb dX5_manyNow_127 rfl hl (by decide) rfl (fun ls hl => ?_)
        refine lv_iinc (v := (nI (k + 1))) (lv' := [(3, .int (nI (k + 1))), (2, .int 0), (0, .ref h), (1, .int (nI 7))]) hx hb dX5_manyNow_128 hl (k := 1) rfl (nI_1 k) (by decide) rfl (fun ls hl => ?_)
        refine lv_goto (tgt := 99) hx hb dX5_manyNow_131 (by decide) ?_
        exact ih99 (k + 1) (by omega) ls (lv_sub hl [0, 1, 2, 3] rfl)
    exact L99 160 0 (by omega) ls (lv_sub hl [0, 1, 2, 3] rfl)
  · refine lv_tableIn (off := 89) (tgt := 92) hx hb dX5_manyNow_3 (by decide) (by decide) (by decide) (by decide) ?_
    refine lv_aload_n hx hb dX5_manyNow_92 rfl (lv_at hl 1 rfl) ?_
    refine va_get (D := D) (ci := 5) (v := .int gm) (C := RX5) (T := TX5) (N := 4) hx hb hts (by decide +kernel) hown hK hP 0 rfl rfl 3 (by decide) (hts (.fieldLink RX5 106 "WarrenModel" "games" "I") (by decide +kernel)) (fun _ h9 => h9) rfl dX5_manyNow_93 ?_
    exact W.iret (v := gm) hx hb hr (fun T9 ht _ => ⟨_, rfl, by rw [ej]; first | rfl | (rw [hgm]; rfl), ht⟩) hnil dX5_manyNow_96

set_option maxHeartbeats 4000000 in
set_option maxRecDepth 100000 in
theorem c_X5_cell_0 (l : Launch) (D : va_G) (cI : ClassId) (sz : Nat) (h g0 v0 : Nat) (th : Int32) (g : Nat → Int32) (gm : Int32) (x : Int32) : Met l yX5_cell wsX5_cell ({ frames := 2, cells := 0, slots := 0, locals := 42 } : Room) (va_Pc [.ref h, .int x] (preM D cI (qW cI h g0 v0 th g gm) sz)) (va_Qi (fun (r : Int32) (u : (Int32 × (Nat → Int32) × Int32)) => u.1 = nI (cellT x) ∧ (cellT x = 0 → r = g x.toNatClampNeg)) (fun (u : (Int32 × (Nat → Int32) × Int32)) => posM D cI (va_A (qW cI h g0 v0 th g gm) sz) (qW cI h g0 v0 u.1 u.2.1 u.2.2)) (va_A (qW cI h g0 v0 th g gm) sz)) 0 0 (va_A (qW cI h g0 v0 th g gm) sz) := by
  refine Met.ofW (cc := cX5_cell) (maxL := 2) (ret := (some .int)) (by decide) rfl ?_
  intro p e s m args below meth c s₁ B hml hv
  obtain ⟨rfl, hsz, hP, hK, hE, hD0⟩ := hv
  have hx := B.exec
  have hb := B.bytes
  have hr := B.returns
  have hts := atoms_spec (ws := wsX5_cell) B.pre
  have hown : s.vm.findClass RX5 = some m.cls := findClass_of_methodNamed B.named
  have hlocks := B.notSynchronized
  subst hsz
  have hD := hD0.self (sz := s.heap.size)
  generalize hAe : va_A (qW cI h g0 v0 th g gm) s.heap.size = A at hD ⊢
  have hA : ∀ q : Nat, s.heap.size ≤ q → A q := fun q h => by rw [← hAe]; exact Or.inr h
  have hS : va_S A s.heap s.heap [] := va_S.rf
  have hP : va_P D vwCl (qW cI h g0 v0 th g gm) s.heap := hP
  have hl := lv_entry ([.ref h, .int x]) (n := 2) (Nat.le_of_ble_eq_true rfl)
  rw [lg_entry_eq]
  generalize (lg_sl ([.ref h, .int x]) ++ List.replicate (2 - (lg_sl ([.ref h, .int x])).length) Slot.unset).toArray = ls at hl ⊢
  have hl : lv_has ls 2 [(0, .ref h), (1, .int x)] := hl
  refine lv_aload_n hx hb dX5_cell_0 rfl (lv_at hl 0 rfl) ?_
  refine lv_iconst (v := 0) hx hb dX5_cell_1 (by decide) ?_
  refine va_put (D := D) (ci := 5) (v := .int 0) (ty := .int) (C := RX5) (T := TX5) (N := 4) hx hb hts (by decide +kernel) tyX5 tyX5_ok nmX5 hown hK hP hD hS 0 rfl rfl 0 (by decide) (hts (.fieldLink RX5 18 "WarrenModel" "thrown" "I") (by decide +kernel)) (fun _ h9 => h9) rfl (by decide +kernel) rfl rfl (Nat.le_of_ble_eq_true rfl) dX5_cell_2 (fun H locs hP hD hS => ?_)
  have hP : va_P D vwCl (qW cI h g0 v0 0 g gm) H := hP
  have hD : va_D A (qW cI h g0 v0 0 g gm) := hD
  refine lv_iload_n hx hb dX5_cell_5 rfl (lv_at hl 1 rfl) ?_
  refine vp_callSi (va_Run.run (va_runS (As := [.int x]) (rest := []) ⟨hx, hb, hml, hown, hts⟩ (c_X5_isCell l x) (va_cwS 1 hts gX5_cell_X5_isCell rfl rfl rfl (by decide +kernel) ⟨Nat.le_of_ble_eq_true rfl, Nat.le_of_ble_eq_true rfl⟩) ⟨fun _ _ _ _ q => q, fun _ _ _ => ⟨rfl, trivial⟩⟩ rfl rfl hl.1 rfl (lv_room (Nat.le_of_ble_eq_true rfl)) dX5_cell_6 ⟨Nat.zero_le _, Nat.zero_le _⟩)) (fun r hr9 => ?_)
  subst hr9
  refine w_bz (tgt := 21) hx hb dX5_cell_9 (by decide) (fun c_9 => ?_) (fun c_9 => ?_)
  · refine lv_aload_n hx hb dX5_cell_21 rfl (lv_at hl 0 rfl) ?_
    refine lv_iconst (v := 1) hx hb dX5_cell_22 (by decide) ?_
    have hFc := va_free (wc := qW cI h g0 v0 0 g gm) hD hS hA [0, 1] rfl
    refine va_calli (va_runV (As := [.int 1]) (rest := []) ⟨hx, hb, hml, hown, hts⟩ (c_X5_no l D cI _ h g0 v0 0 g gm 1 ) (cwV 1 hts gX5_cell_X5_no rfl rfl rfl (by decide +kernel) ⟨Nat.le_of_ble_eq_true rfl, Nat.le_of_ble_eq_true rfl⟩) ⟨preM_blind, va_recv hK hP (ci := 5) (q0 := 0) rfl rfl, preM_of hP hK hE hD [.ref h, .int 1]⟩ rfl rfl hl.1 rfl (lv_room (Nat.le_of_ble_eq_true rfl)) dX5_cell_23 ⟨Nat.le_of_ble_eq_true rfl, Nat.le_of_ble_eq_true rfl⟩) hS (fun q _ h => hFc q h) hFc (fun r u t9 H1 locs ht hvm hw hB hz1 hk1 hS => ?_)
    obtain ⟨hP1, hK1, hD1⟩ := hB
    rw [ht] at hP1
    obtain ⟨rfl, rfl⟩ := hw
    obtain ⟨hP, hD⟩ := va_join (wr := []) (w1 := qW cI h g0 v0 1 g gm) hP hD [0, 1] [] rfl rfl (by decide) (by decide) hk1 hFc hP1 hD1
    generalize H1 = H at hP hS ⊢
    have hP : va_P D vwCl (qW cI h g0 v0 1 g gm) H := hP
    have hD : va_D A (qW cI h g0 v0 1 g gm) := hD
    have hP9 := hP
    have hD9 := hD
    exact W.iret (v := 0) hx hb hr (fun T9 ht hW => ⟨⟨0, (1, g, gm), rfl, ⟨by first | rfl | (rw [(show cellT x = 1 from by first | rfl | (simp only [cellT, c_9, Bool.false_eq_true, if_false, if_true]; done) | (simp [cellT, c_9]; done))]; rfl), fun hz => absurd hz (by first | decide | (rw [(show cellT x = 1 from by first | rfl | (simp only [cellT, c_9, Bool.false_eq_true, if_false, if_true]; done) | (simp [cellT, c_9]; done))]; decide))⟩, by rw [ht]; exact hP9, va_K.moved hW.alike hK, hD9⟩, hS.F ht⟩) hS.2.2 dX5_cell_26
  · refine lv_aload_n hx hb dX5_cell_12 rfl (lv_at hl 0 rfl) ?_
    refine va_get (D := D) (ci := 5) (v := .ref g0) (C := RX5) (T := TX5) (N := 4) hx hb hts (by decide +kernel) hown hK hP 0 rfl rfl 1 (by decide) (hts (.fieldLink RX5 9 "WarrenModel" "g" "[I") (by decide +kernel)) (fun _ h9 => h9) rfl dX5_cell_13 ?_
    refine lv_iload_n hx hb dX5_cell_16 rfl (lv_at hl 1 rfl) ?_
    refine va_iald hx hb hK hP 1 0 rfl rfl (vinL (by decide) (by decide) c_9) dX5_cell_17 ?_
    refine lv_goto (tgt := 26) hx hb dX5_cell_18 (by decide) ?_
    have hP9 := hP
    have hD9 := hD
    exact W.iret (v := (g x.toNatClampNeg)) hx hb hr (fun T9 ht hW => ⟨⟨(g x.toNatClampNeg), (0, g, gm), rfl, ⟨by first | rfl | (rw [(show cellT x = 0 from by first | rfl | (simp only [cellT, c_9, Bool.false_eq_true, if_false, if_true]; done) | (simp [cellT, c_9]; done))]; rfl), fun _ => rfl⟩, by rw [ht]; exact hP9, va_K.moved hW.alike hK, hD9⟩, hS.F ht⟩) hS.2.2 dX5_cell_26

set_option maxHeartbeats 4000000 in
set_option maxRecDepth 100000 in
theorem c_X5_on_0 (l : Launch) (D : va_G) (cI : ClassId) (sz : Nat) (h g0 v0 : Nat) (th : Int32) (g : Nat → Int32) (gm : Int32) (x : Int32) (hg0 : g (680 : Int32).toNatClampNeg = 0) : Met l yX5_on wsX5_on ({ frames := 2, cells := 0, slots := 0, locals := 42 } : Room) (va_Pc [.ref h, .int x] (preM D cI (qW cI h g0 v0 th g gm) sz)) (va_Qi (fun (r : Int32) (u : (Int32 × (Nat → Int32) × Int32)) => u.1 = nI (cellT x) ∧ (cellT x = 0 → r = -1)) (fun (u : (Int32 × (Nat → Int32) × Int32)) => posM D cI (va_A (qW cI h g0 v0 th g gm) sz) (qW cI h g0 v0 u.1 u.2.1 u.2.2)) (va_A (qW cI h g0 v0 th g gm) sz)) 0 0 (va_A (qW cI h g0 v0 th g gm) sz) := by
  refine Met.ofW (cc := cX5_on) (maxL := 2) (ret := (some .int)) (by decide) rfl ?_
  intro p e s m args below meth c s₁ B hml hv
  obtain ⟨rfl, hsz, hP, hK, hE, hD0⟩ := hv
  have hx := B.exec
  have hb := B.bytes
  have hr := B.returns
  have hts := atoms_spec (ws := wsX5_on) B.pre
  have hown : s.vm.findClass RX5 = some m.cls := findClass_of_methodNamed B.named
  have hlocks := B.notSynchronized
  subst hsz
  have hD := hD0.self (sz := s.heap.size)
  generalize hAe : va_A (qW cI h g0 v0 th g gm) s.heap.size = A at hD ⊢
  have hA : ∀ q : Nat, s.heap.size ≤ q → A q := fun q h => by rw [← hAe]; exact Or.inr h
  have hS : va_S A s.heap s.heap [] := va_S.rf
  have hP : va_P D vwCl (qW cI h g0 v0 th g gm) s.heap := hP
  have hl := lv_entry ([.ref h, .int x]) (n := 2) (Nat.le_of_ble_eq_true rfl)
  rw [lg_entry_eq]
  generalize (lg_sl ([.ref h, .int x]) ++ List.replicate (2 - (lg_sl ([.ref h, .int x])).length) Slot.unset).toArray = ls at hl ⊢
  have hl : lv_has ls 2 [(0, .ref h), (1, .int x)] := hl
  refine lv_aload_n hx hb dX5_on_0 rfl (lv_at hl 0 rfl) ?_
  refine lv_iconst (v := 0) hx hb dX5_on_1 (by decide) ?_
  refine va_put (D := D) (ci := 5) (v := .int 0) (ty := .int) (C := RX5) (T := TX5) (N := 4) hx hb hts (by decide +kernel) tyX5 tyX5_ok nmX5 hown hK hP hD hS 0 rfl rfl 0 (by decide) (hts (.fieldLink RX5 18 "WarrenModel" "thrown" "I") (by decide +kernel)) (fun _ h9 => h9) rfl (by decide +kernel) rfl rfl (Nat.le_of_ble_eq_true rfl) dX5_on_2 (fun H locs hP hD hS => ?_)
  have hP : va_P D vwCl (qW cI h g0 v0 0 g gm) H := hP
  have hD : va_D A (qW cI h g0 v0 0 g gm) := hD
  refine lv_iload_n hx hb dX5_on_5 rfl (lv_at hl 1 rfl) ?_
  refine vp_callSi (va_Run.run (va_runS (As := [.int x]) (rest := []) ⟨hx, hb, hml, hown, hts⟩ (c_X5_isCell l x) (va_cwS 1 hts gX5_on_X5_isCell rfl rfl rfl (by decide +kernel) ⟨Nat.le_of_ble_eq_true rfl, Nat.le_of_ble_eq_true rfl⟩) ⟨fun _ _ _ _ q => q, fun _ _ _ => ⟨rfl, trivial⟩⟩ rfl rfl hl.1 rfl (lv_room (Nat.le_of_ble_eq_true rfl)) dX5_on_6 ⟨Nat.zero_le _, Nat.zero_le _⟩)) (fun r hr9 => ?_)
  subst hr9
  refine w_bz (tgt := 20) hx hb dX5_on_9 (by decide) (fun c_9 => ?_) (fun c_9 => ?_)
  · refine lv_aload_n hx hb dX5_on_20 rfl (lv_at hl 0 rfl) ?_
    refine lv_iconst (v := 1) hx hb dX5_on_21 (by decide) ?_
    have hFc := va_free (wc := qW cI h g0 v0 0 g gm) hD hS hA [0, 1] rfl
    refine va_calli (va_runV (As := [.int 1]) (rest := []) ⟨hx, hb, hml, hown, hts⟩ (c_X5_no l D cI _ h g0 v0 0 g gm 1 ) (cwV 1 hts gX5_on_X5_no rfl rfl rfl (by decide +kernel) ⟨Nat.le_of_ble_eq_true rfl, Nat.le_of_ble_eq_true rfl⟩) ⟨preM_blind, va_recv hK hP (ci := 5) (q0 := 0) rfl rfl, preM_of hP hK hE hD [.ref h, .int 1]⟩ rfl rfl hl.1 rfl (lv_room (Nat.le_of_ble_eq_true rfl)) dX5_on_22 ⟨Nat.le_of_ble_eq_true rfl, Nat.le_of_ble_eq_true rfl⟩) hS (fun q _ h => hFc q h) hFc (fun r u t9 H1 locs ht hvm hw hB hz1 hk1 hS => ?_)
    obtain ⟨hP1, hK1, hD1⟩ := hB
    rw [ht] at hP1
    obtain ⟨rfl, rfl⟩ := hw
    obtain ⟨hP, hD⟩ := va_join (wr := []) (w1 := qW cI h g0 v0 1 g gm) hP hD [0, 1] [] rfl rfl (by decide) (by decide) hk1 hFc hP1 hD1
    generalize H1 = H at hP hS ⊢
    have hP : va_P D vwCl (qW cI h g0 v0 1 g gm) H := hP
    have hD : va_D A (qW cI h g0 v0 1 g gm) := hD
    have hP9 := hP
    have hD9 := hD
    exact W.iret (v := 0) hx hb hr (fun T9 ht hW => ⟨⟨0, (1, g, gm), rfl, ⟨by first | rfl | (rw [(show cellT x = 1 from by first | rfl | (simp only [cellT, c_9, Bool.false_eq_true, if_false, if_true]; done) | (simp [cellT, c_9]; done))]; rfl), fun hz => absurd hz (by first | decide | (rw [(show cellT x = 1 from by first | rfl | (simp only [cellT, c_9, Bool.false_eq_true, if_false, if_true]; done) | (simp [cellT, c_9]; done))]; decide))⟩, by rw [ht]; exact hP9, va_K.moved hW.alike hK, hD9⟩, hS.F ht⟩) hS.2.2 dX5_on_25
  · refine lv_aload_n hx hb dX5_on_12 rfl (lv_at hl 0 rfl) ?_
    refine lv_iload_n hx hb dX5_on_13 rfl (lv_at hl 1 rfl) ?_
    refine vp_callSi (va_Run.run (va_runV (As := [.int x]) (rest := []) ⟨hx, hb, hml, hown, hts⟩ (c_X5_onNow_0 l D cI h g0 v0 0 g gm x hg0) (cwV 1 hts gX5_on_X5_onNow rfl rfl rfl (by decide +kernel) ⟨Nat.le_of_ble_eq_true rfl, Nat.le_of_ble_eq_true rfl⟩) ⟨preR_blind, va_recv hK hP (ci := 5) (q0 := 0) rfl rfl, preR_of hP hK hE [.ref h, .int x]⟩ rfl rfl hl.1 rfl (lv_room (Nat.le_of_ble_eq_true rfl)) dX5_on_14 ⟨Nat.zero_le _, Nat.zero_le _⟩)) (fun r hr9 => ?_)
    subst hr9
    refine lv_goto (tgt := 25) hx hb dX5_on_17 (by decide) ?_
    have hP9 := hP
    have hD9 := hD
    exact W.iret (v := (-1)) hx hb hr (fun T9 ht hW => ⟨⟨(-1), (0, g, gm), rfl, ⟨by first | rfl | (rw [(show cellT x = 0 from by first | rfl | (simp only [cellT, c_9, Bool.false_eq_true, if_false, if_true]; done) | (simp [cellT, c_9]; done))]; rfl), fun _ => rfl⟩, by rw [ht]; exact hP9, va_K.moved hW.alike hK, hD9⟩, hS.F ht⟩) hS.2.2 dX5_on_25

set_option maxHeartbeats 4000000 in
set_option maxRecDepth 100000 in
theorem c_X5_set_0 (l : Launch) (D : va_G) (cI : ClassId) (sz : Nat) (h g0 v0 : Nat) (th : Int32) (g : Nat → Int32) (gm : Int32) (x y : Int32) (hg0 : g (680 : Int32).toNatClampNeg = 0) : Met l yX5_set wsX5_set ({ frames := 2, cells := 0, slots := 0, locals := 42 } : Room) (va_Pc [.ref h, .int x, .int y] (preM D cI (qW cI h g0 v0 th g gm) sz)) (va_Qi (fun (r : Int32) (u : (Int32 × (Nat → Int32) × Int32)) => u.1 = nI (setTf x y) ∧ (setTf x y = 0 → r = g x.toNatClampNeg)) (fun (u : (Int32 × (Nat → Int32) × Int32)) => posM D cI (va_A (qW cI h g0 v0 th g gm) sz) (qW cI h g0 v0 u.1 u.2.1 u.2.2)) (va_A (qW cI h g0 v0 th g gm) sz)) 0 0 (va_A (qW cI h g0 v0 th g gm) sz) := by
  refine Met.ofW (cc := cX5_set) (maxL := 4) (ret := (some .int)) (by decide) rfl ?_
  intro p e s m args below meth c s₁ B hml hv
  obtain ⟨rfl, hsz, hP, hK, hE, hD0⟩ := hv
  have hx := B.exec
  have hb := B.bytes
  have hr := B.returns
  have hts := atoms_spec (ws := wsX5_set) B.pre
  have hown : s.vm.findClass RX5 = some m.cls := findClass_of_methodNamed B.named
  have hlocks := B.notSynchronized
  subst hsz
  have hD := hD0.self (sz := s.heap.size)
  generalize hAe : va_A (qW cI h g0 v0 th g gm) s.heap.size = A at hD ⊢
  have hA : ∀ q : Nat, s.heap.size ≤ q → A q := fun q h => by rw [← hAe]; exact Or.inr h
  have hS : va_S A s.heap s.heap [] := va_S.rf
  have hP : va_P D vwCl (qW cI h g0 v0 th g gm) s.heap := hP
  have hl := lv_entry ([.ref h, .int x, .int y]) (n := 4) (Nat.le_of_ble_eq_true rfl)
  rw [lg_entry_eq]
  generalize (lg_sl ([.ref h, .int x, .int y]) ++ List.replicate (4 - (lg_sl ([.ref h, .int x, .int y])).length) Slot.unset).toArray = ls at hl ⊢
  have hl : lv_has ls 4 [(0, .ref h), (1, .int x), (2, .int y)] := hl
  refine lv_aload_n hx hb dX5_set_0 rfl (lv_at hl 0 rfl) ?_
  refine lv_iconst (v := 0) hx hb dX5_set_1 (by decide) ?_
  refine va_put (D := D) (ci := 5) (v := .int 0) (ty := .int) (C := RX5) (T := TX5) (N := 4) hx hb hts (by decide +kernel) tyX5 tyX5_ok nmX5 hown hK hP hD hS 0 rfl rfl 0 (by decide) (hts (.fieldLink RX5 18 "WarrenModel" "thrown" "I") (by decide +kernel)) (fun _ h9 => h9) rfl (by decide +kernel) rfl rfl (Nat.le_of_ble_eq_true rfl) dX5_set_2 (fun H locs hP hD hS => ?_)
  have hP : va_P D vwCl (qW cI h g0 v0 0 g gm) H := hP
  have hD : va_D A (qW cI h g0 v0 0 g gm) := hD
  refine lv_iload_n hx hb dX5_set_5 rfl (lv_at hl 1 rfl) ?_
  refine vp_callSi (va_Run.run (va_runS (As := [.int x]) (rest := []) ⟨hx, hb, hml, hown, hts⟩ (c_X5_isCell l x) (va_cwS 1 hts gX5_set_X5_isCell rfl rfl rfl (by decide +kernel) ⟨Nat.le_of_ble_eq_true rfl, Nat.le_of_ble_eq_true rfl⟩) ⟨fun _ _ _ _ q => q, fun _ _ _ => ⟨rfl, trivial⟩⟩ rfl rfl hl.1 rfl (lv_room (Nat.le_of_ble_eq_true rfl)) dX5_set_6 ⟨Nat.zero_le _, Nat.zero_le _⟩)) (fun r hr9 => ?_)
  subst hr9
  refine w_bnz (tgt := 18) hx hb dX5_set_9 (by decide) (fun c_9 => ?_) (fun c_9 => ?_)
  · refine lv_iload_n hx hb dX5_set_18 rfl (lv_at hl 2 rfl) ?_
    refine lv_iconst (v := 0) hx hb dX5_set_19 (by decide) ?_
    refine lv_iconst (v := 3) hx hb dX5_set_20 (by decide) ?_
    refine vp_callSi (va_Run.run (va_runS (As := [.int y, .int 0, .int 3]) (rest := []) ⟨hx, hb, hml, hown, hts⟩ (c_X5_isIn l y 0 3) (va_cwS 3 hts gX5_set_X5_isIn rfl rfl rfl (by decide +kernel) ⟨Nat.le_of_ble_eq_true rfl, Nat.le_of_ble_eq_true rfl⟩) ⟨fun _ _ _ _ q => q, fun _ _ _ => ⟨rfl, trivial⟩⟩ rfl rfl hl.1 rfl (lv_room (Nat.le_of_ble_eq_true rfl)) dX5_set_21 ⟨Nat.zero_le _, Nat.zero_le _⟩)) (fun r hr9 => ?_)
    subst hr9
    refine w_bz (tgt := 39) hx hb dX5_set_24 (by decide) (fun c_24 => ?_) (fun c_24 => ?_)
    · refine lv_aload_n hx hb dX5_set_39 rfl (lv_at hl 0 rfl) ?_
      refine lv_iconst (v := 2) hx hb dX5_set_40 (by decide) ?_
      have hFc := va_free (wc := qW cI h g0 v0 0 g gm) hD hS hA [0, 1] rfl
      refine va_calli (va_runV (As := [.int 2]) (rest := []) ⟨hx, hb, hml, hown, hts⟩ (c_X5_no l D cI _ h g0 v0 0 g gm 2 ) (cwV 1 hts gX5_set_X5_no rfl rfl rfl (by decide +kernel) ⟨Nat.le_of_ble_eq_true rfl, Nat.le_of_ble_eq_true rfl⟩) ⟨preM_blind, va_recv hK hP (ci := 5) (q0 := 0) rfl rfl, preM_of hP hK hE hD [.ref h, .int 2]⟩ rfl rfl hl.1 rfl (lv_room (Nat.le_of_ble_eq_true rfl)) dX5_set_41 ⟨Nat.le_of_ble_eq_true rfl, Nat.le_of_ble_eq_true rfl⟩) hS (fun q _ h => hFc q h) hFc (fun r u t9 H1 locs ht hvm hw hB hz1 hk1 hS => ?_)
      obtain ⟨hP1, hK1, hD1⟩ := hB
      rw [ht] at hP1
      obtain ⟨rfl, rfl⟩ := hw
      obtain ⟨hP, hD⟩ := va_join (wr := []) (w1 := qW cI h g0 v0 2 g gm) hP hD [0, 1] [] rfl rfl (by decide) (by decide) hk1 hFc hP1 hD1
      generalize H1 = H at hP hS ⊢
      have hP : va_P D vwCl (qW cI h g0 v0 2 g gm) H := hP
      have hD : va_D A (qW cI h g0 v0 2 g gm) := hD
      have hP9 := hP
      have hD9 := hD
      exact W.iret (v := 0) hx hb hr (fun T9 ht hW => ⟨⟨0, (2, g, gm), rfl, ⟨by first | rfl | (rw [(show setTf x y = 2 from by first | rfl | (simp only [setTf, c_9, c_24, Bool.false_eq_true, if_false, if_true]; done) | (simp [setTf, c_9, c_24]; done))]; rfl), fun hz => absurd hz (by first | decide | (rw [(show setTf x y = 2 from by first | rfl | (simp only [setTf, c_9, c_24, Bool.false_eq_true, if_false, if_true]; done) | (simp [setTf, c_9, c_24]; done))]; decide))⟩, by rw [ht]; exact hP9, va_K.moved hW.alike hK, hD9⟩, hS.F ht⟩) hS.2.2 dX5_set_44
    · refine lv_iload_n hx hb dX5_set_27 rfl (lv_at hl 1 rfl) ?_
      refine vp_callSi (va_Run.run (va_runS (As := [.int x]) (rest := []) ⟨hx, hb, hml, hown, hts⟩ (c_X5_isEdge l x) (va_cwS 1 hts gX5_set_X5_isEdge rfl rfl rfl (by decide +kernel) ⟨Nat.le_of_ble_eq_true rfl, Nat.le_of_ble_eq_true rfl⟩) ⟨fun _ _ _ _ q => q, fun _ _ _ => ⟨rfl, trivial⟩⟩ rfl rfl hl.1 rfl (lv_room (Nat.le_of_ble_eq_true rfl)) dX5_set_28 ⟨Nat.zero_le _, Nat.zero_le _⟩)) (fun r hr9 => ?_)
      subst hr9
      refine w_bz (tgt := 45) hx hb dX5_set_31 (by decide) (fun c_31 => ?_) (fun c_31 => ?_)
      · refine lv_aload_n hx hb dX5_set_45 rfl (lv_at hl 0 rfl) ?_
        refine lv_iload_n hx hb dX5_set_46 rfl (lv_at hl 1 rfl) ?_
        refine vp_callSi (va_Run.run (va_runV (As := [.int x]) (rest := []) ⟨hx, hb, hml, hown, hts⟩ (c_X5_onNow_0 l D cI h g0 v0 0 g gm x hg0) (cwV 1 hts gX5_set_X5_onNow rfl rfl rfl (by decide +kernel) ⟨Nat.le_of_ble_eq_true rfl, Nat.le_of_ble_eq_true rfl⟩) ⟨preR_blind, va_recv hK hP (ci := 5) (q0 := 0) rfl rfl, preR_of hP hK hE [.ref h, .int x]⟩ rfl rfl hl.1 rfl (lv_room (Nat.le_of_ble_eq_true rfl)) dX5_set_47 ⟨Nat.zero_le _, Nat.zero_le _⟩)) (fun r hr9 => ?_)
        subst hr9
        refine lv_iconst (v := (-1)) hx hb dX5_set_50 (by decide) ?_
        refine lv_icmp_eq (tgt := 69) hx hb dX5_set_51 (by decide) (fun c_51 => ?_) (fun c_51 => absurd ((by decide)) c_51)
        refine lv_aload_n hx hb dX5_set_69 rfl (lv_at hl 0 rfl) ?_
        refine va_get (D := D) (ci := 5) (v := .ref g0) (C := RX5) (T := TX5) (N := 4) hx hb hts (by decide +kernel) hown hK hP 0 rfl rfl 1 (by decide) (hts (.fieldLink RX5 9 "WarrenModel" "g" "[I") (by decide +kernel)) (fun _ h9 => h9) rfl dX5_set_70 ?_
        refine lv_iload_n hx hb dX5_set_73 rfl (lv_at hl 1 rfl) ?_
        refine va_iald hx hb hK hP 1 0 rfl rfl (vinL (by decide) (by decide) c_9) dX5_set_74 ?_
        refine lv_istore_n (lv' := [(3, .int (g x.toNatClampNeg)), (0, .ref h), (1, .int x), (2, .int y)]) hx hb dX5_set_75 rfl hl (by decide) rfl (fun ls hl => ?_)
        refine lv_aload_n hx hb dX5_set_76 rfl (lv_at hl 1 rfl) ?_
        refine va_get (D := D) (ci := 5) (v := .ref g0) (C := RX5) (T := TX5) (N := 4) hx hb hts (by decide +kernel) hown hK hP 0 rfl rfl 1 (by decide) (hts (.fieldLink RX5 9 "WarrenModel" "g" "[I") (by decide +kernel)) (fun _ h9 => h9) rfl dX5_set_77 ?_
        refine lv_iload_n hx hb dX5_set_80 rfl (lv_at hl 2 rfl) ?_
        refine lv_iload_n hx hb dX5_set_81 rfl (lv_at hl 3 rfl) ?_
        refine va_iast hx hb hK hP hD hS 1 0 rfl rfl (vinL (by decide) (by decide) c_9) dX5_set_82 (fun H locs hP hD hS => ?_)
        have hP : va_P D vwCl (qW cI h g0 v0 0 (upd g x.toNatClampNeg y) gm) H := hP
        have hD : va_D A (qW cI h g0 v0 0 (upd g x.toNatClampNeg y) gm) := hD
        refine lv_iload_n hx hb dX5_set_83 rfl (lv_at hl 0 rfl) ?_
        have hP9 := hP
        have hD9 := hD
        exact W.iret (v := (g x.toNatClampNeg)) hx hb hr (fun T9 ht hW => ⟨⟨(g x.toNatClampNeg), (0, (upd g x.toNatClampNeg y), gm), rfl, ⟨by first | rfl | (rw [(show setTf x y = 0 from by first | rfl | (simp only [setTf, c_9, c_24, c_31, if_pos c_51, Bool.false_eq_true, if_false, if_true]; done) | (simp [setTf, c_9, c_24, c_31, c_51]; done))]; rfl), fun _ => rfl⟩, by rw [ht]; exact hP9, va_K.moved hW.alike hK, hD9⟩, hS.F ht⟩) hS.2.2 dX5_set_84
      · refine lv_iload_n hx hb dX5_set_34 rfl (lv_at hl 2 rfl) ?_
        refine lv_iconst (v := 1) hx hb dX5_set_35 (by decide) ?_
        refine lv_icmp_eq (tgt := 45) hx hb dX5_set_36 (by decide) (fun c_36 => ?_) (fun c_36 => ?_)
        · refine lv_aload_n hx hb dX5_set_45 rfl (lv_at hl 0 rfl) ?_
          refine lv_iload_n hx hb dX5_set_46 rfl (lv_at hl 1 rfl) ?_
          refine vp_callSi (va_Run.run (va_runV (As := [.int x]) (rest := []) ⟨hx, hb, hml, hown, hts⟩ (c_X5_onNow_0 l D cI h g0 v0 0 g gm x hg0) (cwV 1 hts gX5_set_X5_onNow rfl rfl rfl (by decide +kernel) ⟨Nat.le_of_ble_eq_true rfl, Nat.le_of_ble_eq_true rfl⟩) ⟨preR_blind, va_recv hK hP (ci := 5) (q0 := 0) rfl rfl, preR_of hP hK hE [.ref h, .int x]⟩ rfl rfl hl.1 rfl (lv_room (Nat.le_of_ble_eq_true rfl)) dX5_set_47 ⟨Nat.zero_le _, Nat.zero_le _⟩)) (fun r hr9 => ?_)
          subst hr9
          refine lv_iconst (v := (-1)) hx hb dX5_set_50 (by decide) ?_
          refine lv_icmp_eq (tgt := 69) hx hb dX5_set_51 (by decide) (fun c_51 => ?_) (fun c_51 => absurd ((by decide)) c_51)
          refine lv_aload_n hx hb dX5_set_69 rfl (lv_at hl 0 rfl) ?_
          refine va_get (D := D) (ci := 5) (v := .ref g0) (C := RX5) (T := TX5) (N := 4) hx hb hts (by decide +kernel) hown hK hP 0 rfl rfl 1 (by decide) (hts (.fieldLink RX5 9 "WarrenModel" "g" "[I") (by decide +kernel)) (fun _ h9 => h9) rfl dX5_set_70 ?_
          refine lv_iload_n hx hb dX5_set_73 rfl (lv_at hl 1 rfl) ?_
          refine va_iald hx hb hK hP 1 0 rfl rfl (vinL (by decide) (by decide) c_9) dX5_set_74 ?_
          refine lv_istore_n (lv' := [(3, .int (g x.toNatClampNeg)), (0, .ref h), (1, .int x), (2, .int y)]) hx hb dX5_set_75 rfl hl (by decide) rfl (fun ls hl => ?_)
          refine lv_aload_n hx hb dX5_set_76 rfl (lv_at hl 1 rfl) ?_
          refine va_get (D := D) (ci := 5) (v := .ref g0) (C := RX5) (T := TX5) (N := 4) hx hb hts (by decide +kernel) hown hK hP 0 rfl rfl 1 (by decide) (hts (.fieldLink RX5 9 "WarrenModel" "g" "[I") (by decide +kernel)) (fun _ h9 => h9) rfl dX5_set_77 ?_
          refine lv_iload_n hx hb dX5_set_80 rfl (lv_at hl 2 rfl) ?_
          refine lv_iload_n hx hb dX5_set_81 rfl (lv_at hl 3 rfl) ?_
          refine va_iast hx hb hK hP hD hS 1 0 rfl rfl (vinL (by decide) (by decide) c_9) dX5_set_82 (fun H locs hP hD hS => ?_)
          have hP : va_P D vwCl (qW cI h g0 v0 0 (upd g x.toNatClampNeg y) gm) H := hP
          have hD : va_D A (qW cI h g0 v0 0 (upd g x.toNatClampNeg y) gm) := hD
          refine lv_iload_n hx hb dX5_set_83 rfl (lv_at hl 0 rfl) ?_
          have hP9 := hP
          have hD9 := hD
          exact W.iret (v := (g x.toNatClampNeg)) hx hb hr (fun T9 ht hW => ⟨⟨(g x.toNatClampNeg), (0, (upd g x.toNatClampNeg y), gm), rfl, ⟨by first | rfl | (rw [(show setTf x y = 0 from by first | rfl | (simp only [setTf, c_9, c_24, c_31, if_pos c_36, if_pos c_51, Bool.false_eq_true, if_false, if_true]; done) | (simp [setTf, c_9, c_24, c_31, c_36, c_51]; done))]; rfl), fun _ => rfl⟩, by rw [ht]; exact hP9, va_K.moved hW.alike hK, hD9⟩, hS.F ht⟩) hS.2.2 dX5_set_84
        · refine lv_aload_n hx hb dX5_set_39 rfl (lv_at hl 0 rfl) ?_
          refine lv_iconst (v := 2) hx hb dX5_set_40 (by decide) ?_
          have hFc := va_free (wc := qW cI h g0 v0 0 g gm) hD hS hA [0, 1] rfl
          refine va_calli (va_runV (As := [.int 2]) (rest := []) ⟨hx, hb, hml, hown, hts⟩ (c_X5_no l D cI _ h g0 v0 0 g gm 2 ) (cwV 1 hts gX5_set_X5_no rfl rfl rfl (by decide +kernel) ⟨Nat.le_of_ble_eq_true rfl, Nat.le_of_ble_eq_true rfl⟩) ⟨preM_blind, va_recv hK hP (ci := 5) (q0 := 0) rfl rfl, preM_of hP hK hE hD [.ref h, .int 2]⟩ rfl rfl hl.1 rfl (lv_room (Nat.le_of_ble_eq_true rfl)) dX5_set_41 ⟨Nat.le_of_ble_eq_true rfl, Nat.le_of_ble_eq_true rfl⟩) hS (fun q _ h => hFc q h) hFc (fun r u t9 H1 locs ht hvm hw hB hz1 hk1 hS => ?_)
          obtain ⟨hP1, hK1, hD1⟩ := hB
          rw [ht] at hP1
          obtain ⟨rfl, rfl⟩ := hw
          obtain ⟨hP, hD⟩ := va_join (wr := []) (w1 := qW cI h g0 v0 2 g gm) hP hD [0, 1] [] rfl rfl (by decide) (by decide) hk1 hFc hP1 hD1
          generalize H1 = H at hP hS ⊢
          have hP : va_P D vwCl (qW cI h g0 v0 2 g gm) H := hP
          have hD : va_D A (qW cI h g0 v0 2 g gm) := hD
          have hP9 := hP
          have hD9 := hD
          exact W.iret (v := 0) hx hb hr (fun T9 ht hW => ⟨⟨0, (2, g, gm), rfl, ⟨by first | rfl | (rw [(show setTf x y = 2 from by first | rfl | (simp only [setTf, c_9, c_24, c_31, if_neg c_36, Bool.false_eq_true, if_false, if_true]; done) | (simp [setTf, c_9, c_24, c_31, c_36]; done))]; rfl), fun hz => absurd hz (by first | decide | (rw [(show setTf x y = 2 from by first | rfl | (simp only [setTf, c_9, c_24, c_31, if_neg c_36, Bool.false_eq_true, if_false, if_true]; done) | (simp [setTf, c_9, c_24, c_31, c_36]; done))]; decide))⟩, by rw [ht]; exact hP9, va_K.moved hW.alike hK, hD9⟩, hS.F ht⟩) hS.2.2 dX5_set_44
  · refine lv_aload_n hx hb dX5_set_12 rfl (lv_at hl 0 rfl) ?_
    refine lv_iconst (v := 1) hx hb dX5_set_13 (by decide) ?_
    have hFc := va_free (wc := qW cI h g0 v0 0 g gm) hD hS hA [0, 1] rfl
    refine va_calli (va_runV (As := [.int 1]) (rest := []) ⟨hx, hb, hml, hown, hts⟩ (c_X5_no l D cI _ h g0 v0 0 g gm 1 ) (cwV 1 hts gX5_set_X5_no rfl rfl rfl (by decide +kernel) ⟨Nat.le_of_ble_eq_true rfl, Nat.le_of_ble_eq_true rfl⟩) ⟨preM_blind, va_recv hK hP (ci := 5) (q0 := 0) rfl rfl, preM_of hP hK hE hD [.ref h, .int 1]⟩ rfl rfl hl.1 rfl (lv_room (Nat.le_of_ble_eq_true rfl)) dX5_set_14 ⟨Nat.le_of_ble_eq_true rfl, Nat.le_of_ble_eq_true rfl⟩) hS (fun q _ h => hFc q h) hFc (fun r u t9 H1 locs ht hvm hw hB hz1 hk1 hS => ?_)
    obtain ⟨hP1, hK1, hD1⟩ := hB
    rw [ht] at hP1
    obtain ⟨rfl, rfl⟩ := hw
    obtain ⟨hP, hD⟩ := va_join (wr := []) (w1 := qW cI h g0 v0 1 g gm) hP hD [0, 1] [] rfl rfl (by decide) (by decide) hk1 hFc hP1 hD1
    generalize H1 = H at hP hS ⊢
    have hP : va_P D vwCl (qW cI h g0 v0 1 g gm) H := hP
    have hD : va_D A (qW cI h g0 v0 1 g gm) := hD
    have hP9 := hP
    have hD9 := hD
    exact W.iret (v := 0) hx hb hr (fun T9 ht hW => ⟨⟨0, (1, g, gm), rfl, ⟨by first | rfl | (rw [(show setTf x y = 1 from by first | rfl | (simp only [setTf, c_9, Bool.false_eq_true, if_false, if_true]; done) | (simp [setTf, c_9]; done))]; rfl), fun hz => absurd hz (by first | decide | (rw [(show setTf x y = 1 from by first | rfl | (simp only [setTf, c_9, Bool.false_eq_true, if_false, if_true]; done) | (simp [setTf, c_9]; done))]; decide))⟩, by rw [ht]; exact hP9, va_K.moved hW.alike hK, hD9⟩, hS.F ht⟩) hS.2.2 dX5_set_17

set_option maxHeartbeats 4000000 in
set_option maxRecDepth 100000 in
theorem c_X5_come_0 (l : Launch) (D : va_G) (cI : ClassId) (sz : Nat) (h g0 v0 : Nat) (th : Int32) (g : Nat → Int32) (gm : Int32) (x y z : Int32) (hg0 : g (680 : Int32).toNatClampNeg = 0) (hgk : ∀ j, j < 160 → g j = 1) : Met l yX5_come wsX5_come ({ frames := 2, cells := 0, slots := 0, locals := 42 } : Room) (va_Pc [.ref h, .int x, .int y, .int z] (preM D cI (qW cI h g0 v0 th g gm) sz)) (va_Qi (fun (r : Int32) (u : (Int32 × (Nat → Int32) × Int32)) => u.1 = nI (comeTf x y z) ∧ (comeTf x y z = 0 → r = 0)) (fun (u : (Int32 × (Nat → Int32) × Int32)) => posM D cI (va_A (qW cI h g0 v0 th g gm) sz) (qW cI h g0 v0 u.1 u.2.1 u.2.2)) (va_A (qW cI h g0 v0 th g gm) sz)) 0 0 (va_A (qW cI h g0 v0 th g gm) sz) := by
  refine Met.ofW (cc := cX5_come) (maxL := 7) (ret := (some .int)) (by decide) rfl ?_
  intro p e s m args below meth c s₁ B hml hv
  obtain ⟨rfl, hsz, hP, hK, hE, hD0⟩ := hv
  have hx := B.exec
  have hb := B.bytes
  have hr := B.returns
  have hts := atoms_spec (ws := wsX5_come) B.pre
  have hown : s.vm.findClass RX5 = some m.cls := findClass_of_methodNamed B.named
  have hlocks := B.notSynchronized
  subst hsz
  have hD := hD0.self (sz := s.heap.size)
  generalize hAe : va_A (qW cI h g0 v0 th g gm) s.heap.size = A at hD ⊢
  have hA : ∀ q : Nat, s.heap.size ≤ q → A q := fun q h => by rw [← hAe]; exact Or.inr h
  have hS : va_S A s.heap s.heap [] := va_S.rf
  have hP : va_P D vwCl (qW cI h g0 v0 th g gm) s.heap := hP
  have hl := lv_entry ([.ref h, .int x, .int y, .int z]) (n := 7) (Nat.le_of_ble_eq_true rfl)
  rw [lg_entry_eq]
  generalize (lg_sl ([.ref h, .int x, .int y, .int z]) ++ List.replicate (7 - (lg_sl ([.ref h, .int x, .int y, .int z])).length) Slot.unset).toArray = ls at hl ⊢
  have hl : lv_has ls 7 [(0, .ref h), (1, .int x), (2, .int y), (3, .int z)] := hl
  refine lv_aload_n hx hb dX5_come_0 rfl (lv_at hl 0 rfl) ?_
  refine lv_iconst (v := 0) hx hb dX5_come_1 (by decide) ?_
  refine va_put (D := D) (ci := 5) (v := .int 0) (ty := .int) (C := RX5) (T := TX5) (N := 4) hx hb hts (by decide +kernel) tyX5 tyX5_ok nmX5 hown hK hP hD hS 0 rfl rfl 0 (by decide) (hts (.fieldLink RX5 18 "WarrenModel" "thrown" "I") (by decide +kernel)) (fun _ h9 => h9) rfl (by decide +kernel) rfl rfl (Nat.le_of_ble_eq_true rfl) dX5_come_2 (fun H locs hP hD hS => ?_)
  have hP : va_P D vwCl (qW cI h g0 v0 0 g gm) H := hP
  have hD : va_D A (qW cI h g0 v0 0 g gm) := hD
  refine lv_iload_n hx hb dX5_come_5 rfl (lv_at hl 2 rfl) ?_
  refine vp_callSi (va_Run.run (va_runS (As := [.int y]) (rest := []) ⟨hx, hb, hml, hown, hts⟩ (c_X5_isCell l y) (va_cwS 1 hts gX5_come_X5_isCell rfl rfl rfl (by decide +kernel) ⟨Nat.le_of_ble_eq_true rfl, Nat.le_of_ble_eq_true rfl⟩) ⟨fun _ _ _ _ q => q, fun _ _ _ => ⟨rfl, trivial⟩⟩ rfl rfl hl.1 rfl (lv_room (Nat.le_of_ble_eq_true rfl)) dX5_come_6 ⟨Nat.zero_le _, Nat.zero_le _⟩)) (fun r hr9 => ?_)
  subst hr9
  refine w_bnz (tgt := 18) hx hb dX5_come_9 (by decide) (fun c_9 => ?_) (fun c_9 => ?_)
  · refine lv_iload_n hx hb dX5_come_18 rfl (lv_at hl 1 rfl) ?_
    refine lv_iconst (v := 0) hx hb dX5_come_19 (by decide) ?_
    refine lv_iconst (v := 1) hx hb dX5_come_20 (by decide) ?_
    refine vp_callSi (va_Run.run (va_runS (As := [.int x, .int 0, .int 1]) (rest := []) ⟨hx, hb, hml, hown, hts⟩ (c_X5_isIn l x 0 1) (va_cwS 3 hts gX5_come_X5_isIn rfl rfl rfl (by decide +kernel) ⟨Nat.le_of_ble_eq_true rfl, Nat.le_of_ble_eq_true rfl⟩) ⟨fun _ _ _ _ q => q, fun _ _ _ => ⟨rfl, trivial⟩⟩ rfl rfl hl.1 rfl (lv_room (Nat.le_of_ble_eq_true rfl)) dX5_come_21 ⟨Nat.zero_le _, Nat.zero_le _⟩)) (fun r hr9 => ?_)
    subst hr9
    refine w_bz (tgt := 37) hx hb dX5_come_24 (by decide) (fun c_24 => ?_) (fun c_24 => ?_)
    · refine lv_aload_n hx hb dX5_come_37 rfl (lv_at hl 0 rfl) ?_
      refine lv_iconst (v := 2) hx hb dX5_come_38 (by decide) ?_
      have hFc := va_free (wc := qW cI h g0 v0 0 g gm) hD hS hA [0, 1] rfl
      refine va_calli (va_runV (As := [.int 2]) (rest := []) ⟨hx, hb, hml, hown, hts⟩ (c_X5_no l D cI _ h g0 v0 0 g gm 2 ) (cwV 1 hts gX5_come_X5_no rfl rfl rfl (by decide +kernel) ⟨Nat.le_of_ble_eq_true rfl, Nat.le_of_ble_eq_true rfl⟩) ⟨preM_blind, va_recv hK hP (ci := 5) (q0 := 0) rfl rfl, preM_of hP hK hE hD [.ref h, .int 2]⟩ rfl rfl hl.1 rfl (lv_room (Nat.le_of_ble_eq_true rfl)) dX5_come_39 ⟨Nat.le_of_ble_eq_true rfl, Nat.le_of_ble_eq_true rfl⟩) hS (fun q _ h => hFc q h) hFc (fun r u t9 H1 locs ht hvm hw hB hz1 hk1 hS => ?_)
      obtain ⟨hP1, hK1, hD1⟩ := hB
      rw [ht] at hP1
      obtain ⟨rfl, rfl⟩ := hw
      obtain ⟨hP, hD⟩ := va_join (wr := []) (w1 := qW cI h g0 v0 2 g gm) hP hD [0, 1] [] rfl rfl (by decide) (by decide) hk1 hFc hP1 hD1
      generalize H1 = H at hP hS ⊢
      have hP : va_P D vwCl (qW cI h g0 v0 2 g gm) H := hP
      have hD : va_D A (qW cI h g0 v0 2 g gm) := hD
      have hP9 := hP
      have hD9 := hD
      exact W.iret (v := 0) hx hb hr (fun T9 ht hW => ⟨⟨0, (2, g, gm), rfl, ⟨by first | rfl | (rw [(show comeTf x y z = 2 from by first | rfl | (simp only [comeTf, c_9, c_24, Bool.false_eq_true, if_false, if_true]; done) | (simp [comeTf, c_9, c_24]; done))]; rfl), fun hz => absurd hz (by first | decide | (rw [(show comeTf x y z = 2 from by first | rfl | (simp only [comeTf, c_9, c_24, Bool.false_eq_true, if_false, if_true]; done) | (simp [comeTf, c_9, c_24]; done))]; decide))⟩, by rw [ht]; exact hP9, va_K.moved hW.alike hK, hD9⟩, hS.F ht⟩) hS.2.2 dX5_come_42
    · refine lv_iload_n hx hb dX5_come_27 rfl (lv_at hl 3 rfl) ?_
      refine lv_iconst (v := 1) hx hb dX5_come_28 (by decide) ?_
      refine lv_bipush (v := 60) hx hb dX5_come_29 (by decide) ?_
      refine vp_callSi (va_Run.run (va_runS (As := [.int z, .int 1, .int 60]) (rest := []) ⟨hx, hb, hml, hown, hts⟩ (c_X5_isIn l z 1 60) (va_cwS 3 hts gX5_come_X5_isIn rfl rfl rfl (by decide +kernel) ⟨Nat.le_of_ble_eq_true rfl, Nat.le_of_ble_eq_true rfl⟩) ⟨fun _ _ _ _ q => q, fun _ _ _ => ⟨rfl, trivial⟩⟩ rfl rfl hl.1 rfl (lv_room (Nat.le_of_ble_eq_true rfl)) dX5_come_31 ⟨Nat.zero_le _, Nat.zero_le _⟩)) (fun r hr9 => ?_)
      subst hr9
      refine w_bnz (tgt := 43) hx hb dX5_come_34 (by decide) (fun c_34 => ?_) (fun c_34 => ?_)
      · refine lv_aload_n hx hb dX5_come_43 rfl (lv_at hl 0 rfl) ?_
        refine va_get (D := D) (ci := 5) (v := .ref g0) (C := RX5) (T := TX5) (N := 4) hx hb hts (by decide +kernel) hown hK hP 0 rfl rfl 1 (by decide) (hts (.fieldLink RX5 9 "WarrenModel" "g" "[I") (by decide +kernel)) (fun _ h9 => h9) rfl dX5_come_44 ?_
        refine lv_sipush (v := 680) hx hb dX5_come_47 (by decide) ?_
        refine va_iald hx hb hK hP 1 0 rfl rfl (vp_in_nI (n := 680) (by decide) (by decide)) dX5_come_50 ?_
        refine lv_bipush (v := 10) hx hb dX5_come_51 (by decide) ?_
        refine lv_icmp_eq (tgt := 79) hx hb dX5_come_53 (by decide) (fun c_53 => absurd c_53 ((by rw [hg0]; decide))) (fun c_53 => ?_)
        refine lv_aload_n hx hb dX5_come_56 rfl (lv_at hl 0 rfl) ?_
        refine va_get (D := D) (ci := 5) (v := .ref g0) (C := RX5) (T := TX5) (N := 4) hx hb hts (by decide +kernel) hown hK hP 0 rfl rfl 1 (by decide) (hts (.fieldLink RX5 9 "WarrenModel" "g" "[I") (by decide +kernel)) (fun _ h9 => h9) rfl dX5_come_57 ?_
        refine lv_iload_n hx hb dX5_come_60 rfl (lv_at hl 2 rfl) ?_
        refine va_iald hx hb hK hP 1 0 rfl rfl (vinL (by decide) (by decide) c_9) dX5_come_61 ?_
        rw [kind_1 hgk c_9]
        refine lv_iconst (v := 1) hx hb dX5_come_62 (by decide) ?_
        refine lv_iconst (v := 2) hx hb dX5_come_63 (by decide) ?_
        refine vp_callSi (va_Run.run (va_runS (As := [.int 1, .int 1, .int 2]) (rest := []) ⟨hx, hb, hml, hown, hts⟩ (c_X5_isIn l 1 1 2) (va_cwS 3 hts gX5_come_X5_isIn rfl rfl rfl (by decide +kernel) ⟨Nat.le_of_ble_eq_true rfl, Nat.le_of_ble_eq_true rfl⟩) ⟨fun _ _ _ _ q => q, fun _ _ _ => ⟨rfl, trivial⟩⟩ rfl rfl hl.1 rfl (lv_room (Nat.le_of_ble_eq_true rfl)) dX5_come_64 ⟨Nat.zero_le _, Nat.zero_le _⟩)) (fun r hr9 => ?_)
        subst hr9
        refine w_bnz (tgt := 79) hx hb dX5_come_67 (by decide) (fun c_67 => ?_) (fun c_67 => absurd c_67 ((by decide)))
        refine lv_aload_n hx hb dX5_come_79 rfl (lv_at hl 0 rfl) ?_
        refine lv_iconst (v := 3) hx hb dX5_come_80 (by decide) ?_
        have hFc := va_free (wc := qW cI h g0 v0 0 g gm) hD hS hA [0, 1] rfl
        refine va_calli (va_runV (As := [.int 3]) (rest := []) ⟨hx, hb, hml, hown, hts⟩ (c_X5_no l D cI _ h g0 v0 0 g gm 3 ) (cwV 1 hts gX5_come_X5_no rfl rfl rfl (by decide +kernel) ⟨Nat.le_of_ble_eq_true rfl, Nat.le_of_ble_eq_true rfl⟩) ⟨preM_blind, va_recv hK hP (ci := 5) (q0 := 0) rfl rfl, preM_of hP hK hE hD [.ref h, .int 3]⟩ rfl rfl hl.1 rfl (lv_room (Nat.le_of_ble_eq_true rfl)) dX5_come_81 ⟨Nat.le_of_ble_eq_true rfl, Nat.le_of_ble_eq_true rfl⟩) hS (fun q _ h => hFc q h) hFc (fun r u t9 H1 locs ht hvm hw hB hz1 hk1 hS => ?_)
        obtain ⟨hP1, hK1, hD1⟩ := hB
        rw [ht] at hP1
        obtain ⟨rfl, rfl⟩ := hw
        obtain ⟨hP, hD⟩ := va_join (wr := []) (w1 := qW cI h g0 v0 3 g gm) hP hD [0, 1] [] rfl rfl (by decide) (by decide) hk1 hFc hP1 hD1
        generalize H1 = H at hP hS ⊢
        have hP : va_P D vwCl (qW cI h g0 v0 3 g gm) H := hP
        have hD : va_D A (qW cI h g0 v0 3 g gm) := hD
        have hP9 := hP
        have hD9 := hD
        exact W.iret (v := 0) hx hb hr (fun T9 ht hW => ⟨⟨0, (3, g, gm), rfl, ⟨by first | rfl | (rw [(show comeTf x y z = 3 from by first | rfl | (simp only [comeTf, c_9, c_24, c_34, if_neg c_53, c_67, Bool.false_eq_true, if_false, if_true]; done) | (simp [comeTf, c_9, c_24, c_34, c_53, c_67]; done))]; rfl), fun hz => absurd hz (by first | decide | (rw [(show comeTf x y z = 3 from by first | rfl | (simp only [comeTf, c_9, c_24, c_34, if_neg c_53, c_67, Bool.false_eq_true, if_false, if_true]; done) | (simp [comeTf, c_9, c_24, c_34, c_53, c_67]; done))]; decide))⟩, by rw [ht]; exact hP9, va_K.moved hW.alike hK, hD9⟩, hS.F ht⟩) hS.2.2 dX5_come_84
      · refine lv_aload_n hx hb dX5_come_37 rfl (lv_at hl 0 rfl) ?_
        refine lv_iconst (v := 2) hx hb dX5_come_38 (by decide) ?_
        have hFc := va_free (wc := qW cI h g0 v0 0 g gm) hD hS hA [0, 1] rfl
        refine va_calli (va_runV (As := [.int 2]) (rest := []) ⟨hx, hb, hml, hown, hts⟩ (c_X5_no l D cI _ h g0 v0 0 g gm 2 ) (cwV 1 hts gX5_come_X5_no rfl rfl rfl (by decide +kernel) ⟨Nat.le_of_ble_eq_true rfl, Nat.le_of_ble_eq_true rfl⟩) ⟨preM_blind, va_recv hK hP (ci := 5) (q0 := 0) rfl rfl, preM_of hP hK hE hD [.ref h, .int 2]⟩ rfl rfl hl.1 rfl (lv_room (Nat.le_of_ble_eq_true rfl)) dX5_come_39 ⟨Nat.le_of_ble_eq_true rfl, Nat.le_of_ble_eq_true rfl⟩) hS (fun q _ h => hFc q h) hFc (fun r u t9 H1 locs ht hvm hw hB hz1 hk1 hS => ?_)
        obtain ⟨hP1, hK1, hD1⟩ := hB
        rw [ht] at hP1
        obtain ⟨rfl, rfl⟩ := hw
        obtain ⟨hP, hD⟩ := va_join (wr := []) (w1 := qW cI h g0 v0 2 g gm) hP hD [0, 1] [] rfl rfl (by decide) (by decide) hk1 hFc hP1 hD1
        generalize H1 = H at hP hS ⊢
        have hP : va_P D vwCl (qW cI h g0 v0 2 g gm) H := hP
        have hD : va_D A (qW cI h g0 v0 2 g gm) := hD
        have hP9 := hP
        have hD9 := hD
        exact W.iret (v := 0) hx hb hr (fun T9 ht hW => ⟨⟨0, (2, g, gm), rfl, ⟨by first | rfl | (rw [(show comeTf x y z = 2 from by first | rfl | (simp only [comeTf, c_9, c_24, c_34, Bool.false_eq_true, if_false, if_true]; done) | (simp [comeTf, c_9, c_24, c_34]; done))]; rfl), fun hz => absurd hz (by first | decide | (rw [(show comeTf x y z = 2 from by first | rfl | (simp only [comeTf, c_9, c_24, c_34, Bool.false_eq_true, if_false, if_true]; done) | (simp [comeTf, c_9, c_24, c_34]; done))]; decide))⟩, by rw [ht]; exact hP9, va_K.moved hW.alike hK, hD9⟩, hS.F ht⟩) hS.2.2 dX5_come_42
  · refine lv_aload_n hx hb dX5_come_12 rfl (lv_at hl 0 rfl) ?_
    refine lv_iconst (v := 1) hx hb dX5_come_13 (by decide) ?_
    have hFc := va_free (wc := qW cI h g0 v0 0 g gm) hD hS hA [0, 1] rfl
    refine va_calli (va_runV (As := [.int 1]) (rest := []) ⟨hx, hb, hml, hown, hts⟩ (c_X5_no l D cI _ h g0 v0 0 g gm 1 ) (cwV 1 hts gX5_come_X5_no rfl rfl rfl (by decide +kernel) ⟨Nat.le_of_ble_eq_true rfl, Nat.le_of_ble_eq_true rfl⟩) ⟨preM_blind, va_recv hK hP (ci := 5) (q0 := 0) rfl rfl, preM_of hP hK hE hD [.ref h, .int 1]⟩ rfl rfl hl.1 rfl (lv_room (Nat.le_of_ble_eq_true rfl)) dX5_come_14 ⟨Nat.le_of_ble_eq_true rfl, Nat.le_of_ble_eq_true rfl⟩) hS (fun q _ h => hFc q h) hFc (fun r u t9 H1 locs ht hvm hw hB hz1 hk1 hS => ?_)
    obtain ⟨hP1, hK1, hD1⟩ := hB
    rw [ht] at hP1
    obtain ⟨rfl, rfl⟩ := hw
    obtain ⟨hP, hD⟩ := va_join (wr := []) (w1 := qW cI h g0 v0 1 g gm) hP hD [0, 1] [] rfl rfl (by decide) (by decide) hk1 hFc hP1 hD1
    generalize H1 = H at hP hS ⊢
    have hP : va_P D vwCl (qW cI h g0 v0 1 g gm) H := hP
    have hD : va_D A (qW cI h g0 v0 1 g gm) := hD
    have hP9 := hP
    have hD9 := hD
    exact W.iret (v := 0) hx hb hr (fun T9 ht hW => ⟨⟨0, (1, g, gm), rfl, ⟨by first | rfl | (rw [(show comeTf x y z = 1 from by first | rfl | (simp only [comeTf, c_9, Bool.false_eq_true, if_false, if_true]; done) | (simp [comeTf, c_9]; done))]; rfl), fun hz => absurd hz (by first | decide | (rw [(show comeTf x y z = 1 from by first | rfl | (simp only [comeTf, c_9, Bool.false_eq_true, if_false, if_true]; done) | (simp [comeTf, c_9]; done))]; decide))⟩, by rw [ht]; exact hP9, va_K.moved hW.alike hK, hD9⟩, hS.F ht⟩) hS.2.2 dX5_come_17

set_option maxHeartbeats 4000000 in
set_option maxRecDepth 100000 in
theorem c_X5_sees_0 (l : Launch) (D : va_G) (cI : ClassId) (sz : Nat) (h g0 v0 : Nat) (th : Int32) (g : Nat → Int32) (gm : Int32) (x y : Int32) (hgk : ∀ j, j < 160 → g j = 1) : Met l yX5_sees wsX5_sees ({ frames := 4, cells := 0, slots := 0, locals := 82 } : Room) (va_Pc [.ref h, .int x, .int y] (preM D cI (qW cI h g0 v0 th g gm) sz)) (va_Qi (fun (r : Int32) (u : (Int32 × (Nat → Int32) × Int32)) => u.1 = nI (seesTf x y) ∧ (seesTf x y = 0 → r = bi (decide (apartM x y ≤ 1)))) (fun (u : (Int32 × (Nat → Int32) × Int32)) => posM D cI (va_A (qW cI h g0 v0 th g gm) sz) (qW cI h g0 v0 u.1 u.2.1 u.2.2)) (va_A (qW cI h g0 v0 th g gm) sz)) 0 0 (va_A (qW cI h g0 v0 th g gm) sz) := by
  refine Met.ofW (cc := cX5_sees) (maxL := 3) (ret := (some .boolean)) (by decide) rfl ?_
  intro p e s m args below meth c s₁ B hml hv
  obtain ⟨rfl, hsz, hP, hK, hE, hD0⟩ := hv
  have hx := B.exec
  have hb := B.bytes
  have hr := B.returns
  have hts := atoms_spec (ws := wsX5_sees) B.pre
  have hown : s.vm.findClass RX5 = some m.cls := findClass_of_methodNamed B.named
  have hlocks := B.notSynchronized
  subst hsz
  have hD := hD0.self (sz := s.heap.size)
  generalize hAe : va_A (qW cI h g0 v0 th g gm) s.heap.size = A at hD ⊢
  have hA : ∀ q : Nat, s.heap.size ≤ q → A q := fun q h => by rw [← hAe]; exact Or.inr h
  have hS : va_S A s.heap s.heap [] := va_S.rf
  have hP : va_P D vwCl (qW cI h g0 v0 th g gm) s.heap := hP
  have hl := lv_entry ([.ref h, .int x, .int y]) (n := 3) (Nat.le_of_ble_eq_true rfl)
  rw [lg_entry_eq]
  generalize (lg_sl ([.ref h, .int x, .int y]) ++ List.replicate (3 - (lg_sl ([.ref h, .int x, .int y])).length) Slot.unset).toArray = ls at hl ⊢
  have hl : lv_has ls 3 [(0, .ref h), (1, .int x), (2, .int y)] := hl
  refine lv_aload_n hx hb dX5_sees_0 rfl (lv_at hl 0 rfl) ?_
  refine lv_iload_n hx hb dX5_sees_1 rfl (lv_at hl 1 rfl) ?_
  refine vp_callSi (va_Run.run (va_runS (As := [.int x]) (rest := [.ref h]) ⟨hx, hb, hml, hown, hts⟩ (c_X5_isCell l x) (va_cwS 1 hts gX5_sees_X5_isCell rfl rfl rfl (by decide +kernel) ⟨Nat.le_of_ble_eq_true rfl, Nat.le_of_ble_eq_true rfl⟩) ⟨fun _ _ _ _ q => q, fun _ _ _ => ⟨rfl, trivial⟩⟩ rfl rfl hl.1 rfl (lv_room (Nat.le_of_ble_eq_true rfl)) dX5_sees_2 ⟨Nat.zero_le _, Nat.zero_le _⟩)) (fun r hr9 => ?_)
  subst hr9
  refine w_bz (tgt := 19) hx hb dX5_sees_5 (by decide) (fun c_5 => ?_) (fun c_5 => ?_)
  · refine lv_iconst (v := 1) hx hb dX5_sees_19 (by decide) ?_
    refine va_put (D := D) (ci := 5) (v := .int 1) (ty := .int) (C := RX5) (T := TX5) (N := 4) hx hb hts (by decide +kernel) tyX5 tyX5_ok nmX5 hown hK hP hD hS 0 rfl rfl 0 (by decide) (hts (.fieldLink RX5 18 "WarrenModel" "thrown" "I") (by decide +kernel)) (fun _ h9 => h9) rfl (by decide +kernel) rfl rfl (Nat.le_of_ble_eq_true rfl) dX5_sees_20 (fun H locs hP hD hS => ?_)
    have hP : va_P D vwCl (qW cI h g0 v0 1 g gm) H := hP
    have hD : va_D A (qW cI h g0 v0 1 g gm) := hD
    refine lv_aload_n hx hb dX5_sees_23 rfl (lv_at hl 0 rfl) ?_
    refine va_get (D := D) (ci := 5) (v := .int 1) (C := RX5) (T := TX5) (N := 4) hx hb hts (by decide +kernel) hown hK hP 0 rfl rfl 0 (by decide) (hts (.fieldLink RX5 18 "WarrenModel" "thrown" "I") (by decide +kernel)) (fun _ h9 => h9) rfl dX5_sees_24 ?_
    refine lv_if_ne (tgt := 43) hx hb dX5_sees_27 (by decide) (fun _ => ?_) (fun z9 => absurd z9 (by decide))
    refine lv_iconst (v := 0) hx hb dX5_sees_43 (by decide) ?_
    have hP9 := hP
    have hD9 := hD
    exact W.zret (v := 0) hx hb hr rfl (fun T9 ht hW => ⟨⟨0, (1, g, gm), rfl, ⟨by first | rfl | (rw [(show seesTf x y = 1 from by first | rfl | (simp only [seesTf, c_5, Bool.false_eq_true, if_false, if_true]; done) | (simp [seesTf, c_5]; done))]; rfl), fun hz => absurd hz (by first | decide | (rw [(show seesTf x y = 1 from by first | rfl | (simp only [seesTf, c_5, Bool.false_eq_true, if_false, if_true]; done) | (simp [seesTf, c_5]; done))]; decide))⟩, by rw [ht]; exact hP9, va_K.moved hW.alike hK, hD9⟩, hS.F ht⟩) hS.2.2 dX5_sees_44
  · refine lv_iload_n hx hb dX5_sees_8 rfl (lv_at hl 2 rfl) ?_
    refine vp_callSi (va_Run.run (va_runS (As := [.int y]) (rest := [.ref h]) ⟨hx, hb, hml, hown, hts⟩ (c_X5_isCell l y) (va_cwS 1 hts gX5_sees_X5_isCell rfl rfl rfl (by decide +kernel) ⟨Nat.le_of_ble_eq_true rfl, Nat.le_of_ble_eq_true rfl⟩) ⟨fun _ _ _ _ q => q, fun _ _ _ => ⟨rfl, trivial⟩⟩ rfl rfl hl.1 rfl (lv_room (Nat.le_of_ble_eq_true rfl)) dX5_sees_9 ⟨Nat.zero_le _, Nat.zero_le _⟩)) (fun r hr9 => ?_)
    subst hr9
    refine w_bz (tgt := 19) hx hb dX5_sees_12 (by decide) (fun c_12 => ?_) (fun c_12 => ?_)
    · refine lv_iconst (v := 1) hx hb dX5_sees_19 (by decide) ?_
      refine va_put (D := D) (ci := 5) (v := .int 1) (ty := .int) (C := RX5) (T := TX5) (N := 4) hx hb hts (by decide +kernel) tyX5 tyX5_ok nmX5 hown hK hP hD hS 0 rfl rfl 0 (by decide) (hts (.fieldLink RX5 18 "WarrenModel" "thrown" "I") (by decide +kernel)) (fun _ h9 => h9) rfl (by decide +kernel) rfl rfl (Nat.le_of_ble_eq_true rfl) dX5_sees_20 (fun H locs hP hD hS => ?_)
      have hP : va_P D vwCl (qW cI h g0 v0 1 g gm) H := hP
      have hD : va_D A (qW cI h g0 v0 1 g gm) := hD
      refine lv_aload_n hx hb dX5_sees_23 rfl (lv_at hl 0 rfl) ?_
      refine va_get (D := D) (ci := 5) (v := .int 1) (C := RX5) (T := TX5) (N := 4) hx hb hts (by decide +kernel) hown hK hP 0 rfl rfl 0 (by decide) (hts (.fieldLink RX5 18 "WarrenModel" "thrown" "I") (by decide +kernel)) (fun _ h9 => h9) rfl dX5_sees_24 ?_
      refine lv_if_ne (tgt := 43) hx hb dX5_sees_27 (by decide) (fun _ => ?_) (fun z9 => absurd z9 (by decide))
      refine lv_iconst (v := 0) hx hb dX5_sees_43 (by decide) ?_
      have hP9 := hP
      have hD9 := hD
      exact W.zret (v := 0) hx hb hr rfl (fun T9 ht hW => ⟨⟨0, (1, g, gm), rfl, ⟨by first | rfl | (rw [(show seesTf x y = 1 from by first | rfl | (simp only [seesTf, c_5, c_12, Bool.false_eq_true, if_false, if_true]; done) | (simp [seesTf, c_5, c_12]; done))]; rfl), fun hz => absurd hz (by first | decide | (rw [(show seesTf x y = 1 from by first | rfl | (simp only [seesTf, c_5, c_12, Bool.false_eq_true, if_false, if_true]; done) | (simp [seesTf, c_5, c_12]; done))]; decide))⟩, by rw [ht]; exact hP9, va_K.moved hW.alike hK, hD9⟩, hS.F ht⟩) hS.2.2 dX5_sees_44
    · refine lv_iconst (v := 0) hx hb dX5_sees_15 (by decide) ?_
      refine lv_goto (tgt := 20) hx hb dX5_sees_16 (by decide) ?_
      refine va_put (D := D) (ci := 5) (v := .int 0) (ty := .int) (C := RX5) (T := TX5) (N := 4) hx hb hts (by decide +kernel) tyX5 tyX5_ok nmX5 hown hK hP hD hS 0 rfl rfl 0 (by decide) (hts (.fieldLink RX5 18 "WarrenModel" "thrown" "I") (by decide +kernel)) (fun _ h9 => h9) rfl (by decide +kernel) rfl rfl (Nat.le_of_ble_eq_true rfl) dX5_sees_20 (fun H locs hP hD hS => ?_)
      have hP : va_P D vwCl (qW cI h g0 v0 0 g gm) H := hP
      have hD : va_D A (qW cI h g0 v0 0 g gm) := hD
      refine lv_aload_n hx hb dX5_sees_23 rfl (lv_at hl 0 rfl) ?_
      refine va_get (D := D) (ci := 5) (v := .int 0) (C := RX5) (T := TX5) (N := 4) hx hb hts (by decide +kernel) hown hK hP 0 rfl rfl 0 (by decide) (hts (.fieldLink RX5 18 "WarrenModel" "thrown" "I") (by decide +kernel)) (fun _ h9 => h9) rfl dX5_sees_24 ?_
      refine lv_if_ne (tgt := 43) hx hb dX5_sees_27 (by decide) (fun z9 => absurd (by decide) z9) (fun _ => ?_)
      refine lv_aload_n hx hb dX5_sees_30 rfl (lv_at hl 0 rfl) ?_
      refine lv_iload_n hx hb dX5_sees_31 rfl (lv_at hl 1 rfl) ?_
      refine lv_iload_n hx hb dX5_sees_32 rfl (lv_at hl 2 rfl) ?_
      refine vp_callSi (va_Run.run (va_runV (As := [.int x, .int y]) (rest := []) ⟨hx, hb, hml, hown, hts⟩ (c_X5_seesNow_1 l D cI h g0 v0 0 g gm x y hgk c_5 c_12) (cwV 2 hts gX5_sees_X5_seesNow rfl rfl rfl (by decide +kernel) ⟨Nat.le_of_ble_eq_true rfl, Nat.le_of_ble_eq_true rfl⟩) ⟨preR_blind, va_recv hK hP (ci := 5) (q0 := 0) rfl rfl, preR_of hP hK hE [.ref h, .int x, .int y]⟩ rfl rfl hl.1 rfl (lv_room (Nat.le_of_ble_eq_true rfl)) dX5_sees_33 ⟨Nat.zero_le _, Nat.zero_le _⟩)) (fun r hr9 => ?_)
      subst hr9
      refine w_bz (tgt := 43) hx hb dX5_sees_36 (by decide) (fun c_36 => ?_) (fun c_36 => ?_)
      · refine lv_iconst (v := 0) hx hb dX5_sees_43 (by decide) ?_
        have hP9 := hP
        have hD9 := hD
        exact W.zret (v := 0) hx hb hr rfl (fun T9 ht hW => ⟨⟨0, (0, g, gm), rfl, ⟨by first | rfl | (rw [(show seesTf x y = 0 from by first | rfl | (simp only [seesTf, c_5, c_12, c_36, Bool.false_eq_true, if_false, if_true]; done) | (simp [seesTf, c_5, c_12, c_36]; done))]; rfl), fun _ => (by rw [c_36]; rfl)⟩, by rw [ht]; exact hP9, va_K.moved hW.alike hK, hD9⟩, hS.F ht⟩) hS.2.2 dX5_sees_44
      · refine lv_iconst (v := 1) hx hb dX5_sees_39 (by decide) ?_
        refine lv_goto (tgt := 44) hx hb dX5_sees_40 (by decide) ?_
        have hP9 := hP
        have hD9 := hD
        exact W.zret (v := 1) hx hb hr rfl (fun T9 ht hW => ⟨⟨1, (0, g, gm), rfl, ⟨by first | rfl | (rw [(show seesTf x y = 0 from by first | rfl | (simp only [seesTf, c_5, c_12, c_36, Bool.false_eq_true, if_false, if_true]; done) | (simp [seesTf, c_5, c_12, c_36]; done))]; rfl), fun _ => (by rw [c_36]; rfl)⟩, by rw [ht]; exact hP9, va_K.moved hW.alike hK, hD9⟩, hS.F ht⟩) hS.2.2 dX5_sees_44

set_option maxHeartbeats 4000000 in
set_option maxRecDepth 100000 in
theorem c_X5_knows_0 (l : Launch) (D : va_G) (cI : ClassId) (sz : Nat) (h g0 v0 : Nat) (th : Int32) (g : Nat → Int32) (gm : Int32) (x y : Int32) (hgz : ∀ j, 160 ≤ j → j < 683 → g j = 0) : Met l yX5_knows wsX5_knows ({ frames := 2, cells := 0, slots := 0, locals := 42 } : Room) (va_Pc [.ref h, .int x, .int y] (preM D cI (qW cI h g0 v0 th g gm) sz)) (va_Qi (fun (r : Int32) (u : (Int32 × (Nat → Int32) × Int32)) => u.1 = nI (knowsTf x y) ∧ (knowsTf x y = 0 → r = bi false)) (fun (u : (Int32 × (Nat → Int32) × Int32)) => posM D cI (va_A (qW cI h g0 v0 th g gm) sz) (qW cI h g0 v0 u.1 u.2.1 u.2.2)) (va_A (qW cI h g0 v0 th g gm) sz)) 0 0 (va_A (qW cI h g0 v0 th g gm) sz) := by
  refine Met.ofW (cc := cX5_knows) (maxL := 3) (ret := (some .boolean)) (by decide) rfl ?_
  intro p e s m args below meth c s₁ B hml hv
  obtain ⟨rfl, hsz, hP, hK, hE, hD0⟩ := hv
  have hx := B.exec
  have hb := B.bytes
  have hr := B.returns
  have hts := atoms_spec (ws := wsX5_knows) B.pre
  have hown : s.vm.findClass RX5 = some m.cls := findClass_of_methodNamed B.named
  have hlocks := B.notSynchronized
  subst hsz
  have hD := hD0.self (sz := s.heap.size)
  generalize hAe : va_A (qW cI h g0 v0 th g gm) s.heap.size = A at hD ⊢
  have hA : ∀ q : Nat, s.heap.size ≤ q → A q := fun q h => by rw [← hAe]; exact Or.inr h
  have hS : va_S A s.heap s.heap [] := va_S.rf
  have hP : va_P D vwCl (qW cI h g0 v0 th g gm) s.heap := hP
  have hl := lv_entry ([.ref h, .int x, .int y]) (n := 3) (Nat.le_of_ble_eq_true rfl)
  rw [lg_entry_eq]
  generalize (lg_sl ([.ref h, .int x, .int y]) ++ List.replicate (3 - (lg_sl ([.ref h, .int x, .int y])).length) Slot.unset).toArray = ls at hl ⊢
  have hl : lv_has ls 3 [(0, .ref h), (1, .int x), (2, .int y)] := hl
  refine lv_aload_n hx hb dX5_knows_0 rfl (lv_at hl 0 rfl) ?_
  refine lv_iload_n hx hb dX5_knows_1 rfl (lv_at hl 1 rfl) ?_
  refine lv_iconst (v := 0) hx hb dX5_knows_2 (by decide) ?_
  refine lv_iconst (v := 1) hx hb dX5_knows_3 (by decide) ?_
  refine vp_callSi (va_Run.run (va_runS (As := [.int x, .int 0, .int 1]) (rest := [.ref h]) ⟨hx, hb, hml, hown, hts⟩ (c_X5_isIn l x 0 1) (va_cwS 3 hts gX5_knows_X5_isIn rfl rfl rfl (by decide +kernel) ⟨Nat.le_of_ble_eq_true rfl, Nat.le_of_ble_eq_true rfl⟩) ⟨fun _ _ _ _ q => q, fun _ _ _ => ⟨rfl, trivial⟩⟩ rfl rfl hl.1 rfl (lv_room (Nat.le_of_ble_eq_true rfl)) dX5_knows_4 ⟨Nat.zero_le _, Nat.zero_le _⟩)) (fun r hr9 => ?_)
  subst hr9
  refine w_bnz (tgt := 14) hx hb dX5_knows_7 (by decide) (fun c_7 => ?_) (fun c_7 => ?_)
  · refine lv_iload_n hx hb dX5_knows_14 rfl (lv_at hl 2 rfl) ?_
    refine vp_callSi (va_Run.run (va_runS (As := [.int y]) (rest := [.ref h]) ⟨hx, hb, hml, hown, hts⟩ (c_X5_isCell l y) (va_cwS 1 hts gX5_knows_X5_isCell rfl rfl rfl (by decide +kernel) ⟨Nat.le_of_ble_eq_true rfl, Nat.le_of_ble_eq_true rfl⟩) ⟨fun _ _ _ _ q => q, fun _ _ _ => ⟨rfl, trivial⟩⟩ rfl rfl hl.1 rfl (lv_room (Nat.le_of_ble_eq_true rfl)) dX5_knows_15 ⟨Nat.zero_le _, Nat.zero_le _⟩)) (fun r hr9 => ?_)
    subst hr9
    refine w_bz (tgt := 25) hx hb dX5_knows_18 (by decide) (fun c_18 => ?_) (fun c_18 => ?_)
    · refine lv_iconst (v := 2) hx hb dX5_knows_25 (by decide) ?_
      refine va_put (D := D) (ci := 5) (v := .int 2) (ty := .int) (C := RX5) (T := TX5) (N := 4) hx hb hts (by decide +kernel) tyX5 tyX5_ok nmX5 hown hK hP hD hS 0 rfl rfl 0 (by decide) (hts (.fieldLink RX5 18 "WarrenModel" "thrown" "I") (by decide +kernel)) (fun _ h9 => h9) rfl (by decide +kernel) rfl rfl (Nat.le_of_ble_eq_true rfl) dX5_knows_26 (fun H locs hP hD hS => ?_)
      have hP : va_P D vwCl (qW cI h g0 v0 2 g gm) H := hP
      have hD : va_D A (qW cI h g0 v0 2 g gm) := hD
      refine lv_aload_n hx hb dX5_knows_29 rfl (lv_at hl 0 rfl) ?_
      refine va_get (D := D) (ci := 5) (v := .int 2) (C := RX5) (T := TX5) (N := 4) hx hb hts (by decide +kernel) hown hK hP 0 rfl rfl 0 (by decide) (hts (.fieldLink RX5 18 "WarrenModel" "thrown" "I") (by decide +kernel)) (fun _ h9 => h9) rfl dX5_knows_30 ?_
      refine lv_if_ne (tgt := 60) hx hb dX5_knows_33 (by decide) (fun _ => ?_) (fun z9 => absurd z9 (by decide))
      refine lv_iconst (v := 0) hx hb dX5_knows_60 (by decide) ?_
      have hP9 := hP
      have hD9 := hD
      exact W.zret (v := 0) hx hb hr rfl (fun T9 ht hW => ⟨⟨0, (2, g, gm), rfl, ⟨by first | rfl | (rw [(show knowsTf x y = 2 from by first | rfl | (simp only [knowsTf, c_7, c_18, Bool.false_eq_true, if_false, if_true]; done) | (simp [knowsTf, c_7, c_18]; done))]; rfl), fun hz => absurd hz (by first | decide | (rw [(show knowsTf x y = 2 from by first | rfl | (simp only [knowsTf, c_7, c_18, Bool.false_eq_true, if_false, if_true]; done) | (simp [knowsTf, c_7, c_18]; done))]; decide))⟩, by rw [ht]; exact hP9, va_K.moved hW.alike hK, hD9⟩, hS.F ht⟩) hS.2.2 dX5_knows_61
    · refine lv_iconst (v := 0) hx hb dX5_knows_21 (by decide) ?_
      refine lv_goto (tgt := 26) hx hb dX5_knows_22 (by decide) ?_
      refine va_put (D := D) (ci := 5) (v := .int 0) (ty := .int) (C := RX5) (T := TX5) (N := 4) hx hb hts (by decide +kernel) tyX5 tyX5_ok nmX5 hown hK hP hD hS 0 rfl rfl 0 (by decide) (hts (.fieldLink RX5 18 "WarrenModel" "thrown" "I") (by decide +kernel)) (fun _ h9 => h9) rfl (by decide +kernel) rfl rfl (Nat.le_of_ble_eq_true rfl) dX5_knows_26 (fun H locs hP hD hS => ?_)
      have hP : va_P D vwCl (qW cI h g0 v0 0 g gm) H := hP
      have hD : va_D A (qW cI h g0 v0 0 g gm) := hD
      refine lv_aload_n hx hb dX5_knows_29 rfl (lv_at hl 0 rfl) ?_
      refine va_get (D := D) (ci := 5) (v := .int 0) (C := RX5) (T := TX5) (N := 4) hx hb hts (by decide +kernel) hown hK hP 0 rfl rfl 0 (by decide) (hts (.fieldLink RX5 18 "WarrenModel" "thrown" "I") (by decide +kernel)) (fun _ h9 => h9) rfl dX5_knows_30 ?_
      refine lv_if_ne (tgt := 60) hx hb dX5_knows_33 (by decide) (fun z9 => absurd (by decide) z9) (fun _ => ?_)
      refine lv_aload_n hx hb dX5_knows_36 rfl (lv_at hl 0 rfl) ?_
      refine va_get (D := D) (ci := 5) (v := .ref g0) (C := RX5) (T := TX5) (N := 4) hx hb hts (by decide +kernel) hown hK hP 0 rfl rfl 1 (by decide) (hts (.fieldLink RX5 9 "WarrenModel" "g" "[I") (by decide +kernel)) (fun _ h9 => h9) rfl dX5_knows_37 ?_
      refine lv_sipush (v := 160) hx hb dX5_knows_40 (by decide) ?_
      refine lv_iload_n hx hb dX5_knows_43 rfl (lv_at hl 1 rfl) ?_
      refine lv_sipush (v := 160) hx hb dX5_knows_44 (by decide) ?_
      refine lv_imul hx hb dX5_knows_47 ?_
      refine lv_iadd hx hb dX5_knows_48 ?_
      refine lv_iload_n hx hb dX5_knows_49 rfl (lv_at hl 2 rfl) ?_
      refine lv_iadd hx hb dX5_knows_50 ?_
      refine va_iald hx hb hK hP 1 0 rfl rfl (know_vin c_7 c_18) dX5_knows_51 ?_
      rw [know_0 hgz c_7 c_18]
      refine lv_iconst (v := 1) hx hb dX5_knows_52 (by decide) ?_
      refine lv_icmp_ne (tgt := 60) hx hb dX5_knows_53 (by decide) (fun c_53 => ?_) (fun c_53 => absurd c_53 (by decide))
      refine lv_iconst (v := 0) hx hb dX5_knows_60 (by decide) ?_
      have hP9 := hP
      have hD9 := hD
      exact W.zret (v := 0) hx hb hr rfl (fun T9 ht hW => ⟨⟨0, (0, g, gm), rfl, ⟨by first | rfl | (rw [(show knowsTf x y = 0 from by first | rfl | (simp only [knowsTf, c_7, c_18, Bool.false_eq_true, if_false, if_true]; done) | (simp [knowsTf, c_7, c_18]; done))]; rfl), fun _ => rfl⟩, by rw [ht]; exact hP9, va_K.moved hW.alike hK, hD9⟩, hS.F ht⟩) hS.2.2 dX5_knows_61
  · refine lv_iconst (v := 1) hx hb dX5_knows_10 (by decide) ?_
    refine lv_goto (tgt := 26) hx hb dX5_knows_11 (by decide) ?_
    refine va_put (D := D) (ci := 5) (v := .int 1) (ty := .int) (C := RX5) (T := TX5) (N := 4) hx hb hts (by decide +kernel) tyX5 tyX5_ok nmX5 hown hK hP hD hS 0 rfl rfl 0 (by decide) (hts (.fieldLink RX5 18 "WarrenModel" "thrown" "I") (by decide +kernel)) (fun _ h9 => h9) rfl (by decide +kernel) rfl rfl (Nat.le_of_ble_eq_true rfl) dX5_knows_26 (fun H locs hP hD hS => ?_)
    have hP : va_P D vwCl (qW cI h g0 v0 1 g gm) H := hP
    have hD : va_D A (qW cI h g0 v0 1 g gm) := hD
    refine lv_aload_n hx hb dX5_knows_29 rfl (lv_at hl 0 rfl) ?_
    refine va_get (D := D) (ci := 5) (v := .int 1) (C := RX5) (T := TX5) (N := 4) hx hb hts (by decide +kernel) hown hK hP 0 rfl rfl 0 (by decide) (hts (.fieldLink RX5 18 "WarrenModel" "thrown" "I") (by decide +kernel)) (fun _ h9 => h9) rfl dX5_knows_30 ?_
    refine lv_if_ne (tgt := 60) hx hb dX5_knows_33 (by decide) (fun _ => ?_) (fun z9 => absurd z9 (by decide))
    refine lv_iconst (v := 0) hx hb dX5_knows_60 (by decide) ?_
    have hP9 := hP
    have hD9 := hD
    exact W.zret (v := 0) hx hb hr rfl (fun T9 ht hW => ⟨⟨0, (1, g, gm), rfl, ⟨by first | rfl | (rw [(show knowsTf x y = 1 from by first | rfl | (simp only [knowsTf, c_7, Bool.false_eq_true, if_false, if_true]; done) | (simp [knowsTf, c_7]; done))]; rfl), fun hz => absurd hz (by first | decide | (rw [(show knowsTf x y = 1 from by first | rfl | (simp only [knowsTf, c_7, Bool.false_eq_true, if_false, if_true]; done) | (simp [knowsTf, c_7]; done))]; decide))⟩, by rw [ht]; exact hP9, va_K.moved hW.alike hK, hD9⟩, hS.F ht⟩) hS.2.2 dX5_knows_61

set_option maxHeartbeats 4000000 in
set_option maxRecDepth 100000 in
theorem c_X5_many_0 (l : Launch) (D : va_G) (cI : ClassId) (sz : Nat) (h g0 v0 : Nat) (th : Int32) (g : Nat → Int32) (gm : Int32) (x : Int32) (hg0 : g (680 : Int32).toNatClampNeg = 0) (hgz : ∀ j, 160 ≤ j → j < 683 → g j = 0) (hgm : gm = 0) : Met l yX5_many wsX5_many ({ frames := 2, cells := 0, slots := 0, locals := 46 } : Room) (va_Pc [.ref h, .int x] (preM D cI (qW cI h g0 v0 th g gm) sz)) (va_Qi (fun (r : Int32) (u : (Int32 × (Nat → Int32) × Int32)) => u.1 = nI (manyT x) ∧ (manyT x = 0 → r = manyM x.toNatClampNeg)) (fun (u : (Int32 × (Nat → Int32) × Int32)) => posM D cI (va_A (qW cI h g0 v0 th g gm) sz) (qW cI h g0 v0 u.1 u.2.1 u.2.2)) (va_A (qW cI h g0 v0 th g gm) sz)) 0 0 (va_A (qW cI h g0 v0 th g gm) sz) := by
  refine Met.ofW (cc := cX5_many) (maxL := 2) (ret := (some .int)) (by decide) rfl ?_
  intro p e s m args below meth c s₁ B hml hv
  obtain ⟨rfl, hsz, hP, hK, hE, hD0⟩ := hv
  have hx := B.exec
  have hb := B.bytes
  have hr := B.returns
  have hts := atoms_spec (ws := wsX5_many) B.pre
  have hown : s.vm.findClass RX5 = some m.cls := findClass_of_methodNamed B.named
  have hlocks := B.notSynchronized
  subst hsz
  have hD := hD0.self (sz := s.heap.size)
  generalize hAe : va_A (qW cI h g0 v0 th g gm) s.heap.size = A at hD ⊢
  have hA : ∀ q : Nat, s.heap.size ≤ q → A q := fun q h => by rw [← hAe]; exact Or.inr h
  have hS : va_S A s.heap s.heap [] := va_S.rf
  have hP : va_P D vwCl (qW cI h g0 v0 th g gm) s.heap := hP
  have hl := lv_entry ([.ref h, .int x]) (n := 2) (Nat.le_of_ble_eq_true rfl)
  rw [lg_entry_eq]
  generalize (lg_sl ([.ref h, .int x]) ++ List.replicate (2 - (lg_sl ([.ref h, .int x])).length) Slot.unset).toArray = ls at hl ⊢
  have hl : lv_has ls 2 [(0, .ref h), (1, .int x)] := hl
  refine lv_aload_n hx hb dX5_many_0 rfl (lv_at hl 0 rfl) ?_
  refine lv_iconst (v := 0) hx hb dX5_many_1 (by decide) ?_
  refine va_put (D := D) (ci := 5) (v := .int 0) (ty := .int) (C := RX5) (T := TX5) (N := 4) hx hb hts (by decide +kernel) tyX5 tyX5_ok nmX5 hown hK hP hD hS 0 rfl rfl 0 (by decide) (hts (.fieldLink RX5 18 "WarrenModel" "thrown" "I") (by decide +kernel)) (fun _ h9 => h9) rfl (by decide +kernel) rfl rfl (Nat.le_of_ble_eq_true rfl) dX5_many_2 (fun H locs hP hD hS => ?_)
  have hP : va_P D vwCl (qW cI h g0 v0 0 g gm) H := hP
  have hD : va_D A (qW cI h g0 v0 0 g gm) := hD
  refine lv_iload_n hx hb dX5_many_5 rfl (lv_at hl 1 rfl) ?_
  refine lv_iconst (v := 0) hx hb dX5_many_6 (by decide) ?_
  refine lv_bipush (v := 8) hx hb dX5_many_7 (by decide) ?_
  refine vp_callSi (va_Run.run (va_runS (As := [.int x, .int 0, .int 8]) (rest := []) ⟨hx, hb, hml, hown, hts⟩ (c_X5_isIn l x 0 8) (va_cwS 3 hts gX5_many_X5_isIn rfl rfl rfl (by decide +kernel) ⟨Nat.le_of_ble_eq_true rfl, Nat.le_of_ble_eq_true rfl⟩) ⟨fun _ _ _ _ q => q, fun _ _ _ => ⟨rfl, trivial⟩⟩ rfl rfl hl.1 rfl (lv_room (Nat.le_of_ble_eq_true rfl)) dX5_many_9 ⟨Nat.zero_le _, Nat.zero_le _⟩)) (fun r hr9 => ?_)
  subst hr9
  refine w_bz (tgt := 23) hx hb dX5_many_12 (by decide) (fun c_12 => ?_) (fun c_12 => ?_)
  · refine lv_aload_n hx hb dX5_many_23 rfl (lv_at hl 0 rfl) ?_
    refine lv_iconst (v := 1) hx hb dX5_many_24 (by decide) ?_
    have hFc := va_free (wc := qW cI h g0 v0 0 g gm) hD hS hA [0, 1] rfl
    refine va_calli (va_runV (As := [.int 1]) (rest := []) ⟨hx, hb, hml, hown, hts⟩ (c_X5_no l D cI _ h g0 v0 0 g gm 1 ) (cwV 1 hts gX5_many_X5_no rfl rfl rfl (by decide +kernel) ⟨Nat.le_of_ble_eq_true rfl, Nat.le_of_ble_eq_true rfl⟩) ⟨preM_blind, va_recv hK hP (ci := 5) (q0 := 0) rfl rfl, preM_of hP hK hE hD [.ref h, .int 1]⟩ rfl rfl hl.1 rfl (lv_room (Nat.le_of_ble_eq_true rfl)) dX5_many_25 ⟨Nat.le_of_ble_eq_true rfl, Nat.le_of_ble_eq_true rfl⟩) hS (fun q _ h => hFc q h) hFc (fun r u t9 H1 locs ht hvm hw hB hz1 hk1 hS => ?_)
    obtain ⟨hP1, hK1, hD1⟩ := hB
    rw [ht] at hP1
    obtain ⟨rfl, rfl⟩ := hw
    obtain ⟨hP, hD⟩ := va_join (wr := []) (w1 := qW cI h g0 v0 1 g gm) hP hD [0, 1] [] rfl rfl (by decide) (by decide) hk1 hFc hP1 hD1
    generalize H1 = H at hP hS ⊢
    have hP : va_P D vwCl (qW cI h g0 v0 1 g gm) H := hP
    have hD : va_D A (qW cI h g0 v0 1 g gm) := hD
    have hP9 := hP
    have hD9 := hD
    exact W.iret (v := 0) hx hb hr (fun T9 ht hW => ⟨⟨0, (1, g, gm), rfl, ⟨by first | rfl | (rw [(show manyT x = 1 from by first | rfl | (simp only [manyT, c_12, Bool.false_eq_true, if_false, if_true]; done) | (simp [manyT, c_12]; done))]; rfl), fun hz => absurd hz (by first | decide | (rw [(show manyT x = 1 from by first | rfl | (simp only [manyT, c_12, Bool.false_eq_true, if_false, if_true]; done) | (simp [manyT, c_12]; done))]; decide))⟩, by rw [ht]; exact hP9, va_K.moved hW.alike hK, hD9⟩, hS.F ht⟩) hS.2.2 dX5_many_28
  · refine lv_aload_n hx hb dX5_many_15 rfl (lv_at hl 0 rfl) ?_
    refine lv_iload_n hx hb dX5_many_16 rfl (lv_at hl 1 rfl) ?_
    refine vp_callSi (va_Run.run (va_runV (As := [.int x]) (rest := []) ⟨hx, hb, hml, hown, hts⟩ (c_X5_manyNow_0 l D cI h g0 v0 0 g gm x hg0 hgz hgm c_12) (cwV 1 hts gX5_many_X5_manyNow rfl rfl rfl (by decide +kernel) ⟨Nat.le_of_ble_eq_true rfl, Nat.le_of_ble_eq_true rfl⟩) ⟨preR_blind, va_recv hK hP (ci := 5) (q0 := 0) rfl rfl, preR_of hP hK hE [.ref h, .int x]⟩ rfl rfl hl.1 rfl (lv_room (Nat.le_of_ble_eq_true rfl)) dX5_many_17 ⟨Nat.zero_le _, Nat.zero_le _⟩)) (fun r hr9 => ?_)
    subst hr9
    refine lv_goto (tgt := 28) hx hb dX5_many_20 (by decide) ?_
    have hP9 := hP
    have hD9 := hD
    exact W.iret (v := (manyM x.toNatClampNeg)) hx hb hr (fun T9 ht hW => ⟨⟨(manyM x.toNatClampNeg), (0, g, gm), rfl, ⟨by first | rfl | (rw [(show manyT x = 0 from by first | rfl | (simp only [manyT, c_12, Bool.false_eq_true, if_false, if_true]; done) | (simp [manyT, c_12]; done))]; rfl), fun _ => rfl⟩, by rw [ht]; exact hP9, va_K.moved hW.alike hK, hD9⟩, hS.F ht⟩) hS.2.2 dX5_many_28

set_option maxHeartbeats 4000000 in
set_option maxRecDepth 100000 in
theorem c_X5_dig_0 (l : Launch) (D : va_G) (cI : ClassId) (sz : Nat) (h g0 v0 : Nat) (th : Int32) (g : Nat → Int32) (gm : Int32) (x y z v : Int32) (hgk : ∀ j, j < 160 → g j = 1) : Met l yX5_dig wsX5_dig ({ frames := 1, cells := 0, slots := 0, locals := 22 } : Room) (va_Pc [.ref h, .int x, .int y, .int z, .int v] (preM D cI (qW cI h g0 v0 th g gm) sz)) (va_Qi (fun (r : Int32) (u : (Int32 × (Nat → Int32) × Int32)) => u.1 = nI (digT x y z v) ∧ (digT x y z v = 0 → r = digM x y z v 160 0 0)) (fun (u : (Int32 × (Nat → Int32) × Int32)) => posM D cI (va_A (qW cI h g0 v0 th g gm) sz) (qW cI h g0 v0 u.1 u.2.1 u.2.2)) (va_A (qW cI h g0 v0 th g gm) sz)) 0 0 (va_A (qW cI h g0 v0 th g gm) sz) := by
  refine Met.ofW (cc := cX5_dig) (maxL := 7) (ret := (some .int)) (by decide) rfl ?_
  intro p e s m args below meth c s₁ B hml hv
  obtain ⟨rfl, hsz, hP, hK, hE, hD0⟩ := hv
  have hx := B.exec
  have hb := B.bytes
  have hr := B.returns
  have hts := atoms_spec (ws := wsX5_dig) B.pre
  have hown : s.vm.findClass RX5 = some m.cls := findClass_of_methodNamed B.named
  have hlocks := B.notSynchronized
  subst hsz
  have hD := hD0.self (sz := s.heap.size)
  generalize hAe : va_A (qW cI h g0 v0 th g gm) s.heap.size = A at hD ⊢
  have hA : ∀ q : Nat, s.heap.size ≤ q → A q := fun q h => by rw [← hAe]; exact Or.inr h
  have hS : va_S A s.heap s.heap [] := va_S.rf
  have hP : va_P D vwCl (qW cI h g0 v0 th g gm) s.heap := hP
  have hl := lv_entry ([.ref h, .int x, .int y, .int z, .int v]) (n := 7) (Nat.le_of_ble_eq_true rfl)
  rw [lg_entry_eq]
  generalize (lg_sl ([.ref h, .int x, .int y, .int z, .int v]) ++ List.replicate (7 - (lg_sl ([.ref h, .int x, .int y, .int z, .int v])).length) Slot.unset).toArray = ls at hl ⊢
  have hl : lv_has ls 7 [(0, .ref h), (1, .int x), (2, .int y), (3, .int z), (4, .int v)] := hl
  refine lv_aload_n hx hb dX5_dig_0 rfl (lv_at hl 0 rfl) ?_
  refine lv_iconst (v := 0) hx hb dX5_dig_1 (by decide) ?_
  refine va_put (D := D) (ci := 5) (v := .int 0) (ty := .int) (C := RX5) (T := TX5) (N := 4) hx hb hts (by decide +kernel) tyX5 tyX5_ok nmX5 hown hK hP hD hS 0 rfl rfl 0 (by decide) (hts (.fieldLink RX5 18 "WarrenModel" "thrown" "I") (by decide +kernel)) (fun _ h9 => h9) rfl (by decide +kernel) rfl rfl (Nat.le_of_ble_eq_true rfl) dX5_dig_2 (fun H locs hP hD hS => ?_)
  have hP : va_P D vwCl (qW cI h g0 v0 0 g gm) H := hP
  have hD : va_D A (qW cI h g0 v0 0 g gm) := hD
  refine lv_iload_n hx hb dX5_dig_5 rfl (lv_at hl 1 rfl) ?_
  refine lv_iconst (v := 0) hx hb dX5_dig_6 (by decide) ?_
  refine lv_bipush (v := 15) hx hb dX5_dig_7 (by decide) ?_
  refine vp_callSi (va_Run.run (va_runS (As := [.int x, .int 0, .int 15]) (rest := []) ⟨hx, hb, hml, hown, hts⟩ (c_X5_isIn l x 0 15) (va_cwS 3 hts gX5_dig_X5_isIn rfl rfl rfl (by decide +kernel) ⟨Nat.le_of_ble_eq_true rfl, Nat.le_of_ble_eq_true rfl⟩) ⟨fun _ _ _ _ q => q, fun _ _ _ => ⟨rfl, trivial⟩⟩ rfl rfl hl.1 rfl (lv_room (Nat.le_of_ble_eq_true rfl)) dX5_dig_9 ⟨Nat.zero_le _, Nat.zero_le _⟩)) (fun r hr9 => ?_)
  subst hr9
  refine w_bz (tgt := 50) hx hb dX5_dig_12 (by decide) (fun c_12 => ?_) (fun c_12 => ?_)
  · refine lv_aload_n hx hb dX5_dig_50 rfl (lv_at hl 0 rfl) ?_
    refine lv_iconst (v := 1) hx hb dX5_dig_51 (by decide) ?_
    have hFc := va_free (wc := qW cI h g0 v0 0 g gm) hD hS hA [0, 1] rfl
    refine va_calli (va_runV (As := [.int 1]) (rest := []) ⟨hx, hb, hml, hown, hts⟩ (c_X5_no l D cI _ h g0 v0 0 g gm 1 ) (cwV 1 hts gX5_dig_X5_no rfl rfl rfl (by decide +kernel) ⟨Nat.le_of_ble_eq_true rfl, Nat.le_of_ble_eq_true rfl⟩) ⟨preM_blind, va_recv hK hP (ci := 5) (q0 := 0) rfl rfl, preM_of hP hK hE hD [.ref h, .int 1]⟩ rfl rfl hl.1 rfl (lv_room (Nat.le_of_ble_eq_true rfl)) dX5_dig_52 ⟨Nat.le_of_ble_eq_true rfl, Nat.le_of_ble_eq_true rfl⟩) hS (fun q _ h => hFc q h) hFc (fun r u t9 H1 locs ht hvm hw hB hz1 hk1 hS => ?_)
    obtain ⟨hP1, hK1, hD1⟩ := hB
    rw [ht] at hP1
    obtain ⟨rfl, rfl⟩ := hw
    obtain ⟨hP, hD⟩ := va_join (wr := []) (w1 := qW cI h g0 v0 1 g gm) hP hD [0, 1] [] rfl rfl (by decide) (by decide) hk1 hFc hP1 hD1
    generalize H1 = H at hP hS ⊢
    have hP : va_P D vwCl (qW cI h g0 v0 1 g gm) H := hP
    have hD : va_D A (qW cI h g0 v0 1 g gm) := hD
    have hP9 := hP
    have hD9 := hD
    exact W.iret (v := 0) hx hb hr (fun T9 ht hW => ⟨⟨0, (1, g, gm), rfl, ⟨by first | rfl | (rw [(show digT x y z v = 1 from by first | rfl | (simp only [digT, c_12, Bool.false_eq_true, if_false, if_true]; done) | (simp [digT, c_12]; done))]; rfl), fun hz => absurd hz (by first | decide | (rw [(show digT x y z v = 1 from by first | rfl | (simp only [digT, c_12, Bool.false_eq_true, if_false, if_true]; done) | (simp [digT, c_12]; done))]; decide))⟩, by rw [ht]; exact hP9, va_K.moved hW.alike hK, hD9⟩, hS.F ht⟩) hS.2.2 dX5_dig_55
  · refine lv_iload_n hx hb dX5_dig_15 rfl (lv_at hl 2 rfl) ?_
    refine lv_iconst (v := 0) hx hb dX5_dig_16 (by decide) ?_
    refine lv_bipush (v := 9) hx hb dX5_dig_17 (by decide) ?_
    refine vp_callSi (va_Run.run (va_runS (As := [.int y, .int 0, .int 9]) (rest := []) ⟨hx, hb, hml, hown, hts⟩ (c_X5_isIn l y 0 9) (va_cwS 3 hts gX5_dig_X5_isIn rfl rfl rfl (by decide +kernel) ⟨Nat.le_of_ble_eq_true rfl, Nat.le_of_ble_eq_true rfl⟩) ⟨fun _ _ _ _ q => q, fun _ _ _ => ⟨rfl, trivial⟩⟩ rfl rfl hl.1 rfl (lv_room (Nat.le_of_ble_eq_true rfl)) dX5_dig_19 ⟨Nat.zero_le _, Nat.zero_le _⟩)) (fun r hr9 => ?_)
    subst hr9
    refine w_bz (tgt := 50) hx hb dX5_dig_22 (by decide) (fun c_22 => ?_) (fun c_22 => ?_)
    · refine lv_aload_n hx hb dX5_dig_50 rfl (lv_at hl 0 rfl) ?_
      refine lv_iconst (v := 1) hx hb dX5_dig_51 (by decide) ?_
      have hFc := va_free (wc := qW cI h g0 v0 0 g gm) hD hS hA [0, 1] rfl
      refine va_calli (va_runV (As := [.int 1]) (rest := []) ⟨hx, hb, hml, hown, hts⟩ (c_X5_no l D cI _ h g0 v0 0 g gm 1 ) (cwV 1 hts gX5_dig_X5_no rfl rfl rfl (by decide +kernel) ⟨Nat.le_of_ble_eq_true rfl, Nat.le_of_ble_eq_true rfl⟩) ⟨preM_blind, va_recv hK hP (ci := 5) (q0 := 0) rfl rfl, preM_of hP hK hE hD [.ref h, .int 1]⟩ rfl rfl hl.1 rfl (lv_room (Nat.le_of_ble_eq_true rfl)) dX5_dig_52 ⟨Nat.le_of_ble_eq_true rfl, Nat.le_of_ble_eq_true rfl⟩) hS (fun q _ h => hFc q h) hFc (fun r u t9 H1 locs ht hvm hw hB hz1 hk1 hS => ?_)
      obtain ⟨hP1, hK1, hD1⟩ := hB
      rw [ht] at hP1
      obtain ⟨rfl, rfl⟩ := hw
      obtain ⟨hP, hD⟩ := va_join (wr := []) (w1 := qW cI h g0 v0 1 g gm) hP hD [0, 1] [] rfl rfl (by decide) (by decide) hk1 hFc hP1 hD1
      generalize H1 = H at hP hS ⊢
      have hP : va_P D vwCl (qW cI h g0 v0 1 g gm) H := hP
      have hD : va_D A (qW cI h g0 v0 1 g gm) := hD
      have hP9 := hP
      have hD9 := hD
      exact W.iret (v := 0) hx hb hr (fun T9 ht hW => ⟨⟨0, (1, g, gm), rfl, ⟨by first | rfl | (rw [(show digT x y z v = 1 from by first | rfl | (simp only [digT, c_12, c_22, Bool.false_eq_true, if_false, if_true]; done) | (simp [digT, c_12, c_22]; done))]; rfl), fun hz => absurd hz (by first | decide | (rw [(show digT x y z v = 1 from by first | rfl | (simp only [digT, c_12, c_22, Bool.false_eq_true, if_false, if_true]; done) | (simp [digT, c_12, c_22]; done))]; decide))⟩, by rw [ht]; exact hP9, va_K.moved hW.alike hK, hD9⟩, hS.F ht⟩) hS.2.2 dX5_dig_55
    · refine lv_iload_n hx hb dX5_dig_25 rfl (lv_at hl 3 rfl) ?_
      refine lv_iconst (v := 1) hx hb dX5_dig_26 (by decide) ?_
      refine lv_bipush (v := 16) hx hb dX5_dig_27 (by decide) ?_
      refine lv_iload_n hx hb dX5_dig_29 rfl (lv_at hl 1 rfl) ?_
      refine lv_isub hx hb dX5_dig_30 ?_
      refine vp_callSi (va_Run.run (va_runS (As := [.int z, .int 1, .int (16 - x)]) (rest := []) ⟨hx, hb, hml, hown, hts⟩ (c_X5_isIn l z 1 (16 - x)) (va_cwS 3 hts gX5_dig_X5_isIn rfl rfl rfl (by decide +kernel) ⟨Nat.le_of_ble_eq_true rfl, Nat.le_of_ble_eq_true rfl⟩) ⟨fun _ _ _ _ q => q, fun _ _ _ => ⟨rfl, trivial⟩⟩ rfl rfl hl.1 rfl (lv_room (Nat.le_of_ble_eq_true rfl)) dX5_dig_31 ⟨Nat.zero_le _, Nat.zero_le _⟩)) (fun r hr9 => ?_)
      subst hr9
      refine w_bz (tgt := 50) hx hb dX5_dig_34 (by decide) (fun c_34 => ?_) (fun c_34 => ?_)
      · refine lv_aload_n hx hb dX5_dig_50 rfl (lv_at hl 0 rfl) ?_
        refine lv_iconst (v := 1) hx hb dX5_dig_51 (by decide) ?_
        have hFc := va_free (wc := qW cI h g0 v0 0 g gm) hD hS hA [0, 1] rfl
        refine va_calli (va_runV (As := [.int 1]) (rest := []) ⟨hx, hb, hml, hown, hts⟩ (c_X5_no l D cI _ h g0 v0 0 g gm 1 ) (cwV 1 hts gX5_dig_X5_no rfl rfl rfl (by decide +kernel) ⟨Nat.le_of_ble_eq_true rfl, Nat.le_of_ble_eq_true rfl⟩) ⟨preM_blind, va_recv hK hP (ci := 5) (q0 := 0) rfl rfl, preM_of hP hK hE hD [.ref h, .int 1]⟩ rfl rfl hl.1 rfl (lv_room (Nat.le_of_ble_eq_true rfl)) dX5_dig_52 ⟨Nat.le_of_ble_eq_true rfl, Nat.le_of_ble_eq_true rfl⟩) hS (fun q _ h => hFc q h) hFc (fun r u t9 H1 locs ht hvm hw hB hz1 hk1 hS => ?_)
        obtain ⟨hP1, hK1, hD1⟩ := hB
        rw [ht] at hP1
        obtain ⟨rfl, rfl⟩ := hw
        obtain ⟨hP, hD⟩ := va_join (wr := []) (w1 := qW cI h g0 v0 1 g gm) hP hD [0, 1] [] rfl rfl (by decide) (by decide) hk1 hFc hP1 hD1
        generalize H1 = H at hP hS ⊢
        have hP : va_P D vwCl (qW cI h g0 v0 1 g gm) H := hP
        have hD : va_D A (qW cI h g0 v0 1 g gm) := hD
        have hP9 := hP
        have hD9 := hD
        exact W.iret (v := 0) hx hb hr (fun T9 ht hW => ⟨⟨0, (1, g, gm), rfl, ⟨by first | rfl | (rw [(show digT x y z v = 1 from by first | rfl | (simp only [digT, c_12, c_22, c_34, Bool.false_eq_true, if_false, if_true]; done) | (simp [digT, c_12, c_22, c_34]; done))]; rfl), fun hz => absurd hz (by first | decide | (rw [(show digT x y z v = 1 from by first | rfl | (simp only [digT, c_12, c_22, c_34, Bool.false_eq_true, if_false, if_true]; done) | (simp [digT, c_12, c_22, c_34]; done))]; decide))⟩, by rw [ht]; exact hP9, va_K.moved hW.alike hK, hD9⟩, hS.F ht⟩) hS.2.2 dX5_dig_55
      · refine lv_iload hx hb dX5_dig_37 (lv_at hl 4 rfl) ?_
        refine lv_iconst (v := 1) hx hb dX5_dig_39 (by decide) ?_
        refine lv_bipush (v := 10) hx hb dX5_dig_40 (by decide) ?_
        refine lv_iload_n hx hb dX5_dig_42 rfl (lv_at hl 2 rfl) ?_
        refine lv_isub hx hb dX5_dig_43 ?_
        refine vp_callSi (va_Run.run (va_runS (As := [.int v, .int 1, .int (10 - y)]) (rest := []) ⟨hx, hb, hml, hown, hts⟩ (c_X5_isIn l v 1 (10 - y)) (va_cwS 3 hts gX5_dig_X5_isIn rfl rfl rfl (by decide +kernel) ⟨Nat.le_of_ble_eq_true rfl, Nat.le_of_ble_eq_true rfl⟩) ⟨fun _ _ _ _ q => q, fun _ _ _ => ⟨rfl, trivial⟩⟩ rfl rfl hl.1 rfl (lv_room (Nat.le_of_ble_eq_true rfl)) dX5_dig_44 ⟨Nat.zero_le _, Nat.zero_le _⟩)) (fun r hr9 => ?_)
        subst hr9
        refine w_bnz (tgt := 56) hx hb dX5_dig_47 (by decide) (fun c_47 => ?_) (fun c_47 => ?_)
        · refine lv_iconst (v := 0) hx hb dX5_dig_56 (by decide) ?_
          refine lv_istore (lv' := [(5, .int 0), (0, .ref h), (1, .int x), (2, .int y), (3, .int z), (4, .int v)]) hx hb dX5_dig_57 hl (by decide) rfl (fun ls hl => ?_)
          refine lv_iconst (v := 0) hx hb dX5_dig_59 (by decide) ?_
          refine lv_istore (lv' := [(6, .int 0), (5, .int 0), (0, .ref h), (1, .int x), (2, .int y), (3, .int z), (4, .int v)]) hx hb dX5_dig_60 hl (by decide) rfl (fun ls hl => ?_)
          have L62 : ∀ (n k : Nat) (t : Int32) (g1 : Nat → Int32) (hk : k + n = 160) (hsp : digM x y z v 160 0 0 = digM x y z v n k t) (hgk1 : ∀ j, k ≤ j → j < 160 → g1 j = 1) (H : Heap) (locs : List Loc) (ls : Array Slot), lv_has ls 7 [(6, .int (nI k)), (5, .int t), (0, .ref h), (1, .int x), (2, .int y), (3, .int z), (4, .int v)] → va_P D vwCl (qW cI h g0 v0 0 g1 gm) H → va_D A (qW cI h g0 v0 0 g1 gm) → va_S A s.heap H locs → W p l e ({ frames := 1, cells := 0, slots := 0, locals := 22 } : Room) s m ([.ref h, .int x, .int y, .int z, .int v] : List Value).toArray below meth c H locs 0 0 (MQ below (va_Qi (fun (r : Int32) (u : (Int32 × (Nat → Int32) × Int32)) => u.1 = nI (digT x y z v) ∧ (digT x y z v = 0 → r = digM x y z v 160 0 0)) (fun (u : (Int32 × (Nat → Int32) × Int32)) => posM D cI A (qW cI h g0 v0 u.1 u.2.1 u.2.2)) A) ([.ref h, .int x, .int y, .int z, .int v] : List Value).toArray s 0 0 A) (F0 m 62 ls []) := by
            intro n
            induction n with
            | zero =>
              intro k t g1 hk hsp hgk1 H locs ls hl hP hD hS
              refine lv_iload hx hb dX5_dig_62 (lv_at hl 0 rfl) ?_
              refine lv_sipush (v := 160) hx hb dX5_dig_64 (by decide) ?_
              refine lv_icmp_ge (tgt := 143) hx hb dX5_dig_67 (by decide) (fun c_67 => ?_) (fun c_67 => absurd (nI_le (b := k) (a := 160) (by omega) (by omega)) c_67)
              refine lv_iload hx hb dX5_dig_143 (lv_at hl 1 rfl) ?_
              have hP9 := hP
              have hD9 := hD
              exact W.iret (v := t) hx hb hr (fun T9 ht hW => ⟨⟨t, (0, g1, gm), rfl, ⟨by first | rfl | (rw [(show digT x y z v = 0 from by first | rfl | (simp only [digT, c_12, c_22, c_34, c_47, if_pos c_67, Bool.false_eq_true, if_false, if_true]; done) | (simp [digT, c_12, c_22, c_34, c_47, c_67]; done))]; rfl), fun _ => by rw [hsp]; rfl⟩, by rw [ht]; exact hP9, va_K.moved hW.alike hK, hD9⟩, hS.F ht⟩) hS.2.2 dX5_dig_145
            | succ n ih62 =>
              intro k t g1 hk hsp hgk1 H locs ls hl hP hD hS
              refine lv_iload hx hb dX5_dig_62 (lv_at hl 0 rfl) ?_
              refine lv_sipush (v := 160) hx hb dX5_dig_64 (by decide) ?_
              refine lv_icmp_ge (tgt := 143) hx hb dX5_dig_67 (by decide) (fun c_67 => absurd c_67 (nI_ge (b := 160) (by omega) (by omega))) (fun c_67 => ?_)
              refine lv_iload hx hb dX5_dig_70 (lv_at hl 0 rfl) ?_
              refine vp_callSi (va_Run.run (va_runS (As := [.int (nI k)]) (rest := []) ⟨hx, hb, hml, hown, hts⟩ (c_X5_isEdge l (nI k)) (va_cwS 1 hts gX5_dig_X5_isEdge rfl rfl rfl (by decide +kernel) ⟨Nat.le_of_ble_eq_true rfl, Nat.le_of_ble_eq_true rfl⟩) ⟨fun _ _ _ _ q => q, fun _ _ _ => ⟨rfl, trivial⟩⟩ rfl rfl hl.1 rfl (lv_room (Nat.le_of_ble_eq_true rfl)) dX5_dig_72 ⟨Nat.zero_le _, Nat.zero_le _⟩)) (fun r hr9 => ?_)
              subst hr9
              refine w_bnz (tgt := 137) hx hb dX5_dig_75 (by decide) (fun c_75 => ?_) (fun c_75 => ?_)
              · refine lv_iinc (v := (nI (k + 1))) (lv' := [(6, .int (nI (k + 1))), (5, .int t), (0, .ref h), (1, .int x), (2, .int y), (3, .int z), (4, .int v)]) hx hb dX5_dig_137 hl (k := 0) rfl (nI_1 k) (by decide) rfl (fun ls hl => ?_)
                refine lv_goto (tgt := 62) hx hb dX5_dig_140 (by decide) ?_
                exact ih62 (k + 1) t g1 (by omega) (by rw [hsp]; simp [digM, digML, colI, rowI, c_75]) (fun j h1 h2 => hgk1 j (by omega) h2) _ _ ls (lv_sub hl [0, 1, 2, 3, 4, 5, 6] rfl) hP hD hS
              · refine lv_iload hx hb dX5_dig_78 (lv_at hl 0 rfl) ?_
                refine lv_bipush (v := 16) hx hb dX5_dig_80 (by decide) ?_
                refine lv_irem hx hb dX5_dig_82 (by decide) ?_
                refine lv_iload_n hx hb dX5_dig_83 rfl (lv_at hl 3 rfl) ?_
                refine lv_iload_n hx hb dX5_dig_84 rfl (lv_at hl 3 rfl) ?_
                refine lv_iload_n hx hb dX5_dig_85 rfl (lv_at hl 5 rfl) ?_
                refine lv_iadd hx hb dX5_dig_86 ?_
                refine lv_iconst (v := 1) hx hb dX5_dig_87 (by decide) ?_
                refine lv_isub hx hb dX5_dig_88 ?_
                refine vp_callSi (va_Run.run (va_runS (As := [.int (remI (nI k) 16), .int x, .int ((x + z) - 1)]) (rest := []) ⟨hx, hb, hml, hown, hts⟩ (c_X5_isIn l (remI (nI k) 16) x ((x + z) - 1)) (va_cwS 3 hts gX5_dig_X5_isIn rfl rfl rfl (by decide +kernel) ⟨Nat.le_of_ble_eq_true rfl, Nat.le_of_ble_eq_true rfl⟩) ⟨fun _ _ _ _ q => q, fun _ _ _ => ⟨rfl, trivial⟩⟩ rfl rfl hl.1 rfl (lv_room (Nat.le_of_ble_eq_true rfl)) dX5_dig_89 ⟨Nat.zero_le _, Nat.zero_le _⟩)) (fun r hr9 => ?_)
                subst hr9
                refine w_bz (tgt := 137) hx hb dX5_dig_92 (by decide) (fun c_92 => ?_) (fun c_92 => ?_)
                · refine lv_iinc (v := (nI (k + 1))) (lv' := [(6, .int (nI (k + 1))), (5, .int t), (0, .ref h), (1, .int x), (2, .int y), (3, .int z), (4, .int v)]) hx hb dX5_dig_137 hl (k := 0) rfl (nI_1 k) (by decide) rfl (fun ls hl => ?_)
                  refine lv_goto (tgt := 62) hx hb dX5_dig_140 (by decide) ?_
                  exact ih62 (k + 1) t g1 (by omega) (by rw [hsp]; simp [digM, digML, colI, rowI, c_75, c_92]) (fun j h1 h2 => hgk1 j (by omega) h2) _ _ ls (lv_sub hl [0, 1, 2, 3, 4, 5, 6] rfl) hP hD hS
                · refine lv_iload hx hb dX5_dig_95 (lv_at hl 0 rfl) ?_
                  refine lv_bipush (v := 16) hx hb dX5_dig_97 (by decide) ?_
                  refine lv_idiv hx hb dX5_dig_99 (by decide) ?_
                  refine lv_iload_n hx hb dX5_dig_100 rfl (lv_at hl 4 rfl) ?_
                  refine lv_iload_n hx hb dX5_dig_101 rfl (lv_at hl 4 rfl) ?_
                  refine lv_iload hx hb dX5_dig_102 (lv_at hl 6 rfl) ?_
                  refine lv_iadd hx hb dX5_dig_104 ?_
                  refine lv_iconst (v := 1) hx hb dX5_dig_105 (by decide) ?_
                  refine lv_isub hx hb dX5_dig_106 ?_
                  refine vp_callSi (va_Run.run (va_runS (As := [.int ((nI k) / 16), .int y, .int ((y + v) - 1)]) (rest := []) ⟨hx, hb, hml, hown, hts⟩ (c_X5_isIn l ((nI k) / 16) y ((y + v) - 1)) (va_cwS 3 hts gX5_dig_X5_isIn rfl rfl rfl (by decide +kernel) ⟨Nat.le_of_ble_eq_true rfl, Nat.le_of_ble_eq_true rfl⟩) ⟨fun _ _ _ _ q => q, fun _ _ _ => ⟨rfl, trivial⟩⟩ rfl rfl hl.1 rfl (lv_room (Nat.le_of_ble_eq_true rfl)) dX5_dig_107 ⟨Nat.zero_le _, Nat.zero_le _⟩)) (fun r hr9 => ?_)
                  subst hr9
                  refine w_bz (tgt := 137) hx hb dX5_dig_110 (by decide) (fun c_110 => ?_) (fun c_110 => ?_)
                  · refine lv_iinc (v := (nI (k + 1))) (lv' := [(6, .int (nI (k + 1))), (5, .int t), (0, .ref h), (1, .int x), (2, .int y), (3, .int z), (4, .int v)]) hx hb dX5_dig_137 hl (k := 0) rfl (nI_1 k) (by decide) rfl (fun ls hl => ?_)
                    refine lv_goto (tgt := 62) hx hb dX5_dig_140 (by decide) ?_
                    exact ih62 (k + 1) t g1 (by omega) (by rw [hsp]; simp [digM, digML, colI, rowI, c_75, c_92, c_110]) (fun j h1 h2 => hgk1 j (by omega) h2) _ _ ls (lv_sub hl [0, 1, 2, 3, 4, 5, 6] rfl) hP hD hS
                  · refine lv_aload_n hx hb dX5_dig_113 rfl (lv_at hl 2 rfl) ?_
                    refine va_get (D := D) (ci := 5) (v := .ref g0) (C := RX5) (T := TX5) (N := 4) hx hb hts (by decide +kernel) hown hK hP 0 rfl rfl 1 (by decide) (hts (.fieldLink RX5 9 "WarrenModel" "g" "[I") (by decide +kernel)) (fun _ h9 => h9) rfl dX5_dig_114 ?_
                    refine lv_iload hx hb dX5_dig_117 (lv_at hl 0 rfl) ?_
                    refine va_iald hx hb hK hP 1 0 rfl rfl (vp_in_nI (n := k) (by omega) (by decide)) dX5_dig_119 ?_
                    rw [show (g1 (nI k).toNatClampNeg) = 1 from by rw [nI_clamp (by omega)]; exact hgk1 k (by omega) (by omega)]
                    refine lv_if_ne (tgt := 126) hx hb dX5_dig_120 (by decide) (fun _ => ?_) (fun z9 => absurd z9 (by decide))
                    refine lv_aload_n hx hb dX5_dig_126 rfl (lv_at hl 2 rfl) ?_
                    refine va_get (D := D) (ci := 5) (v := .ref g0) (C := RX5) (T := TX5) (N := 4) hx hb hts (by decide +kernel) hown hK hP 0 rfl rfl 1 (by decide) (hts (.fieldLink RX5 9 "WarrenModel" "g" "[I") (by decide +kernel)) (fun _ h9 => h9) rfl dX5_dig_127 ?_
                    refine lv_iload hx hb dX5_dig_130 (lv_at hl 0 rfl) ?_
                    refine lv_iconst (v := 0) hx hb dX5_dig_132 (by decide) ?_
                    refine va_iast hx hb hK hP hD hS 1 0 rfl rfl (vp_in_nI (n := k) (by omega) (by decide)) dX5_dig_133 (fun H locs hP hD hS => ?_)
                    have hP : va_P D vwCl (qW cI h g0 v0 0 (upd g1 (nI k).toNatClampNeg 0) gm) H := hP
                    have hD : va_D A (qW cI h g0 v0 0 (upd g1 (nI k).toNatClampNeg 0) gm) := hD
                    refine lv_iinc (v := (t + 1)) (lv' := [(5, .int (t + 1)), (6, .int (nI k)), (0, .ref h), (1, .int x), (2, .int y), (3, .int z), (4, .int v)]) hx hb dX5_dig_134 hl (k := 1) rfl rfl (by decide) rfl (fun ls hl => ?_)
                    refine lv_iinc (v := (nI (k + 1))) (lv' := [(6, .int (nI (k + 1))), (5, .int (t + 1)), (0, .ref h), (1, .int x), (2, .int y), (3, .int z), (4, .int v)]) hx hb dX5_dig_137 hl (k := 1) rfl (nI_1 k) (by decide) rfl (fun ls hl => ?_)
                    refine lv_goto (tgt := 62) hx hb dX5_dig_140 (by decide) ?_
                    exact ih62 (k + 1) (t + 1) (upd g1 (nI k).toNatClampNeg 0) (by omega) (by rw [hsp]; simp [digM, digML, colI, rowI, c_75, c_92, c_110]) (dig_put hgk1 (by omega)) _ _ ls (lv_sub hl [0, 1, 2, 3, 4, 5, 6] rfl) hP hD hS
          exact L62 160 0 0 g (by omega) rfl (fun j _ h => hgk j h) _ _ ls (lv_sub hl [0, 1, 2, 3, 4, 5, 6] rfl) hP hD hS
        · refine lv_aload_n hx hb dX5_dig_50 rfl (lv_at hl 0 rfl) ?_
          refine lv_iconst (v := 1) hx hb dX5_dig_51 (by decide) ?_
          have hFc := va_free (wc := qW cI h g0 v0 0 g gm) hD hS hA [0, 1] rfl
          refine va_calli (va_runV (As := [.int 1]) (rest := []) ⟨hx, hb, hml, hown, hts⟩ (c_X5_no l D cI _ h g0 v0 0 g gm 1 ) (cwV 1 hts gX5_dig_X5_no rfl rfl rfl (by decide +kernel) ⟨Nat.le_of_ble_eq_true rfl, Nat.le_of_ble_eq_true rfl⟩) ⟨preM_blind, va_recv hK hP (ci := 5) (q0 := 0) rfl rfl, preM_of hP hK hE hD [.ref h, .int 1]⟩ rfl rfl hl.1 rfl (lv_room (Nat.le_of_ble_eq_true rfl)) dX5_dig_52 ⟨Nat.le_of_ble_eq_true rfl, Nat.le_of_ble_eq_true rfl⟩) hS (fun q _ h => hFc q h) hFc (fun r u t9 H1 locs ht hvm hw hB hz1 hk1 hS => ?_)
          obtain ⟨hP1, hK1, hD1⟩ := hB
          rw [ht] at hP1
          obtain ⟨rfl, rfl⟩ := hw
          obtain ⟨hP, hD⟩ := va_join (wr := []) (w1 := qW cI h g0 v0 1 g gm) hP hD [0, 1] [] rfl rfl (by decide) (by decide) hk1 hFc hP1 hD1
          generalize H1 = H at hP hS ⊢
          have hP : va_P D vwCl (qW cI h g0 v0 1 g gm) H := hP
          have hD : va_D A (qW cI h g0 v0 1 g gm) := hD
          have hP9 := hP
          have hD9 := hD
          exact W.iret (v := 0) hx hb hr (fun T9 ht hW => ⟨⟨0, (1, g, gm), rfl, ⟨by first | rfl | (rw [(show digT x y z v = 1 from by first | rfl | (simp only [digT, c_12, c_22, c_34, c_47, Bool.false_eq_true, if_false, if_true]; done) | (simp [digT, c_12, c_22, c_34, c_47]; done))]; rfl), fun hz => absurd hz (by first | decide | (rw [(show digT x y z v = 1 from by first | rfl | (simp only [digT, c_12, c_22, c_34, c_47, Bool.false_eq_true, if_false, if_true]; done) | (simp [digT, c_12, c_22, c_34, c_47]; done))]; decide))⟩, by rw [ht]; exact hP9, va_K.moved hW.alike hK, hD9⟩, hS.F ht⟩) hS.2.2 dX5_dig_55

set_option maxHeartbeats 4000000 in
set_option maxRecDepth 100000 in
theorem c_X5_act_0 (l : Launch) (D : va_G) (cI : ClassId) (sz : Nat) (h g0 v0 : Nat) (th : Int32) (g : Nat → Int32) (gm : Int32) (x : Int32) (hg0 : g (680 : Int32).toNatClampNeg = 0) : Met l yX5_act wsX5_act ({ frames := 1, cells := 0, slots := 0, locals := 22 } : Room) (va_Pc [.ref h, .int x] (preM D cI (qW cI h g0 v0 th g gm) sz)) (va_Qi (fun (r : Int32) (u : (Int32 × (Nat → Int32) × Int32)) => u.1 = nI (actTf x) ∧ (actTf x = 0 → r = 0)) (fun (u : (Int32 × (Nat → Int32) × Int32)) => posM D cI (va_A (qW cI h g0 v0 th g gm) sz) (qW cI h g0 v0 u.1 u.2.1 u.2.2)) (va_A (qW cI h g0 v0 th g gm) sz)) 0 0 (va_A (qW cI h g0 v0 th g gm) sz) := by
  refine Met.ofW (cc := cX5_act) (maxL := 3) (ret := (some .int)) (by decide) rfl ?_
  intro p e s m args below meth c s₁ B hml hv
  obtain ⟨rfl, hsz, hP, hK, hE, hD0⟩ := hv
  have hx := B.exec
  have hb := B.bytes
  have hr := B.returns
  have hts := atoms_spec (ws := wsX5_act) B.pre
  have hown : s.vm.findClass RX5 = some m.cls := findClass_of_methodNamed B.named
  have hlocks := B.notSynchronized
  subst hsz
  have hD := hD0.self (sz := s.heap.size)
  generalize hAe : va_A (qW cI h g0 v0 th g gm) s.heap.size = A at hD ⊢
  have hA : ∀ q : Nat, s.heap.size ≤ q → A q := fun q h => by rw [← hAe]; exact Or.inr h
  have hS : va_S A s.heap s.heap [] := va_S.rf
  have hP : va_P D vwCl (qW cI h g0 v0 th g gm) s.heap := hP
  have hl := lv_entry ([.ref h, .int x]) (n := 3) (Nat.le_of_ble_eq_true rfl)
  rw [lg_entry_eq]
  generalize (lg_sl ([.ref h, .int x]) ++ List.replicate (3 - (lg_sl ([.ref h, .int x])).length) Slot.unset).toArray = ls at hl ⊢
  have hl : lv_has ls 3 [(0, .ref h), (1, .int x)] := hl
  refine lv_aload_n hx hb dX5_act_0 rfl (lv_at hl 0 rfl) ?_
  refine lv_iconst (v := 0) hx hb dX5_act_1 (by decide) ?_
  refine va_put (D := D) (ci := 5) (v := .int 0) (ty := .int) (C := RX5) (T := TX5) (N := 4) hx hb hts (by decide +kernel) tyX5 tyX5_ok nmX5 hown hK hP hD hS 0 rfl rfl 0 (by decide) (hts (.fieldLink RX5 18 "WarrenModel" "thrown" "I") (by decide +kernel)) (fun _ h9 => h9) rfl (by decide +kernel) rfl rfl (Nat.le_of_ble_eq_true rfl) dX5_act_2 (fun H locs hP hD hS => ?_)
  have hP : va_P D vwCl (qW cI h g0 v0 0 g gm) H := hP
  have hD : va_D A (qW cI h g0 v0 0 g gm) := hD
  refine lv_iload_n hx hb dX5_act_5 rfl (lv_at hl 1 rfl) ?_
  refine lv_iconst (v := 0) hx hb dX5_act_6 (by decide) ?_
  refine lv_bipush (v := 7) hx hb dX5_act_7 (by decide) ?_
  refine vp_callSi (va_Run.run (va_runS (As := [.int x, .int 0, .int 7]) (rest := []) ⟨hx, hb, hml, hown, hts⟩ (c_X5_isIn l x 0 7) (va_cwS 3 hts gX5_act_X5_isIn rfl rfl rfl (by decide +kernel) ⟨Nat.le_of_ble_eq_true rfl, Nat.le_of_ble_eq_true rfl⟩) ⟨fun _ _ _ _ q => q, fun _ _ _ => ⟨rfl, trivial⟩⟩ rfl rfl hl.1 rfl (lv_room (Nat.le_of_ble_eq_true rfl)) dX5_act_9 ⟨Nat.zero_le _, Nat.zero_le _⟩)) (fun r hr9 => ?_)
  subst hr9
  refine w_bnz (tgt := 21) hx hb dX5_act_12 (by decide) (fun c_12 => ?_) (fun c_12 => ?_)
  · refine lv_aload_n hx hb dX5_act_21 rfl (lv_at hl 0 rfl) ?_
    refine vp_callSi (va_Run.run (va_runV (As := []) (rest := []) ⟨hx, hb, hml, hown, hts⟩ (c_X5_turn_0 l D cI h g0 v0 0 g gm  hg0) (cwV 0 hts gX5_act_X5_turn rfl rfl rfl (by decide +kernel) ⟨Nat.le_of_ble_eq_true rfl, Nat.le_of_ble_eq_true rfl⟩) ⟨preR_blind, va_recv hK hP (ci := 5) (q0 := 0) rfl rfl, preR_of hP hK hE [.ref h]⟩ rfl rfl hl.1 rfl (lv_room (Nat.le_of_ble_eq_true rfl)) dX5_act_22 ⟨Nat.zero_le _, Nat.zero_le _⟩)) (fun r hr9 => ?_)
    subst hr9
    refine lv_istore_n (lv' := [(2, .int (-1)), (0, .ref h), (1, .int x)]) hx hb dX5_act_25 rfl hl (by decide) rfl (fun ls hl => ?_)
    refine lv_iload_n hx hb dX5_act_26 rfl (lv_at hl 0 rfl) ?_
    refine lv_iconst (v := (-1)) hx hb dX5_act_27 (by decide) ?_
    refine lv_icmp_eq (tgt := 40) hx hb dX5_act_28 (by decide) (fun c_28 => ?_) (fun c_28 => absurd (rfl) c_28)
    refine lv_aload_n hx hb dX5_act_40 rfl (lv_at hl 1 rfl) ?_
    refine lv_iconst (v := 2) hx hb dX5_act_41 (by decide) ?_
    have hFc := va_free (wc := qW cI h g0 v0 0 g gm) hD hS hA [0, 1] rfl
    refine va_calli (va_runV (As := [.int 2]) (rest := []) ⟨hx, hb, hml, hown, hts⟩ (c_X5_no l D cI _ h g0 v0 0 g gm 2 ) (cwV 1 hts gX5_act_X5_no rfl rfl rfl (by decide +kernel) ⟨Nat.le_of_ble_eq_true rfl, Nat.le_of_ble_eq_true rfl⟩) ⟨preM_blind, va_recv hK hP (ci := 5) (q0 := 0) rfl rfl, preM_of hP hK hE hD [.ref h, .int 2]⟩ rfl rfl hl.1 rfl (lv_room (Nat.le_of_ble_eq_true rfl)) dX5_act_42 ⟨Nat.le_of_ble_eq_true rfl, Nat.le_of_ble_eq_true rfl⟩) hS (fun q _ h => hFc q h) hFc (fun r u t9 H1 locs ht hvm hw hB hz1 hk1 hS => ?_)
    obtain ⟨hP1, hK1, hD1⟩ := hB
    rw [ht] at hP1
    obtain ⟨rfl, rfl⟩ := hw
    obtain ⟨hP, hD⟩ := va_join (wr := []) (w1 := qW cI h g0 v0 2 g gm) hP hD [0, 1] [] rfl rfl (by decide) (by decide) hk1 hFc hP1 hD1
    generalize H1 = H at hP hS ⊢
    have hP : va_P D vwCl (qW cI h g0 v0 2 g gm) H := hP
    have hD : va_D A (qW cI h g0 v0 2 g gm) := hD
    have hP9 := hP
    have hD9 := hD
    exact W.iret (v := 0) hx hb hr (fun T9 ht hW => ⟨⟨0, (2, g, gm), rfl, ⟨by first | rfl | (rw [(show actTf x = 2 from by first | rfl | (simp only [actTf, c_12, if_pos c_28, Bool.false_eq_true, if_false, if_true]; done) | (simp [actTf, c_12, c_28]; done))]; rfl), fun hz => absurd hz (by first | decide | (rw [(show actTf x = 2 from by first | rfl | (simp only [actTf, c_12, if_pos c_28, Bool.false_eq_true, if_false, if_true]; done) | (simp [actTf, c_12, c_28]; done))]; decide))⟩, by rw [ht]; exact hP9, va_K.moved hW.alike hK, hD9⟩, hS.F ht⟩) hS.2.2 dX5_act_45
  · refine lv_aload_n hx hb dX5_act_15 rfl (lv_at hl 0 rfl) ?_
    refine lv_iconst (v := 1) hx hb dX5_act_16 (by decide) ?_
    have hFc := va_free (wc := qW cI h g0 v0 0 g gm) hD hS hA [0, 1] rfl
    refine va_calli (va_runV (As := [.int 1]) (rest := []) ⟨hx, hb, hml, hown, hts⟩ (c_X5_no l D cI _ h g0 v0 0 g gm 1 ) (cwV 1 hts gX5_act_X5_no rfl rfl rfl (by decide +kernel) ⟨Nat.le_of_ble_eq_true rfl, Nat.le_of_ble_eq_true rfl⟩) ⟨preM_blind, va_recv hK hP (ci := 5) (q0 := 0) rfl rfl, preM_of hP hK hE hD [.ref h, .int 1]⟩ rfl rfl hl.1 rfl (lv_room (Nat.le_of_ble_eq_true rfl)) dX5_act_17 ⟨Nat.le_of_ble_eq_true rfl, Nat.le_of_ble_eq_true rfl⟩) hS (fun q _ h => hFc q h) hFc (fun r u t9 H1 locs ht hvm hw hB hz1 hk1 hS => ?_)
    obtain ⟨hP1, hK1, hD1⟩ := hB
    rw [ht] at hP1
    obtain ⟨rfl, rfl⟩ := hw
    obtain ⟨hP, hD⟩ := va_join (wr := []) (w1 := qW cI h g0 v0 1 g gm) hP hD [0, 1] [] rfl rfl (by decide) (by decide) hk1 hFc hP1 hD1
    generalize H1 = H at hP hS ⊢
    have hP : va_P D vwCl (qW cI h g0 v0 1 g gm) H := hP
    have hD : va_D A (qW cI h g0 v0 1 g gm) := hD
    have hP9 := hP
    have hD9 := hD
    exact W.iret (v := 0) hx hb hr (fun T9 ht hW => ⟨⟨0, (1, g, gm), rfl, ⟨by first | rfl | (rw [(show actTf x = 1 from by first | rfl | (simp only [actTf, c_12, Bool.false_eq_true, if_false, if_true]; done) | (simp [actTf, c_12]; done))]; rfl), fun hz => absurd hz (by first | decide | (rw [(show actTf x = 1 from by first | rfl | (simp only [actTf, c_12, Bool.false_eq_true, if_false, if_true]; done) | (simp [actTf, c_12]; done))]; decide))⟩, by rw [ht]; exact hP9, va_K.moved hW.alike hK, hD9⟩, hS.F ht⟩) hS.2.2 dX5_act_20

set_option maxHeartbeats 4000000 in
set_option maxRecDepth 100000 in
theorem c_X5_follow_0 (l : Launch) (D : va_G) (cI : ClassId) (sz : Nat) (h g0 v0 : Nat) (th : Int32) (g : Nat → Int32) (gm : Int32) (x : Int32) (hg0 : g (680 : Int32).toNatClampNeg = 0) : Met l yX5_follow wsX5_follow ({ frames := 2, cells := 0, slots := 0, locals := 46 } : Room) (va_Pc [.ref h, .int x] (preM D cI (qW cI h g0 v0 th g gm) sz)) (va_Qi (fun (r : Int32) (u : (Int32 × (Nat → Int32) × Int32)) => u.1 = nI (followT x) ∧ (followT x = 0 → r = 0)) (fun (u : (Int32 × (Nat → Int32) × Int32)) => posM D cI (va_A (qW cI h g0 v0 th g gm) sz) (qW cI h g0 v0 u.1 u.2.1 u.2.2)) (va_A (qW cI h g0 v0 th g gm) sz)) 0 0 (va_A (qW cI h g0 v0 th g gm) sz) := by
  refine Met.ofW (cc := cX5_follow) (maxL := 2) (ret := (some .int)) (by decide) rfl ?_
  intro p e s m args below meth c s₁ B hml hv
  obtain ⟨rfl, hsz, hP, hK, hE, hD0⟩ := hv
  have hx := B.exec
  have hb := B.bytes
  have hr := B.returns
  have hts := atoms_spec (ws := wsX5_follow) B.pre
  have hown : s.vm.findClass RX5 = some m.cls := findClass_of_methodNamed B.named
  have hlocks := B.notSynchronized
  subst hsz
  have hD := hD0.self (sz := s.heap.size)
  generalize hAe : va_A (qW cI h g0 v0 th g gm) s.heap.size = A at hD ⊢
  have hA : ∀ q : Nat, s.heap.size ≤ q → A q := fun q h => by rw [← hAe]; exact Or.inr h
  have hS : va_S A s.heap s.heap [] := va_S.rf
  have hP : va_P D vwCl (qW cI h g0 v0 th g gm) s.heap := hP
  have hl := lv_entry ([.ref h, .int x]) (n := 2) (Nat.le_of_ble_eq_true rfl)
  rw [lg_entry_eq]
  generalize (lg_sl ([.ref h, .int x]) ++ List.replicate (2 - (lg_sl ([.ref h, .int x])).length) Slot.unset).toArray = ls at hl ⊢
  have hl : lv_has ls 2 [(0, .ref h), (1, .int x)] := hl
  refine lv_aload_n hx hb dX5_follow_0 rfl (lv_at hl 0 rfl) ?_
  refine lv_iconst (v := 0) hx hb dX5_follow_1 (by decide) ?_
  refine va_put (D := D) (ci := 5) (v := .int 0) (ty := .int) (C := RX5) (T := TX5) (N := 4) hx hb hts (by decide +kernel) tyX5 tyX5_ok nmX5 hown hK hP hD hS 0 rfl rfl 0 (by decide) (hts (.fieldLink RX5 18 "WarrenModel" "thrown" "I") (by decide +kernel)) (fun _ h9 => h9) rfl (by decide +kernel) rfl rfl (Nat.le_of_ble_eq_true rfl) dX5_follow_2 (fun H locs hP hD hS => ?_)
  have hP : va_P D vwCl (qW cI h g0 v0 0 g gm) H := hP
  have hD : va_D A (qW cI h g0 v0 0 g gm) := hD
  refine lv_iload_n hx hb dX5_follow_5 rfl (lv_at hl 1 rfl) ?_
  refine lv_iconst (v := 1) hx hb dX5_follow_6 (by decide) ?_
  refine lv_bipush (v := 40) hx hb dX5_follow_7 (by decide) ?_
  refine vp_callSi (va_Run.run (va_runS (As := [.int x, .int 1, .int 40]) (rest := []) ⟨hx, hb, hml, hown, hts⟩ (c_X5_isIn l x 1 40) (va_cwS 3 hts gX5_follow_X5_isIn rfl rfl rfl (by decide +kernel) ⟨Nat.le_of_ble_eq_true rfl, Nat.le_of_ble_eq_true rfl⟩) ⟨fun _ _ _ _ q => q, fun _ _ _ => ⟨rfl, trivial⟩⟩ rfl rfl hl.1 rfl (lv_room (Nat.le_of_ble_eq_true rfl)) dX5_follow_9 ⟨Nat.zero_le _, Nat.zero_le _⟩)) (fun r hr9 => ?_)
  subst hr9
  refine w_bz (tgt := 23) hx hb dX5_follow_12 (by decide) (fun c_12 => ?_) (fun c_12 => ?_)
  · refine lv_aload_n hx hb dX5_follow_23 rfl (lv_at hl 0 rfl) ?_
    refine lv_iconst (v := 1) hx hb dX5_follow_24 (by decide) ?_
    have hFc := va_free (wc := qW cI h g0 v0 0 g gm) hD hS hA [0, 1] rfl
    refine va_calli (va_runV (As := [.int 1]) (rest := []) ⟨hx, hb, hml, hown, hts⟩ (c_X5_no l D cI _ h g0 v0 0 g gm 1 ) (cwV 1 hts gX5_follow_X5_no rfl rfl rfl (by decide +kernel) ⟨Nat.le_of_ble_eq_true rfl, Nat.le_of_ble_eq_true rfl⟩) ⟨preM_blind, va_recv hK hP (ci := 5) (q0 := 0) rfl rfl, preM_of hP hK hE hD [.ref h, .int 1]⟩ rfl rfl hl.1 rfl (lv_room (Nat.le_of_ble_eq_true rfl)) dX5_follow_25 ⟨Nat.le_of_ble_eq_true rfl, Nat.le_of_ble_eq_true rfl⟩) hS (fun q _ h => hFc q h) hFc (fun r u t9 H1 locs ht hvm hw hB hz1 hk1 hS => ?_)
    obtain ⟨hP1, hK1, hD1⟩ := hB
    rw [ht] at hP1
    obtain ⟨rfl, rfl⟩ := hw
    obtain ⟨hP, hD⟩ := va_join (wr := []) (w1 := qW cI h g0 v0 1 g gm) hP hD [0, 1] [] rfl rfl (by decide) (by decide) hk1 hFc hP1 hD1
    generalize H1 = H at hP hS ⊢
    have hP : va_P D vwCl (qW cI h g0 v0 1 g gm) H := hP
    have hD : va_D A (qW cI h g0 v0 1 g gm) := hD
    have hP9 := hP
    have hD9 := hD
    exact W.iret (v := 0) hx hb hr (fun T9 ht hW => ⟨⟨0, (1, g, gm), rfl, ⟨by first | rfl | (rw [(show followT x = 1 from by first | rfl | (simp only [followT, c_12, Bool.false_eq_true, if_false, if_true]; done) | (simp [followT, c_12]; done))]; rfl), fun hz => absurd hz (by first | decide | (rw [(show followT x = 1 from by first | rfl | (simp only [followT, c_12, Bool.false_eq_true, if_false, if_true]; done) | (simp [followT, c_12]; done))]; decide))⟩, by rw [ht]; exact hP9, va_K.moved hW.alike hK, hD9⟩, hS.F ht⟩) hS.2.2 dX5_follow_28
  · refine lv_aload_n hx hb dX5_follow_15 rfl (lv_at hl 0 rfl) ?_
    refine lv_iload_n hx hb dX5_follow_16 rfl (lv_at hl 1 rfl) ?_
    refine vp_callSi (va_Run.run (va_runV (As := [.int x]) (rest := []) ⟨hx, hb, hml, hown, hts⟩ (c_X5_followNow_0 l D cI h g0 v0 0 g gm x hg0) (cwV 1 hts gX5_follow_X5_followNow rfl rfl rfl (by decide +kernel) ⟨Nat.le_of_ble_eq_true rfl, Nat.le_of_ble_eq_true rfl⟩) ⟨preR_blind, va_recv hK hP (ci := 5) (q0 := 0) rfl rfl, preR_of hP hK hE [.ref h, .int x]⟩ rfl rfl hl.1 rfl (lv_room (Nat.le_of_ble_eq_true rfl)) dX5_follow_17 ⟨Nat.zero_le _, Nat.zero_le _⟩)) (fun r hr9 => ?_)
    subst hr9
    refine lv_goto (tgt := 28) hx hb dX5_follow_20 (by decide) ?_
    have hP9 := hP
    have hD9 := hD
    exact W.iret (v := 0) hx hb hr (fun T9 ht hW => ⟨⟨0, (0, g, gm), rfl, ⟨by first | rfl | (rw [(show followT x = 0 from by first | rfl | (simp only [followT, c_12, Bool.false_eq_true, if_false, if_true]; done) | (simp [followT, c_12]; done))]; rfl), fun _ => rfl⟩, by rw [ht]; exact hP9, va_K.moved hW.alike hK, hD9⟩, hS.F ht⟩) hS.2.2 dX5_follow_28

set_option maxHeartbeats 4000000 in
set_option maxRecDepth 100000 in
theorem c_X5_danger_0 (l : Launch) (D : va_G) (cI : ClassId) (sz : Nat) (h g0 v0 : Nat) (th : Int32) (g : Nat → Int32) (gm : Int32) (x y : Int32) (hg0 : g (680 : Int32).toNatClampNeg = 0) : Met l yX5_danger wsX5_danger ({ frames := 2, cells := 0, slots := 0, locals := 42 } : Room) (va_Pc [.ref h, .int x, .int y] (preM D cI (qW cI h g0 v0 th g gm) sz)) (va_Qi (fun (r : Int32) (u : (Int32 × (Nat → Int32) × Int32)) => u.1 = nI (knowsTf x y) ∧ (knowsTf x y = 0 → r = 0)) (fun (u : (Int32 × (Nat → Int32) × Int32)) => posM D cI (va_A (qW cI h g0 v0 th g gm) sz) (qW cI h g0 v0 u.1 u.2.1 u.2.2)) (va_A (qW cI h g0 v0 th g gm) sz)) 0 0 (va_A (qW cI h g0 v0 th g gm) sz) := by
  refine Met.ofW (cc := cX5_danger) (maxL := 3) (ret := (some .int)) (by decide) rfl ?_
  intro p e s m args below meth c s₁ B hml hv
  obtain ⟨rfl, hsz, hP, hK, hE, hD0⟩ := hv
  have hx := B.exec
  have hb := B.bytes
  have hr := B.returns
  have hts := atoms_spec (ws := wsX5_danger) B.pre
  have hown : s.vm.findClass RX5 = some m.cls := findClass_of_methodNamed B.named
  have hlocks := B.notSynchronized
  subst hsz
  have hD := hD0.self (sz := s.heap.size)
  generalize hAe : va_A (qW cI h g0 v0 th g gm) s.heap.size = A at hD ⊢
  have hA : ∀ q : Nat, s.heap.size ≤ q → A q := fun q h => by rw [← hAe]; exact Or.inr h
  have hS : va_S A s.heap s.heap [] := va_S.rf
  have hP : va_P D vwCl (qW cI h g0 v0 th g gm) s.heap := hP
  have hl := lv_entry ([.ref h, .int x, .int y]) (n := 3) (Nat.le_of_ble_eq_true rfl)
  rw [lg_entry_eq]
  generalize (lg_sl ([.ref h, .int x, .int y]) ++ List.replicate (3 - (lg_sl ([.ref h, .int x, .int y])).length) Slot.unset).toArray = ls at hl ⊢
  have hl : lv_has ls 3 [(0, .ref h), (1, .int x), (2, .int y)] := hl
  refine lv_aload_n hx hb dX5_danger_0 rfl (lv_at hl 0 rfl) ?_
  refine lv_iconst (v := 0) hx hb dX5_danger_1 (by decide) ?_
  refine va_put (D := D) (ci := 5) (v := .int 0) (ty := .int) (C := RX5) (T := TX5) (N := 4) hx hb hts (by decide +kernel) tyX5 tyX5_ok nmX5 hown hK hP hD hS 0 rfl rfl 0 (by decide) (hts (.fieldLink RX5 18 "WarrenModel" "thrown" "I") (by decide +kernel)) (fun _ h9 => h9) rfl (by decide +kernel) rfl rfl (Nat.le_of_ble_eq_true rfl) dX5_danger_2 (fun H locs hP hD hS => ?_)
  have hP : va_P D vwCl (qW cI h g0 v0 0 g gm) H := hP
  have hD : va_D A (qW cI h g0 v0 0 g gm) := hD
  refine lv_iload_n hx hb dX5_danger_5 rfl (lv_at hl 1 rfl) ?_
  refine lv_iconst (v := 0) hx hb dX5_danger_6 (by decide) ?_
  refine lv_iconst (v := 1) hx hb dX5_danger_7 (by decide) ?_
  refine vp_callSi (va_Run.run (va_runS (As := [.int x, .int 0, .int 1]) (rest := []) ⟨hx, hb, hml, hown, hts⟩ (c_X5_isIn l x 0 1) (va_cwS 3 hts gX5_danger_X5_isIn rfl rfl rfl (by decide +kernel) ⟨Nat.le_of_ble_eq_true rfl, Nat.le_of_ble_eq_true rfl⟩) ⟨fun _ _ _ _ q => q, fun _ _ _ => ⟨rfl, trivial⟩⟩ rfl rfl hl.1 rfl (lv_room (Nat.le_of_ble_eq_true rfl)) dX5_danger_8 ⟨Nat.zero_le _, Nat.zero_le _⟩)) (fun r hr9 => ?_)
  subst hr9
  refine w_bnz (tgt := 20) hx hb dX5_danger_11 (by decide) (fun c_11 => ?_) (fun c_11 => ?_)
  · refine lv_iload_n hx hb dX5_danger_20 rfl (lv_at hl 2 rfl) ?_
    refine vp_callSi (va_Run.run (va_runS (As := [.int y]) (rest := []) ⟨hx, hb, hml, hown, hts⟩ (c_X5_isCell l y) (va_cwS 1 hts gX5_danger_X5_isCell rfl rfl rfl (by decide +kernel) ⟨Nat.le_of_ble_eq_true rfl, Nat.le_of_ble_eq_true rfl⟩) ⟨fun _ _ _ _ q => q, fun _ _ _ => ⟨rfl, trivial⟩⟩ rfl rfl hl.1 rfl (lv_room (Nat.le_of_ble_eq_true rfl)) dX5_danger_21 ⟨Nat.zero_le _, Nat.zero_le _⟩)) (fun r hr9 => ?_)
    subst hr9
    refine w_bz (tgt := 36) hx hb dX5_danger_24 (by decide) (fun c_24 => ?_) (fun c_24 => ?_)
    · refine lv_aload_n hx hb dX5_danger_36 rfl (lv_at hl 0 rfl) ?_
      refine lv_iconst (v := 2) hx hb dX5_danger_37 (by decide) ?_
      have hFc := va_free (wc := qW cI h g0 v0 0 g gm) hD hS hA [0, 1] rfl
      refine va_calli (va_runV (As := [.int 2]) (rest := []) ⟨hx, hb, hml, hown, hts⟩ (c_X5_no l D cI _ h g0 v0 0 g gm 2 ) (cwV 1 hts gX5_danger_X5_no rfl rfl rfl (by decide +kernel) ⟨Nat.le_of_ble_eq_true rfl, Nat.le_of_ble_eq_true rfl⟩) ⟨preM_blind, va_recv hK hP (ci := 5) (q0 := 0) rfl rfl, preM_of hP hK hE hD [.ref h, .int 2]⟩ rfl rfl hl.1 rfl (lv_room (Nat.le_of_ble_eq_true rfl)) dX5_danger_38 ⟨Nat.le_of_ble_eq_true rfl, Nat.le_of_ble_eq_true rfl⟩) hS (fun q _ h => hFc q h) hFc (fun r u t9 H1 locs ht hvm hw hB hz1 hk1 hS => ?_)
      obtain ⟨hP1, hK1, hD1⟩ := hB
      rw [ht] at hP1
      obtain ⟨rfl, rfl⟩ := hw
      obtain ⟨hP, hD⟩ := va_join (wr := []) (w1 := qW cI h g0 v0 2 g gm) hP hD [0, 1] [] rfl rfl (by decide) (by decide) hk1 hFc hP1 hD1
      generalize H1 = H at hP hS ⊢
      have hP : va_P D vwCl (qW cI h g0 v0 2 g gm) H := hP
      have hD : va_D A (qW cI h g0 v0 2 g gm) := hD
      have hP9 := hP
      have hD9 := hD
      exact W.iret (v := 0) hx hb hr (fun T9 ht hW => ⟨⟨0, (2, g, gm), rfl, ⟨by first | rfl | (rw [(show knowsTf x y = 2 from by first | rfl | (simp only [knowsTf, c_11, c_24, Bool.false_eq_true, if_false, if_true]; done) | (simp [knowsTf, c_11, c_24]; done))]; rfl), fun hz => absurd hz (by first | decide | (rw [(show knowsTf x y = 2 from by first | rfl | (simp only [knowsTf, c_11, c_24, Bool.false_eq_true, if_false, if_true]; done) | (simp [knowsTf, c_11, c_24]; done))]; decide))⟩, by rw [ht]; exact hP9, va_K.moved hW.alike hK, hD9⟩, hS.F ht⟩) hS.2.2 dX5_danger_41
    · refine lv_aload_n hx hb dX5_danger_27 rfl (lv_at hl 0 rfl) ?_
      refine lv_iload_n hx hb dX5_danger_28 rfl (lv_at hl 1 rfl) ?_
      refine lv_iload_n hx hb dX5_danger_29 rfl (lv_at hl 2 rfl) ?_
      refine vp_callSi (va_Run.run (va_runV (As := [.int x, .int y]) (rest := []) ⟨hx, hb, hml, hown, hts⟩ (c_X5_dangerNow_0 l D cI h g0 v0 0 g gm x y hg0) (cwV 2 hts gX5_danger_X5_dangerNow rfl rfl rfl (by decide +kernel) ⟨Nat.le_of_ble_eq_true rfl, Nat.le_of_ble_eq_true rfl⟩) ⟨preR_blind, va_recv hK hP (ci := 5) (q0 := 0) rfl rfl, preR_of hP hK hE [.ref h, .int x, .int y]⟩ rfl rfl hl.1 rfl (lv_room (Nat.le_of_ble_eq_true rfl)) dX5_danger_30 ⟨Nat.zero_le _, Nat.zero_le _⟩)) (fun r hr9 => ?_)
      subst hr9
      refine lv_goto (tgt := 41) hx hb dX5_danger_33 (by decide) ?_
      have hP9 := hP
      have hD9 := hD
      exact W.iret (v := 0) hx hb hr (fun T9 ht hW => ⟨⟨0, (0, g, gm), rfl, ⟨by first | rfl | (rw [(show knowsTf x y = 0 from by first | rfl | (simp only [knowsTf, c_11, c_24, Bool.false_eq_true, if_false, if_true]; done) | (simp [knowsTf, c_11, c_24]; done))]; rfl), fun _ => rfl⟩, by rw [ht]; exact hP9, va_K.moved hW.alike hK, hD9⟩, hS.F ht⟩) hS.2.2 dX5_danger_41
  · refine lv_aload_n hx hb dX5_danger_14 rfl (lv_at hl 0 rfl) ?_
    refine lv_iconst (v := 1) hx hb dX5_danger_15 (by decide) ?_
    have hFc := va_free (wc := qW cI h g0 v0 0 g gm) hD hS hA [0, 1] rfl
    refine va_calli (va_runV (As := [.int 1]) (rest := []) ⟨hx, hb, hml, hown, hts⟩ (c_X5_no l D cI _ h g0 v0 0 g gm 1 ) (cwV 1 hts gX5_danger_X5_no rfl rfl rfl (by decide +kernel) ⟨Nat.le_of_ble_eq_true rfl, Nat.le_of_ble_eq_true rfl⟩) ⟨preM_blind, va_recv hK hP (ci := 5) (q0 := 0) rfl rfl, preM_of hP hK hE hD [.ref h, .int 1]⟩ rfl rfl hl.1 rfl (lv_room (Nat.le_of_ble_eq_true rfl)) dX5_danger_16 ⟨Nat.le_of_ble_eq_true rfl, Nat.le_of_ble_eq_true rfl⟩) hS (fun q _ h => hFc q h) hFc (fun r u t9 H1 locs ht hvm hw hB hz1 hk1 hS => ?_)
    obtain ⟨hP1, hK1, hD1⟩ := hB
    rw [ht] at hP1
    obtain ⟨rfl, rfl⟩ := hw
    obtain ⟨hP, hD⟩ := va_join (wr := []) (w1 := qW cI h g0 v0 1 g gm) hP hD [0, 1] [] rfl rfl (by decide) (by decide) hk1 hFc hP1 hD1
    generalize H1 = H at hP hS ⊢
    have hP : va_P D vwCl (qW cI h g0 v0 1 g gm) H := hP
    have hD : va_D A (qW cI h g0 v0 1 g gm) := hD
    have hP9 := hP
    have hD9 := hD
    exact W.iret (v := 0) hx hb hr (fun T9 ht hW => ⟨⟨0, (1, g, gm), rfl, ⟨by first | rfl | (rw [(show knowsTf x y = 1 from by first | rfl | (simp only [knowsTf, c_11, Bool.false_eq_true, if_false, if_true]; done) | (simp [knowsTf, c_11]; done))]; rfl), fun hz => absurd hz (by first | decide | (rw [(show knowsTf x y = 1 from by first | rfl | (simp only [knowsTf, c_11, Bool.false_eq_true, if_false, if_true]; done) | (simp [knowsTf, c_11]; done))]; decide))⟩, by rw [ht]; exact hP9, va_K.moved hW.alike hK, hD9⟩, hS.F ht⟩) hS.2.2 dX5_danger_19

set_option maxHeartbeats 4000000 in
set_option maxRecDepth 100000 in
theorem c_X5_load_0 (l : Launch) (D : va_G) (cI : ClassId) (sz : Nat) (h g0 v0 : Nat) (th : Int32) (g : Nat → Int32) (gm : Int32) (x : Int32) (hgm : gm = 0) : Met l yX5_load wsX5_load ({ frames := 1, cells := 0, slots := 0, locals := 22 } : Room) (va_Pc [.ref h, .int x] (preM D cI (qW cI h g0 v0 th g gm) sz)) (va_Qi (fun (r : Int32) (u : (Int32 × (Nat → Int32) × Int32)) => u.1 = nI (1) ∧ (1 = 0 → r = 0)) (fun (u : (Int32 × (Nat → Int32) × Int32)) => posM D cI (va_A (qW cI h g0 v0 th g gm) sz) (qW cI h g0 v0 u.1 u.2.1 u.2.2)) (va_A (qW cI h g0 v0 th g gm) sz)) 0 0 (va_A (qW cI h g0 v0 th g gm) sz) := by
  refine Met.ofW (cc := cX5_load) (maxL := 2) (ret := (some .int)) (by decide) rfl ?_
  intro p e s m args below meth c s₁ B hml hv
  obtain ⟨rfl, hsz, hP, hK, hE, hD0⟩ := hv
  have hx := B.exec
  have hb := B.bytes
  have hr := B.returns
  have hts := atoms_spec (ws := wsX5_load) B.pre
  have hown : s.vm.findClass RX5 = some m.cls := findClass_of_methodNamed B.named
  have hlocks := B.notSynchronized
  subst hsz
  have hD := hD0.self (sz := s.heap.size)
  generalize hAe : va_A (qW cI h g0 v0 th g gm) s.heap.size = A at hD ⊢
  have hA : ∀ q : Nat, s.heap.size ≤ q → A q := fun q h => by rw [← hAe]; exact Or.inr h
  have hS : va_S A s.heap s.heap [] := va_S.rf
  have hP : va_P D vwCl (qW cI h g0 v0 th g gm) s.heap := hP
  have hl := lv_entry ([.ref h, .int x]) (n := 2) (Nat.le_of_ble_eq_true rfl)
  rw [lg_entry_eq]
  generalize (lg_sl ([.ref h, .int x]) ++ List.replicate (2 - (lg_sl ([.ref h, .int x])).length) Slot.unset).toArray = ls at hl ⊢
  have hl : lv_has ls 2 [(0, .ref h), (1, .int x)] := hl
  refine lv_aload_n hx hb dX5_load_0 rfl (lv_at hl 0 rfl) ?_
  refine lv_iconst (v := 0) hx hb dX5_load_1 (by decide) ?_
  refine va_put (D := D) (ci := 5) (v := .int 0) (ty := .int) (C := RX5) (T := TX5) (N := 4) hx hb hts (by decide +kernel) tyX5 tyX5_ok nmX5 hown hK hP hD hS 0 rfl rfl 0 (by decide) (hts (.fieldLink RX5 18 "WarrenModel" "thrown" "I") (by decide +kernel)) (fun _ h9 => h9) rfl (by decide +kernel) rfl rfl (Nat.le_of_ble_eq_true rfl) dX5_load_2 (fun H locs hP hD hS => ?_)
  have hP : va_P D vwCl (qW cI h g0 v0 0 g gm) H := hP
  have hD : va_D A (qW cI h g0 v0 0 g gm) := hD
  refine lv_iload_n hx hb dX5_load_5 rfl (lv_at hl 1 rfl) ?_
  refine lv_iconst (v := 0) hx hb dX5_load_6 (by decide) ?_
  refine lv_aload_n hx hb dX5_load_7 rfl (lv_at hl 0 rfl) ?_
  refine va_get (D := D) (ci := 5) (v := .int gm) (C := RX5) (T := TX5) (N := 4) hx hb hts (by decide +kernel) hown hK hP 0 rfl rfl 3 (by decide) (hts (.fieldLink RX5 106 "WarrenModel" "games" "I") (by decide +kernel)) (fun _ h9 => h9) rfl dX5_load_8 ?_
  refine lv_iconst (v := 1) hx hb dX5_load_11 (by decide) ?_
  refine lv_isub hx hb dX5_load_12 ?_
  refine vp_callSi (va_Run.run (va_runS (As := [.int x, .int 0, .int (gm - 1)]) (rest := []) ⟨hx, hb, hml, hown, hts⟩ (c_X5_isIn l x 0 (gm - 1)) (va_cwS 3 hts gX5_load_X5_isIn rfl rfl rfl (by decide +kernel) ⟨Nat.le_of_ble_eq_true rfl, Nat.le_of_ble_eq_true rfl⟩) ⟨fun _ _ _ _ q => q, fun _ _ _ => ⟨rfl, trivial⟩⟩ rfl rfl hl.1 rfl (lv_room (Nat.le_of_ble_eq_true rfl)) dX5_load_13 ⟨Nat.zero_le _, Nat.zero_le _⟩)) (fun r hr9 => ?_)
  subst hr9
  refine w_bnz (tgt := 25) hx hb dX5_load_16 (by decide) (fun c_16 => absurd c_16 ((by subst hgm; rw [show (0 : Int32) - 1 = -1 from rfl, within_m1]; decide))) (fun c_16 => ?_)
  refine lv_aload_n hx hb dX5_load_19 rfl (lv_at hl 0 rfl) ?_
  refine lv_iconst (v := 1) hx hb dX5_load_20 (by decide) ?_
  have hFc := va_free (wc := qW cI h g0 v0 0 g gm) hD hS hA [0, 1] rfl
  refine va_calli (va_runV (As := [.int 1]) (rest := []) ⟨hx, hb, hml, hown, hts⟩ (c_X5_no l D cI _ h g0 v0 0 g gm 1 ) (cwV 1 hts gX5_load_X5_no rfl rfl rfl (by decide +kernel) ⟨Nat.le_of_ble_eq_true rfl, Nat.le_of_ble_eq_true rfl⟩) ⟨preM_blind, va_recv hK hP (ci := 5) (q0 := 0) rfl rfl, preM_of hP hK hE hD [.ref h, .int 1]⟩ rfl rfl hl.1 rfl (lv_room (Nat.le_of_ble_eq_true rfl)) dX5_load_21 ⟨Nat.le_of_ble_eq_true rfl, Nat.le_of_ble_eq_true rfl⟩) hS (fun q _ h => hFc q h) hFc (fun r u t9 H1 locs ht hvm hw hB hz1 hk1 hS => ?_)
  obtain ⟨hP1, hK1, hD1⟩ := hB
  rw [ht] at hP1
  obtain ⟨rfl, rfl⟩ := hw
  obtain ⟨hP, hD⟩ := va_join (wr := []) (w1 := qW cI h g0 v0 1 g gm) hP hD [0, 1] [] rfl rfl (by decide) (by decide) hk1 hFc hP1 hD1
  generalize H1 = H at hP hS ⊢
  have hP : va_P D vwCl (qW cI h g0 v0 1 g gm) H := hP
  have hD : va_D A (qW cI h g0 v0 1 g gm) := hD
  have hP9 := hP
  have hD9 := hD
  exact W.iret (v := 0) hx hb hr (fun T9 ht hW => ⟨⟨0, (1, g, gm), rfl, ⟨by first | rfl | (rw [(show 1 = 1 from by first | rfl | (simp only [c_16, Bool.false_eq_true, if_false, if_true]; done) | (simp [c_16]; done))]; rfl), fun hz => absurd hz (by first | decide | (rw [(show 1 = 1 from by first | rfl | (simp only [c_16, Bool.false_eq_true, if_false, if_true]; done) | (simp [c_16]; done))]; decide))⟩, by rw [ht]; exact hP9, va_K.moved hW.alike hK, hD9⟩, hS.F ht⟩) hS.2.2 dX5_load_24

set_option maxHeartbeats 4000000 in
set_option maxRecDepth 100000 in
theorem c_X5_become_0 (l : Launch) (D : va_G) (cI : ClassId) (sz : Nat) (h g0 v0 : Nat) (th : Int32) (g : Nat → Int32) (gm : Int32) (x y z v : Int32) (hg0 : g (680 : Int32).toNatClampNeg = 0) : Met l yX5_become wsX5_become ({ frames := 2, cells := 0, slots := 0, locals := 43 } : Room) (va_Pc [.ref h, .int x, .int y, .int z, .int v] (preM D cI (qW cI h g0 v0 th g gm) sz)) (va_Qi (fun (r : Int32) (u : (Int32 × (Nat → Int32) × Int32)) => u.1 = nI (1) ∧ (1 = 0 → r = 0)) (fun (u : (Int32 × (Nat → Int32) × Int32)) => posM D cI (va_A (qW cI h g0 v0 th g gm) sz) (qW cI h g0 v0 u.1 u.2.1 u.2.2)) (va_A (qW cI h g0 v0 th g gm) sz)) 0 0 (va_A (qW cI h g0 v0 th g gm) sz) := by
  refine Met.ofW (cc := cX5_become) (maxL := 6) (ret := (some .int)) (by decide) rfl ?_
  intro p e s m args below meth c s₁ B hml hv
  obtain ⟨rfl, hsz, hP, hK, hE, hD0⟩ := hv
  have hx := B.exec
  have hb := B.bytes
  have hr := B.returns
  have hts := atoms_spec (ws := wsX5_become) B.pre
  have hown : s.vm.findClass RX5 = some m.cls := findClass_of_methodNamed B.named
  have hlocks := B.notSynchronized
  subst hsz
  have hD := hD0.self (sz := s.heap.size)
  generalize hAe : va_A (qW cI h g0 v0 th g gm) s.heap.size = A at hD ⊢
  have hA : ∀ q : Nat, s.heap.size ≤ q → A q := fun q h => by rw [← hAe]; exact Or.inr h
  have hS : va_S A s.heap s.heap [] := va_S.rf
  have hP : va_P D vwCl (qW cI h g0 v0 th g gm) s.heap := hP
  have hl := lv_entry ([.ref h, .int x, .int y, .int z, .int v]) (n := 6) (Nat.le_of_ble_eq_true rfl)
  rw [lg_entry_eq]
  generalize (lg_sl ([.ref h, .int x, .int y, .int z, .int v]) ++ List.replicate (6 - (lg_sl ([.ref h, .int x, .int y, .int z, .int v])).length) Slot.unset).toArray = ls at hl ⊢
  have hl : lv_has ls 6 [(0, .ref h), (1, .int x), (2, .int y), (3, .int z), (4, .int v)] := hl
  refine lv_aload_n hx hb dX5_become_0 rfl (lv_at hl 0 rfl) ?_
  refine lv_iconst (v := 0) hx hb dX5_become_1 (by decide) ?_
  refine va_put (D := D) (ci := 5) (v := .int 0) (ty := .int) (C := RX5) (T := TX5) (N := 4) hx hb hts (by decide +kernel) tyX5 tyX5_ok nmX5 hown hK hP hD hS 0 rfl rfl 0 (by decide) (hts (.fieldLink RX5 18 "WarrenModel" "thrown" "I") (by decide +kernel)) (fun _ h9 => h9) rfl (by decide +kernel) rfl rfl (Nat.le_of_ble_eq_true rfl) dX5_become_2 (fun H locs hP hD hS => ?_)
  have hP : va_P D vwCl (qW cI h g0 v0 0 g gm) H := hP
  have hD : va_D A (qW cI h g0 v0 0 g gm) := hD
  refine lv_aload_n hx hb dX5_become_5 rfl (lv_at hl 0 rfl) ?_
  refine lv_iload_n hx hb dX5_become_6 rfl (lv_at hl 1 rfl) ?_
  refine vp_callSi (va_Run.run (va_runV (As := [.int x]) (rest := []) ⟨hx, hb, hml, hown, hts⟩ (c_X5_isBeing_0 l D cI h g0 v0 0 g gm x hg0) (cwV 1 hts gX5_become_X5_isBeing rfl rfl rfl (by decide +kernel) ⟨Nat.le_of_ble_eq_true rfl, Nat.le_of_ble_eq_true rfl⟩) ⟨preR_blind, va_recv hK hP (ci := 5) (q0 := 0) rfl rfl, preR_of hP hK hE [.ref h, .int x]⟩ rfl rfl hl.1 rfl (lv_room (Nat.le_of_ble_eq_true rfl)) dX5_become_7 ⟨Nat.zero_le _, Nat.zero_le _⟩)) (fun r hr9 => ?_)
  subst hr9
  refine w_bnz (tgt := 19) hx hb dX5_become_10 (by decide) (fun z9 => absurd z9 (by decide)) (fun _ => ?_)
  refine lv_aload_n hx hb dX5_become_13 rfl (lv_at hl 0 rfl) ?_
  refine lv_iconst (v := 1) hx hb dX5_become_14 (by decide) ?_
  have hFc := va_free (wc := qW cI h g0 v0 0 g gm) hD hS hA [0, 1] rfl
  refine va_calli (va_runV (As := [.int 1]) (rest := []) ⟨hx, hb, hml, hown, hts⟩ (c_X5_no l D cI _ h g0 v0 0 g gm 1 ) (cwV 1 hts gX5_become_X5_no rfl rfl rfl (by decide +kernel) ⟨Nat.le_of_ble_eq_true rfl, Nat.le_of_ble_eq_true rfl⟩) ⟨preM_blind, va_recv hK hP (ci := 5) (q0 := 0) rfl rfl, preM_of hP hK hE hD [.ref h, .int 1]⟩ rfl rfl hl.1 rfl (lv_room (Nat.le_of_ble_eq_true rfl)) dX5_become_15 ⟨Nat.le_of_ble_eq_true rfl, Nat.le_of_ble_eq_true rfl⟩) hS (fun q _ h => hFc q h) hFc (fun r u t9 H1 locs ht hvm hw hB hz1 hk1 hS => ?_)
  obtain ⟨hP1, hK1, hD1⟩ := hB
  rw [ht] at hP1
  obtain ⟨rfl, rfl⟩ := hw
  obtain ⟨hP, hD⟩ := va_join (wr := []) (w1 := qW cI h g0 v0 1 g gm) hP hD [0, 1] [] rfl rfl (by decide) (by decide) hk1 hFc hP1 hD1
  generalize H1 = H at hP hS ⊢
  have hP : va_P D vwCl (qW cI h g0 v0 1 g gm) H := hP
  have hD : va_D A (qW cI h g0 v0 1 g gm) := hD
  have hP9 := hP
  have hD9 := hD
  exact W.iret (v := 0) hx hb hr (fun T9 ht hW => ⟨⟨0, (1, g, gm), rfl, ⟨by first | rfl | (rw [(show 1 = 1 from by first | rfl | (simp only [Bool.false_eq_true, if_false, if_true]; done) | (simp []; done))]; rfl), fun hz => absurd hz (by first | decide | (rw [(show 1 = 1 from by first | rfl | (simp only [Bool.false_eq_true, if_false, if_true]; done) | (simp []; done))]; decide))⟩, by rw [ht]; exact hP9, va_K.moved hW.alike hK, hD9⟩, hS.F ht⟩) hS.2.2 dX5_become_18

set_option maxHeartbeats 4000000 in
set_option maxRecDepth 100000 in
theorem c_X5_lay_0 (l : Launch) (D : va_G) (cI : ClassId) (sz : Nat) (h g0 v0 : Nat) (th : Int32) (g : Nat → Int32) (gm : Int32) (x y z v : Int32) (hg0 : g (680 : Int32).toNatClampNeg = 0) : Met l yX5_lay wsX5_lay ({ frames := 2, cells := 0, slots := 0, locals := 43 } : Room) (va_Pc [.ref h, .int x, .int y, .int z, .int v] (preM D cI (qW cI h g0 v0 th g gm) sz)) (va_Qi (fun (r : Int32) (u : (Int32 × (Nat → Int32) × Int32)) => u.1 = nI (1) ∧ (1 = 0 → r = 0)) (fun (u : (Int32 × (Nat → Int32) × Int32)) => posM D cI (va_A (qW cI h g0 v0 th g gm) sz) (qW cI h g0 v0 u.1 u.2.1 u.2.2)) (va_A (qW cI h g0 v0 th g gm) sz)) 0 0 (va_A (qW cI h g0 v0 th g gm) sz) := by
  refine Met.ofW (cc := cX5_lay) (maxL := 5) (ret := (some .int)) (by decide) rfl ?_
  intro p e s m args below meth c s₁ B hml hv
  obtain ⟨rfl, hsz, hP, hK, hE, hD0⟩ := hv
  have hx := B.exec
  have hb := B.bytes
  have hr := B.returns
  have hts := atoms_spec (ws := wsX5_lay) B.pre
  have hown : s.vm.findClass RX5 = some m.cls := findClass_of_methodNamed B.named
  have hlocks := B.notSynchronized
  subst hsz
  have hD := hD0.self (sz := s.heap.size)
  generalize hAe : va_A (qW cI h g0 v0 th g gm) s.heap.size = A at hD ⊢
  have hA : ∀ q : Nat, s.heap.size ≤ q → A q := fun q h => by rw [← hAe]; exact Or.inr h
  have hS : va_S A s.heap s.heap [] := va_S.rf
  have hP : va_P D vwCl (qW cI h g0 v0 th g gm) s.heap := hP
  have hl := lv_entry ([.ref h, .int x, .int y, .int z, .int v]) (n := 5) (Nat.le_of_ble_eq_true rfl)
  rw [lg_entry_eq]
  generalize (lg_sl ([.ref h, .int x, .int y, .int z, .int v]) ++ List.replicate (5 - (lg_sl ([.ref h, .int x, .int y, .int z, .int v])).length) Slot.unset).toArray = ls at hl ⊢
  have hl : lv_has ls 5 [(0, .ref h), (1, .int x), (2, .int y), (3, .int z), (4, .int v)] := hl
  refine lv_aload_n hx hb dX5_lay_0 rfl (lv_at hl 0 rfl) ?_
  refine lv_iconst (v := 0) hx hb dX5_lay_1 (by decide) ?_
  refine va_put (D := D) (ci := 5) (v := .int 0) (ty := .int) (C := RX5) (T := TX5) (N := 4) hx hb hts (by decide +kernel) tyX5 tyX5_ok nmX5 hown hK hP hD hS 0 rfl rfl 0 (by decide) (hts (.fieldLink RX5 18 "WarrenModel" "thrown" "I") (by decide +kernel)) (fun _ h9 => h9) rfl (by decide +kernel) rfl rfl (Nat.le_of_ble_eq_true rfl) dX5_lay_2 (fun H locs hP hD hS => ?_)
  have hP : va_P D vwCl (qW cI h g0 v0 0 g gm) H := hP
  have hD : va_D A (qW cI h g0 v0 0 g gm) := hD
  refine lv_aload_n hx hb dX5_lay_5 rfl (lv_at hl 0 rfl) ?_
  refine lv_iload_n hx hb dX5_lay_6 rfl (lv_at hl 1 rfl) ?_
  refine vp_callSi (va_Run.run (va_runV (As := [.int x]) (rest := []) ⟨hx, hb, hml, hown, hts⟩ (c_X5_isBeing_0 l D cI h g0 v0 0 g gm x hg0) (cwV 1 hts gX5_lay_X5_isBeing rfl rfl rfl (by decide +kernel) ⟨Nat.le_of_ble_eq_true rfl, Nat.le_of_ble_eq_true rfl⟩) ⟨preR_blind, va_recv hK hP (ci := 5) (q0 := 0) rfl rfl, preR_of hP hK hE [.ref h, .int x]⟩ rfl rfl hl.1 rfl (lv_room (Nat.le_of_ble_eq_true rfl)) dX5_lay_7 ⟨Nat.zero_le _, Nat.zero_le _⟩)) (fun r hr9 => ?_)
  subst hr9
  refine w_bnz (tgt := 19) hx hb dX5_lay_10 (by decide) (fun z9 => absurd z9 (by decide)) (fun _ => ?_)
  refine lv_aload_n hx hb dX5_lay_13 rfl (lv_at hl 0 rfl) ?_
  refine lv_iconst (v := 1) hx hb dX5_lay_14 (by decide) ?_
  have hFc := va_free (wc := qW cI h g0 v0 0 g gm) hD hS hA [0, 1] rfl
  refine va_calli (va_runV (As := [.int 1]) (rest := []) ⟨hx, hb, hml, hown, hts⟩ (c_X5_no l D cI _ h g0 v0 0 g gm 1 ) (cwV 1 hts gX5_lay_X5_no rfl rfl rfl (by decide +kernel) ⟨Nat.le_of_ble_eq_true rfl, Nat.le_of_ble_eq_true rfl⟩) ⟨preM_blind, va_recv hK hP (ci := 5) (q0 := 0) rfl rfl, preM_of hP hK hE hD [.ref h, .int 1]⟩ rfl rfl hl.1 rfl (lv_room (Nat.le_of_ble_eq_true rfl)) dX5_lay_15 ⟨Nat.le_of_ble_eq_true rfl, Nat.le_of_ble_eq_true rfl⟩) hS (fun q _ h => hFc q h) hFc (fun r u t9 H1 locs ht hvm hw hB hz1 hk1 hS => ?_)
  obtain ⟨hP1, hK1, hD1⟩ := hB
  rw [ht] at hP1
  obtain ⟨rfl, rfl⟩ := hw
  obtain ⟨hP, hD⟩ := va_join (wr := []) (w1 := qW cI h g0 v0 1 g gm) hP hD [0, 1] [] rfl rfl (by decide) (by decide) hk1 hFc hP1 hD1
  generalize H1 = H at hP hS ⊢
  have hP : va_P D vwCl (qW cI h g0 v0 1 g gm) H := hP
  have hD : va_D A (qW cI h g0 v0 1 g gm) := hD
  have hP9 := hP
  have hD9 := hD
  exact W.iret (v := 0) hx hb hr (fun T9 ht hW => ⟨⟨0, (1, g, gm), rfl, ⟨by first | rfl | (rw [(show 1 = 1 from by first | rfl | (simp only [Bool.false_eq_true, if_false, if_true]; done) | (simp []; done))]; rfl), fun hz => absurd hz (by first | decide | (rw [(show 1 = 1 from by first | rfl | (simp only [Bool.false_eq_true, if_false, if_true]; done) | (simp []; done))]; decide))⟩, by rw [ht]; exact hP9, va_K.moved hW.alike hK, hD9⟩, hS.F ht⟩) hS.2.2 dX5_lay_18

set_option maxHeartbeats 4000000 in
set_option maxRecDepth 100000 in
theorem c_X5_of_0 (l : Launch) (D : va_G) (cI : ClassId) (sz : Nat) (h g0 v0 : Nat) (th : Int32) (g : Nat → Int32) (gm : Int32) (x y : Int32) (hg0 : g (680 : Int32).toNatClampNeg = 0) : Met l yX5_of wsX5_of ({ frames := 2, cells := 0, slots := 0, locals := 43 } : Room) (va_Pc [.ref h, .int x, .int y] (preM D cI (qW cI h g0 v0 th g gm) sz)) (va_Qi (fun (r : Int32) (u : (Int32 × (Nat → Int32) × Int32)) => u.1 = nI (1) ∧ (1 = 0 → r = 0)) (fun (u : (Int32 × (Nat → Int32) × Int32)) => posM D cI (va_A (qW cI h g0 v0 th g gm) sz) (qW cI h g0 v0 u.1 u.2.1 u.2.2)) (va_A (qW cI h g0 v0 th g gm) sz)) 0 0 (va_A (qW cI h g0 v0 th g gm) sz) := by
  refine Met.ofW (cc := cX5_of) (maxL := 3) (ret := (some .int)) (by decide) rfl ?_
  intro p e s m args below meth c s₁ B hml hv
  obtain ⟨rfl, hsz, hP, hK, hE, hD0⟩ := hv
  have hx := B.exec
  have hb := B.bytes
  have hr := B.returns
  have hts := atoms_spec (ws := wsX5_of) B.pre
  have hown : s.vm.findClass RX5 = some m.cls := findClass_of_methodNamed B.named
  have hlocks := B.notSynchronized
  subst hsz
  have hD := hD0.self (sz := s.heap.size)
  generalize hAe : va_A (qW cI h g0 v0 th g gm) s.heap.size = A at hD ⊢
  have hA : ∀ q : Nat, s.heap.size ≤ q → A q := fun q h => by rw [← hAe]; exact Or.inr h
  have hS : va_S A s.heap s.heap [] := va_S.rf
  have hP : va_P D vwCl (qW cI h g0 v0 th g gm) s.heap := hP
  have hl := lv_entry ([.ref h, .int x, .int y]) (n := 3) (Nat.le_of_ble_eq_true rfl)
  rw [lg_entry_eq]
  generalize (lg_sl ([.ref h, .int x, .int y]) ++ List.replicate (3 - (lg_sl ([.ref h, .int x, .int y])).length) Slot.unset).toArray = ls at hl ⊢
  have hl : lv_has ls 3 [(0, .ref h), (1, .int x), (2, .int y)] := hl
  refine lv_aload_n hx hb dX5_of_0 rfl (lv_at hl 0 rfl) ?_
  refine lv_iconst (v := 0) hx hb dX5_of_1 (by decide) ?_
  refine va_put (D := D) (ci := 5) (v := .int 0) (ty := .int) (C := RX5) (T := TX5) (N := 4) hx hb hts (by decide +kernel) tyX5 tyX5_ok nmX5 hown hK hP hD hS 0 rfl rfl 0 (by decide) (hts (.fieldLink RX5 18 "WarrenModel" "thrown" "I") (by decide +kernel)) (fun _ h9 => h9) rfl (by decide +kernel) rfl rfl (Nat.le_of_ble_eq_true rfl) dX5_of_2 (fun H locs hP hD hS => ?_)
  have hP : va_P D vwCl (qW cI h g0 v0 0 g gm) H := hP
  have hD : va_D A (qW cI h g0 v0 0 g gm) := hD
  refine lv_aload_n hx hb dX5_of_5 rfl (lv_at hl 0 rfl) ?_
  refine lv_iload_n hx hb dX5_of_6 rfl (lv_at hl 1 rfl) ?_
  refine vp_callSi (va_Run.run (va_runV (As := [.int x]) (rest := []) ⟨hx, hb, hml, hown, hts⟩ (c_X5_isBeing_0 l D cI h g0 v0 0 g gm x hg0) (cwV 1 hts gX5_of_X5_isBeing rfl rfl rfl (by decide +kernel) ⟨Nat.le_of_ble_eq_true rfl, Nat.le_of_ble_eq_true rfl⟩) ⟨preR_blind, va_recv hK hP (ci := 5) (q0 := 0) rfl rfl, preR_of hP hK hE [.ref h, .int x]⟩ rfl rfl hl.1 rfl (lv_room (Nat.le_of_ble_eq_true rfl)) dX5_of_7 ⟨Nat.zero_le _, Nat.zero_le _⟩)) (fun r hr9 => ?_)
  subst hr9
  refine w_bnz (tgt := 19) hx hb dX5_of_10 (by decide) (fun z9 => absurd z9 (by decide)) (fun _ => ?_)
  refine lv_aload_n hx hb dX5_of_13 rfl (lv_at hl 0 rfl) ?_
  refine lv_iconst (v := 1) hx hb dX5_of_14 (by decide) ?_
  have hFc := va_free (wc := qW cI h g0 v0 0 g gm) hD hS hA [0, 1] rfl
  refine va_calli (va_runV (As := [.int 1]) (rest := []) ⟨hx, hb, hml, hown, hts⟩ (c_X5_no l D cI _ h g0 v0 0 g gm 1 ) (cwV 1 hts gX5_of_X5_no rfl rfl rfl (by decide +kernel) ⟨Nat.le_of_ble_eq_true rfl, Nat.le_of_ble_eq_true rfl⟩) ⟨preM_blind, va_recv hK hP (ci := 5) (q0 := 0) rfl rfl, preM_of hP hK hE hD [.ref h, .int 1]⟩ rfl rfl hl.1 rfl (lv_room (Nat.le_of_ble_eq_true rfl)) dX5_of_15 ⟨Nat.le_of_ble_eq_true rfl, Nat.le_of_ble_eq_true rfl⟩) hS (fun q _ h => hFc q h) hFc (fun r u t9 H1 locs ht hvm hw hB hz1 hk1 hS => ?_)
  obtain ⟨hP1, hK1, hD1⟩ := hB
  rw [ht] at hP1
  obtain ⟨rfl, rfl⟩ := hw
  obtain ⟨hP, hD⟩ := va_join (wr := []) (w1 := qW cI h g0 v0 1 g gm) hP hD [0, 1] [] rfl rfl (by decide) (by decide) hk1 hFc hP1 hD1
  generalize H1 = H at hP hS ⊢
  have hP : va_P D vwCl (qW cI h g0 v0 1 g gm) H := hP
  have hD : va_D A (qW cI h g0 v0 1 g gm) := hD
  have hP9 := hP
  have hD9 := hD
  exact W.iret (v := 0) hx hb hr (fun T9 ht hW => ⟨⟨0, (1, g, gm), rfl, ⟨by first | rfl | (rw [(show 1 = 1 from by first | rfl | (simp only [Bool.false_eq_true, if_false, if_true]; done) | (simp []; done))]; rfl), fun hz => absurd hz (by first | decide | (rw [(show 1 = 1 from by first | rfl | (simp only [Bool.false_eq_true, if_false, if_true]; done) | (simp []; done))]; decide))⟩, by rw [ht]; exact hP9, va_K.moved hW.alike hK, hD9⟩, hS.F ht⟩) hS.2.2 dX5_of_18

set_option maxHeartbeats 4000000 in
set_option maxRecDepth 100000 in
theorem c_X5_effect_0 (l : Launch) (D : va_G) (cI : ClassId) (sz : Nat) (h g0 v0 : Nat) (th : Int32) (g : Nat → Int32) (gm : Int32) (x y z : Int32) (hg0 : g (680 : Int32).toNatClampNeg = 0) : Met l yX5_effect wsX5_effect ({ frames := 2, cells := 0, slots := 0, locals := 43 } : Room) (va_Pc [.ref h, .int x, .int y, .int z] (preM D cI (qW cI h g0 v0 th g gm) sz)) (va_Qi (fun (r : Int32) (u : (Int32 × (Nat → Int32) × Int32)) => u.1 = nI (1) ∧ (1 = 0 → r = 0)) (fun (u : (Int32 × (Nat → Int32) × Int32)) => posM D cI (va_A (qW cI h g0 v0 th g gm) sz) (qW cI h g0 v0 u.1 u.2.1 u.2.2)) (va_A (qW cI h g0 v0 th g gm) sz)) 0 0 (va_A (qW cI h g0 v0 th g gm) sz) := by
  refine Met.ofW (cc := cX5_effect) (maxL := 4) (ret := (some .int)) (by decide) rfl ?_
  intro p e s m args below meth c s₁ B hml hv
  obtain ⟨rfl, hsz, hP, hK, hE, hD0⟩ := hv
  have hx := B.exec
  have hb := B.bytes
  have hr := B.returns
  have hts := atoms_spec (ws := wsX5_effect) B.pre
  have hown : s.vm.findClass RX5 = some m.cls := findClass_of_methodNamed B.named
  have hlocks := B.notSynchronized
  subst hsz
  have hD := hD0.self (sz := s.heap.size)
  generalize hAe : va_A (qW cI h g0 v0 th g gm) s.heap.size = A at hD ⊢
  have hA : ∀ q : Nat, s.heap.size ≤ q → A q := fun q h => by rw [← hAe]; exact Or.inr h
  have hS : va_S A s.heap s.heap [] := va_S.rf
  have hP : va_P D vwCl (qW cI h g0 v0 th g gm) s.heap := hP
  have hl := lv_entry ([.ref h, .int x, .int y, .int z]) (n := 4) (Nat.le_of_ble_eq_true rfl)
  rw [lg_entry_eq]
  generalize (lg_sl ([.ref h, .int x, .int y, .int z]) ++ List.replicate (4 - (lg_sl ([.ref h, .int x, .int y, .int z])).length) Slot.unset).toArray = ls at hl ⊢
  have hl : lv_has ls 4 [(0, .ref h), (1, .int x), (2, .int y), (3, .int z)] := hl
  refine lv_aload_n hx hb dX5_effect_0 rfl (lv_at hl 0 rfl) ?_
  refine lv_iconst (v := 0) hx hb dX5_effect_1 (by decide) ?_
  refine va_put (D := D) (ci := 5) (v := .int 0) (ty := .int) (C := RX5) (T := TX5) (N := 4) hx hb hts (by decide +kernel) tyX5 tyX5_ok nmX5 hown hK hP hD hS 0 rfl rfl 0 (by decide) (hts (.fieldLink RX5 18 "WarrenModel" "thrown" "I") (by decide +kernel)) (fun _ h9 => h9) rfl (by decide +kernel) rfl rfl (Nat.le_of_ble_eq_true rfl) dX5_effect_2 (fun H locs hP hD hS => ?_)
  have hP : va_P D vwCl (qW cI h g0 v0 0 g gm) H := hP
  have hD : va_D A (qW cI h g0 v0 0 g gm) := hD
  refine lv_aload_n hx hb dX5_effect_5 rfl (lv_at hl 0 rfl) ?_
  refine lv_iload_n hx hb dX5_effect_6 rfl (lv_at hl 1 rfl) ?_
  refine vp_callSi (va_Run.run (va_runV (As := [.int x]) (rest := []) ⟨hx, hb, hml, hown, hts⟩ (c_X5_isBeing_0 l D cI h g0 v0 0 g gm x hg0) (cwV 1 hts gX5_effect_X5_isBeing rfl rfl rfl (by decide +kernel) ⟨Nat.le_of_ble_eq_true rfl, Nat.le_of_ble_eq_true rfl⟩) ⟨preR_blind, va_recv hK hP (ci := 5) (q0 := 0) rfl rfl, preR_of hP hK hE [.ref h, .int x]⟩ rfl rfl hl.1 rfl (lv_room (Nat.le_of_ble_eq_true rfl)) dX5_effect_7 ⟨Nat.zero_le _, Nat.zero_le _⟩)) (fun r hr9 => ?_)
  subst hr9
  refine w_bnz (tgt := 19) hx hb dX5_effect_10 (by decide) (fun z9 => absurd z9 (by decide)) (fun _ => ?_)
  refine lv_aload_n hx hb dX5_effect_13 rfl (lv_at hl 0 rfl) ?_
  refine lv_iconst (v := 1) hx hb dX5_effect_14 (by decide) ?_
  have hFc := va_free (wc := qW cI h g0 v0 0 g gm) hD hS hA [0, 1] rfl
  refine va_calli (va_runV (As := [.int 1]) (rest := []) ⟨hx, hb, hml, hown, hts⟩ (c_X5_no l D cI _ h g0 v0 0 g gm 1 ) (cwV 1 hts gX5_effect_X5_no rfl rfl rfl (by decide +kernel) ⟨Nat.le_of_ble_eq_true rfl, Nat.le_of_ble_eq_true rfl⟩) ⟨preM_blind, va_recv hK hP (ci := 5) (q0 := 0) rfl rfl, preM_of hP hK hE hD [.ref h, .int 1]⟩ rfl rfl hl.1 rfl (lv_room (Nat.le_of_ble_eq_true rfl)) dX5_effect_15 ⟨Nat.le_of_ble_eq_true rfl, Nat.le_of_ble_eq_true rfl⟩) hS (fun q _ h => hFc q h) hFc (fun r u t9 H1 locs ht hvm hw hB hz1 hk1 hS => ?_)
  obtain ⟨hP1, hK1, hD1⟩ := hB
  rw [ht] at hP1
  obtain ⟨rfl, rfl⟩ := hw
  obtain ⟨hP, hD⟩ := va_join (wr := []) (w1 := qW cI h g0 v0 1 g gm) hP hD [0, 1] [] rfl rfl (by decide) (by decide) hk1 hFc hP1 hD1
  generalize H1 = H at hP hS ⊢
  have hP : va_P D vwCl (qW cI h g0 v0 1 g gm) H := hP
  have hD : va_D A (qW cI h g0 v0 1 g gm) := hD
  have hP9 := hP
  have hD9 := hD
  exact W.iret (v := 0) hx hb hr (fun T9 ht hW => ⟨⟨0, (1, g, gm), rfl, ⟨by first | rfl | (rw [(show 1 = 1 from by first | rfl | (simp only [Bool.false_eq_true, if_false, if_true]; done) | (simp []; done))]; rfl), fun hz => absurd hz (by first | decide | (rw [(show 1 = 1 from by first | rfl | (simp only [Bool.false_eq_true, if_false, if_true]; done) | (simp []; done))]; decide))⟩, by rw [ht]; exact hP9, va_K.moved hW.alike hK, hD9⟩, hS.F ht⟩) hS.2.2 dX5_effect_18

set_option maxHeartbeats 4000000 in
set_option maxRecDepth 100000 in
theorem c_X5_target_0 (l : Launch) (D : va_G) (cI : ClassId) (sz : Nat) (h g0 v0 : Nat) (th : Int32) (g : Nat → Int32) (gm : Int32) (x : Int32) (hg0 : g (680 : Int32).toNatClampNeg = 0) : Met l yX5_target wsX5_target ({ frames := 2, cells := 0, slots := 0, locals := 43 } : Room) (va_Pc [.ref h, .int x] (preM D cI (qW cI h g0 v0 th g gm) sz)) (va_Qi (fun (r : Int32) (u : (Int32 × (Nat → Int32) × Int32)) => u.1 = nI (1) ∧ (1 = 0 → r = 0)) (fun (u : (Int32 × (Nat → Int32) × Int32)) => posM D cI (va_A (qW cI h g0 v0 th g gm) sz) (qW cI h g0 v0 u.1 u.2.1 u.2.2)) (va_A (qW cI h g0 v0 th g gm) sz)) 0 0 (va_A (qW cI h g0 v0 th g gm) sz) := by
  refine Met.ofW (cc := cX5_target) (maxL := 2) (ret := (some .int)) (by decide) rfl ?_
  intro p e s m args below meth c s₁ B hml hv
  obtain ⟨rfl, hsz, hP, hK, hE, hD0⟩ := hv
  have hx := B.exec
  have hb := B.bytes
  have hr := B.returns
  have hts := atoms_spec (ws := wsX5_target) B.pre
  have hown : s.vm.findClass RX5 = some m.cls := findClass_of_methodNamed B.named
  have hlocks := B.notSynchronized
  subst hsz
  have hD := hD0.self (sz := s.heap.size)
  generalize hAe : va_A (qW cI h g0 v0 th g gm) s.heap.size = A at hD ⊢
  have hA : ∀ q : Nat, s.heap.size ≤ q → A q := fun q h => by rw [← hAe]; exact Or.inr h
  have hS : va_S A s.heap s.heap [] := va_S.rf
  have hP : va_P D vwCl (qW cI h g0 v0 th g gm) s.heap := hP
  have hl := lv_entry ([.ref h, .int x]) (n := 2) (Nat.le_of_ble_eq_true rfl)
  rw [lg_entry_eq]
  generalize (lg_sl ([.ref h, .int x]) ++ List.replicate (2 - (lg_sl ([.ref h, .int x])).length) Slot.unset).toArray = ls at hl ⊢
  have hl : lv_has ls 2 [(0, .ref h), (1, .int x)] := hl
  refine lv_aload_n hx hb dX5_target_0 rfl (lv_at hl 0 rfl) ?_
  refine lv_iconst (v := 0) hx hb dX5_target_1 (by decide) ?_
  refine va_put (D := D) (ci := 5) (v := .int 0) (ty := .int) (C := RX5) (T := TX5) (N := 4) hx hb hts (by decide +kernel) tyX5 tyX5_ok nmX5 hown hK hP hD hS 0 rfl rfl 0 (by decide) (hts (.fieldLink RX5 18 "WarrenModel" "thrown" "I") (by decide +kernel)) (fun _ h9 => h9) rfl (by decide +kernel) rfl rfl (Nat.le_of_ble_eq_true rfl) dX5_target_2 (fun H locs hP hD hS => ?_)
  have hP : va_P D vwCl (qW cI h g0 v0 0 g gm) H := hP
  have hD : va_D A (qW cI h g0 v0 0 g gm) := hD
  refine lv_aload_n hx hb dX5_target_5 rfl (lv_at hl 0 rfl) ?_
  refine lv_iload_n hx hb dX5_target_6 rfl (lv_at hl 1 rfl) ?_
  refine vp_callSi (va_Run.run (va_runV (As := [.int x]) (rest := []) ⟨hx, hb, hml, hown, hts⟩ (c_X5_isBeing_0 l D cI h g0 v0 0 g gm x hg0) (cwV 1 hts gX5_target_X5_isBeing rfl rfl rfl (by decide +kernel) ⟨Nat.le_of_ble_eq_true rfl, Nat.le_of_ble_eq_true rfl⟩) ⟨preR_blind, va_recv hK hP (ci := 5) (q0 := 0) rfl rfl, preR_of hP hK hE [.ref h, .int x]⟩ rfl rfl hl.1 rfl (lv_room (Nat.le_of_ble_eq_true rfl)) dX5_target_7 ⟨Nat.zero_le _, Nat.zero_le _⟩)) (fun r hr9 => ?_)
  subst hr9
  refine w_bz (tgt := 21) hx hb dX5_target_10 (by decide) (fun _ => ?_) (fun z9 => absurd z9 (by decide))
  refine lv_aload_n hx hb dX5_target_21 rfl (lv_at hl 0 rfl) ?_
  refine lv_iconst (v := 1) hx hb dX5_target_22 (by decide) ?_
  have hFc := va_free (wc := qW cI h g0 v0 0 g gm) hD hS hA [0, 1] rfl
  refine va_calli (va_runV (As := [.int 1]) (rest := []) ⟨hx, hb, hml, hown, hts⟩ (c_X5_no l D cI _ h g0 v0 0 g gm 1 ) (cwV 1 hts gX5_target_X5_no rfl rfl rfl (by decide +kernel) ⟨Nat.le_of_ble_eq_true rfl, Nat.le_of_ble_eq_true rfl⟩) ⟨preM_blind, va_recv hK hP (ci := 5) (q0 := 0) rfl rfl, preM_of hP hK hE hD [.ref h, .int 1]⟩ rfl rfl hl.1 rfl (lv_room (Nat.le_of_ble_eq_true rfl)) dX5_target_23 ⟨Nat.le_of_ble_eq_true rfl, Nat.le_of_ble_eq_true rfl⟩) hS (fun q _ h => hFc q h) hFc (fun r u t9 H1 locs ht hvm hw hB hz1 hk1 hS => ?_)
  obtain ⟨hP1, hK1, hD1⟩ := hB
  rw [ht] at hP1
  obtain ⟨rfl, rfl⟩ := hw
  obtain ⟨hP, hD⟩ := va_join (wr := []) (w1 := qW cI h g0 v0 1 g gm) hP hD [0, 1] [] rfl rfl (by decide) (by decide) hk1 hFc hP1 hD1
  generalize H1 = H at hP hS ⊢
  have hP : va_P D vwCl (qW cI h g0 v0 1 g gm) H := hP
  have hD : va_D A (qW cI h g0 v0 1 g gm) := hD
  have hP9 := hP
  have hD9 := hD
  exact W.iret (v := 0) hx hb hr (fun T9 ht hW => ⟨⟨0, (1, g, gm), rfl, ⟨by first | rfl | (rw [(show 1 = 1 from by first | rfl | (simp only [Bool.false_eq_true, if_false, if_true]; done) | (simp []; done))]; rfl), fun hz => absurd hz (by first | decide | (rw [(show 1 = 1 from by first | rfl | (simp only [Bool.false_eq_true, if_false, if_true]; done) | (simp []; done))]; decide))⟩, by rw [ht]; exact hP9, va_K.moved hW.alike hK, hD9⟩, hS.F ht⟩) hS.2.2 dX5_target_26

set_option maxHeartbeats 4000000 in
set_option maxRecDepth 100000 in
theorem c_X5_way_0 (l : Launch) (D : va_G) (cI : ClassId) (sz : Nat) (h g0 v0 : Nat) (th : Int32) (g : Nat → Int32) (gm : Int32) (x y : Int32) (hg0 : g (680 : Int32).toNatClampNeg = 0) : Met l yX5_way wsX5_way ({ frames := 2, cells := 0, slots := 0, locals := 43 } : Room) (va_Pc [.ref h, .int x, .int y] (preM D cI (qW cI h g0 v0 th g gm) sz)) (va_Qi (fun (r : Int32) (u : (Int32 × (Nat → Int32) × Int32)) => u.1 = nI (1) ∧ (1 = 0 → r = 0)) (fun (u : (Int32 × (Nat → Int32) × Int32)) => posM D cI (va_A (qW cI h g0 v0 th g gm) sz) (qW cI h g0 v0 u.1 u.2.1 u.2.2)) (va_A (qW cI h g0 v0 th g gm) sz)) 0 0 (va_A (qW cI h g0 v0 th g gm) sz) := by
  refine Met.ofW (cc := cX5_way) (maxL := 3) (ret := (some .int)) (by decide) rfl ?_
  intro p e s m args below meth c s₁ B hml hv
  obtain ⟨rfl, hsz, hP, hK, hE, hD0⟩ := hv
  have hx := B.exec
  have hb := B.bytes
  have hr := B.returns
  have hts := atoms_spec (ws := wsX5_way) B.pre
  have hown : s.vm.findClass RX5 = some m.cls := findClass_of_methodNamed B.named
  have hlocks := B.notSynchronized
  subst hsz
  have hD := hD0.self (sz := s.heap.size)
  generalize hAe : va_A (qW cI h g0 v0 th g gm) s.heap.size = A at hD ⊢
  have hA : ∀ q : Nat, s.heap.size ≤ q → A q := fun q h => by rw [← hAe]; exact Or.inr h
  have hS : va_S A s.heap s.heap [] := va_S.rf
  have hP : va_P D vwCl (qW cI h g0 v0 th g gm) s.heap := hP
  have hl := lv_entry ([.ref h, .int x, .int y]) (n := 3) (Nat.le_of_ble_eq_true rfl)
  rw [lg_entry_eq]
  generalize (lg_sl ([.ref h, .int x, .int y]) ++ List.replicate (3 - (lg_sl ([.ref h, .int x, .int y])).length) Slot.unset).toArray = ls at hl ⊢
  have hl : lv_has ls 3 [(0, .ref h), (1, .int x), (2, .int y)] := hl
  refine lv_aload_n hx hb dX5_way_0 rfl (lv_at hl 0 rfl) ?_
  refine lv_iconst (v := 0) hx hb dX5_way_1 (by decide) ?_
  refine va_put (D := D) (ci := 5) (v := .int 0) (ty := .int) (C := RX5) (T := TX5) (N := 4) hx hb hts (by decide +kernel) tyX5 tyX5_ok nmX5 hown hK hP hD hS 0 rfl rfl 0 (by decide) (hts (.fieldLink RX5 18 "WarrenModel" "thrown" "I") (by decide +kernel)) (fun _ h9 => h9) rfl (by decide +kernel) rfl rfl (Nat.le_of_ble_eq_true rfl) dX5_way_2 (fun H locs hP hD hS => ?_)
  have hP : va_P D vwCl (qW cI h g0 v0 0 g gm) H := hP
  have hD : va_D A (qW cI h g0 v0 0 g gm) := hD
  refine lv_aload_n hx hb dX5_way_5 rfl (lv_at hl 0 rfl) ?_
  refine lv_iload_n hx hb dX5_way_6 rfl (lv_at hl 1 rfl) ?_
  refine vp_callSi (va_Run.run (va_runV (As := [.int x]) (rest := []) ⟨hx, hb, hml, hown, hts⟩ (c_X5_isBeing_0 l D cI h g0 v0 0 g gm x hg0) (cwV 1 hts gX5_way_X5_isBeing rfl rfl rfl (by decide +kernel) ⟨Nat.le_of_ble_eq_true rfl, Nat.le_of_ble_eq_true rfl⟩) ⟨preR_blind, va_recv hK hP (ci := 5) (q0 := 0) rfl rfl, preR_of hP hK hE [.ref h, .int x]⟩ rfl rfl hl.1 rfl (lv_room (Nat.le_of_ble_eq_true rfl)) dX5_way_7 ⟨Nat.zero_le _, Nat.zero_le _⟩)) (fun r hr9 => ?_)
  subst hr9
  refine w_bz (tgt := 20) hx hb dX5_way_10 (by decide) (fun _ => ?_) (fun z9 => absurd z9 (by decide))
  refine lv_aload_n hx hb dX5_way_20 rfl (lv_at hl 0 rfl) ?_
  refine lv_iconst (v := 1) hx hb dX5_way_21 (by decide) ?_
  have hFc := va_free (wc := qW cI h g0 v0 0 g gm) hD hS hA [0, 1] rfl
  refine va_calli (va_runV (As := [.int 1]) (rest := []) ⟨hx, hb, hml, hown, hts⟩ (c_X5_no l D cI _ h g0 v0 0 g gm 1 ) (cwV 1 hts gX5_way_X5_no rfl rfl rfl (by decide +kernel) ⟨Nat.le_of_ble_eq_true rfl, Nat.le_of_ble_eq_true rfl⟩) ⟨preM_blind, va_recv hK hP (ci := 5) (q0 := 0) rfl rfl, preM_of hP hK hE hD [.ref h, .int 1]⟩ rfl rfl hl.1 rfl (lv_room (Nat.le_of_ble_eq_true rfl)) dX5_way_22 ⟨Nat.le_of_ble_eq_true rfl, Nat.le_of_ble_eq_true rfl⟩) hS (fun q _ h => hFc q h) hFc (fun r u t9 H1 locs ht hvm hw hB hz1 hk1 hS => ?_)
  obtain ⟨hP1, hK1, hD1⟩ := hB
  rw [ht] at hP1
  obtain ⟨rfl, rfl⟩ := hw
  obtain ⟨hP, hD⟩ := va_join (wr := []) (w1 := qW cI h g0 v0 1 g gm) hP hD [0, 1] [] rfl rfl (by decide) (by decide) hk1 hFc hP1 hD1
  generalize H1 = H at hP hS ⊢
  have hP : va_P D vwCl (qW cI h g0 v0 1 g gm) H := hP
  have hD : va_D A (qW cI h g0 v0 1 g gm) := hD
  have hP9 := hP
  have hD9 := hD
  exact W.iret (v := 0) hx hb hr (fun T9 ht hW => ⟨⟨0, (1, g, gm), rfl, ⟨by first | rfl | (rw [(show 1 = 1 from by first | rfl | (simp only [Bool.false_eq_true, if_false, if_true]; done) | (simp []; done))]; rfl), fun hz => absurd hz (by first | decide | (rw [(show 1 = 1 from by first | rfl | (simp only [Bool.false_eq_true, if_false, if_true]; done) | (simp []; done))]; decide))⟩, by rw [ht]; exact hP9, va_K.moved hW.alike hK, hD9⟩, hS.F ht⟩) hS.2.2 dX5_way_25

set_option maxHeartbeats 4000000 in
set_option maxRecDepth 100000 in
theorem c_X5_worth_0 (l : Launch) (D : va_G) (cI : ClassId) (sz : Nat) (h g0 v0 : Nat) (th : Int32) (g : Nat → Int32) (gm : Int32) (x y : Int32) (hg0 : g (680 : Int32).toNatClampNeg = 0) : Met l yX5_worth wsX5_worth ({ frames := 2, cells := 0, slots := 0, locals := 43 } : Room) (va_Pc [.ref h, .int x, .int y] (preM D cI (qW cI h g0 v0 th g gm) sz)) (va_Qi (fun (r : Int32) (u : (Int32 × (Nat → Int32) × Int32)) => u.1 = nI (1) ∧ (1 = 0 → r = 0)) (fun (u : (Int32 × (Nat → Int32) × Int32)) => posM D cI (va_A (qW cI h g0 v0 th g gm) sz) (qW cI h g0 v0 u.1 u.2.1 u.2.2)) (va_A (qW cI h g0 v0 th g gm) sz)) 0 0 (va_A (qW cI h g0 v0 th g gm) sz) := by
  refine Met.ofW (cc := cX5_worth) (maxL := 3) (ret := (some .int)) (by decide) rfl ?_
  intro p e s m args below meth c s₁ B hml hv
  obtain ⟨rfl, hsz, hP, hK, hE, hD0⟩ := hv
  have hx := B.exec
  have hb := B.bytes
  have hr := B.returns
  have hts := atoms_spec (ws := wsX5_worth) B.pre
  have hown : s.vm.findClass RX5 = some m.cls := findClass_of_methodNamed B.named
  have hlocks := B.notSynchronized
  subst hsz
  have hD := hD0.self (sz := s.heap.size)
  generalize hAe : va_A (qW cI h g0 v0 th g gm) s.heap.size = A at hD ⊢
  have hA : ∀ q : Nat, s.heap.size ≤ q → A q := fun q h => by rw [← hAe]; exact Or.inr h
  have hS : va_S A s.heap s.heap [] := va_S.rf
  have hP : va_P D vwCl (qW cI h g0 v0 th g gm) s.heap := hP
  have hl := lv_entry ([.ref h, .int x, .int y]) (n := 3) (Nat.le_of_ble_eq_true rfl)
  rw [lg_entry_eq]
  generalize (lg_sl ([.ref h, .int x, .int y]) ++ List.replicate (3 - (lg_sl ([.ref h, .int x, .int y])).length) Slot.unset).toArray = ls at hl ⊢
  have hl : lv_has ls 3 [(0, .ref h), (1, .int x), (2, .int y)] := hl
  refine lv_aload_n hx hb dX5_worth_0 rfl (lv_at hl 0 rfl) ?_
  refine lv_iconst (v := 0) hx hb dX5_worth_1 (by decide) ?_
  refine va_put (D := D) (ci := 5) (v := .int 0) (ty := .int) (C := RX5) (T := TX5) (N := 4) hx hb hts (by decide +kernel) tyX5 tyX5_ok nmX5 hown hK hP hD hS 0 rfl rfl 0 (by decide) (hts (.fieldLink RX5 18 "WarrenModel" "thrown" "I") (by decide +kernel)) (fun _ h9 => h9) rfl (by decide +kernel) rfl rfl (Nat.le_of_ble_eq_true rfl) dX5_worth_2 (fun H locs hP hD hS => ?_)
  have hP : va_P D vwCl (qW cI h g0 v0 0 g gm) H := hP
  have hD : va_D A (qW cI h g0 v0 0 g gm) := hD
  refine lv_aload_n hx hb dX5_worth_5 rfl (lv_at hl 0 rfl) ?_
  refine lv_iload_n hx hb dX5_worth_6 rfl (lv_at hl 1 rfl) ?_
  refine vp_callSi (va_Run.run (va_runV (As := [.int x]) (rest := []) ⟨hx, hb, hml, hown, hts⟩ (c_X5_isBeing_0 l D cI h g0 v0 0 g gm x hg0) (cwV 1 hts gX5_worth_X5_isBeing rfl rfl rfl (by decide +kernel) ⟨Nat.le_of_ble_eq_true rfl, Nat.le_of_ble_eq_true rfl⟩) ⟨preR_blind, va_recv hK hP (ci := 5) (q0 := 0) rfl rfl, preR_of hP hK hE [.ref h, .int x]⟩ rfl rfl hl.1 rfl (lv_room (Nat.le_of_ble_eq_true rfl)) dX5_worth_7 ⟨Nat.zero_le _, Nat.zero_le _⟩)) (fun r hr9 => ?_)
  subst hr9
  refine w_bnz (tgt := 19) hx hb dX5_worth_10 (by decide) (fun z9 => absurd z9 (by decide)) (fun _ => ?_)
  refine lv_aload_n hx hb dX5_worth_13 rfl (lv_at hl 0 rfl) ?_
  refine lv_iconst (v := 1) hx hb dX5_worth_14 (by decide) ?_
  have hFc := va_free (wc := qW cI h g0 v0 0 g gm) hD hS hA [0, 1] rfl
  refine va_calli (va_runV (As := [.int 1]) (rest := []) ⟨hx, hb, hml, hown, hts⟩ (c_X5_no l D cI _ h g0 v0 0 g gm 1 ) (cwV 1 hts gX5_worth_X5_no rfl rfl rfl (by decide +kernel) ⟨Nat.le_of_ble_eq_true rfl, Nat.le_of_ble_eq_true rfl⟩) ⟨preM_blind, va_recv hK hP (ci := 5) (q0 := 0) rfl rfl, preM_of hP hK hE hD [.ref h, .int 1]⟩ rfl rfl hl.1 rfl (lv_room (Nat.le_of_ble_eq_true rfl)) dX5_worth_15 ⟨Nat.le_of_ble_eq_true rfl, Nat.le_of_ble_eq_true rfl⟩) hS (fun q _ h => hFc q h) hFc (fun r u t9 H1 locs ht hvm hw hB hz1 hk1 hS => ?_)
  obtain ⟨hP1, hK1, hD1⟩ := hB
  rw [ht] at hP1
  obtain ⟨rfl, rfl⟩ := hw
  obtain ⟨hP, hD⟩ := va_join (wr := []) (w1 := qW cI h g0 v0 1 g gm) hP hD [0, 1] [] rfl rfl (by decide) (by decide) hk1 hFc hP1 hD1
  generalize H1 = H at hP hS ⊢
  have hP : va_P D vwCl (qW cI h g0 v0 1 g gm) H := hP
  have hD : va_D A (qW cI h g0 v0 1 g gm) := hD
  have hP9 := hP
  have hD9 := hD
  exact W.iret (v := 0) hx hb hr (fun T9 ht hW => ⟨⟨0, (1, g, gm), rfl, ⟨by first | rfl | (rw [(show 1 = 1 from by first | rfl | (simp only [Bool.false_eq_true, if_false, if_true]; done) | (simp []; done))]; rfl), fun hz => absurd hz (by first | decide | (rw [(show 1 = 1 from by first | rfl | (simp only [Bool.false_eq_true, if_false, if_true]; done) | (simp []; done))]; decide))⟩, by rw [ht]; exact hP9, va_K.moved hW.alike hK, hD9⟩, hS.F ht⟩) hS.2.2 dX5_worth_18

set_option maxHeartbeats 4000000 in
set_option maxRecDepth 100000 in
theorem c_X5_plan_0 (l : Launch) (D : va_G) (cI : ClassId) (sz : Nat) (h g0 v0 : Nat) (th : Int32) (g : Nat → Int32) (gm : Int32) (x : Int32) (hg0 : g (680 : Int32).toNatClampNeg = 0) : Met l yX5_plan wsX5_plan ({ frames := 2, cells := 0, slots := 0, locals := 43 } : Room) (va_Pc [.ref h, .int x] (preM D cI (qW cI h g0 v0 th g gm) sz)) (va_Qi (fun (r : Int32) (u : (Int32 × (Nat → Int32) × Int32)) => u.1 = nI (1) ∧ (1 = 0 → r = 0)) (fun (u : (Int32 × (Nat → Int32) × Int32)) => posM D cI (va_A (qW cI h g0 v0 th g gm) sz) (qW cI h g0 v0 u.1 u.2.1 u.2.2)) (va_A (qW cI h g0 v0 th g gm) sz)) 0 0 (va_A (qW cI h g0 v0 th g gm) sz) := by
  refine Met.ofW (cc := cX5_plan) (maxL := 2) (ret := (some .int)) (by decide) rfl ?_
  intro p e s m args below meth c s₁ B hml hv
  obtain ⟨rfl, hsz, hP, hK, hE, hD0⟩ := hv
  have hx := B.exec
  have hb := B.bytes
  have hr := B.returns
  have hts := atoms_spec (ws := wsX5_plan) B.pre
  have hown : s.vm.findClass RX5 = some m.cls := findClass_of_methodNamed B.named
  have hlocks := B.notSynchronized
  subst hsz
  have hD := hD0.self (sz := s.heap.size)
  generalize hAe : va_A (qW cI h g0 v0 th g gm) s.heap.size = A at hD ⊢
  have hA : ∀ q : Nat, s.heap.size ≤ q → A q := fun q h => by rw [← hAe]; exact Or.inr h
  have hS : va_S A s.heap s.heap [] := va_S.rf
  have hP : va_P D vwCl (qW cI h g0 v0 th g gm) s.heap := hP
  have hl := lv_entry ([.ref h, .int x]) (n := 2) (Nat.le_of_ble_eq_true rfl)
  rw [lg_entry_eq]
  generalize (lg_sl ([.ref h, .int x]) ++ List.replicate (2 - (lg_sl ([.ref h, .int x])).length) Slot.unset).toArray = ls at hl ⊢
  have hl : lv_has ls 2 [(0, .ref h), (1, .int x)] := hl
  refine lv_aload_n hx hb dX5_plan_0 rfl (lv_at hl 0 rfl) ?_
  refine lv_iconst (v := 0) hx hb dX5_plan_1 (by decide) ?_
  refine va_put (D := D) (ci := 5) (v := .int 0) (ty := .int) (C := RX5) (T := TX5) (N := 4) hx hb hts (by decide +kernel) tyX5 tyX5_ok nmX5 hown hK hP hD hS 0 rfl rfl 0 (by decide) (hts (.fieldLink RX5 18 "WarrenModel" "thrown" "I") (by decide +kernel)) (fun _ h9 => h9) rfl (by decide +kernel) rfl rfl (Nat.le_of_ble_eq_true rfl) dX5_plan_2 (fun H locs hP hD hS => ?_)
  have hP : va_P D vwCl (qW cI h g0 v0 0 g gm) H := hP
  have hD : va_D A (qW cI h g0 v0 0 g gm) := hD
  refine lv_aload_n hx hb dX5_plan_5 rfl (lv_at hl 0 rfl) ?_
  refine lv_iload_n hx hb dX5_plan_6 rfl (lv_at hl 1 rfl) ?_
  refine vp_callSi (va_Run.run (va_runV (As := [.int x]) (rest := []) ⟨hx, hb, hml, hown, hts⟩ (c_X5_isBeing_0 l D cI h g0 v0 0 g gm x hg0) (cwV 1 hts gX5_plan_X5_isBeing rfl rfl rfl (by decide +kernel) ⟨Nat.le_of_ble_eq_true rfl, Nat.le_of_ble_eq_true rfl⟩) ⟨preR_blind, va_recv hK hP (ci := 5) (q0 := 0) rfl rfl, preR_of hP hK hE [.ref h, .int x]⟩ rfl rfl hl.1 rfl (lv_room (Nat.le_of_ble_eq_true rfl)) dX5_plan_7 ⟨Nat.zero_le _, Nat.zero_le _⟩)) (fun r hr9 => ?_)
  subst hr9
  refine w_bz (tgt := 21) hx hb dX5_plan_10 (by decide) (fun _ => ?_) (fun z9 => absurd z9 (by decide))
  refine lv_aload_n hx hb dX5_plan_21 rfl (lv_at hl 0 rfl) ?_
  refine lv_iconst (v := 1) hx hb dX5_plan_22 (by decide) ?_
  have hFc := va_free (wc := qW cI h g0 v0 0 g gm) hD hS hA [0, 1] rfl
  refine va_calli (va_runV (As := [.int 1]) (rest := []) ⟨hx, hb, hml, hown, hts⟩ (c_X5_no l D cI _ h g0 v0 0 g gm 1 ) (cwV 1 hts gX5_plan_X5_no rfl rfl rfl (by decide +kernel) ⟨Nat.le_of_ble_eq_true rfl, Nat.le_of_ble_eq_true rfl⟩) ⟨preM_blind, va_recv hK hP (ci := 5) (q0 := 0) rfl rfl, preM_of hP hK hE hD [.ref h, .int 1]⟩ rfl rfl hl.1 rfl (lv_room (Nat.le_of_ble_eq_true rfl)) dX5_plan_23 ⟨Nat.le_of_ble_eq_true rfl, Nat.le_of_ble_eq_true rfl⟩) hS (fun q _ h => hFc q h) hFc (fun r u t9 H1 locs ht hvm hw hB hz1 hk1 hS => ?_)
  obtain ⟨hP1, hK1, hD1⟩ := hB
  rw [ht] at hP1
  obtain ⟨rfl, rfl⟩ := hw
  obtain ⟨hP, hD⟩ := va_join (wr := []) (w1 := qW cI h g0 v0 1 g gm) hP hD [0, 1] [] rfl rfl (by decide) (by decide) hk1 hFc hP1 hD1
  generalize H1 = H at hP hS ⊢
  have hP : va_P D vwCl (qW cI h g0 v0 1 g gm) H := hP
  have hD : va_D A (qW cI h g0 v0 1 g gm) := hD
  have hP9 := hP
  have hD9 := hD
  exact W.iret (v := 0) hx hb hr (fun T9 ht hW => ⟨⟨0, (1, g, gm), rfl, ⟨by first | rfl | (rw [(show 1 = 1 from by first | rfl | (simp only [Bool.false_eq_true, if_false, if_true]; done) | (simp []; done))]; rfl), fun hz => absurd hz (by first | decide | (rw [(show 1 = 1 from by first | rfl | (simp only [Bool.false_eq_true, if_false, if_true]; done) | (simp []; done))]; decide))⟩, by rw [ht]; exact hP9, va_K.moved hW.alike hK, hD9⟩, hS.F ht⟩) hS.2.2 dX5_plan_26

set_option maxHeartbeats 4000000 in
set_option maxRecDepth 100000 in
theorem c_X5_hit_0 (l : Launch) (D : va_G) (cI : ClassId) (sz : Nat) (h g0 v0 : Nat) (th : Int32) (g : Nat → Int32) (gm : Int32) (x y : Int32) (hg0 : g (680 : Int32).toNatClampNeg = 0) : Met l yX5_hit wsX5_hit ({ frames := 2, cells := 0, slots := 0, locals := 43 } : Room) (va_Pc [.ref h, .int x, .int y] (preM D cI (qW cI h g0 v0 th g gm) sz)) (va_Qi (fun (r : Int32) (u : (Int32 × (Nat → Int32) × Int32)) => u.1 = nI (1) ∧ (1 = 0 → r = 0)) (fun (u : (Int32 × (Nat → Int32) × Int32)) => posM D cI (va_A (qW cI h g0 v0 th g gm) sz) (qW cI h g0 v0 u.1 u.2.1 u.2.2)) (va_A (qW cI h g0 v0 th g gm) sz)) 0 0 (va_A (qW cI h g0 v0 th g gm) sz) := by
  refine Met.ofW (cc := cX5_hit) (maxL := 3) (ret := (some .int)) (by decide) rfl ?_
  intro p e s m args below meth c s₁ B hml hv
  obtain ⟨rfl, hsz, hP, hK, hE, hD0⟩ := hv
  have hx := B.exec
  have hb := B.bytes
  have hr := B.returns
  have hts := atoms_spec (ws := wsX5_hit) B.pre
  have hown : s.vm.findClass RX5 = some m.cls := findClass_of_methodNamed B.named
  have hlocks := B.notSynchronized
  subst hsz
  have hD := hD0.self (sz := s.heap.size)
  generalize hAe : va_A (qW cI h g0 v0 th g gm) s.heap.size = A at hD ⊢
  have hA : ∀ q : Nat, s.heap.size ≤ q → A q := fun q h => by rw [← hAe]; exact Or.inr h
  have hS : va_S A s.heap s.heap [] := va_S.rf
  have hP : va_P D vwCl (qW cI h g0 v0 th g gm) s.heap := hP
  have hl := lv_entry ([.ref h, .int x, .int y]) (n := 3) (Nat.le_of_ble_eq_true rfl)
  rw [lg_entry_eq]
  generalize (lg_sl ([.ref h, .int x, .int y]) ++ List.replicate (3 - (lg_sl ([.ref h, .int x, .int y])).length) Slot.unset).toArray = ls at hl ⊢
  have hl : lv_has ls 3 [(0, .ref h), (1, .int x), (2, .int y)] := hl
  refine lv_aload_n hx hb dX5_hit_0 rfl (lv_at hl 0 rfl) ?_
  refine lv_iconst (v := 0) hx hb dX5_hit_1 (by decide) ?_
  refine va_put (D := D) (ci := 5) (v := .int 0) (ty := .int) (C := RX5) (T := TX5) (N := 4) hx hb hts (by decide +kernel) tyX5 tyX5_ok nmX5 hown hK hP hD hS 0 rfl rfl 0 (by decide) (hts (.fieldLink RX5 18 "WarrenModel" "thrown" "I") (by decide +kernel)) (fun _ h9 => h9) rfl (by decide +kernel) rfl rfl (Nat.le_of_ble_eq_true rfl) dX5_hit_2 (fun H locs hP hD hS => ?_)
  have hP : va_P D vwCl (qW cI h g0 v0 0 g gm) H := hP
  have hD : va_D A (qW cI h g0 v0 0 g gm) := hD
  refine lv_aload_n hx hb dX5_hit_5 rfl (lv_at hl 0 rfl) ?_
  refine lv_iload_n hx hb dX5_hit_6 rfl (lv_at hl 1 rfl) ?_
  refine vp_callSi (va_Run.run (va_runV (As := [.int x]) (rest := []) ⟨hx, hb, hml, hown, hts⟩ (c_X5_isBeing_0 l D cI h g0 v0 0 g gm x hg0) (cwV 1 hts gX5_hit_X5_isBeing rfl rfl rfl (by decide +kernel) ⟨Nat.le_of_ble_eq_true rfl, Nat.le_of_ble_eq_true rfl⟩) ⟨preR_blind, va_recv hK hP (ci := 5) (q0 := 0) rfl rfl, preR_of hP hK hE [.ref h, .int x]⟩ rfl rfl hl.1 rfl (lv_room (Nat.le_of_ble_eq_true rfl)) dX5_hit_7 ⟨Nat.zero_le _, Nat.zero_le _⟩)) (fun r hr9 => ?_)
  subst hr9
  refine w_bz (tgt := 21) hx hb dX5_hit_10 (by decide) (fun _ => ?_) (fun z9 => absurd z9 (by decide))
  refine lv_aload_n hx hb dX5_hit_21 rfl (lv_at hl 0 rfl) ?_
  refine lv_iconst (v := 1) hx hb dX5_hit_22 (by decide) ?_
  have hFc := va_free (wc := qW cI h g0 v0 0 g gm) hD hS hA [0, 1] rfl
  refine va_calli (va_runV (As := [.int 1]) (rest := []) ⟨hx, hb, hml, hown, hts⟩ (c_X5_no l D cI _ h g0 v0 0 g gm 1 ) (cwV 1 hts gX5_hit_X5_no rfl rfl rfl (by decide +kernel) ⟨Nat.le_of_ble_eq_true rfl, Nat.le_of_ble_eq_true rfl⟩) ⟨preM_blind, va_recv hK hP (ci := 5) (q0 := 0) rfl rfl, preM_of hP hK hE hD [.ref h, .int 1]⟩ rfl rfl hl.1 rfl (lv_room (Nat.le_of_ble_eq_true rfl)) dX5_hit_23 ⟨Nat.le_of_ble_eq_true rfl, Nat.le_of_ble_eq_true rfl⟩) hS (fun q _ h => hFc q h) hFc (fun r u t9 H1 locs ht hvm hw hB hz1 hk1 hS => ?_)
  obtain ⟨hP1, hK1, hD1⟩ := hB
  rw [ht] at hP1
  obtain ⟨rfl, rfl⟩ := hw
  obtain ⟨hP, hD⟩ := va_join (wr := []) (w1 := qW cI h g0 v0 1 g gm) hP hD [0, 1] [] rfl rfl (by decide) (by decide) hk1 hFc hP1 hD1
  generalize H1 = H at hP hS ⊢
  have hP : va_P D vwCl (qW cI h g0 v0 1 g gm) H := hP
  have hD : va_D A (qW cI h g0 v0 1 g gm) := hD
  have hP9 := hP
  have hD9 := hD
  exact W.iret (v := 0) hx hb hr (fun T9 ht hW => ⟨⟨0, (1, g, gm), rfl, ⟨by first | rfl | (rw [(show 1 = 1 from by first | rfl | (simp only [Bool.false_eq_true, if_false, if_true]; done) | (simp []; done))]; rfl), fun hz => absurd hz (by first | decide | (rw [(show 1 = 1 from by first | rfl | (simp only [Bool.false_eq_true, if_false, if_true]; done) | (simp []; done))]; decide))⟩, by rw [ht]; exact hP9, va_K.moved hW.alike hK, hD9⟩, hS.F ht⟩) hS.2.2 dX5_hit_26

set_option maxHeartbeats 4000000 in
set_option maxRecDepth 100000 in
theorem c_X5_meanLife_0 (l : Launch) (D : va_G) (cI : ClassId) (sz : Nat) (h g0 v0 : Nat) (th : Int32) (g : Nat → Int32) (gm : Int32) (hg0 : g (680 : Int32).toNatClampNeg = 0) : Met l yX5_meanLife wsX5_meanLife ({ frames := 1, cells := 0, slots := 0, locals := 23 } : Room) (va_Pc [.ref h] (preM D cI (qW cI h g0 v0 th g gm) sz)) (va_Qd (fun (r : UInt64) (u : (Int32 × (Nat → Int32) × Int32)) => r = FP.dconst0 ∧ u.1 = 0) (fun (u : (Int32 × (Nat → Int32) × Int32)) => posM D cI (va_A (qW cI h g0 v0 th g gm) sz) (qW cI h g0 v0 u.1 u.2.1 u.2.2)) (va_A (qW cI h g0 v0 th g gm) sz)) 0 0 (va_A (qW cI h g0 v0 th g gm) sz) := by
  refine Met.ofW (cc := cX5_meanLife) (maxL := 2) (ret := (some .double)) (by decide) rfl ?_
  intro p e s m args below meth c s₁ B hml hv
  obtain ⟨rfl, hsz, hP, hK, hE, hD0⟩ := hv
  have hx := B.exec
  have hb := B.bytes
  have hr := B.returns
  have hts := atoms_spec (ws := wsX5_meanLife) B.pre
  have hown : s.vm.findClass RX5 = some m.cls := findClass_of_methodNamed B.named
  have hlocks := B.notSynchronized
  subst hsz
  have hD := hD0.self (sz := s.heap.size)
  generalize hAe : va_A (qW cI h g0 v0 th g gm) s.heap.size = A at hD ⊢
  have hA : ∀ q : Nat, s.heap.size ≤ q → A q := fun q h => by rw [← hAe]; exact Or.inr h
  have hS : va_S A s.heap s.heap [] := va_S.rf
  have hP : va_P D vwCl (qW cI h g0 v0 th g gm) s.heap := hP
  have hl := lv_entry ([.ref h]) (n := 2) (Nat.le_of_ble_eq_true rfl)
  rw [lg_entry_eq]
  generalize (lg_sl ([.ref h]) ++ List.replicate (2 - (lg_sl ([.ref h])).length) Slot.unset).toArray = ls at hl ⊢
  have hl : lv_has ls 2 [(0, .ref h)] := hl
  refine lv_aload_n hx hb dX5_meanLife_0 rfl (lv_at hl 0 rfl) ?_
  refine lv_iconst (v := 0) hx hb dX5_meanLife_1 (by decide) ?_
  refine va_put (D := D) (ci := 5) (v := .int 0) (ty := .int) (C := RX5) (T := TX5) (N := 4) hx hb hts (by decide +kernel) tyX5 tyX5_ok nmX5 hown hK hP hD hS 0 rfl rfl 0 (by decide) (hts (.fieldLink RX5 18 "WarrenModel" "thrown" "I") (by decide +kernel)) (fun _ h9 => h9) rfl (by decide +kernel) rfl rfl (Nat.le_of_ble_eq_true rfl) dX5_meanLife_2 (fun H locs hP hD hS => ?_)
  have hP : va_P D vwCl (qW cI h g0 v0 0 g gm) H := hP
  have hD : va_D A (qW cI h g0 v0 0 g gm) := hD
  refine lv_aload_n hx hb dX5_meanLife_5 rfl (lv_at hl 0 rfl) ?_
  refine lv_iconst (v := 0) hx hb dX5_meanLife_6 (by decide) ?_
  refine vp_callSi (va_Run.run (va_runV (As := [.int 0]) (rest := []) ⟨hx, hb, hml, hown, hts⟩ (c_X5_alive_0 l D cI h g0 v0 0 g gm 0 hg0) (cwV 1 hts gX5_meanLife_X5_alive rfl rfl rfl (by decide +kernel) ⟨Nat.le_of_ble_eq_true rfl, Nat.le_of_ble_eq_true rfl⟩) ⟨preR_blind, va_recv hK hP (ci := 5) (q0 := 0) rfl rfl, preR_of hP hK hE [.ref h, .int 0]⟩ rfl rfl hl.1 rfl (lv_room (Nat.le_of_ble_eq_true rfl)) dX5_meanLife_7 ⟨Nat.zero_le _, Nat.zero_le _⟩)) (fun r hr9 => ?_)
  subst hr9
  refine lv_aload_n hx hb dX5_meanLife_10 rfl (lv_at hl 0 rfl) ?_
  refine lv_iconst (v := 1) hx hb dX5_meanLife_11 (by decide) ?_
  refine vp_callSi (va_Run.run (va_runV (As := [.int 1]) (rest := [.int 0]) ⟨hx, hb, hml, hown, hts⟩ (c_X5_alive_0 l D cI h g0 v0 0 g gm 1 hg0) (cwV 1 hts gX5_meanLife_X5_alive rfl rfl rfl (by decide +kernel) ⟨Nat.le_of_ble_eq_true rfl, Nat.le_of_ble_eq_true rfl⟩) ⟨preR_blind, va_recv hK hP (ci := 5) (q0 := 0) rfl rfl, preR_of hP hK hE [.ref h, .int 1]⟩ rfl rfl hl.1 rfl (lv_room (Nat.le_of_ble_eq_true rfl)) dX5_meanLife_12 ⟨Nat.zero_le _, Nat.zero_le _⟩)) (fun r hr9 => ?_)
  subst hr9
  refine lv_iadd hx hb dX5_meanLife_15 ?_
  rw [show ((0 + 0) : Int32) = 0 from rfl]
  refine lv_istore_n (lv' := [(1, .int 0), (0, .ref h)]) hx hb dX5_meanLife_16 rfl hl (by decide) rfl (fun ls hl => ?_)
  refine lv_iload_n hx hb dX5_meanLife_17 rfl (lv_at hl 0 rfl) ?_
  refine lv_if_ne (tgt := 25) hx hb dX5_meanLife_18 (by decide) (fun z9 => absurd (by decide) z9) (fun _ => ?_)
  refine lv_dconst0 hx hb dX5_meanLife_21 ?_
  refine lv_goto (tgt := 40) hx hb dX5_meanLife_22 (by decide) ?_
  have hP9 := hP
  have hD9 := hD
  exact W.dret (v := FP.dconst0) hx hb hr (fun T9 ht hW => ⟨⟨FP.dconst0, (0, g, gm), rfl, ⟨rfl, rfl⟩, by rw [ht]; exact hP9, va_K.moved hW.alike hK, hD9⟩, hS.F ht⟩) hS.2.2 dX5_meanLife_40

set_option maxHeartbeats 4000000 in
set_option maxRecDepth 100000 in
theorem c_X5_digest_0 (l : Launch) (D : va_G) (cI : ClassId) (sz : Nat) (h g0 v0 : Nat) (th : Int32) (g : Nat → Int32) (gm : Int32) (hg0 : g (680 : Int32).toNatClampNeg = 0) (hgz : ∀ j, 160 ≤ j → j < 683 → g j = 0) (hgm : gm = 0) : Met l yX5_digest wsX5_digest ({ frames := 2, cells := 0, slots := 0, locals := 46 } : Room) (va_Pc [.ref h] (preM D cI (qW cI h g0 v0 th g gm) sz)) (va_Ql (fun (r : Int64) (u : (Int32 × (Nat → Int32) × Int32)) => r = digM64 g ∧ u.1 = 0) (fun (u : (Int32 × (Nat → Int32) × Int32)) => posM D cI (va_A (qW cI h g0 v0 th g gm) sz) (qW cI h g0 v0 u.1 u.2.1 u.2.2)) (va_A (qW cI h g0 v0 th g gm) sz)) 0 0 (va_A (qW cI h g0 v0 th g gm) sz) := by
  refine Met.ofW (cc := cX5_digest) (maxL := 9) (ret := (some .long)) (by decide) rfl ?_
  intro p e s m args below meth c s₁ B hml hv
  obtain ⟨rfl, hsz, hP, hK, hE, hD0⟩ := hv
  have hx := B.exec
  have hb := B.bytes
  have hr := B.returns
  have hts := atoms_spec (ws := wsX5_digest) B.pre
  have hown : s.vm.findClass RX5 = some m.cls := findClass_of_methodNamed B.named
  have hlocks := B.notSynchronized
  subst hsz
  have hD := hD0.self (sz := s.heap.size)
  generalize hAe : va_A (qW cI h g0 v0 th g gm) s.heap.size = A at hD ⊢
  have hA : ∀ q : Nat, s.heap.size ≤ q → A q := fun q h => by rw [← hAe]; exact Or.inr h
  have hS : va_S A s.heap s.heap [] := va_S.rf
  have hP : va_P D vwCl (qW cI h g0 v0 th g gm) s.heap := hP
  have hl := lv_entry ([.ref h]) (n := 9) (Nat.le_of_ble_eq_true rfl)
  rw [lg_entry_eq]
  generalize (lg_sl ([.ref h]) ++ List.replicate (9 - (lg_sl ([.ref h])).length) Slot.unset).toArray = ls at hl ⊢
  have hl : lv_has ls 9 [(0, .ref h)] := hl
  refine lv_aload_n hx hb dX5_digest_0 rfl (lv_at hl 0 rfl) ?_
  refine lv_iconst (v := 0) hx hb dX5_digest_1 (by decide) ?_
  refine va_put (D := D) (ci := 5) (v := .int 0) (ty := .int) (C := RX5) (T := TX5) (N := 4) hx hb hts (by decide +kernel) tyX5 tyX5_ok nmX5 hown hK hP hD hS 0 rfl rfl 0 (by decide) (hts (.fieldLink RX5 18 "WarrenModel" "thrown" "I") (by decide +kernel)) (fun _ h9 => h9) rfl (by decide +kernel) rfl rfl (Nat.le_of_ble_eq_true rfl) dX5_digest_2 (fun H locs hP hD hS => ?_)
  have hP : va_P D vwCl (qW cI h g0 v0 0 g gm) H := hP
  have hD : va_D A (qW cI h g0 v0 0 g gm) := hD
  refine lv_ldc2 hx hb hown (hts (.constantLong RX5 178 (58090)) (by decide +kernel)) dX5_digest_5 ?_
  refine lv_lstore_n (lv' := [(1, .long (58090)), (0, .ref h)]) hx hb dX5_digest_8 rfl hl (by decide) rfl (fun ls hl => ?_)
  refine lv_iconst (v := 0) hx hb dX5_digest_9 (by decide) ?_
  refine lv_istore_n (lv' := [(3, .int 0), (1, .long (58090)), (0, .ref h)]) hx hb dX5_digest_10 rfl hl (by decide) rfl (fun ls hl => ?_)
  have L11 : ∀ (n k : Nat) (d : Int64) (hk : k + n = 9) (hsp : digM64 g = dgMC g 160 0 (dgMW n k d)) (H : Heap) (locs : List Loc) (ls : Array Slot), lv_has ls 9 [(3, .int (nI k)), (1, .long d), (0, .ref h)] → va_P D vwCl (qW cI h g0 v0 0 g gm) H → va_D A (qW cI h g0 v0 0 g gm) → va_S A s.heap H locs → W p l e ({ frames := 2, cells := 0, slots := 0, locals := 46 } : Room) s m ([.ref h] : List Value).toArray below meth c H locs 0 0 (MQ below (va_Ql (fun (r : Int64) (u : (Int32 × (Nat → Int32) × Int32)) => r = digM64 g ∧ u.1 = 0) (fun (u : (Int32 × (Nat → Int32) × Int32)) => posM D cI A (qW cI h g0 v0 u.1 u.2.1 u.2.2)) A) ([.ref h] : List Value).toArray s 0 0 A) (F0 m 11 ls []) := by
    intro n
    induction n with
    | zero =>
      intro k d hk hsp H locs ls hl hP hD hS
      refine lv_iload_n hx hb dX5_digest_11 rfl (lv_at hl 0 rfl) ?_
      refine lv_bipush (v := 9) hx hb dX5_digest_12 (by decide) ?_
      refine lv_icmp_ge (tgt := 36) hx hb dX5_digest_14 (by decide) (fun c_14 => ?_) (fun c_14 => absurd (nI_le (b := k) (a := 9) (by omega) (by omega)) c_14)
      refine lv_iconst (v := 0) hx hb dX5_digest_36 (by decide) ?_
      refine lv_istore_n (lv' := [(3, .int 0), (1, .long d), (0, .ref h)]) hx hb dX5_digest_37 rfl hl (by decide) rfl (fun ls hl => ?_)
      have L38 : ∀ (n1 k1 : Nat) (d1 : Int64) (hk1 : k1 + n1 = 160) (hsp1 : digM64 g = dgMC g n1 k1 d1) (H : Heap) (locs : List Loc) (ls : Array Slot), lv_has ls 9 [(3, .int (nI k1)), (1, .long d1), (0, .ref h)] → va_P D vwCl (qW cI h g0 v0 0 g gm) H → va_D A (qW cI h g0 v0 0 g gm) → va_S A s.heap H locs → W p l e ({ frames := 2, cells := 0, slots := 0, locals := 46 } : Room) s m ([.ref h] : List Value).toArray below meth c H locs 0 0 (MQ below (va_Ql (fun (r : Int64) (u : (Int32 × (Nat → Int32) × Int32)) => r = digM64 g ∧ u.1 = 0) (fun (u : (Int32 × (Nat → Int32) × Int32)) => posM D cI A (qW cI h g0 v0 u.1 u.2.1 u.2.2)) A) ([.ref h] : List Value).toArray s 0 0 A) (F0 m 38 ls []) := by
        intro n1
        induction n1 with
        | zero =>
          intro k1 d1 hk1 hsp1 H locs ls hl hP hD hS
          refine lv_iload_n hx hb dX5_digest_38 rfl (lv_at hl 0 rfl) ?_
          refine lv_sipush (v := 160) hx hb dX5_digest_39 (by decide) ?_
          refine lv_icmp_ge (tgt := 65) hx hb dX5_digest_42 (by decide) (fun c_42 => ?_) (fun c_42 => absurd (nI_le (b := k1) (a := 160) (by omega) (by omega)) c_42)
          refine lv_iconst (v := 0) hx hb dX5_digest_65 (by decide) ?_
          refine lv_istore_n (lv' := [(3, .int 0), (1, .long d1), (0, .ref h)]) hx hb dX5_digest_66 rfl hl (by decide) rfl (fun ls hl => ?_)
          refine lv_iload_n hx hb dX5_digest_67 rfl (lv_at hl 0 rfl) ?_
          refine lv_aload_n hx hb dX5_digest_68 rfl (lv_at hl 2 rfl) ?_
          refine va_get (D := D) (ci := 5) (v := .ref g0) (C := RX5) (T := TX5) (N := 4) hx hb hts (by decide +kernel) hown hK hP 0 rfl rfl 1 (by decide) (hts (.fieldLink RX5 9 "WarrenModel" "g" "[I") (by decide +kernel)) (fun _ h9 => h9) rfl dX5_digest_69 ?_
          refine lv_sipush (v := 680) hx hb dX5_digest_72 (by decide) ?_
          refine va_iald hx hb hK hP 1 0 rfl rfl (vp_in_nI (n := 680) (by decide) (by decide)) dX5_digest_75 ?_
          refine lv_icmp_ge (tgt := 238) hx hb dX5_digest_76 (by decide) (fun c_76 => ?_) (fun c_76 => absurd ((by rw [hg0]; decide)) c_76)
          refine lv_aload_n hx hb dX5_digest_238 rfl (lv_at hl 2 rfl) ?_
          refine vp_callSi (va_Run.run (va_runV (As := []) (rest := []) ⟨hx, hb, hml, hown, hts⟩ (c_X5_turn_0 l D cI h g0 v0 0 g gm  hg0) (cwV 0 hts gX5_digest_X5_turn rfl rfl rfl (by decide +kernel) ⟨Nat.le_of_ble_eq_true rfl, Nat.le_of_ble_eq_true rfl⟩) ⟨preR_blind, va_recv hK hP (ci := 5) (q0 := 0) rfl rfl, preR_of hP hK hE [.ref h]⟩ rfl rfl hl.1 rfl (lv_room (Nat.le_of_ble_eq_true rfl)) dX5_digest_239 ⟨Nat.zero_le _, Nat.zero_le _⟩)) (fun r hr9 => ?_)
          subst hr9
          refine lv_istore_n (lv' := [(3, .int (-1)), (1, .long d1), (0, .ref h)]) hx hb dX5_digest_242 rfl hl (by decide) rfl (fun ls hl => ?_)
          refine lv_iload_n hx hb dX5_digest_243 rfl (lv_at hl 0 rfl) ?_
          refine lv_iconst (v := (-1)) hx hb dX5_digest_244 (by decide) ?_
          refine lv_icmp_ne (tgt := 252) hx hb dX5_digest_245 (by decide) (fun c_245 => absurd (by decide) c_245) (fun c_245 => ?_)
          refine lv_lload_n hx hb dX5_digest_248 rfl (lv_at hl 1 rfl) ?_
          refine lv_goto (tgt := 270) hx hb dX5_digest_249 (by decide) ?_
          have hP9 := hP
          have hD9 := hD
          exact W.lret (v := d1) hx hb hr (fun T9 ht hW => ⟨⟨d1, (0, g, gm), rfl, ⟨by rw [hsp1]; rfl, rfl⟩, by rw [ht]; exact hP9, va_K.moved hW.alike hK, hD9⟩, hS.F ht⟩) hS.2.2 dX5_digest_270
        | succ n1 ih38 =>
          intro k1 d1 hk1 hsp1 H locs ls hl hP hD hS
          refine lv_iload_n hx hb dX5_digest_38 rfl (lv_at hl 0 rfl) ?_
          refine lv_sipush (v := 160) hx hb dX5_digest_39 (by decide) ?_
          refine lv_icmp_ge (tgt := 65) hx hb dX5_digest_42 (by decide) (fun c_42 => absurd c_42 (nI_ge (b := 160) (by omega) (by omega))) (fun c_42 => ?_)
          refine lv_lload_n hx hb dX5_digest_45 rfl (lv_at hl 1 rfl) ?_
          refine lv_ldc2 hx hb hown (hts (.constantLong RX5 180 (31)) (by decide +kernel)) dX5_digest_46 ?_
          refine lv_lmul hx hb dX5_digest_49 ?_
          refine lv_aload_n hx hb dX5_digest_50 rfl (lv_at hl 2 rfl) ?_
          refine va_get (D := D) (ci := 5) (v := .ref g0) (C := RX5) (T := TX5) (N := 4) hx hb hts (by decide +kernel) hown hK hP 0 rfl rfl 1 (by decide) (hts (.fieldLink RX5 9 "WarrenModel" "g" "[I") (by decide +kernel)) (fun _ h9 => h9) rfl dX5_digest_51 ?_
          refine lv_iload_n hx hb dX5_digest_54 rfl (lv_at hl 0 rfl) ?_
          refine va_iald hx hb hK hP 1 0 rfl rfl (vp_in_nI (n := k1) (by omega) (by decide)) dX5_digest_55 ?_
          refine lv_i2l (v := (g (nI k1).toNatClampNeg).toInt64) hx hb dX5_digest_56 rfl ?_
          refine lv_ladd hx hb dX5_digest_57 ?_
          refine lv_lstore_n (lv' := [(1, .long ((d1 * (31)) + (g (nI k1).toNatClampNeg).toInt64)), (3, .int (nI k1)), (0, .ref h)]) hx hb dX5_digest_58 rfl hl (by decide) rfl (fun ls hl => ?_)
          refine lv_iinc (v := (nI (k1 + 1))) (lv' := [(3, .int (nI (k1 + 1))), (1, .long ((d1 * (31)) + (g (nI k1).toNatClampNeg).toInt64)), (0, .ref h)]) hx hb dX5_digest_59 hl (k := 1) rfl (nI_1 k1) (by decide) rfl (fun ls hl => ?_)
          refine lv_goto (tgt := 38) hx hb dX5_digest_62 (by decide) ?_
          exact ih38 (k1 + 1) ((d1 * (31)) + (g (nI k1).toNatClampNeg).toInt64) (by omega) (by rw [hsp1, nI_clamp (by omega)]; rfl) _ _ ls (lv_sub hl [0, 1, 2] rfl) hP hD hS
      exact L38 160 0 d (by omega) hsp _ _ ls (lv_sub hl [0, 1, 2] rfl) hP hD hS
    | succ n ih11 =>
      intro k d hk hsp H locs ls hl hP hD hS
      refine lv_iload_n hx hb dX5_digest_11 rfl (lv_at hl 0 rfl) ?_
      refine lv_bipush (v := 9) hx hb dX5_digest_12 (by decide) ?_
      refine lv_icmp_ge (tgt := 36) hx hb dX5_digest_14 (by decide) (fun c_14 => absurd c_14 (nI_ge (b := 9) (by omega) (by omega))) (fun c_14 => ?_)
      refine lv_lload_n hx hb dX5_digest_17 rfl (lv_at hl 1 rfl) ?_
      refine lv_ldc2 hx hb hown (hts (.constantLong RX5 180 (31)) (by decide +kernel)) dX5_digest_18 ?_
      refine lv_lmul hx hb dX5_digest_21 ?_
      refine lv_aload_n hx hb dX5_digest_22 rfl (lv_at hl 2 rfl) ?_
      refine lv_iload_n hx hb dX5_digest_23 rfl (lv_at hl 0 rfl) ?_
      refine vp_callSi (va_Run.run (va_runV (As := [.int (nI k)]) (rest := [.long (d * (31))]) ⟨hx, hb, hml, hown, hts⟩ (c_X5_manyNow_0 l D cI h g0 v0 0 g gm (nI k) hg0 hgz hgm (within_k (by omega))) (cwV 1 hts gX5_digest_X5_manyNow rfl rfl rfl (by decide +kernel) ⟨Nat.le_of_ble_eq_true rfl, Nat.le_of_ble_eq_true rfl⟩) ⟨preR_blind, va_recv hK hP (ci := 5) (q0 := 0) rfl rfl, preR_of hP hK hE [.ref h, .int (nI k)]⟩ rfl rfl hl.1 rfl (lv_room (Nat.le_of_ble_eq_true rfl)) dX5_digest_24 ⟨Nat.zero_le _, Nat.zero_le _⟩)) (fun r hr9 => ?_)
      subst hr9
      refine lv_i2l (v := (manyM (nI k).toNatClampNeg).toInt64) hx hb dX5_digest_27 rfl ?_
      refine lv_ladd hx hb dX5_digest_28 ?_
      refine lv_lstore_n (lv' := [(1, .long ((d * (31)) + (manyM (nI k).toNatClampNeg).toInt64)), (3, .int (nI k)), (0, .ref h)]) hx hb dX5_digest_29 rfl hl (by decide) rfl (fun ls hl => ?_)
      refine lv_iinc (v := (nI (k + 1))) (lv' := [(3, .int (nI (k + 1))), (1, .long ((d * (31)) + (manyM (nI k).toNatClampNeg).toInt64)), (0, .ref h)]) hx hb dX5_digest_30 hl (k := 1) rfl (nI_1 k) (by decide) rfl (fun ls hl => ?_)
      refine lv_goto (tgt := 11) hx hb dX5_digest_33 (by decide) ?_
      exact ih11 (k + 1) ((d * (31)) + (manyM (nI k).toNatClampNeg).toInt64) (by omega) (by rw [hsp, nI_clamp (by omega)]; rfl) _ _ ls (lv_sub hl [0, 1, 2] rfl) hP hD hS
  exact L11 9 0 58090 (by omega) rfl _ _ ls (lv_sub hl [0, 1, 2] rfl) hP hD hS

