set_option maxHeartbeats 4000000 in
set_option maxRecDepth 100000 in
theorem c_X4_stopsSight (l : Launch) (x : Int32) : Met l yX4_stopsSight wsX4_stopsSight ({ frames := 0, cells := 0, slots := 0, locals := 0 } : Room) (va_Pc [.int x] (fun _ => True)) (vp_Si (fun r => r = bi (stopsB x))) 0 0 (fun _ => False) := by
  refine Met.ofW (cc := cX4_stopsSight) (maxL := 1) (ret := (some .boolean)) (by decide) rfl ?_
  intro p e s m args below meth c s₁ B hml hv
  obtain ⟨rfl, -⟩ := hv
  have hx := B.exec
  have hb := B.bytes
  have hr := B.returns
  have hts := atoms_spec (ws := wsX4_stopsSight) B.pre
  have hown : s.vm.findClass RX4 = some m.cls := findClass_of_methodNamed B.named
  have hlocks := B.notSynchronized
  have hl := lv_entry ([.int x]) (n := 1) (Nat.le_of_ble_eq_true rfl)
  rw [lg_entry_eq]
  generalize (lg_sl ([.int x]) ++ List.replicate (1 - (lg_sl ([.int x])).length) Slot.unset).toArray = ls at hl ⊢
  have hl : lv_has ls 1 [(0, .int x)] := hl
  refine lv_iload_n hx hb dX4_stopsSight_0 rfl (lv_at hl 0 rfl) ?_
  refine lv_iconst (v := 1) hx hb dX4_stopsSight_1 (by decide) ?_
  refine lv_icmp_eq (tgt := 10) hx hb dX4_stopsSight_2 (by decide) (fun c_2 => ?_) (fun c_2 => ?_)
  · refine lv_iconst (v := 1) hx hb dX4_stopsSight_10 (by decide) ?_
    refine lv_goto (tgt := 15) hx hb dX4_stopsSight_11 (by decide) ?_
    exact W.zret (v := 1) hx hb hr rfl (fun t ht _ => ⟨_, rfl, by first | rfl | (simp only [stopsB, if_pos c_2]; done) | (simp only [stopsB, if_pos c_2]; rfl) | (simp [stopsB, c_2]; done) | (simp [stopsB, c_2]; rfl), ht⟩) hnil dX4_stopsSight_15
  · refine lv_iload_n hx hb dX4_stopsSight_5 rfl (lv_at hl 0 rfl) ?_
    refine lv_iconst (v := 2) hx hb dX4_stopsSight_6 (by decide) ?_
    refine lv_icmp_ne (tgt := 14) hx hb dX4_stopsSight_7 (by decide) (fun c_7 => ?_) (fun c_7 => ?_)
    · refine lv_iconst (v := 0) hx hb dX4_stopsSight_14 (by decide) ?_
      exact W.zret (v := 0) hx hb hr rfl (fun t ht _ => ⟨_, rfl, by first | rfl | (simp only [stopsB, if_neg c_2, if_neg c_7]; done) | (simp only [stopsB, if_neg c_2, if_neg c_7]; rfl) | (simp [stopsB, c_2, c_7]; done) | (simp [stopsB, c_2, c_7]; rfl), ht⟩) hnil dX4_stopsSight_15
    · refine lv_iconst (v := 1) hx hb dX4_stopsSight_10 (by decide) ?_
      refine lv_goto (tgt := 15) hx hb dX4_stopsSight_11 (by decide) ?_
      exact W.zret (v := 1) hx hb hr rfl (fun t ht _ => ⟨_, rfl, by first | rfl | (simp only [stopsB, if_neg c_2, if_pos c_7]; done) | (simp only [stopsB, if_neg c_2, if_pos c_7]; rfl) | (simp [stopsB, c_2, c_7]; done) | (simp [stopsB, c_2, c_7]; rfl), ht⟩) hnil dX4_stopsSight_15

set_option maxHeartbeats 4000000 in
set_option maxRecDepth 100000 in
theorem c_X4_isEdge (l : Launch) (x : Int32) : Met l yX4_isEdge wsX4_isEdge ({ frames := 0, cells := 0, slots := 0, locals := 0 } : Room) (va_Pc [.int x] (fun _ => True)) (vp_Si (fun r => r = bi (edgeB x))) 0 0 (fun _ => False) := by
  refine Met.ofW (cc := cX4_isEdge) (maxL := 3) (ret := (some .boolean)) (by decide) rfl ?_
  intro p e s m args below meth c s₁ B hml hv
  obtain ⟨rfl, -⟩ := hv
  have hx := B.exec
  have hb := B.bytes
  have hr := B.returns
  have hts := atoms_spec (ws := wsX4_isEdge) B.pre
  have hown : s.vm.findClass RX4 = some m.cls := findClass_of_methodNamed B.named
  have hlocks := B.notSynchronized
  have hl := lv_entry ([.int x]) (n := 3) (Nat.le_of_ble_eq_true rfl)
  rw [lg_entry_eq]
  generalize (lg_sl ([.int x]) ++ List.replicate (3 - (lg_sl ([.int x])).length) Slot.unset).toArray = ls at hl ⊢
  have hl : lv_has ls 3 [(0, .int x)] := hl
  refine lv_iload_n hx hb dX4_isEdge_0 rfl (lv_at hl 0 rfl) ?_
  refine lv_bipush (v := 16) hx hb dX4_isEdge_1 (by decide) ?_
  refine lv_irem hx hb dX4_isEdge_3 (by decide) ?_
  refine lv_istore_n (lv' := [(1, .int (remI x 16)), (0, .int x)]) hx hb dX4_isEdge_4 rfl hl (by decide) rfl (fun ls hl => ?_)
  refine lv_iload_n hx hb dX4_isEdge_5 rfl (lv_at hl 1 rfl) ?_
  refine lv_bipush (v := 16) hx hb dX4_isEdge_6 (by decide) ?_
  refine lv_idiv hx hb dX4_isEdge_8 (by decide) ?_
  refine lv_istore_n (lv' := [(2, .int (x / 16)), (1, .int (remI x 16)), (0, .int x)]) hx hb dX4_isEdge_9 rfl hl (by decide) rfl (fun ls hl => ?_)
  refine lv_iload_n hx hb dX4_isEdge_10 rfl (lv_at hl 1 rfl) ?_
  refine lv_if_eq (tgt := 30) hx hb dX4_isEdge_11 (by decide) (fun c_11 => ?_) (fun c_11 => ?_)
  · refine lv_iconst (v := 1) hx hb dX4_isEdge_30 (by decide) ?_
    refine lv_goto (tgt := 35) hx hb dX4_isEdge_31 (by decide) ?_
    exact W.zret (v := 1) hx hb hr rfl (fun t ht _ => ⟨_, rfl, by first | rfl | (simp only [edgeB, colI, rowI, if_pos c_11]; done) | (simp only [edgeB, colI, rowI, if_pos c_11]; rfl) | (simp [edgeB, colI, rowI, c_11]; done) | (simp [edgeB, colI, rowI, c_11]; rfl), ht⟩) hnil dX4_isEdge_35
  · refine lv_iload_n hx hb dX4_isEdge_14 rfl (lv_at hl 1 rfl) ?_
    refine lv_bipush (v := 15) hx hb dX4_isEdge_15 (by decide) ?_
    refine lv_icmp_eq (tgt := 30) hx hb dX4_isEdge_17 (by decide) (fun c_17 => ?_) (fun c_17 => ?_)
    · refine lv_iconst (v := 1) hx hb dX4_isEdge_30 (by decide) ?_
      refine lv_goto (tgt := 35) hx hb dX4_isEdge_31 (by decide) ?_
      exact W.zret (v := 1) hx hb hr rfl (fun t ht _ => ⟨_, rfl, by first | rfl | (simp only [edgeB, colI, rowI, if_neg c_11, if_pos c_17]; done) | (simp only [edgeB, colI, rowI, if_neg c_11, if_pos c_17]; rfl) | (simp [edgeB, colI, rowI, c_11, c_17]; done) | (simp [edgeB, colI, rowI, c_11, c_17]; rfl), ht⟩) hnil dX4_isEdge_35
    · refine lv_iload_n hx hb dX4_isEdge_20 rfl (lv_at hl 0 rfl) ?_
      refine lv_if_eq (tgt := 30) hx hb dX4_isEdge_21 (by decide) (fun c_21 => ?_) (fun c_21 => ?_)
      · refine lv_iconst (v := 1) hx hb dX4_isEdge_30 (by decide) ?_
        refine lv_goto (tgt := 35) hx hb dX4_isEdge_31 (by decide) ?_
        exact W.zret (v := 1) hx hb hr rfl (fun t ht _ => ⟨_, rfl, by first | rfl | (simp only [edgeB, colI, rowI, if_neg c_11, if_neg c_17, if_pos c_21]; done) | (simp only [edgeB, colI, rowI, if_neg c_11, if_neg c_17, if_pos c_21]; rfl) | (simp [edgeB, colI, rowI, c_11, c_17, c_21]; done) | (simp [edgeB, colI, rowI, c_11, c_17, c_21]; rfl), ht⟩) hnil dX4_isEdge_35
      · refine lv_iload_n hx hb dX4_isEdge_24 rfl (lv_at hl 0 rfl) ?_
        refine lv_bipush (v := 9) hx hb dX4_isEdge_25 (by decide) ?_
        refine lv_icmp_ne (tgt := 34) hx hb dX4_isEdge_27 (by decide) (fun c_27 => ?_) (fun c_27 => ?_)
        · refine lv_iconst (v := 0) hx hb dX4_isEdge_34 (by decide) ?_
          exact W.zret (v := 0) hx hb hr rfl (fun t ht _ => ⟨_, rfl, by first | rfl | (simp only [edgeB, colI, rowI, if_neg c_11, if_neg c_17, if_neg c_21, if_neg c_27]; done) | (simp only [edgeB, colI, rowI, if_neg c_11, if_neg c_17, if_neg c_21, if_neg c_27]; rfl) | (simp [edgeB, colI, rowI, c_11, c_17, c_21, c_27]; done) | (simp [edgeB, colI, rowI, c_11, c_17, c_21, c_27]; rfl), ht⟩) hnil dX4_isEdge_35
        · refine lv_iconst (v := 1) hx hb dX4_isEdge_30 (by decide) ?_
          refine lv_goto (tgt := 35) hx hb dX4_isEdge_31 (by decide) ?_
          exact W.zret (v := 1) hx hb hr rfl (fun t ht _ => ⟨_, rfl, by first | rfl | (simp only [edgeB, colI, rowI, if_neg c_11, if_neg c_17, if_neg c_21, if_pos c_27]; done) | (simp only [edgeB, colI, rowI, if_neg c_11, if_neg c_17, if_neg c_21, if_pos c_27]; rfl) | (simp [edgeB, colI, rowI, c_11, c_17, c_21, c_27]; done) | (simp [edgeB, colI, rowI, c_11, c_17, c_21, c_27]; rfl), ht⟩) hnil dX4_isEdge_35

set_option maxHeartbeats 4000000 in
set_option maxRecDepth 100000 in
theorem c_J9_floorDiv_7cf53 (l : Launch) (x y : Int32) (hy : ¬ y = 0) : Met l yJ9_floorDiv_7cf53 wsJ9_floorDiv_7cf53 ({ frames := 0, cells := 0, slots := 0, locals := 0 } : Room) (va_Pc [.int x, .int y] (fun _ => True)) (vp_Si (fun r => r = floorF x y)) 0 0 (fun _ => False) := by
  refine w_ofWF (cc := cJ9_floorDiv_7cf53) (maxL := 3) (ret := (some .int)) (by decide +kernel) rfl ?_
  intro p e s m args below meth c s₁ B hml hv
  obtain ⟨rfl, -⟩ := hv
  have hx := B.exec
  have hb := B.bytes
  have hr := B.returns
  have hts := atoms_spec (ws := wsJ9_floorDiv_7cf53) B.pre
  have hown : s.vm.findClass RJ9 = some m.cls := findClass_of_methodNamed B.named
  have hlocks := B.notSynchronized
  have hl := lv_entry ([.int x, .int y]) (n := 3) (Nat.le_of_ble_eq_true rfl)
  rw [lg_entry_eq]
  generalize (lg_sl ([.int x, .int y]) ++ List.replicate (3 - (lg_sl ([.int x, .int y])).length) Slot.unset).toArray = ls at hl ⊢
  have hl : lv_has ls 3 [(0, .int x), (1, .int y)] := hl
  refine lv_iload_n hx hb dJ9_floorDiv_7cf53_0 rfl (lv_at hl 0 rfl) ?_
  refine lv_iload_n hx hb dJ9_floorDiv_7cf53_1 rfl (lv_at hl 1 rfl) ?_
  refine lv_idiv hx hb dJ9_floorDiv_7cf53_2 hy ?_
  refine lv_istore_n (lv' := [(2, .int (x / y)), (0, .int x), (1, .int y)]) hx hb dJ9_floorDiv_7cf53_3 rfl hl (by decide) rfl (fun ls hl => ?_)
  refine lv_iload_n hx hb dJ9_floorDiv_7cf53_4 rfl (lv_at hl 1 rfl) ?_
  refine lv_iload_n hx hb dJ9_floorDiv_7cf53_5 rfl (lv_at hl 2 rfl) ?_
  refine lv_ixor hx hb dJ9_floorDiv_7cf53_6 ?_
  refine lv_if_ge (tgt := 21) hx hb dJ9_floorDiv_7cf53_7 (by decide) (fun c_7 => ?_) (fun c_7 => ?_)
  · refine lv_iload_n hx hb dJ9_floorDiv_7cf53_21 rfl (lv_at hl 0 rfl) ?_
    exact W.iret (v := (x / y)) hx hb hr (fun t ht _ => ⟨_, rfl, by first | rfl | (simp only [floorF, if_pos c_7]; done) | (simp only [floorF, if_pos c_7]; rfl) | (simp [floorF, c_7]; done) | (simp [floorF, c_7]; rfl), ht⟩) hnil dJ9_floorDiv_7cf53_22
  · refine lv_iload_n hx hb dJ9_floorDiv_7cf53_10 rfl (lv_at hl 0 rfl) ?_
    refine lv_iload_n hx hb dJ9_floorDiv_7cf53_11 rfl (lv_at hl 2 rfl) ?_
    refine lv_imul hx hb dJ9_floorDiv_7cf53_12 ?_
    refine lv_iload_n hx hb dJ9_floorDiv_7cf53_13 rfl (lv_at hl 1 rfl) ?_
    refine lv_icmp_eq (tgt := 21) hx hb dJ9_floorDiv_7cf53_14 (by decide) (fun c_14 => ?_) (fun c_14 => ?_)
    · refine lv_iload_n hx hb dJ9_floorDiv_7cf53_21 rfl (lv_at hl 0 rfl) ?_
      exact W.iret (v := (x / y)) hx hb hr (fun t ht _ => ⟨_, rfl, by first | rfl | (simp only [floorF, if_neg c_7, if_pos c_14]; done) | (simp only [floorF, if_neg c_7, if_pos c_14]; rfl) | (simp [floorF, c_7, c_14]; done) | (simp [floorF, c_7, c_14]; rfl), ht⟩) hnil dJ9_floorDiv_7cf53_22
    · refine lv_iload_n hx hb dJ9_floorDiv_7cf53_17 rfl (lv_at hl 0 rfl) ?_
      refine lv_iconst (v := 1) hx hb dJ9_floorDiv_7cf53_18 (by decide) ?_
      refine lv_isub hx hb dJ9_floorDiv_7cf53_19 ?_
      exact W.iret (v := ((x / y) - 1)) hx hb hr (fun t ht _ => ⟨_, rfl, by first | rfl | (simp only [floorF, if_neg c_7, if_neg c_14]; done) | (simp only [floorF, if_neg c_7, if_neg c_14]; rfl) | (simp [floorF, c_7, c_14]; done) | (simp [floorF, c_7, c_14]; rfl), ht⟩) hnil dJ9_floorDiv_7cf53_20

set_option maxHeartbeats 4000000 in
set_option maxRecDepth 100000 in
theorem c_X2_apart (l : Launch) (x y : Int32) : Met l yX2_apart wsX2_apart ({ frames := 1, cells := 0, slots := 0, locals := 13 } : Room) (va_Pc [.int x, .int y] (fun _ => True)) (vp_Si (fun r => r = apartF x y)) 0 0 (fun _ => False) := by
  refine Met.ofW (cc := cX2_apart) (maxL := 4) (ret := (some .int)) (by decide) rfl ?_
  intro p e s m args below meth c s₁ B hml hv
  obtain ⟨rfl, -⟩ := hv
  have hx := B.exec
  have hb := B.bytes
  have hr := B.returns
  have hts := atoms_spec (ws := wsX2_apart) B.pre
  have hown : s.vm.findClass RX2 = some m.cls := findClass_of_methodNamed B.named
  have hlocks := B.notSynchronized
  have hl := lv_entry ([.int x, .int y]) (n := 4) (Nat.le_of_ble_eq_true rfl)
  rw [lg_entry_eq]
  generalize (lg_sl ([.int x, .int y]) ++ List.replicate (4 - (lg_sl ([.int x, .int y])).length) Slot.unset).toArray = ls at hl ⊢
  have hl : lv_has ls 4 [(0, .int x), (1, .int y)] := hl
  refine lv_iload_n hx hb dX2_apart_0 rfl (lv_at hl 1 rfl) ?_
  refine lv_bipush (v := 16) hx hb dX2_apart_1 (by decide) ?_
  refine lv_irem hx hb dX2_apart_3 (by decide) ?_
  refine lv_iload_n hx hb dX2_apart_4 rfl (lv_at hl 0 rfl) ?_
  refine lv_bipush (v := 16) hx hb dX2_apart_5 (by decide) ?_
  refine lv_irem hx hb dX2_apart_7 (by decide) ?_
  refine lv_isub hx hb dX2_apart_8 ?_
  refine va_mabs hx hb (hml.trans hl.1.symm) hown (hts (.methodLink RX2 61 Lib.Math.abs.name) (by decide +kernel)) (hts (.static Lib.Math.abs.name) (by decide +kernel)) (hts (.initialized "java/lang/Math") (by decide +kernel)) (hts (.code Lib.Math.abs.name Lib.Math.abs.code 1 (some .int)) (by decide +kernel)) (Nat.le_of_ble_eq_true rfl) (Nat.le_of_ble_eq_true rfl) (Nat.zero_le _) (Nat.zero_le _) dX2_apart_9 ?_
  refine lv_istore_n (lv' := [(2, .int (absI ((remI y 16) - (remI x 16)))), (0, .int x), (1, .int y)]) hx hb dX2_apart_12 rfl hl (by decide) rfl (fun ls hl => ?_)
  refine lv_iload_n hx hb dX2_apart_13 rfl (lv_at hl 2 rfl) ?_
  refine lv_bipush (v := 16) hx hb dX2_apart_14 (by decide) ?_
  refine lv_idiv hx hb dX2_apart_16 (by decide) ?_
  refine lv_iload_n hx hb dX2_apart_17 rfl (lv_at hl 1 rfl) ?_
  refine lv_bipush (v := 16) hx hb dX2_apart_18 (by decide) ?_
  refine lv_idiv hx hb dX2_apart_20 (by decide) ?_
  refine lv_isub hx hb dX2_apart_21 ?_
  refine va_mabs hx hb (hml.trans hl.1.symm) hown (hts (.methodLink RX2 61 Lib.Math.abs.name) (by decide +kernel)) (hts (.static Lib.Math.abs.name) (by decide +kernel)) (hts (.initialized "java/lang/Math") (by decide +kernel)) (hts (.code Lib.Math.abs.name Lib.Math.abs.code 1 (some .int)) (by decide +kernel)) (Nat.le_of_ble_eq_true rfl) (Nat.le_of_ble_eq_true rfl) (Nat.zero_le _) (Nat.zero_le _) dX2_apart_22 ?_
  refine lv_istore_n (lv' := [(3, .int (absI ((y / 16) - (x / 16)))), (2, .int (absI ((remI y 16) - (remI x 16)))), (0, .int x), (1, .int y)]) hx hb dX2_apart_25 rfl hl (by decide) rfl (fun ls hl => ?_)
  refine lv_iload_n hx hb dX2_apart_26 rfl (lv_at hl 1 rfl) ?_
  refine lv_iload_n hx hb dX2_apart_27 rfl (lv_at hl 0 rfl) ?_
  refine va_mmax hx hb (hml.trans hl.1.symm) hown (hts (.methodLink RX2 66 Lib.Math.max.name) (by decide +kernel)) (hts (.static Lib.Math.max.name) (by decide +kernel)) (hts (.initialized "java/lang/Math") (by decide +kernel)) (hts (.code Lib.Math.max.name Lib.Math.max.code 2 (some .int)) (by decide +kernel)) (Nat.le_of_ble_eq_true rfl) (Nat.le_of_ble_eq_true rfl) (Nat.zero_le _) (Nat.zero_le _) dX2_apart_28 ?_
  exact W.iret (v := (maxI (absI ((remI y 16) - (remI x 16))) (absI ((y / 16) - (x / 16))))) hx hb hr (fun t ht _ => ⟨_, rfl, by first | rfl | (simp only [apartF, colI, rowI]; done) | (simp only [apartF, colI, rowI]; rfl) | (simp [apartF, colI, rowI]; done) | (simp [apartF, colI, rowI]; rfl), ht⟩) hnil dX2_apart_31

set_option maxHeartbeats 4000000 in
set_option maxRecDepth 100000 in
theorem c_X2_nearest (l : Launch) (x : Int32) (j : Nat) (hj : j ≤ 7) : Met l yX2_nearest wsX2_nearest ({ frames := 1, cells := 0, slots := 0, locals := 22 } : Room) (va_Pc [.int x, .int (nI j)] (fun _ => True)) (vp_Si (fun r => r = nearF x (nI j))) 0 0 (fun _ => False) := by
  refine Met.ofW (cc := cX2_nearest) (maxL := 2) (ret := (some .int)) (by decide) rfl ?_
  intro p e s m args below meth c s₁ B hml hv
  obtain ⟨rfl, -⟩ := hv
  have hx := B.exec
  have hb := B.bytes
  have hr := B.returns
  have hts := atoms_spec (ws := wsX2_nearest) B.pre
  have hown : s.vm.findClass RX2 = some m.cls := findClass_of_methodNamed B.named
  have hlocks := B.notSynchronized
  have hl := lv_entry ([.int x, .int (nI j)]) (n := 2) (Nat.le_of_ble_eq_true rfl)
  rw [lg_entry_eq]
  generalize (lg_sl ([.int x, .int (nI j)]) ++ List.replicate (2 - (lg_sl ([.int x, .int (nI j)])).length) Slot.unset).toArray = ls at hl ⊢
  have hl : lv_has ls 2 [(0, .int x), (1, .int (nI j))] := hl
  refine lv_iload_n hx hb dX2_nearest_0 rfl (lv_at hl 1 rfl) ?_
  refine lv_if_le (tgt := 18) hx hb dX2_nearest_1 (by decide) (fun c_1 => ?_) (fun c_1 => ?_)
  · refine lv_iconst (v := 0) hx hb dX2_nearest_18 (by decide) ?_
    exact W.iret (v := 0) hx hb hr (fun t ht _ => ⟨_, rfl, by first | rfl | (simp only [nearF, if_pos c_1]; done) | (simp only [nearF, if_pos c_1]; rfl) | (simp [nearF, c_1]; done) | (simp [nearF, c_1]; rfl), ht⟩) hnil dX2_nearest_19
  · refine lv_iconst (v := 2) hx hb dX2_nearest_4 (by decide) ?_
    refine lv_iload_n hx hb dX2_nearest_5 rfl (lv_at hl 0 rfl) ?_
    refine lv_imul hx hb dX2_nearest_6 ?_
    refine lv_iload_n hx hb dX2_nearest_7 rfl (lv_at hl 1 rfl) ?_
    refine lv_iadd hx hb dX2_nearest_8 ?_
    refine lv_iconst (v := 2) hx hb dX2_nearest_9 (by decide) ?_
    refine lv_iload_n hx hb dX2_nearest_10 rfl (lv_at hl 1 rfl) ?_
    refine lv_imul hx hb dX2_nearest_11 ?_
    refine vp_callSi (va_Run.run (va_runS (As := [.int ((2 * x) + (nI j)), .int (2 * (nI j))]) (rest := []) ⟨hx, hb, hml, hown, hts⟩ (c_J9_floorDiv_7cf53 l ((2 * x) + (nI j)) (2 * (nI j)) (nz2 (by assumption) hj)) (va_cwS 2 hts gX2_nearest_J9_floorDiv_7cf53 rfl rfl rfl (by decide +kernel) ⟨Nat.le_of_ble_eq_true rfl, Nat.le_of_ble_eq_true rfl⟩) ⟨fun _ _ _ _ q => q, fun _ _ _ => ⟨rfl, trivial⟩⟩ rfl rfl hl.1 rfl (lv_room (Nat.le_of_ble_eq_true rfl)) dX2_nearest_12 ⟨Nat.zero_le _, Nat.zero_le _⟩)) (fun r hr9 => ?_)
    subst hr9
    refine lv_goto (tgt := 19) hx hb dX2_nearest_15 (by decide) ?_
    exact W.iret (v := (floorF ((2 * x) + (nI j)) (2 * (nI j)))) hx hb hr (fun t ht _ => ⟨_, rfl, by first | rfl | (simp only [nearF, if_neg c_1]; done) | (simp only [nearF, if_neg c_1]; rfl) | (simp [nearF, c_1]; done) | (simp [nearF, c_1]; rfl), ht⟩) hnil dX2_nearest_19

set_option maxHeartbeats 4000000 in
set_option maxRecDepth 100000 in
theorem c_X2_isSeenFrom (l : Launch) (D : va_G) (cI : ClassId) (a : Nat → Nat) (σ : SS) (x y : Int32) : Met l yX2_isSeenFrom wsX2_isSeenFrom ({ frames := 2, cells := 0, slots := 0, locals := 43 } : Room) (va_Pc [.ref (a 0), .int x, .int y] (preR D cI (sW cI a σ))) (vp_Si (fun r => r = bi (seenB σ x y))) 0 0 (fun _ => False) := by
  refine Met.ofW (cc := cX2_isSeenFrom) (maxL := 8) (ret := (some .boolean)) (by decide) rfl ?_
  intro p e s m args below meth c s₁ B hml hv
  obtain ⟨rfl, hP, hK, hE⟩ := hv
  have hx := B.exec
  have hb := B.bytes
  have hr := B.returns
  have hts := atoms_spec (ws := wsX2_isSeenFrom) B.pre
  have hown : s.vm.findClass RX2 = some m.cls := findClass_of_methodNamed B.named
  have hlocks := B.notSynchronized
  have hl := lv_entry ([.ref (a 0), .int x, .int y]) (n := 8) (Nat.le_of_ble_eq_true rfl)
  rw [lg_entry_eq]
  generalize (lg_sl ([.ref (a 0), .int x, .int y]) ++ List.replicate (8 - (lg_sl ([.ref (a 0), .int x, .int y])).length) Slot.unset).toArray = ls at hl ⊢
  have hl : lv_has ls 8 [(0, .ref (a 0)), (1, .int x), (2, .int y)] := hl
  refine lv_iload_n hx hb dX2_isSeenFrom_0 rfl (lv_at hl 1 rfl) ?_
  refine lv_iload_n hx hb dX2_isSeenFrom_1 rfl (lv_at hl 2 rfl) ?_
  refine vp_callSi (va_Run.run (va_runS (As := [.int x, .int y]) (rest := []) ⟨hx, hb, hml, hown, hts⟩ (c_X2_apart l x y) (va_cwS 2 hts gX2_isSeenFrom_X2_apart rfl rfl rfl (by decide +kernel) ⟨Nat.le_of_ble_eq_true rfl, Nat.le_of_ble_eq_true rfl⟩) ⟨fun _ _ _ _ q => q, fun _ _ _ => ⟨rfl, trivial⟩⟩ rfl rfl hl.1 rfl (lv_room (Nat.le_of_ble_eq_true rfl)) dX2_isSeenFrom_2 ⟨Nat.zero_le _, Nat.zero_le _⟩)) (fun r hr9 => ?_)
  subst hr9
  refine lv_istore_n (lv' := [(3, .int (apartF x y)), (0, .ref (a 0)), (1, .int x), (2, .int y)]) hx hb dX2_isSeenFrom_5 rfl hl (by decide) rfl (fun ls hl => ?_)
  refine lv_iload_n hx hb dX2_isSeenFrom_6 rfl (lv_at hl 0 rfl) ?_
  refine lv_bipush (v := 7) hx hb dX2_isSeenFrom_7 (by decide) ?_
  refine lv_icmp_le (tgt := 14) hx hb dX2_isSeenFrom_9 (by decide) (fun c_9 => ?_) (fun c_9 => ?_)
  · obtain ⟨j, hj, ej⟩ := apart_le c_9
    rw [ej] at hl
    have hsp0 : seenB σ x y = seenL σ x y (nI j) (j - 1) 1 := by unfold seenB; rw [if_pos c_9, ej, nI_clamp (by omega)]
    refine lv_iload_n hx hb dX2_isSeenFrom_14 rfl (lv_at hl 3 rfl) ?_
    refine lv_bipush (v := 16) hx hb dX2_isSeenFrom_15 (by decide) ?_
    refine lv_irem hx hb dX2_isSeenFrom_17 (by decide) ?_
    refine lv_iload_n hx hb dX2_isSeenFrom_18 rfl (lv_at hl 2 rfl) ?_
    refine lv_bipush (v := 16) hx hb dX2_isSeenFrom_19 (by decide) ?_
    refine lv_irem hx hb dX2_isSeenFrom_21 (by decide) ?_
    refine lv_isub hx hb dX2_isSeenFrom_22 ?_
    refine lv_istore (lv' := [(4, .int ((remI y 16) - (remI x 16))), (3, .int (nI j)), (0, .ref (a 0)), (1, .int x), (2, .int y)]) hx hb dX2_isSeenFrom_23 hl (by decide) rfl (fun ls hl => ?_)
    refine lv_iload_n hx hb dX2_isSeenFrom_25 rfl (lv_at hl 4 rfl) ?_
    refine lv_bipush (v := 16) hx hb dX2_isSeenFrom_26 (by decide) ?_
    refine lv_idiv hx hb dX2_isSeenFrom_28 (by decide) ?_
    refine lv_iload_n hx hb dX2_isSeenFrom_29 rfl (lv_at hl 3 rfl) ?_
    refine lv_bipush (v := 16) hx hb dX2_isSeenFrom_30 (by decide) ?_
    refine lv_idiv hx hb dX2_isSeenFrom_32 (by decide) ?_
    refine lv_isub hx hb dX2_isSeenFrom_33 ?_
    refine lv_istore (lv' := [(5, .int ((y / 16) - (x / 16))), (4, .int ((remI y 16) - (remI x 16))), (3, .int (nI j)), (0, .ref (a 0)), (1, .int x), (2, .int y)]) hx hb dX2_isSeenFrom_34 hl (by decide) rfl (fun ls hl => ?_)
    refine lv_iconst (v := 1) hx hb dX2_isSeenFrom_36 (by decide) ?_
    refine lv_istore (lv' := [(6, .int 1), (5, .int ((y / 16) - (x / 16))), (4, .int ((remI y 16) - (remI x 16))), (3, .int (nI j)), (0, .ref (a 0)), (1, .int x), (2, .int y)]) hx hb dX2_isSeenFrom_37 hl (by decide) rfl (fun ls hl => ?_)
    have L39 : ∀ (n k : Nat) (hk : n = j - k) (hk1 : 1 ≤ k) (hk2 : k ≤ 8) (hsp : seenB σ x y = seenL σ x y (nI j) n k) (ls : Array Slot), lv_has ls 8 [(6, .int (nI k)), (5, .int ((y / 16) - (x / 16))), (4, .int ((remI y 16) - (remI x 16))), (3, .int (nI j)), (0, .ref (a 0)), (1, .int x), (2, .int y)] → W p l e ({ frames := 2, cells := 0, slots := 0, locals := 43 } : Room) s m ([.ref (a 0), .int x, .int y] : List Value).toArray below meth c s.heap [] 0 0 (MQ below (vp_Si (fun r => r = bi (seenB σ x y))) ([.ref (a 0), .int x, .int y] : List Value).toArray s 0 0 (fun _ => False)) (F0 m 39 ls []) := by
      intro n
      induction n with
      | zero =>
        intro k hk hk1 hk2 hsp ls hl
        refine lv_iload hx hb dX2_isSeenFrom_39 (lv_at hl 0 rfl) ?_
        refine lv_iload_n hx hb dX2_isSeenFrom_41 rfl (lv_at hl 3 rfl) ?_
        refine lv_icmp_ge (tgt := 91) hx hb dX2_isSeenFrom_42 (by decide) (fun c_42 => ?_) (fun c_42 => absurd (nI_le (by omega) (by omega)) c_42)
        refine lv_iconst (v := 1) hx hb dX2_isSeenFrom_91 (by decide) ?_
        exact W.zret (v := 1) hx hb hr rfl (fun t ht _ => ⟨_, rfl, by rw [hsp]; rfl, ht⟩) hnil dX2_isSeenFrom_92
      | succ n ih39 =>
        intro k hk hk1 hk2 hsp ls hl
        refine lv_iload hx hb dX2_isSeenFrom_39 (lv_at hl 0 rfl) ?_
        refine lv_iload_n hx hb dX2_isSeenFrom_41 rfl (lv_at hl 3 rfl) ?_
        refine lv_icmp_ge (tgt := 91) hx hb dX2_isSeenFrom_42 (by decide) (fun c_42 => absurd c_42 (nI_ge (by omega) (by omega))) (fun c_42 => ?_)
        refine lv_iload_n hx hb dX2_isSeenFrom_45 rfl (lv_at hl 5 rfl) ?_
        refine lv_iload hx hb dX2_isSeenFrom_46 (lv_at hl 0 rfl) ?_
        refine lv_iload hx hb dX2_isSeenFrom_48 (lv_at hl 2 rfl) ?_
        refine lv_imul hx hb dX2_isSeenFrom_50 ?_
        refine lv_iload_n hx hb dX2_isSeenFrom_51 rfl (lv_at hl 3 rfl) ?_
        refine vp_callSi (va_Run.run (va_runS (As := [.int ((nI k) * ((remI y 16) - (remI x 16))), .int (nI j)]) (rest := [.int x]) ⟨hx, hb, hml, hown, hts⟩ (c_X2_nearest l ((nI k) * ((remI y 16) - (remI x 16))) j hj) (va_cwS 2 hts gX2_isSeenFrom_X2_nearest rfl rfl rfl (by decide +kernel) ⟨Nat.le_of_ble_eq_true rfl, Nat.le_of_ble_eq_true rfl⟩) ⟨fun _ _ _ _ q => q, fun _ _ _ => ⟨rfl, trivial⟩⟩ rfl rfl hl.1 rfl (lv_room (Nat.le_of_ble_eq_true rfl)) dX2_isSeenFrom_52 ⟨Nat.zero_le _, Nat.zero_le _⟩)) (fun r hr9 => ?_)
        subst hr9
        refine lv_iadd hx hb dX2_isSeenFrom_55 ?_
        refine lv_bipush (v := 16) hx hb dX2_isSeenFrom_56 (by decide) ?_
        refine lv_iload hx hb dX2_isSeenFrom_58 (lv_at hl 0 rfl) ?_
        refine lv_iload hx hb dX2_isSeenFrom_60 (lv_at hl 1 rfl) ?_
        refine lv_imul hx hb dX2_isSeenFrom_62 ?_
        refine lv_iload_n hx hb dX2_isSeenFrom_63 rfl (lv_at hl 3 rfl) ?_
        refine vp_callSi (va_Run.run (va_runS (As := [.int ((nI k) * ((y / 16) - (x / 16))), .int (nI j)]) (rest := [.int 16, .int (x + (nearF ((nI k) * ((remI y 16) - (remI x 16))) (nI j)))]) ⟨hx, hb, hml, hown, hts⟩ (c_X2_nearest l ((nI k) * ((y / 16) - (x / 16))) j hj) (va_cwS 2 hts gX2_isSeenFrom_X2_nearest rfl rfl rfl (by decide +kernel) ⟨Nat.le_of_ble_eq_true rfl, Nat.le_of_ble_eq_true rfl⟩) ⟨fun _ _ _ _ q => q, fun _ _ _ => ⟨rfl, trivial⟩⟩ rfl rfl hl.1 rfl (lv_room (Nat.le_of_ble_eq_true rfl)) dX2_isSeenFrom_64 ⟨Nat.zero_le _, Nat.zero_le _⟩)) (fun r hr9 => ?_)
        subst hr9
        refine lv_imul hx hb dX2_isSeenFrom_67 ?_
        refine lv_iadd hx hb dX2_isSeenFrom_68 ?_
        refine lv_istore (lv' := [(7, .int ((x + (nearF ((nI k) * ((remI y 16) - (remI x 16))) (nI j))) + (16 * (nearF ((nI k) * ((y / 16) - (x / 16))) (nI j))))), (6, .int (nI k)), (5, .int ((y / 16) - (x / 16))), (4, .int ((remI y 16) - (remI x 16))), (3, .int (nI j)), (0, .ref (a 0)), (1, .int x), (2, .int y)]) hx hb dX2_isSeenFrom_69 hl (by decide) rfl (fun ls hl => ?_)
        refine lv_aload_n hx hb dX2_isSeenFrom_71 rfl (lv_at hl 5 rfl) ?_
        refine lv_iload hx hb dX2_isSeenFrom_72 (lv_at hl 0 rfl) ?_
        refine vp_callSi (va_Run.run (va_runV (As := [.int ((x + (nearF ((nI k) * ((remI y 16) - (remI x 16))) (nI j))) + (16 * (nearF ((nI k) * ((y / 16) - (x / 16))) (nI j))))]) (rest := []) ⟨hx, hb, hml, hown, hts⟩ (c_X2_kindAt l D cI a σ ((x + (nearF ((nI k) * ((remI y 16) - (remI x 16))) (nI j))) + (16 * (nearF ((nI k) * ((y / 16) - (x / 16))) (nI j))))) (cwV 1 hts gX2_isSeenFrom_X2_kindAt rfl rfl rfl (by decide +kernel) ⟨Nat.le_of_ble_eq_true rfl, Nat.le_of_ble_eq_true rfl⟩) ⟨preR_blind, va_recv hK hP (ci := 2) (q0 := 0) rfl rfl, preR_of hP hK hE [.ref (a 0), .int ((x + (nearF ((nI k) * ((remI y 16) - (remI x 16))) (nI j))) + (16 * (nearF ((nI k) * ((y / 16) - (x / 16))) (nI j))))]⟩ rfl rfl hl.1 rfl (lv_room (Nat.le_of_ble_eq_true rfl)) dX2_isSeenFrom_74 ⟨Nat.zero_le _, Nat.zero_le _⟩)) (fun r hr9 => ?_)
        subst hr9
        refine vp_callSi (va_Run.run (va_runSN (As := [.int (kindF σ ((x + (nearF ((nI k) * ((remI y 16) - (remI x 16))) (nI j))) + (16 * (nearF ((nI k) * ((y / 16) - (x / 16))) (nI j)))))]) (rest := []) ⟨hx, hb, hml, hown, hts⟩ (c_X4_stopsSight l (kindF σ ((x + (nearF ((nI k) * ((remI y 16) - (remI x 16))) (nI j))) + (16 * (nearF ((nI k) * ((y / 16) - (x / 16))) (nI j)))))) ⟨va_cnB 1 hts gX2_isSeenFrom_X4_stopsSight_n79 rfl rfl rfl hE.2.1 (hts _ (by decide +kernel : Cond.initialized yX4_stopsSight.cls ∈ _)) (by decide +kernel) ⟨Nat.le_of_ble_eq_true rfl, Nat.le_of_ble_eq_true rfl⟩, (hts _ (by decide +kernel : Cond.static yX4_stopsSight ∈ _)), trivial⟩ ⟨fun _ _ _ _ q => q, fun _ _ _ => ⟨rfl, trivial⟩⟩ rfl rfl hl.1 rfl (lv_room (Nat.le_of_ble_eq_true rfl)) dX2_isSeenFrom_77 ⟨Nat.zero_le _, Nat.zero_le _⟩)) (fun r hr9 => ?_)
        subst hr9
        refine w_bz (tgt := 85) hx hb dX2_isSeenFrom_80 (by decide) (fun c_80 => ?_) (fun c_80 => ?_)
        · refine lv_iinc (v := (nI (k + 1))) (lv' := [(6, .int (nI (k + 1))), (7, .int ((x + (nearF ((nI k) * ((remI y 16) - (remI x 16))) (nI j))) + (16 * (nearF ((nI k) * ((y / 16) - (x / 16))) (nI j))))), (5, .int ((y / 16) - (x / 16))), (4, .int ((remI y 16) - (remI x 16))), (3, .int (nI j)), (0, .ref (a 0)), (1, .int x), (2, .int y)]) hx hb dX2_isSeenFrom_85 hl (k := 1) rfl (nI_1 k) (by decide) rfl (fun ls hl => ?_)
          refine lv_goto (tgt := 39) hx hb dX2_isSeenFrom_88 (by decide) ?_
          exact ih39 (k + 1) (by omega) (by omega) (by omega) (by rw [hsp]; simp [seenL, lineC, colI, rowI, c_80]) ls (lv_sub hl [0, 2, 3, 4, 5, 6, 7] rfl)
        · refine lv_iconst (v := 0) hx hb dX2_isSeenFrom_83 (by decide) ?_
          exact W.zret (v := 0) hx hb hr rfl (fun t ht _ => ⟨_, rfl, by rw [hsp]; simp [seenL, lineC, colI, rowI, c_80, bi], ht⟩) hnil dX2_isSeenFrom_84
    exact L39 (j - 1) 1 rfl (by omega) (by omega) hsp0 ls (lv_sub hl [0, 1, 2, 3, 4, 5, 6] rfl)
  · refine lv_iconst (v := 0) hx hb dX2_isSeenFrom_12 (by decide) ?_
    exact W.zret (v := 0) hx hb hr rfl (fun t ht _ => ⟨_, rfl, by first | rfl | (simp only [seenB, if_neg c_9]; done) | (simp only [seenB, if_neg c_9]; rfl) | (simp [seenB, c_9]; done) | (simp [seenB, c_9]; rfl), ht⟩) hnil dX2_isSeenFrom_13

set_option maxHeartbeats 4000000 in
set_option maxRecDepth 100000 in
theorem c_X2_isKnown (l : Launch) (D : va_G) (cI : ClassId) (a : Nat → Nat) (σ : SS) (x y : Int32) : Met l yX2_isKnown wsX2_isKnown ({ frames := 0, cells := 0, slots := 0, locals := 0 } : Room) (va_Pc [.ref (a 0), .int x, .int y] (preR D cI (sW cI a σ))) (vp_Si (fun r => r = bi (knownB σ x y))) 0 0 (fun _ => False) := by
  refine Met.ofW (cc := cX2_isKnown) (maxL := 3) (ret := (some .boolean)) (by decide) rfl ?_
  intro p e s m args below meth c s₁ B hml hv
  obtain ⟨rfl, hP, hK, hE⟩ := hv
  have hx := B.exec
  have hb := B.bytes
  have hr := B.returns
  have hts := atoms_spec (ws := wsX2_isKnown) B.pre
  have hown : s.vm.findClass RX2 = some m.cls := findClass_of_methodNamed B.named
  have hlocks := B.notSynchronized
  have hl := lv_entry ([.ref (a 0), .int x, .int y]) (n := 3) (Nat.le_of_ble_eq_true rfl)
  rw [lg_entry_eq]
  generalize (lg_sl ([.ref (a 0), .int x, .int y]) ++ List.replicate (3 - (lg_sl ([.ref (a 0), .int x, .int y])).length) Slot.unset).toArray = ls at hl ⊢
  have hl : lv_has ls 3 [(0, .ref (a 0)), (1, .int x), (2, .int y)] := hl
  refine lv_iload_n hx hb dX2_isKnown_0 rfl (lv_at hl 2 rfl) ?_
  refine lv_if_lt (tgt := 30) hx hb dX2_isKnown_1 (by decide) (fun c_1 => ?_) (fun c_1 => ?_)
  · refine lv_iconst (v := 0) hx hb dX2_isKnown_30 (by decide) ?_
    exact W.zret (v := 0) hx hb hr rfl (fun t ht _ => ⟨_, rfl, by first | rfl | (simp only [knownB, if_pos c_1]; done) | (simp only [knownB, if_pos c_1]; rfl) | (simp [knownB, c_1]; done) | (simp [knownB, c_1]; rfl), ht⟩) hnil dX2_isKnown_31
  · refine lv_iload_n hx hb dX2_isKnown_4 rfl (lv_at hl 2 rfl) ?_
    refine lv_aload_n hx hb dX2_isKnown_5 rfl (lv_at hl 0 rfl) ?_
    refine va_get (D := D) (ci := 2) (v := .ref (a 2)) (C := RX2) (T := TX2) (N := 8) hx hb hts (by decide +kernel) hown hK hP 0 rfl rfl 1 (by decide) (hts (.fieldLink RX2 15 "Warren$State" "known" "[I") (by decide +kernel)) (fun _ h9 => h9) rfl dX2_isKnown_6 ?_
    refine va_alen (v := nI 160) hx hb hK hP 2 0 rfl rfl rfl dX2_isKnown_9 ?_
    refine lv_icmp_ge (tgt := 30) hx hb dX2_isKnown_10 (by decide) (fun c_10 => ?_) (fun c_10 => ?_)
    · refine lv_iconst (v := 0) hx hb dX2_isKnown_30 (by decide) ?_
      exact W.zret (v := 0) hx hb hr rfl (fun t ht _ => ⟨_, rfl, by first | rfl | (simp only [knownB, if_neg c_1, if_pos c_10]; done) | (simp only [knownB, if_neg c_1, if_pos c_10]; rfl) | (simp [knownB, c_1, c_10]; done) | (simp [knownB, c_1, c_10]; rfl), ht⟩) hnil dX2_isKnown_31
    · refine lv_aload_n hx hb dX2_isKnown_13 rfl (lv_at hl 0 rfl) ?_
      refine va_get (D := D) (ci := 2) (v := .ref (a 2)) (C := RX2) (T := TX2) (N := 8) hx hb hts (by decide +kernel) hown hK hP 0 rfl rfl 1 (by decide) (hts (.fieldLink RX2 15 "Warren$State" "known" "[I") (by decide +kernel)) (fun _ h9 => h9) rfl dX2_isKnown_14 ?_
      refine lv_iload_n hx hb dX2_isKnown_17 rfl (lv_at hl 2 rfl) ?_
      refine va_iald hx hb hK hP 2 0 rfl rfl (vin (by decide) (by assumption) (by assumption)) dX2_isKnown_18 ?_
      refine lv_iconst (v := 1) hx hb dX2_isKnown_19 (by decide) ?_
      refine lv_iload_n hx hb dX2_isKnown_20 rfl (lv_at hl 1 rfl) ?_
      refine lv_ishl hx hb dX2_isKnown_21 ?_
      refine lv_iand hx hb dX2_isKnown_22 ?_
      refine lv_if_eq (tgt := 30) hx hb dX2_isKnown_23 (by decide) (fun c_23 => ?_) (fun c_23 => ?_)
      · refine lv_iconst (v := 0) hx hb dX2_isKnown_30 (by decide) ?_
        exact W.zret (v := 0) hx hb hr rfl (fun t ht _ => ⟨_, rfl, by first | rfl | (simp only [knownB, if_neg c_1, if_neg c_10, if_pos c_23]; done) | (simp only [knownB, if_neg c_1, if_neg c_10, if_pos c_23]; rfl) | (simp [knownB, c_1, c_10, c_23]; done) | (simp [knownB, c_1, c_10, c_23]; rfl), ht⟩) hnil dX2_isKnown_31
      · refine lv_iconst (v := 1) hx hb dX2_isKnown_26 (by decide) ?_
        refine lv_goto (tgt := 31) hx hb dX2_isKnown_27 (by decide) ?_
        exact W.zret (v := 1) hx hb hr rfl (fun t ht _ => ⟨_, rfl, by first | rfl | (simp only [knownB, if_neg c_1, if_neg c_10, if_neg c_23]; done) | (simp only [knownB, if_neg c_1, if_neg c_10, if_neg c_23]; rfl) | (simp [knownB, c_1, c_10, c_23]; done) | (simp [knownB, c_1, c_10, c_23]; rfl), ht⟩) hnil dX2_isKnown_31

set_option maxHeartbeats 4000000 in
set_option maxRecDepth 100000 in
theorem c_X2_knownCells (l : Launch) (D : va_G) (cI : ClassId) (a : Nat → Nat) (σ : SS) (x : Int32) : Met l yX2_knownCells wsX2_knownCells ({ frames := 1, cells := 0, slots := 0, locals := 22 } : Room) (va_Pc [.ref (a 0), .int x] (preR D cI (sW cI a σ))) (vp_Si (fun r => r = knownF σ x)) 0 0 (fun _ => False) := by
  refine Met.ofW (cc := cX2_knownCells) (maxL := 4) (ret := (some .int)) (by decide) rfl ?_
  intro p e s m args below meth c s₁ B hml hv
  obtain ⟨rfl, hP, hK, hE⟩ := hv
  have hx := B.exec
  have hb := B.bytes
  have hr := B.returns
  have hts := atoms_spec (ws := wsX2_knownCells) B.pre
  have hown : s.vm.findClass RX2 = some m.cls := findClass_of_methodNamed B.named
  have hlocks := B.notSynchronized
  have hl := lv_entry ([.ref (a 0), .int x]) (n := 4) (Nat.le_of_ble_eq_true rfl)
  rw [lg_entry_eq]
  generalize (lg_sl ([.ref (a 0), .int x]) ++ List.replicate (4 - (lg_sl ([.ref (a 0), .int x])).length) Slot.unset).toArray = ls at hl ⊢
  have hl : lv_has ls 4 [(0, .ref (a 0)), (1, .int x)] := hl
  refine lv_iconst (v := 0) hx hb dX2_knownCells_0 (by decide) ?_
  refine lv_istore_n (lv' := [(2, .int 0), (0, .ref (a 0)), (1, .int x)]) hx hb dX2_knownCells_1 rfl hl (by decide) rfl (fun ls hl => ?_)
  refine lv_iconst (v := 0) hx hb dX2_knownCells_2 (by decide) ?_
  refine lv_istore_n (lv' := [(3, .int 0), (2, .int 0), (0, .ref (a 0)), (1, .int x)]) hx hb dX2_knownCells_3 rfl hl (by decide) rfl (fun ls hl => ?_)
  have L4 : ∀ (n k : Nat) (t : Int32) (hk : k + n = 160) (hsp : knownF σ x = knownL σ x n k t) (ls : Array Slot), lv_has ls 4 [(3, .int (nI k)), (2, .int t), (0, .ref (a 0)), (1, .int x)] → W p l e ({ frames := 1, cells := 0, slots := 0, locals := 22 } : Room) s m ([.ref (a 0), .int x] : List Value).toArray below meth c s.heap [] 0 0 (MQ below (vp_Si (fun r => r = knownF σ x)) ([.ref (a 0), .int x] : List Value).toArray s 0 0 (fun _ => False)) (F0 m 4 ls []) := by
    intro n
    induction n with
    | zero =>
      intro k t hk hsp ls hl
      refine lv_iload_n hx hb dX2_knownCells_4 rfl (lv_at hl 0 rfl) ?_
      refine lv_aload_n hx hb dX2_knownCells_5 rfl (lv_at hl 2 rfl) ?_
      refine va_get (D := D) (ci := 2) (v := .ref (a 2)) (C := RX2) (T := TX2) (N := 8) hx hb hts (by decide +kernel) hown hK hP 0 rfl rfl 1 (by decide) (hts (.fieldLink RX2 15 "Warren$State" "known" "[I") (by decide +kernel)) (fun _ h9 => h9) rfl dX2_knownCells_6 ?_
      refine va_alen (v := nI 160) hx hb hK hP 2 0 rfl rfl rfl dX2_knownCells_9 ?_
      refine lv_icmp_ge (tgt := 31) hx hb dX2_knownCells_10 (by decide) (fun c_10 => ?_) (fun c_10 => absurd (nI_le (by omega) (by omega)) c_10)
      refine lv_iload_n hx hb dX2_knownCells_31 rfl (lv_at hl 1 rfl) ?_
      exact W.iret (v := t) hx hb hr (fun t ht _ => ⟨_, rfl, by rw [hsp]; rfl, ht⟩) hnil dX2_knownCells_32
    | succ n ih4 =>
      intro k t hk hsp ls hl
      refine lv_iload_n hx hb dX2_knownCells_4 rfl (lv_at hl 0 rfl) ?_
      refine lv_aload_n hx hb dX2_knownCells_5 rfl (lv_at hl 2 rfl) ?_
      refine va_get (D := D) (ci := 2) (v := .ref (a 2)) (C := RX2) (T := TX2) (N := 8) hx hb hts (by decide +kernel) hown hK hP 0 rfl rfl 1 (by decide) (hts (.fieldLink RX2 15 "Warren$State" "known" "[I") (by decide +kernel)) (fun _ h9 => h9) rfl dX2_knownCells_6 ?_
      refine va_alen (v := nI 160) hx hb hK hP 2 0 rfl rfl rfl dX2_knownCells_9 ?_
      refine lv_icmp_ge (tgt := 31) hx hb dX2_knownCells_10 (by decide) (fun c_10 => absurd c_10 (nI_ge (by omega) (by omega))) (fun c_10 => ?_)
      refine lv_aload_n hx hb dX2_knownCells_13 rfl (lv_at hl 2 rfl) ?_
      refine lv_iload_n hx hb dX2_knownCells_14 rfl (lv_at hl 3 rfl) ?_
      refine lv_iload_n hx hb dX2_knownCells_15 rfl (lv_at hl 0 rfl) ?_
      refine vp_callSi (va_Run.run (va_runV (As := [.int x, .int (nI k)]) (rest := []) ⟨hx, hb, hml, hown, hts⟩ (c_X2_isKnown l D cI a σ x (nI k)) (cwV 2 hts gX2_knownCells_X2_isKnown rfl rfl rfl (by decide +kernel) ⟨Nat.le_of_ble_eq_true rfl, Nat.le_of_ble_eq_true rfl⟩) ⟨preR_blind, va_recv hK hP (ci := 2) (q0 := 0) rfl rfl, preR_of hP hK hE [.ref (a 0), .int x, .int (nI k)]⟩ rfl rfl hl.1 rfl (lv_room (Nat.le_of_ble_eq_true rfl)) dX2_knownCells_16 ⟨Nat.zero_le _, Nat.zero_le _⟩)) (fun r hr9 => ?_)
      subst hr9
      refine w_bz (tgt := 25) hx hb dX2_knownCells_19 (by decide) (fun c_19 => ?_) (fun c_19 => ?_)
      · refine lv_iinc (v := (nI (k + 1))) (lv' := [(3, .int (nI (k + 1))), (2, .int t), (0, .ref (a 0)), (1, .int x)]) hx hb dX2_knownCells_25 hl (k := 0) rfl (nI_1 k) (by decide) rfl (fun ls hl => ?_)
        refine lv_goto (tgt := 4) hx hb dX2_knownCells_28 (by decide) ?_
        exact ih4 (k + 1) t (by omega) (by rw [hsp]; simp [knownL, c_10, c_19]) ls (lv_sub hl [0, 1, 2, 3] rfl)
      · refine lv_iinc (v := (t + 1)) (lv' := [(2, .int (t + 1)), (3, .int (nI k)), (0, .ref (a 0)), (1, .int x)]) hx hb dX2_knownCells_22 hl (k := 1) rfl rfl (by decide) rfl (fun ls hl => ?_)
        refine lv_iinc (v := (nI (k + 1))) (lv' := [(3, .int (nI (k + 1))), (2, .int (t + 1)), (0, .ref (a 0)), (1, .int x)]) hx hb dX2_knownCells_25 hl (k := 1) rfl (nI_1 k) (by decide) rfl (fun ls hl => ?_)
        refine lv_goto (tgt := 4) hx hb dX2_knownCells_28 (by decide) ?_
        exact ih4 (k + 1) (t + 1) (by omega) (by rw [hsp]; simp [knownL, c_10, c_19]) ls (lv_sub hl [0, 1, 2, 3] rfl)
  exact L4 (160) 0 0 (by omega) rfl ls (lv_sub hl [0, 1, 2, 3] rfl)

set_option maxHeartbeats 4000000 in
set_option maxRecDepth 100000 in
theorem c_X2_living (l : Launch) (D : va_G) (cI : ClassId) (a : Nat → Nat) (σ : SS) (x : Int32) (hn : s_n σ ≤ 10) : Met l yX2_living wsX2_living ({ frames := 2, cells := 0, slots := 0, locals := 44 } : Room) (va_Pc [.ref (a 0), .int x] (preR D cI (sW cI a σ))) (vp_Si (fun r => r = livingF σ x)) 0 0 (fun _ => False) := by
  refine Met.ofW (cc := cX2_living) (maxL := 4) (ret := (some .int)) (by decide) rfl ?_
  intro p e s m args below meth c s₁ B hml hv
  obtain ⟨rfl, hP, hK, hE⟩ := hv
  have hx := B.exec
  have hb := B.bytes
  have hr := B.returns
  have hts := atoms_spec (ws := wsX2_living) B.pre
  have hown : s.vm.findClass RX2 = some m.cls := findClass_of_methodNamed B.named
  have hlocks := B.notSynchronized
  have hl := lv_entry ([.ref (a 0), .int x]) (n := 4) (Nat.le_of_ble_eq_true rfl)
  rw [lg_entry_eq]
  generalize (lg_sl ([.ref (a 0), .int x]) ++ List.replicate (4 - (lg_sl ([.ref (a 0), .int x])).length) Slot.unset).toArray = ls at hl ⊢
  have hl : lv_has ls 4 [(0, .ref (a 0)), (1, .int x)] := hl
  refine lv_iconst (v := 0) hx hb dX2_living_0 (by decide) ?_
  refine lv_istore_n (lv' := [(2, .int 0), (0, .ref (a 0)), (1, .int x)]) hx hb dX2_living_1 rfl hl (by decide) rfl (fun ls hl => ?_)
  refine lv_iconst (v := 0) hx hb dX2_living_2 (by decide) ?_
  refine lv_istore_n (lv' := [(3, .int 0), (2, .int 0), (0, .ref (a 0)), (1, .int x)]) hx hb dX2_living_3 rfl hl (by decide) rfl (fun ls hl => ?_)
  have L4 : ∀ (n k : Nat) (t : Int32) (hk : k + n = s_n σ) (hsp : livingF σ x = livingL σ x n k t) (ls : Array Slot), lv_has ls 4 [(3, .int (nI k)), (2, .int t), (0, .ref (a 0)), (1, .int x)] → W p l e ({ frames := 2, cells := 0, slots := 0, locals := 44 } : Room) s m ([.ref (a 0), .int x] : List Value).toArray below meth c s.heap [] 0 0 (MQ below (vp_Si (fun r => r = livingF σ x)) ([.ref (a 0), .int x] : List Value).toArray s 0 0 (fun _ => False)) (F0 m 4 ls []) := by
    intro n
    induction n with
    | zero =>
      intro k t hk hsp ls hl
      refine lv_iload_n hx hb dX2_living_4 rfl (lv_at hl 0 rfl) ?_
      refine lv_aload_n hx hb dX2_living_5 rfl (lv_at hl 2 rfl) ?_
      refine va_get (D := D) (ci := 2) (v := .int (nI (s_n σ))) (C := RX2) (T := TX2) (N := 8) hx hb hts (by decide +kernel) hown hK hP 0 rfl rfl 5 (by decide) (hts (.fieldLink RX2 39 "Warren$State" "beings" "I") (by decide +kernel)) (fun _ h9 => h9) rfl dX2_living_6 ?_
      refine lv_icmp_ge (tgt := 39) hx hb dX2_living_9 (by decide) (fun c_9 => ?_) (fun c_9 => absurd (nI_le (by omega) (by omega)) c_9)
      refine lv_iload_n hx hb dX2_living_39 rfl (lv_at hl 1 rfl) ?_
      exact W.iret (v := t) hx hb hr (fun t ht _ => ⟨_, rfl, by rw [hsp]; rfl, ht⟩) hnil dX2_living_40
    | succ n ih4 =>
      intro k t hk hsp ls hl
      refine lv_iload_n hx hb dX2_living_4 rfl (lv_at hl 0 rfl) ?_
      refine lv_aload_n hx hb dX2_living_5 rfl (lv_at hl 2 rfl) ?_
      refine va_get (D := D) (ci := 2) (v := .int (nI (s_n σ))) (C := RX2) (T := TX2) (N := 8) hx hb hts (by decide +kernel) hown hK hP 0 rfl rfl 5 (by decide) (hts (.fieldLink RX2 39 "Warren$State" "beings" "I") (by decide +kernel)) (fun _ h9 => h9) rfl dX2_living_6 ?_
      refine lv_icmp_ge (tgt := 39) hx hb dX2_living_9 (by decide) (fun c_9 => absurd c_9 (nI_ge (by omega) (by omega))) (fun c_9 => ?_)
      refine lv_aload_n hx hb dX2_living_12 rfl (lv_at hl 2 rfl) ?_
      refine lv_iload_n hx hb dX2_living_13 rfl (lv_at hl 0 rfl) ?_
      refine lv_iconst (v := 0) hx hb dX2_living_14 (by decide) ?_
      refine vp_callSi (va_Run.run (va_runV (As := [.int (nI k), .int 0]) (rest := []) ⟨hx, hb, hml, hown, hts⟩ (c_X2_trait l D cI a σ (nI k) 0) (cwV 2 hts gX2_living_X2_trait rfl rfl rfl (by decide +kernel) ⟨Nat.le_of_ble_eq_true rfl, Nat.le_of_ble_eq_true rfl⟩) ⟨preR_blind, va_recv hK hP (ci := 2) (q0 := 0) rfl rfl, preR_of hP hK hE [.ref (a 0), .int (nI k), .int 0]⟩ rfl rfl hl.1 rfl (lv_room (Nat.le_of_ble_eq_true rfl)) dX2_living_15 ⟨Nat.zero_le _, Nat.zero_le _⟩)) (fun r hr9 => ?_)
      subst hr9
      refine lv_iload_n hx hb dX2_living_18 rfl (lv_at hl 3 rfl) ?_
      refine lv_icmp_ne (tgt := 33) hx hb dX2_living_19 (by decide) (fun c_19 => ?_) (fun c_19 => ?_)
      · refine lv_iinc (v := (nI (k + 1))) (lv' := [(3, .int (nI (k + 1))), (2, .int t), (0, .ref (a 0)), (1, .int x)]) hx hb dX2_living_33 hl (k := 0) rfl (nI_1 k) (by decide) rfl (fun ls hl => ?_)
        refine lv_goto (tgt := 4) hx hb dX2_living_36 (by decide) ?_
        exact ih4 (k + 1) t (by omega) (by rw [hsp]; simp [livingL, c_9, c_19]) ls (lv_sub hl [0, 1, 2, 3] rfl)
      · refine lv_aload_n hx hb dX2_living_22 rfl (lv_at hl 2 rfl) ?_
        refine lv_iload_n hx hb dX2_living_23 rfl (lv_at hl 0 rfl) ?_
        refine vp_callSi (va_Run.run (va_runV (As := [.int (nI k)]) (rest := []) ⟨hx, hb, hml, hown, hts⟩ (c_X2_isAlive l D cI a σ (nI k)) (cwV 1 hts gX2_living_X2_isAlive rfl rfl rfl (by decide +kernel) ⟨Nat.le_of_ble_eq_true rfl, Nat.le_of_ble_eq_true rfl⟩) ⟨preR_blind, va_recv hK hP (ci := 2) (q0 := 0) rfl rfl, preR_of hP hK hE [.ref (a 0), .int (nI k)]⟩ rfl rfl hl.1 rfl (lv_room (Nat.le_of_ble_eq_true rfl)) dX2_living_24 ⟨Nat.zero_le _, Nat.zero_le _⟩)) (fun r hr9 => ?_)
        subst hr9
        refine w_bz (tgt := 33) hx hb dX2_living_27 (by decide) (fun c_27 => ?_) (fun c_27 => ?_)
        · refine lv_iinc (v := (nI (k + 1))) (lv' := [(3, .int (nI (k + 1))), (2, .int t), (0, .ref (a 0)), (1, .int x)]) hx hb dX2_living_33 hl (k := 0) rfl (nI_1 k) (by decide) rfl (fun ls hl => ?_)
          refine lv_goto (tgt := 4) hx hb dX2_living_36 (by decide) ?_
          exact ih4 (k + 1) t (by omega) (by rw [hsp]; simp [livingL, c_9, c_19, c_27]) ls (lv_sub hl [0, 1, 2, 3] rfl)
        · refine lv_iinc (v := (t + 1)) (lv' := [(2, .int (t + 1)), (3, .int (nI k)), (0, .ref (a 0)), (1, .int x)]) hx hb dX2_living_30 hl (k := 1) rfl rfl (by decide) rfl (fun ls hl => ?_)
          refine lv_iinc (v := (nI (k + 1))) (lv' := [(3, .int (nI (k + 1))), (2, .int (t + 1)), (0, .ref (a 0)), (1, .int x)]) hx hb dX2_living_33 hl (k := 1) rfl (nI_1 k) (by decide) rfl (fun ls hl => ?_)
          refine lv_goto (tgt := 4) hx hb dX2_living_36 (by decide) ?_
          exact ih4 (k + 1) (t + 1) (by omega) (by rw [hsp]; simp [livingL, c_9, c_19, c_27]) ls (lv_sub hl [0, 1, 2, 3] rfl)
  exact L4 (s_n σ) 0 0 (by omega) rfl ls (lv_sub hl [0, 1, 2, 3] rfl)

set_option maxHeartbeats 4000000 in
set_option maxRecDepth 100000 in
theorem c_X2_lifeOf (l : Launch) (D : va_G) (cI : ClassId) (a : Nat → Nat) (σ : SS) (x : Int32) (hn : s_n σ ≤ 10) : Met l yX2_lifeOf wsX2_lifeOf ({ frames := 1, cells := 0, slots := 0, locals := 23 } : Room) (va_Pc [.ref (a 0), .int x] (preR D cI (sW cI a σ))) (vp_Si (fun r => r = lifeF σ x)) 0 0 (fun _ => False) := by
  refine Met.ofW (cc := cX2_lifeOf) (maxL := 4) (ret := (some .int)) (by decide) rfl ?_
  intro p e s m args below meth c s₁ B hml hv
  obtain ⟨rfl, hP, hK, hE⟩ := hv
  have hx := B.exec
  have hb := B.bytes
  have hr := B.returns
  have hts := atoms_spec (ws := wsX2_lifeOf) B.pre
  have hown : s.vm.findClass RX2 = some m.cls := findClass_of_methodNamed B.named
  have hlocks := B.notSynchronized
  have hl := lv_entry ([.ref (a 0), .int x]) (n := 4) (Nat.le_of_ble_eq_true rfl)
  rw [lg_entry_eq]
  generalize (lg_sl ([.ref (a 0), .int x]) ++ List.replicate (4 - (lg_sl ([.ref (a 0), .int x])).length) Slot.unset).toArray = ls at hl ⊢
  have hl : lv_has ls 4 [(0, .ref (a 0)), (1, .int x)] := hl
  refine lv_iconst (v := 0) hx hb dX2_lifeOf_0 (by decide) ?_
  refine lv_istore_n (lv' := [(2, .int 0), (0, .ref (a 0)), (1, .int x)]) hx hb dX2_lifeOf_1 rfl hl (by decide) rfl (fun ls hl => ?_)
  refine lv_iconst (v := 0) hx hb dX2_lifeOf_2 (by decide) ?_
  refine lv_istore_n (lv' := [(3, .int 0), (2, .int 0), (0, .ref (a 0)), (1, .int x)]) hx hb dX2_lifeOf_3 rfl hl (by decide) rfl (fun ls hl => ?_)
  have L4 : ∀ (n k : Nat) (t : Int32) (hk : k + n = s_n σ) (hsp : lifeF σ x = lifeL σ x n k t) (ls : Array Slot), lv_has ls 4 [(3, .int (nI k)), (2, .int t), (0, .ref (a 0)), (1, .int x)] → W p l e ({ frames := 1, cells := 0, slots := 0, locals := 23 } : Room) s m ([.ref (a 0), .int x] : List Value).toArray below meth c s.heap [] 0 0 (MQ below (vp_Si (fun r => r = lifeF σ x)) ([.ref (a 0), .int x] : List Value).toArray s 0 0 (fun _ => False)) (F0 m 4 ls []) := by
    intro n
    induction n with
    | zero =>
      intro k t hk hsp ls hl
      refine lv_iload_n hx hb dX2_lifeOf_4 rfl (lv_at hl 0 rfl) ?_
      refine lv_aload_n hx hb dX2_lifeOf_5 rfl (lv_at hl 2 rfl) ?_
      refine va_get (D := D) (ci := 2) (v := .int (nI (s_n σ))) (C := RX2) (T := TX2) (N := 8) hx hb hts (by decide +kernel) hown hK hP 0 rfl rfl 5 (by decide) (hts (.fieldLink RX2 39 "Warren$State" "beings" "I") (by decide +kernel)) (fun _ h9 => h9) rfl dX2_lifeOf_6 ?_
      refine lv_icmp_ge (tgt := 37) hx hb dX2_lifeOf_9 (by decide) (fun c_9 => ?_) (fun c_9 => absurd (nI_le (by omega) (by omega)) c_9)
      refine lv_iload_n hx hb dX2_lifeOf_37 rfl (lv_at hl 1 rfl) ?_
      exact W.iret (v := t) hx hb hr (fun t ht _ => ⟨_, rfl, by rw [hsp]; rfl, ht⟩) hnil dX2_lifeOf_38
    | succ n ih4 =>
      intro k t hk hsp ls hl
      refine lv_iload_n hx hb dX2_lifeOf_4 rfl (lv_at hl 0 rfl) ?_
      refine lv_aload_n hx hb dX2_lifeOf_5 rfl (lv_at hl 2 rfl) ?_
      refine va_get (D := D) (ci := 2) (v := .int (nI (s_n σ))) (C := RX2) (T := TX2) (N := 8) hx hb hts (by decide +kernel) hown hK hP 0 rfl rfl 5 (by decide) (hts (.fieldLink RX2 39 "Warren$State" "beings" "I") (by decide +kernel)) (fun _ h9 => h9) rfl dX2_lifeOf_6 ?_
      refine lv_icmp_ge (tgt := 37) hx hb dX2_lifeOf_9 (by decide) (fun c_9 => absurd c_9 (nI_ge (by omega) (by omega))) (fun c_9 => ?_)
      refine lv_aload_n hx hb dX2_lifeOf_12 rfl (lv_at hl 2 rfl) ?_
      refine lv_iload_n hx hb dX2_lifeOf_13 rfl (lv_at hl 0 rfl) ?_
      refine lv_iconst (v := 0) hx hb dX2_lifeOf_14 (by decide) ?_
      refine vp_callSi (va_Run.run (va_runV (As := [.int (nI k), .int 0]) (rest := []) ⟨hx, hb, hml, hown, hts⟩ (c_X2_trait l D cI a σ (nI k) 0) (cwV 2 hts gX2_lifeOf_X2_trait rfl rfl rfl (by decide +kernel) ⟨Nat.le_of_ble_eq_true rfl, Nat.le_of_ble_eq_true rfl⟩) ⟨preR_blind, va_recv hK hP (ci := 2) (q0 := 0) rfl rfl, preR_of hP hK hE [.ref (a 0), .int (nI k), .int 0]⟩ rfl rfl hl.1 rfl (lv_room (Nat.le_of_ble_eq_true rfl)) dX2_lifeOf_15 ⟨Nat.zero_le _, Nat.zero_le _⟩)) (fun r hr9 => ?_)
      subst hr9
      refine lv_iload_n hx hb dX2_lifeOf_18 rfl (lv_at hl 3 rfl) ?_
      refine lv_icmp_ne (tgt := 31) hx hb dX2_lifeOf_19 (by decide) (fun c_19 => ?_) (fun c_19 => ?_)
      · refine lv_iinc (v := (nI (k + 1))) (lv' := [(3, .int (nI (k + 1))), (2, .int t), (0, .ref (a 0)), (1, .int x)]) hx hb dX2_lifeOf_31 hl (k := 0) rfl (nI_1 k) (by decide) rfl (fun ls hl => ?_)
        refine lv_goto (tgt := 4) hx hb dX2_lifeOf_34 (by decide) ?_
        exact ih4 (k + 1) t (by omega) (by rw [hsp]; simp [lifeL, c_9, c_19]) ls (lv_sub hl [0, 1, 2, 3] rfl)
      · refine lv_iload_n hx hb dX2_lifeOf_22 rfl (lv_at hl 1 rfl) ?_
        refine lv_aload_n hx hb dX2_lifeOf_23 rfl (lv_at hl 2 rfl) ?_
        refine lv_iload_n hx hb dX2_lifeOf_24 rfl (lv_at hl 0 rfl) ?_
        refine lv_iconst (v := 2) hx hb dX2_lifeOf_25 (by decide) ?_
        refine vp_callSi (va_Run.run (va_runV (As := [.int (nI k), .int 2]) (rest := [.int t]) ⟨hx, hb, hml, hown, hts⟩ (c_X2_trait l D cI a σ (nI k) 2) (cwV 2 hts gX2_lifeOf_X2_trait rfl rfl rfl (by decide +kernel) ⟨Nat.le_of_ble_eq_true rfl, Nat.le_of_ble_eq_true rfl⟩) ⟨preR_blind, va_recv hK hP (ci := 2) (q0 := 0) rfl rfl, preR_of hP hK hE [.ref (a 0), .int (nI k), .int 2]⟩ rfl rfl hl.1 rfl (lv_room (Nat.le_of_ble_eq_true rfl)) dX2_lifeOf_26 ⟨Nat.zero_le _, Nat.zero_le _⟩)) (fun r hr9 => ?_)
        subst hr9
        refine lv_iadd hx hb dX2_lifeOf_29 ?_
        refine lv_istore_n (lv' := [(2, .int (t + (traitF σ (nI k) 2))), (3, .int (nI k)), (0, .ref (a 0)), (1, .int x)]) hx hb dX2_lifeOf_30 rfl hl (by decide) rfl (fun ls hl => ?_)
        refine lv_iinc (v := (nI (k + 1))) (lv' := [(3, .int (nI (k + 1))), (2, .int (t + (traitF σ (nI k) 2))), (0, .ref (a 0)), (1, .int x)]) hx hb dX2_lifeOf_31 hl (k := 1) rfl (nI_1 k) (by decide) rfl (fun ls hl => ?_)
        refine lv_goto (tgt := 4) hx hb dX2_lifeOf_34 (by decide) ?_
        exact ih4 (k + 1) (t + (traitF σ (nI k) 2)) (by omega) (by rw [hsp]; simp [lifeL, c_9, c_19]) ls (lv_sub hl [0, 1, 2, 3] rfl)
  exact L4 (s_n σ) 0 0 (by omega) rfl ls (lv_sub hl [0, 1, 2, 3] rfl)

set_option maxHeartbeats 4000000 in
set_option maxRecDepth 100000 in
theorem c_X2_whoseTurn (l : Launch) (D : va_G) (cI : ClassId) (a : Nat → Nat) (σ : SS) (hn : s_n σ ≤ 10) : Met l yX2_whoseTurn wsX2_whoseTurn ({ frames := 2, cells := 0, slots := 0, locals := 44 } : Room) (va_Pc [.ref (a 0)] (preR D cI (sW cI a σ))) (vp_Si (fun r => r = turnF σ)) 0 0 (fun _ => False) := by
  refine Met.ofW (cc := cX2_whoseTurn) (maxL := 3) (ret := (some .int)) (by decide) rfl ?_
  intro p e s m args below meth c s₁ B hml hv
  obtain ⟨rfl, hP, hK, hE⟩ := hv
  have hx := B.exec
  have hb := B.bytes
  have hr := B.returns
  have hts := atoms_spec (ws := wsX2_whoseTurn) B.pre
  have hown : s.vm.findClass RX2 = some m.cls := findClass_of_methodNamed B.named
  have hlocks := B.notSynchronized
  have hl := lv_entry ([.ref (a 0)]) (n := 3) (Nat.le_of_ble_eq_true rfl)
  rw [lg_entry_eq]
  generalize (lg_sl ([.ref (a 0)]) ++ List.replicate (3 - (lg_sl ([.ref (a 0)])).length) Slot.unset).toArray = ls at hl ⊢
  have hl : lv_has ls 3 [(0, .ref (a 0))] := hl
  refine lv_iconst (v := (-1)) hx hb dX2_whoseTurn_0 (by decide) ?_
  refine lv_istore_n (lv' := [(1, .int (-1)), (0, .ref (a 0))]) hx hb dX2_whoseTurn_1 rfl hl (by decide) rfl (fun ls hl => ?_)
  refine lv_iconst (v := 0) hx hb dX2_whoseTurn_2 (by decide) ?_
  refine lv_istore_n (lv' := [(2, .int 0), (1, .int (-1)), (0, .ref (a 0))]) hx hb dX2_whoseTurn_3 rfl hl (by decide) rfl (fun ls hl => ?_)
  have L4 : ∀ (n k : Nat) (t : Int32) (hk : k + n = s_n σ) (hsp : turnF σ = turnL σ n k t) (ls : Array Slot), lv_has ls 3 [(2, .int (nI k)), (1, .int t), (0, .ref (a 0))] → W p l e ({ frames := 2, cells := 0, slots := 0, locals := 44 } : Room) s m ([.ref (a 0)] : List Value).toArray below meth c s.heap [] 0 0 (MQ below (vp_Si (fun r => r = turnF σ)) ([.ref (a 0)] : List Value).toArray s 0 0 (fun _ => False)) (F0 m 4 ls []) := by
    intro n
    induction n with
    | zero =>
      intro k t hk hsp ls hl
      refine lv_iload_n hx hb dX2_whoseTurn_4 rfl (lv_at hl 0 rfl) ?_
      refine lv_aload_n hx hb dX2_whoseTurn_5 rfl (lv_at hl 2 rfl) ?_
      refine va_get (D := D) (ci := 2) (v := .int (nI (s_n σ))) (C := RX2) (T := TX2) (N := 8) hx hb hts (by decide +kernel) hown hK hP 0 rfl rfl 5 (by decide) (hts (.fieldLink RX2 39 "Warren$State" "beings" "I") (by decide +kernel)) (fun _ h9 => h9) rfl dX2_whoseTurn_6 ?_
      refine lv_icmp_ge (tgt := 50) hx hb dX2_whoseTurn_9 (by decide) (fun c_9 => ?_) (fun c_9 => absurd (nI_le (by omega) (by omega)) c_9)
      refine lv_iload_n hx hb dX2_whoseTurn_50 rfl (lv_at hl 1 rfl) ?_
      exact W.iret (v := t) hx hb hr (fun t ht _ => ⟨_, rfl, by rw [hsp]; rfl, ht⟩) hnil dX2_whoseTurn_51
    | succ n ih4 =>
      intro k t hk hsp ls hl
      refine lv_iload_n hx hb dX2_whoseTurn_4 rfl (lv_at hl 0 rfl) ?_
      refine lv_aload_n hx hb dX2_whoseTurn_5 rfl (lv_at hl 2 rfl) ?_
      refine va_get (D := D) (ci := 2) (v := .int (nI (s_n σ))) (C := RX2) (T := TX2) (N := 8) hx hb hts (by decide +kernel) hown hK hP 0 rfl rfl 5 (by decide) (hts (.fieldLink RX2 39 "Warren$State" "beings" "I") (by decide +kernel)) (fun _ h9 => h9) rfl dX2_whoseTurn_6 ?_
      refine lv_icmp_ge (tgt := 50) hx hb dX2_whoseTurn_9 (by decide) (fun c_9 => absurd c_9 (nI_ge (by omega) (by omega))) (fun c_9 => ?_)
      refine lv_aload_n hx hb dX2_whoseTurn_12 rfl (lv_at hl 2 rfl) ?_
      refine lv_iload_n hx hb dX2_whoseTurn_13 rfl (lv_at hl 0 rfl) ?_
      refine vp_callSi (va_Run.run (va_runV (As := [.int (nI k)]) (rest := []) ⟨hx, hb, hml, hown, hts⟩ (c_X2_isAlive l D cI a σ (nI k)) (cwV 1 hts gX2_whoseTurn_X2_isAlive rfl rfl rfl (by decide +kernel) ⟨Nat.le_of_ble_eq_true rfl, Nat.le_of_ble_eq_true rfl⟩) ⟨preR_blind, va_recv hK hP (ci := 2) (q0 := 0) rfl rfl, preR_of hP hK hE [.ref (a 0), .int (nI k)]⟩ rfl rfl hl.1 rfl (lv_room (Nat.le_of_ble_eq_true rfl)) dX2_whoseTurn_14 ⟨Nat.zero_le _, Nat.zero_le _⟩)) (fun r hr9 => ?_)
      subst hr9
      refine w_bz (tgt := 44) hx hb dX2_whoseTurn_17 (by decide) (fun c_17 => ?_) (fun c_17 => ?_)
      · refine lv_iinc (v := (nI (k + 1))) (lv' := [(2, .int (nI (k + 1))), (1, .int t), (0, .ref (a 0))]) hx hb dX2_whoseTurn_44 hl (k := 0) rfl (nI_1 k) (by decide) rfl (fun ls hl => ?_)
        refine lv_goto (tgt := 4) hx hb dX2_whoseTurn_47 (by decide) ?_
        exact ih4 (k + 1) t (by omega) (by rw [hsp]; simp [turnL, c_9, c_17]) ls (lv_sub hl [0, 1, 2] rfl)
      · refine lv_iload_n hx hb dX2_whoseTurn_20 rfl (lv_at hl 1 rfl) ?_
        refine lv_iconst (v := (-1)) hx hb dX2_whoseTurn_21 (by decide) ?_
        refine lv_icmp_eq (tgt := 42) hx hb dX2_whoseTurn_22 (by decide) (fun c_22 => ?_) (fun c_22 => ?_)
        · refine lv_iload_n hx hb dX2_whoseTurn_42 rfl (lv_at hl 0 rfl) ?_
          refine lv_istore_n (lv' := [(1, .int (nI k)), (2, .int (nI k)), (0, .ref (a 0))]) hx hb dX2_whoseTurn_43 rfl hl (by decide) rfl (fun ls hl => ?_)
          refine lv_iinc (v := (nI (k + 1))) (lv' := [(2, .int (nI (k + 1))), (1, .int (nI k)), (0, .ref (a 0))]) hx hb dX2_whoseTurn_44 hl (k := 1) rfl (nI_1 k) (by decide) rfl (fun ls hl => ?_)
          refine lv_goto (tgt := 4) hx hb dX2_whoseTurn_47 (by decide) ?_
          exact ih4 (k + 1) (nI k) (by omega) (by rw [hsp]; simp [turnL, c_9, c_17, c_22]) ls (lv_sub hl [0, 1, 2] rfl)
        · refine lv_aload_n hx hb dX2_whoseTurn_25 rfl (lv_at hl 2 rfl) ?_
          refine lv_iload_n hx hb dX2_whoseTurn_26 rfl (lv_at hl 0 rfl) ?_
          refine lv_bipush (v := 8) hx hb dX2_whoseTurn_27 (by decide) ?_
          refine vp_callSi (va_Run.run (va_runV (As := [.int (nI k), .int 8]) (rest := []) ⟨hx, hb, hml, hown, hts⟩ (c_X2_trait l D cI a σ (nI k) 8) (cwV 2 hts gX2_whoseTurn_X2_trait rfl rfl rfl (by decide +kernel) ⟨Nat.le_of_ble_eq_true rfl, Nat.le_of_ble_eq_true rfl⟩) ⟨preR_blind, va_recv hK hP (ci := 2) (q0 := 0) rfl rfl, preR_of hP hK hE [.ref (a 0), .int (nI k), .int 8]⟩ rfl rfl hl.1 rfl (lv_room (Nat.le_of_ble_eq_true rfl)) dX2_whoseTurn_29 ⟨Nat.zero_le _, Nat.zero_le _⟩)) (fun r hr9 => ?_)
          subst hr9
          refine lv_aload_n hx hb dX2_whoseTurn_32 rfl (lv_at hl 2 rfl) ?_
          refine lv_iload_n hx hb dX2_whoseTurn_33 rfl (lv_at hl 1 rfl) ?_
          refine lv_bipush (v := 8) hx hb dX2_whoseTurn_34 (by decide) ?_
          refine vp_callSi (va_Run.run (va_runV (As := [.int t, .int 8]) (rest := [.int (traitF σ (nI k) 8)]) ⟨hx, hb, hml, hown, hts⟩ (c_X2_trait l D cI a σ t 8) (cwV 2 hts gX2_whoseTurn_X2_trait rfl rfl rfl (by decide +kernel) ⟨Nat.le_of_ble_eq_true rfl, Nat.le_of_ble_eq_true rfl⟩) ⟨preR_blind, va_recv hK hP (ci := 2) (q0 := 0) rfl rfl, preR_of hP hK hE [.ref (a 0), .int t, .int 8]⟩ rfl rfl hl.1 rfl (lv_room (Nat.le_of_ble_eq_true rfl)) dX2_whoseTurn_36 ⟨Nat.zero_le _, Nat.zero_le _⟩)) (fun r hr9 => ?_)
          subst hr9
          refine lv_icmp_ge (tgt := 44) hx hb dX2_whoseTurn_39 (by decide) (fun c_39 => ?_) (fun c_39 => ?_)
          · refine lv_iinc (v := (nI (k + 1))) (lv' := [(2, .int (nI (k + 1))), (1, .int t), (0, .ref (a 0))]) hx hb dX2_whoseTurn_44 hl (k := 0) rfl (nI_1 k) (by decide) rfl (fun ls hl => ?_)
            refine lv_goto (tgt := 4) hx hb dX2_whoseTurn_47 (by decide) ?_
            exact ih4 (k + 1) t (by omega) (by rw [hsp]; simp [turnL, c_9, c_17, c_22, c_39]) ls (lv_sub hl [0, 1, 2] rfl)
          · refine lv_iload_n hx hb dX2_whoseTurn_42 rfl (lv_at hl 0 rfl) ?_
            refine lv_istore_n (lv' := [(1, .int (nI k)), (2, .int (nI k)), (0, .ref (a 0))]) hx hb dX2_whoseTurn_43 rfl hl (by decide) rfl (fun ls hl => ?_)
            refine lv_iinc (v := (nI (k + 1))) (lv' := [(2, .int (nI (k + 1))), (1, .int (nI k)), (0, .ref (a 0))]) hx hb dX2_whoseTurn_44 hl (k := 1) rfl (nI_1 k) (by decide) rfl (fun ls hl => ?_)
            refine lv_goto (tgt := 4) hx hb dX2_whoseTurn_47 (by decide) ?_
            exact ih4 (k + 1) (nI k) (by omega) (by rw [hsp]; simp [turnL, c_9, c_17, c_22, c_39]) ls (lv_sub hl [0, 1, 2] rfl)
  exact L4 (s_n σ) 0 (-1) (by omega) rfl ls (lv_sub hl [0, 1, 2] rfl)

set_option maxHeartbeats 4000000 in
set_option maxRecDepth 100000 in
theorem c_X2_isFoe (l : Launch) (D : va_G) (cI : ClassId) (a : Nat → Nat) (σ : SS) (x y : Int32) : Met l yX2_isFoe wsX2_isFoe ({ frames := 1, cells := 0, slots := 0, locals := 23 } : Room) (va_Pc [.ref (a 0), .int x, .int y] (preR D cI (sW cI a σ))) (vp_Si (fun r => r = bi (foeB σ x y))) 0 0 (fun _ => False) := by
  refine Met.ofW (cc := cX2_isFoe) (maxL := 3) (ret := (some .boolean)) (by decide) rfl ?_
  intro p e s m args below meth c s₁ B hml hv
  obtain ⟨rfl, hP, hK, hE⟩ := hv
  have hx := B.exec
  have hb := B.bytes
  have hr := B.returns
  have hts := atoms_spec (ws := wsX2_isFoe) B.pre
  have hown : s.vm.findClass RX2 = some m.cls := findClass_of_methodNamed B.named
  have hlocks := B.notSynchronized
  have hl := lv_entry ([.ref (a 0), .int x, .int y]) (n := 3) (Nat.le_of_ble_eq_true rfl)
  rw [lg_entry_eq]
  generalize (lg_sl ([.ref (a 0), .int x, .int y]) ++ List.replicate (3 - (lg_sl ([.ref (a 0), .int x, .int y])).length) Slot.unset).toArray = ls at hl ⊢
  have hl : lv_has ls 3 [(0, .ref (a 0)), (1, .int x), (2, .int y)] := hl
  refine lv_aload_n hx hb dX2_isFoe_0 rfl (lv_at hl 0 rfl) ?_
  refine lv_iload_n hx hb dX2_isFoe_1 rfl (lv_at hl 2 rfl) ?_
  refine lv_iconst (v := 2) hx hb dX2_isFoe_2 (by decide) ?_
  refine vp_callSi (va_Run.run (va_runV (As := [.int y, .int 2]) (rest := []) ⟨hx, hb, hml, hown, hts⟩ (c_X2_trait l D cI a σ y 2) (cwV 2 hts gX2_isFoe_X2_trait rfl rfl rfl (by decide +kernel) ⟨Nat.le_of_ble_eq_true rfl, Nat.le_of_ble_eq_true rfl⟩) ⟨preR_blind, va_recv hK hP (ci := 2) (q0 := 0) rfl rfl, preR_of hP hK hE [.ref (a 0), .int y, .int 2]⟩ rfl rfl hl.1 rfl (lv_room (Nat.le_of_ble_eq_true rfl)) dX2_isFoe_3 ⟨Nat.zero_le _, Nat.zero_le _⟩)) (fun r hr9 => ?_)
  subst hr9
  refine lv_if_le (tgt := 28) hx hb dX2_isFoe_6 (by decide) (fun c_6 => ?_) (fun c_6 => ?_)
  · refine lv_iconst (v := 0) hx hb dX2_isFoe_28 (by decide) ?_
    exact W.zret (v := 0) hx hb hr rfl (fun t ht _ => ⟨_, rfl, by first | rfl | (simp only [foeB, if_pos c_6]; done) | (simp only [foeB, if_pos c_6]; rfl) | (simp [foeB, c_6]; done) | (simp [foeB, c_6]; rfl), ht⟩) hnil dX2_isFoe_29
  · refine lv_aload_n hx hb dX2_isFoe_9 rfl (lv_at hl 0 rfl) ?_
    refine lv_iload_n hx hb dX2_isFoe_10 rfl (lv_at hl 2 rfl) ?_
    refine lv_iconst (v := 0) hx hb dX2_isFoe_11 (by decide) ?_
    refine vp_callSi (va_Run.run (va_runV (As := [.int y, .int 0]) (rest := []) ⟨hx, hb, hml, hown, hts⟩ (c_X2_trait l D cI a σ y 0) (cwV 2 hts gX2_isFoe_X2_trait rfl rfl rfl (by decide +kernel) ⟨Nat.le_of_ble_eq_true rfl, Nat.le_of_ble_eq_true rfl⟩) ⟨preR_blind, va_recv hK hP (ci := 2) (q0 := 0) rfl rfl, preR_of hP hK hE [.ref (a 0), .int y, .int 0]⟩ rfl rfl hl.1 rfl (lv_room (Nat.le_of_ble_eq_true rfl)) dX2_isFoe_12 ⟨Nat.zero_le _, Nat.zero_le _⟩)) (fun r hr9 => ?_)
    subst hr9
    refine lv_aload_n hx hb dX2_isFoe_15 rfl (lv_at hl 0 rfl) ?_
    refine lv_iload_n hx hb dX2_isFoe_16 rfl (lv_at hl 1 rfl) ?_
    refine lv_iconst (v := 0) hx hb dX2_isFoe_17 (by decide) ?_
    refine vp_callSi (va_Run.run (va_runV (As := [.int x, .int 0]) (rest := [.int (traitF σ y 0)]) ⟨hx, hb, hml, hown, hts⟩ (c_X2_trait l D cI a σ x 0) (cwV 2 hts gX2_isFoe_X2_trait rfl rfl rfl (by decide +kernel) ⟨Nat.le_of_ble_eq_true rfl, Nat.le_of_ble_eq_true rfl⟩) ⟨preR_blind, va_recv hK hP (ci := 2) (q0 := 0) rfl rfl, preR_of hP hK hE [.ref (a 0), .int x, .int 0]⟩ rfl rfl hl.1 rfl (lv_room (Nat.le_of_ble_eq_true rfl)) dX2_isFoe_18 ⟨Nat.zero_le _, Nat.zero_le _⟩)) (fun r hr9 => ?_)
    subst hr9
    refine lv_icmp_eq (tgt := 28) hx hb dX2_isFoe_21 (by decide) (fun c_21 => ?_) (fun c_21 => ?_)
    · refine lv_iconst (v := 0) hx hb dX2_isFoe_28 (by decide) ?_
      exact W.zret (v := 0) hx hb hr rfl (fun t ht _ => ⟨_, rfl, by first | rfl | (simp only [foeB, if_neg c_6, if_pos c_21]; done) | (simp only [foeB, if_neg c_6, if_pos c_21]; rfl) | (simp [foeB, c_6, c_21]; done) | (simp [foeB, c_6, c_21]; rfl), ht⟩) hnil dX2_isFoe_29
    · refine lv_iconst (v := 1) hx hb dX2_isFoe_24 (by decide) ?_
      refine lv_goto (tgt := 29) hx hb dX2_isFoe_25 (by decide) ?_
      exact W.zret (v := 1) hx hb hr rfl (fun t ht _ => ⟨_, rfl, by first | rfl | (simp only [foeB, if_neg c_6, if_neg c_21]; done) | (simp only [foeB, if_neg c_6, if_neg c_21]; rfl) | (simp [foeB, c_6, c_21]; done) | (simp [foeB, c_6, c_21]; rfl), ht⟩) hnil dX2_isFoe_29

set_option maxHeartbeats 4000000 in
set_option maxRecDepth 100000 in
theorem c_X2_targetOf (l : Launch) (D : va_G) (cI : ClassId) (a : Nat → Nat) (σ : SS) (x : Int32) (hn : s_n σ ≤ 10) : Met l yX2_targetOf wsX2_targetOf ({ frames := 3, cells := 0, slots := 0, locals := 70 } : Room) (va_Pc [.ref (a 0), .int x] (preR D cI (sW cI a σ))) (vp_Si (fun r => r = targetF σ x)) 0 0 (fun _ => False) := by
  refine Met.ofW (cc := cX2_targetOf) (maxL := 7) (ret := (some .int)) (by decide) rfl ?_
  intro p e s m args below meth c s₁ B hml hv
  obtain ⟨rfl, hP, hK, hE⟩ := hv
  have hx := B.exec
  have hb := B.bytes
  have hr := B.returns
  have hts := atoms_spec (ws := wsX2_targetOf) B.pre
  have hown : s.vm.findClass RX2 = some m.cls := findClass_of_methodNamed B.named
  have hlocks := B.notSynchronized
  have hl := lv_entry ([.ref (a 0), .int x]) (n := 7) (Nat.le_of_ble_eq_true rfl)
  rw [lg_entry_eq]
  generalize (lg_sl ([.ref (a 0), .int x]) ++ List.replicate (7 - (lg_sl ([.ref (a 0), .int x])).length) Slot.unset).toArray = ls at hl ⊢
  have hl : lv_has ls 7 [(0, .ref (a 0)), (1, .int x)] := hl
  refine lv_aload_n hx hb dX2_targetOf_0 rfl (lv_at hl 0 rfl) ?_
  refine lv_iload_n hx hb dX2_targetOf_1 rfl (lv_at hl 1 rfl) ?_
  refine vp_callSi (va_Run.run (va_runV (As := [.int x]) (rest := []) ⟨hx, hb, hml, hown, hts⟩ (c_X2_isAlive l D cI a σ x) (cwV 1 hts gX2_targetOf_X2_isAlive rfl rfl rfl (by decide +kernel) ⟨Nat.le_of_ble_eq_true rfl, Nat.le_of_ble_eq_true rfl⟩) ⟨preR_blind, va_recv hK hP (ci := 2) (q0 := 0) rfl rfl, preR_of hP hK hE [.ref (a 0), .int x]⟩ rfl rfl hl.1 rfl (lv_room (Nat.le_of_ble_eq_true rfl)) dX2_targetOf_2 ⟨Nat.zero_le _, Nat.zero_le _⟩)) (fun r hr9 => ?_)
  subst hr9
  refine w_bnz (tgt := 10) hx hb dX2_targetOf_5 (by decide) (fun c_5 => ?_) (fun c_5 => ?_)
  · refine lv_aload_n hx hb dX2_targetOf_10 rfl (lv_at hl 0 rfl) ?_
    refine lv_iload_n hx hb dX2_targetOf_11 rfl (lv_at hl 1 rfl) ?_
    refine lv_iconst (v := 1) hx hb dX2_targetOf_12 (by decide) ?_
    refine vp_callSi (va_Run.run (va_runV (As := [.int x, .int 1]) (rest := []) ⟨hx, hb, hml, hown, hts⟩ (c_X2_trait l D cI a σ x 1) (cwV 2 hts gX2_targetOf_X2_trait rfl rfl rfl (by decide +kernel) ⟨Nat.le_of_ble_eq_true rfl, Nat.le_of_ble_eq_true rfl⟩) ⟨preR_blind, va_recv hK hP (ci := 2) (q0 := 0) rfl rfl, preR_of hP hK hE [.ref (a 0), .int x, .int 1]⟩ rfl rfl hl.1 rfl (lv_room (Nat.le_of_ble_eq_true rfl)) dX2_targetOf_13 ⟨Nat.zero_le _, Nat.zero_le _⟩)) (fun r hr9 => ?_)
    subst hr9
    refine lv_istore_n (lv' := [(2, .int (traitF σ x 1)), (0, .ref (a 0)), (1, .int x)]) hx hb dX2_targetOf_16 rfl hl (by decide) rfl (fun ls hl => ?_)
    refine lv_iconst (v := (-1)) hx hb dX2_targetOf_17 (by decide) ?_
    refine lv_istore_n (lv' := [(3, .int (-1)), (2, .int (traitF σ x 1)), (0, .ref (a 0)), (1, .int x)]) hx hb dX2_targetOf_18 rfl hl (by decide) rfl (fun ls hl => ?_)
    refine lv_bipush (v := 8) hx hb dX2_targetOf_19 (by decide) ?_
    refine lv_istore (lv' := [(4, .int 8), (3, .int (-1)), (2, .int (traitF σ x 1)), (0, .ref (a 0)), (1, .int x)]) hx hb dX2_targetOf_21 hl (by decide) rfl (fun ls hl => ?_)
    refine lv_iconst (v := 0) hx hb dX2_targetOf_23 (by decide) ?_
    refine lv_istore (lv' := [(5, .int 0), (4, .int 8), (3, .int (-1)), (2, .int (traitF σ x 1)), (0, .ref (a 0)), (1, .int x)]) hx hb dX2_targetOf_24 hl (by decide) rfl (fun ls hl => ?_)
    have L26 : ∀ (n k : Nat) (t z w : Int32) (hk : k + n = s_n σ) (hsp : targetF σ x = targetL σ x (traitF σ x 1) n k t z) (ls : Array Slot), lv_has ls 7 [(5, .int (nI k)), (4, .int z), (3, .int t), (2, .int (traitF σ x 1)), (0, .ref (a 0)), (1, .int x)] → W p l e ({ frames := 3, cells := 0, slots := 0, locals := 70 } : Room) s m ([.ref (a 0), .int x] : List Value).toArray below meth c s.heap [] 0 0 (MQ below (vp_Si (fun r => r = targetF σ x)) ([.ref (a 0), .int x] : List Value).toArray s 0 0 (fun _ => False)) (F0 m 26 ls []) := by
      intro n
      induction n with
      | zero =>
        intro k t z w hk hsp ls hl
        refine lv_iload hx hb dX2_targetOf_26 (lv_at hl 0 rfl) ?_
        refine lv_aload_n hx hb dX2_targetOf_28 rfl (lv_at hl 4 rfl) ?_
        refine va_get (D := D) (ci := 2) (v := .int (nI (s_n σ))) (C := RX2) (T := TX2) (N := 8) hx hb hts (by decide +kernel) hown hK hP 0 rfl rfl 5 (by decide) (hts (.fieldLink RX2 39 "Warren$State" "beings" "I") (by decide +kernel)) (fun _ h9 => h9) rfl dX2_targetOf_29 ?_
        refine lv_icmp_ge (tgt := 92) hx hb dX2_targetOf_32 (by decide) (fun c_32 => ?_) (fun c_32 => absurd (nI_le (by omega) (by omega)) c_32)
        refine lv_iload_n hx hb dX2_targetOf_92 rfl (lv_at hl 2 rfl) ?_
        exact W.iret (v := t) hx hb hr (fun t ht _ => ⟨_, rfl, by rw [hsp]; rfl, ht⟩) hnil dX2_targetOf_93
      | succ n ih26 =>
        intro k t z w hk hsp ls hl
        refine lv_iload hx hb dX2_targetOf_26 (lv_at hl 0 rfl) ?_
        refine lv_aload_n hx hb dX2_targetOf_28 rfl (lv_at hl 4 rfl) ?_
        refine va_get (D := D) (ci := 2) (v := .int (nI (s_n σ))) (C := RX2) (T := TX2) (N := 8) hx hb hts (by decide +kernel) hown hK hP 0 rfl rfl 5 (by decide) (hts (.fieldLink RX2 39 "Warren$State" "beings" "I") (by decide +kernel)) (fun _ h9 => h9) rfl dX2_targetOf_29 ?_
        refine lv_icmp_ge (tgt := 92) hx hb dX2_targetOf_32 (by decide) (fun c_32 => absurd c_32 (nI_ge (by omega) (by omega))) (fun c_32 => ?_)
        refine lv_aload_n hx hb dX2_targetOf_35 rfl (lv_at hl 4 rfl) ?_
        refine lv_iload hx hb dX2_targetOf_36 (lv_at hl 0 rfl) ?_
        refine lv_iconst (v := 1) hx hb dX2_targetOf_38 (by decide) ?_
        refine vp_callSi (va_Run.run (va_runV (As := [.int (nI k), .int 1]) (rest := []) ⟨hx, hb, hml, hown, hts⟩ (c_X2_trait l D cI a σ (nI k) 1) (cwV 2 hts gX2_targetOf_X2_trait rfl rfl rfl (by decide +kernel) ⟨Nat.le_of_ble_eq_true rfl, Nat.le_of_ble_eq_true rfl⟩) ⟨preR_blind, va_recv hK hP (ci := 2) (q0 := 0) rfl rfl, preR_of hP hK hE [.ref (a 0), .int (nI k), .int 1]⟩ rfl rfl hl.1 rfl (lv_room (Nat.le_of_ble_eq_true rfl)) dX2_targetOf_39 ⟨Nat.zero_le _, Nat.zero_le _⟩)) (fun r hr9 => ?_)
        subst hr9
        refine lv_istore (lv' := [(6, .int (traitF σ (nI k) 1)), (5, .int (nI k)), (4, .int z), (3, .int t), (2, .int (traitF σ x 1)), (0, .ref (a 0)), (1, .int x)]) hx hb dX2_targetOf_42 hl (by decide) rfl (fun ls hl => ?_)
        refine lv_aload_n hx hb dX2_targetOf_44 rfl (lv_at hl 5 rfl) ?_
        refine lv_iload_n hx hb dX2_targetOf_45 rfl (lv_at hl 6 rfl) ?_
        refine lv_iload hx hb dX2_targetOf_46 (lv_at hl 1 rfl) ?_
        refine vp_callSi (va_Run.run (va_runV (As := [.int x, .int (nI k)]) (rest := []) ⟨hx, hb, hml, hown, hts⟩ (c_X2_isFoe l D cI a σ x (nI k)) (cwV 2 hts gX2_targetOf_X2_isFoe rfl rfl rfl (by decide +kernel) ⟨Nat.le_of_ble_eq_true rfl, Nat.le_of_ble_eq_true rfl⟩) ⟨preR_blind, va_recv hK hP (ci := 2) (q0 := 0) rfl rfl, preR_of hP hK hE [.ref (a 0), .int x, .int (nI k)]⟩ rfl rfl hl.1 rfl (lv_room (Nat.le_of_ble_eq_true rfl)) dX2_targetOf_48 ⟨Nat.zero_le _, Nat.zero_le _⟩)) (fun r hr9 => ?_)
        subst hr9
        refine w_bz (tgt := 86) hx hb dX2_targetOf_51 (by decide) (fun c_51 => ?_) (fun c_51 => ?_)
        · refine lv_iinc (v := (nI (k + 1))) (lv' := [(5, .int (nI (k + 1))), (6, .int (traitF σ (nI k) 1)), (4, .int z), (3, .int t), (2, .int (traitF σ x 1)), (0, .ref (a 0)), (1, .int x)]) hx hb dX2_targetOf_86 hl (k := 1) rfl (nI_1 k) (by decide) rfl (fun ls hl => ?_)
          refine lv_goto (tgt := 26) hx hb dX2_targetOf_89 (by decide) ?_
          exact ih26 (k + 1) t z 0 (by omega) (by rw [hsp]; simp [targetL, c_32, c_51]) ls (lv_sub hl [0, 2, 3, 4, 5, 6] rfl)
        · refine lv_iload_n hx hb dX2_targetOf_54 rfl (lv_at hl 4 rfl) ?_
          refine lv_iload hx hb dX2_targetOf_55 (lv_at hl 0 rfl) ?_
          refine vp_callSi (va_Run.run (va_runS (As := [.int (traitF σ x 1), .int (traitF σ (nI k) 1)]) (rest := []) ⟨hx, hb, hml, hown, hts⟩ (c_X2_apart l (traitF σ x 1) (traitF σ (nI k) 1)) (va_cwS 2 hts gX2_targetOf_X2_apart rfl rfl rfl (by decide +kernel) ⟨Nat.le_of_ble_eq_true rfl, Nat.le_of_ble_eq_true rfl⟩) ⟨fun _ _ _ _ q => q, fun _ _ _ => ⟨rfl, trivial⟩⟩ rfl rfl hl.1 rfl (lv_room (Nat.le_of_ble_eq_true rfl)) dX2_targetOf_57 ⟨Nat.zero_le _, Nat.zero_le _⟩)) (fun r hr9 => ?_)
          subst hr9
          refine lv_iload hx hb dX2_targetOf_60 (lv_at hl 2 rfl) ?_
          refine lv_icmp_ge (tgt := 86) hx hb dX2_targetOf_62 (by decide) (fun c_62 => ?_) (fun c_62 => ?_)
          · refine lv_iinc (v := (nI (k + 1))) (lv' := [(5, .int (nI (k + 1))), (6, .int (traitF σ (nI k) 1)), (4, .int z), (3, .int t), (2, .int (traitF σ x 1)), (0, .ref (a 0)), (1, .int x)]) hx hb dX2_targetOf_86 hl (k := 1) rfl (nI_1 k) (by decide) rfl (fun ls hl => ?_)
            refine lv_goto (tgt := 26) hx hb dX2_targetOf_89 (by decide) ?_
            exact ih26 (k + 1) t z 0 (by omega) (by rw [hsp]; simp [targetL, c_32, c_51, c_62]) ls (lv_sub hl [0, 2, 3, 4, 5, 6] rfl)
          · refine lv_aload_n hx hb dX2_targetOf_65 rfl (lv_at hl 5 rfl) ?_
            refine lv_iload_n hx hb dX2_targetOf_66 rfl (lv_at hl 4 rfl) ?_
            refine lv_iload hx hb dX2_targetOf_67 (lv_at hl 0 rfl) ?_
            refine vp_callSi (va_Run.run (va_runV (As := [.int (traitF σ x 1), .int (traitF σ (nI k) 1)]) (rest := []) ⟨hx, hb, hml, hown, hts⟩ (c_X2_isSeenFrom l D cI a σ (traitF σ x 1) (traitF σ (nI k) 1)) (cwV 2 hts gX2_targetOf_X2_isSeenFrom rfl rfl rfl (by decide +kernel) ⟨Nat.le_of_ble_eq_true rfl, Nat.le_of_ble_eq_true rfl⟩) ⟨preR_blind, va_recv hK hP (ci := 2) (q0 := 0) rfl rfl, preR_of hP hK hE [.ref (a 0), .int (traitF σ x 1), .int (traitF σ (nI k) 1)]⟩ rfl rfl hl.1 rfl (lv_room (Nat.le_of_ble_eq_true rfl)) dX2_targetOf_69 ⟨Nat.zero_le _, Nat.zero_le _⟩)) (fun r hr9 => ?_)
            subst hr9
            refine w_bz (tgt := 86) hx hb dX2_targetOf_72 (by decide) (fun c_72 => ?_) (fun c_72 => ?_)
            · refine lv_iinc (v := (nI (k + 1))) (lv' := [(5, .int (nI (k + 1))), (6, .int (traitF σ (nI k) 1)), (4, .int z), (3, .int t), (2, .int (traitF σ x 1)), (0, .ref (a 0)), (1, .int x)]) hx hb dX2_targetOf_86 hl (k := 1) rfl (nI_1 k) (by decide) rfl (fun ls hl => ?_)
              refine lv_goto (tgt := 26) hx hb dX2_targetOf_89 (by decide) ?_
              exact ih26 (k + 1) t z 0 (by omega) (by rw [hsp]; simp [targetL, c_32, c_51, c_62, c_72]) ls (lv_sub hl [0, 2, 3, 4, 5, 6] rfl)
            · refine lv_iload hx hb dX2_targetOf_75 (lv_at hl 1 rfl) ?_
              refine lv_istore_n (lv' := [(3, .int (nI k)), (6, .int (traitF σ (nI k) 1)), (5, .int (nI k)), (4, .int z), (2, .int (traitF σ x 1)), (0, .ref (a 0)), (1, .int x)]) hx hb dX2_targetOf_77 rfl hl (by decide) rfl (fun ls hl => ?_)
              refine lv_iload_n hx hb dX2_targetOf_78 rfl (lv_at hl 4 rfl) ?_
              refine lv_iload hx hb dX2_targetOf_79 (lv_at hl 1 rfl) ?_
              refine vp_callSi (va_Run.run (va_runS (As := [.int (traitF σ x 1), .int (traitF σ (nI k) 1)]) (rest := []) ⟨hx, hb, hml, hown, hts⟩ (c_X2_apart l (traitF σ x 1) (traitF σ (nI k) 1)) (va_cwS 2 hts gX2_targetOf_X2_apart rfl rfl rfl (by decide +kernel) ⟨Nat.le_of_ble_eq_true rfl, Nat.le_of_ble_eq_true rfl⟩) ⟨fun _ _ _ _ q => q, fun _ _ _ => ⟨rfl, trivial⟩⟩ rfl rfl hl.1 rfl (lv_room (Nat.le_of_ble_eq_true rfl)) dX2_targetOf_81 ⟨Nat.zero_le _, Nat.zero_le _⟩)) (fun r hr9 => ?_)
              subst hr9
              refine lv_istore (lv' := [(4, .int (apartF (traitF σ x 1) (traitF σ (nI k) 1))), (3, .int (nI k)), (6, .int (traitF σ (nI k) 1)), (5, .int (nI k)), (2, .int (traitF σ x 1)), (0, .ref (a 0)), (1, .int x)]) hx hb dX2_targetOf_84 hl (by decide) rfl (fun ls hl => ?_)
              refine lv_iinc (v := (nI (k + 1))) (lv' := [(5, .int (nI (k + 1))), (4, .int (apartF (traitF σ x 1) (traitF σ (nI k) 1))), (3, .int (nI k)), (6, .int (traitF σ (nI k) 1)), (2, .int (traitF σ x 1)), (0, .ref (a 0)), (1, .int x)]) hx hb dX2_targetOf_86 hl (k := 3) rfl (nI_1 k) (by decide) rfl (fun ls hl => ?_)
              refine lv_goto (tgt := 26) hx hb dX2_targetOf_89 (by decide) ?_
              exact ih26 (k + 1) (nI k) (apartF (traitF σ x 1) (traitF σ (nI k) 1)) 0 (by omega) (by rw [hsp]; simp [targetL, c_32, c_51, c_62, c_72]) ls (lv_sub hl [0, 1, 2, 4, 5, 6] rfl)
    exact L26 (s_n σ) 0 (-1) 8 0 (by omega) (by simp [targetF, c_5]) ls (lv_sub hl [0, 1, 2, 3, 4, 5] rfl)
  · refine lv_iconst (v := (-1)) hx hb dX2_targetOf_8 (by decide) ?_
    exact W.iret (v := (-1)) hx hb hr (fun t ht _ => ⟨_, rfl, by simp [targetF, c_5], ht⟩) hnil dX2_targetOf_9

set_option maxHeartbeats 4000000 in
set_option maxRecDepth 100000 in
theorem c_X2_firstFoe (l : Launch) (D : va_G) (cI : ClassId) (a : Nat → Nat) (σ : SS) (x : Int32) (hn : s_n σ ≤ 10) : Met l yX2_firstFoe wsX2_firstFoe ({ frames := 2, cells := 0, slots := 0, locals := 45 } : Room) (va_Pc [.ref (a 0), .int x] (preR D cI (sW cI a σ))) (vp_Si (fun r => r = firstFoeF σ x)) 0 0 (fun _ => False) := by
  refine Met.ofW (cc := cX2_firstFoe) (maxL := 3) (ret := (some .int)) (by decide) rfl ?_
  intro p e s m args below meth c s₁ B hml hv
  obtain ⟨rfl, hP, hK, hE⟩ := hv
  have hx := B.exec
  have hb := B.bytes
  have hr := B.returns
  have hts := atoms_spec (ws := wsX2_firstFoe) B.pre
  have hown : s.vm.findClass RX2 = some m.cls := findClass_of_methodNamed B.named
  have hlocks := B.notSynchronized
  have hl := lv_entry ([.ref (a 0), .int x]) (n := 3) (Nat.le_of_ble_eq_true rfl)
  rw [lg_entry_eq]
  generalize (lg_sl ([.ref (a 0), .int x]) ++ List.replicate (3 - (lg_sl ([.ref (a 0), .int x])).length) Slot.unset).toArray = ls at hl ⊢
  have hl : lv_has ls 3 [(0, .ref (a 0)), (1, .int x)] := hl
  refine lv_iconst (v := 0) hx hb dX2_firstFoe_0 (by decide) ?_
  refine lv_istore_n (lv' := [(2, .int 0), (0, .ref (a 0)), (1, .int x)]) hx hb dX2_firstFoe_1 rfl hl (by decide) rfl (fun ls hl => ?_)
  have L2 : ∀ (n k : Nat) (hk : k + n = s_n σ) (hsp : firstFoeF σ x = fstI (fun j => foeB σ x (nI j)) n k) (ls : Array Slot), lv_has ls 3 [(2, .int (nI k)), (0, .ref (a 0)), (1, .int x)] → W p l e ({ frames := 2, cells := 0, slots := 0, locals := 45 } : Room) s m ([.ref (a 0), .int x] : List Value).toArray below meth c s.heap [] 0 0 (MQ below (vp_Si (fun r => r = firstFoeF σ x)) ([.ref (a 0), .int x] : List Value).toArray s 0 0 (fun _ => False)) (F0 m 2 ls []) := by
    intro n
    induction n with
    | zero =>
      intro k hk hsp ls hl
      refine lv_iload_n hx hb dX2_firstFoe_2 rfl (lv_at hl 0 rfl) ?_
      refine lv_aload_n hx hb dX2_firstFoe_3 rfl (lv_at hl 1 rfl) ?_
      refine va_get (D := D) (ci := 2) (v := .int (nI (s_n σ))) (C := RX2) (T := TX2) (N := 8) hx hb hts (by decide +kernel) hown hK hP 0 rfl rfl 5 (by decide) (hts (.fieldLink RX2 39 "Warren$State" "beings" "I") (by decide +kernel)) (fun _ h9 => h9) rfl dX2_firstFoe_4 ?_
      refine lv_icmp_ge (tgt := 27) hx hb dX2_firstFoe_7 (by decide) (fun c_7 => ?_) (fun c_7 => absurd (nI_le (by omega) (by omega)) c_7)
      refine lv_iconst (v := (-1)) hx hb dX2_firstFoe_27 (by decide) ?_
      exact W.iret (v := (-1)) hx hb hr (fun t ht _ => ⟨_, rfl, by rw [hsp]; rfl, ht⟩) hnil dX2_firstFoe_28
    | succ n ih2 =>
      intro k hk hsp ls hl
      refine lv_iload_n hx hb dX2_firstFoe_2 rfl (lv_at hl 0 rfl) ?_
      refine lv_aload_n hx hb dX2_firstFoe_3 rfl (lv_at hl 1 rfl) ?_
      refine va_get (D := D) (ci := 2) (v := .int (nI (s_n σ))) (C := RX2) (T := TX2) (N := 8) hx hb hts (by decide +kernel) hown hK hP 0 rfl rfl 5 (by decide) (hts (.fieldLink RX2 39 "Warren$State" "beings" "I") (by decide +kernel)) (fun _ h9 => h9) rfl dX2_firstFoe_4 ?_
      refine lv_icmp_ge (tgt := 27) hx hb dX2_firstFoe_7 (by decide) (fun c_7 => absurd c_7 (nI_ge (by omega) (by omega))) (fun c_7 => ?_)
      refine lv_aload_n hx hb dX2_firstFoe_10 rfl (lv_at hl 1 rfl) ?_
      refine lv_iload_n hx hb dX2_firstFoe_11 rfl (lv_at hl 2 rfl) ?_
      refine lv_iload_n hx hb dX2_firstFoe_12 rfl (lv_at hl 0 rfl) ?_
      refine vp_callSi (va_Run.run (va_runV (As := [.int x, .int (nI k)]) (rest := []) ⟨hx, hb, hml, hown, hts⟩ (c_X2_isFoe l D cI a σ x (nI k)) (cwV 2 hts gX2_firstFoe_X2_isFoe rfl rfl rfl (by decide +kernel) ⟨Nat.le_of_ble_eq_true rfl, Nat.le_of_ble_eq_true rfl⟩) ⟨preR_blind, va_recv hK hP (ci := 2) (q0 := 0) rfl rfl, preR_of hP hK hE [.ref (a 0), .int x, .int (nI k)]⟩ rfl rfl hl.1 rfl (lv_room (Nat.le_of_ble_eq_true rfl)) dX2_firstFoe_13 ⟨Nat.zero_le _, Nat.zero_le _⟩)) (fun r hr9 => ?_)
      subst hr9
      refine w_bz (tgt := 21) hx hb dX2_firstFoe_16 (by decide) (fun c_16 => ?_) (fun c_16 => ?_)
      · refine lv_iinc (v := (nI (k + 1))) (lv' := [(2, .int (nI (k + 1))), (0, .ref (a 0)), (1, .int x)]) hx hb dX2_firstFoe_21 hl (k := 0) rfl (nI_1 k) (by decide) rfl (fun ls hl => ?_)
        refine lv_goto (tgt := 2) hx hb dX2_firstFoe_24 (by decide) ?_
        exact ih2 (k + 1) (by omega) (by rw [hsp]; simp [fstI, c_16]) ls (lv_sub hl [0, 1, 2] rfl)
      · refine lv_iload_n hx hb dX2_firstFoe_19 rfl (lv_at hl 0 rfl) ?_
        exact W.iret (v := (nI k)) hx hb hr (fun t ht _ => ⟨_, rfl, by rw [hsp]; simp [fstI, c_16], ht⟩) hnil dX2_firstFoe_20
  exact L2 (s_n σ) 0 (by omega) rfl ls (lv_sub hl [0, 1, 2] rfl)

set_option maxHeartbeats 4000000 in
set_option maxRecDepth 100000 in
theorem c_X2_watchersOf (l : Launch) (D : va_G) (cI : ClassId) (a : Nat → Nat) (σ : SS) (x y : Int32) (hn : s_n σ ≤ 10) : Met l yX2_watchersOf wsX2_watchersOf ({ frames := 3, cells := 0, slots := 0, locals := 70 } : Room) (va_Pc [.ref (a 0), .int x, .int y] (preR D cI (sW cI a σ))) (vp_Si (fun r => r = watchF σ x y)) 0 0 (fun _ => False) := by
  refine Met.ofW (cc := cX2_watchersOf) (maxL := 5) (ret := (some .int)) (by decide) rfl ?_
  intro p e s m args below meth c s₁ B hml hv
  obtain ⟨rfl, hP, hK, hE⟩ := hv
  have hx := B.exec
  have hb := B.bytes
  have hr := B.returns
  have hts := atoms_spec (ws := wsX2_watchersOf) B.pre
  have hown : s.vm.findClass RX2 = some m.cls := findClass_of_methodNamed B.named
  have hlocks := B.notSynchronized
  have hl := lv_entry ([.ref (a 0), .int x, .int y]) (n := 5) (Nat.le_of_ble_eq_true rfl)
  rw [lg_entry_eq]
  generalize (lg_sl ([.ref (a 0), .int x, .int y]) ++ List.replicate (5 - (lg_sl ([.ref (a 0), .int x, .int y])).length) Slot.unset).toArray = ls at hl ⊢
  have hl : lv_has ls 5 [(0, .ref (a 0)), (1, .int x), (2, .int y)] := hl
  refine lv_iconst (v := 0) hx hb dX2_watchersOf_0 (by decide) ?_
  refine lv_istore_n (lv' := [(3, .int 0), (0, .ref (a 0)), (1, .int x), (2, .int y)]) hx hb dX2_watchersOf_1 rfl hl (by decide) rfl (fun ls hl => ?_)
  refine lv_iconst (v := 0) hx hb dX2_watchersOf_2 (by decide) ?_
  refine lv_istore (lv' := [(4, .int 0), (3, .int 0), (0, .ref (a 0)), (1, .int x), (2, .int y)]) hx hb dX2_watchersOf_3 hl (by decide) rfl (fun ls hl => ?_)
  have L5 : ∀ (n k : Nat) (t : Int32) (hk : k + n = s_n σ) (hsp : watchF σ x y = watchL σ x y n k t) (ls : Array Slot), lv_has ls 5 [(4, .int (nI k)), (3, .int t), (0, .ref (a 0)), (1, .int x), (2, .int y)] → W p l e ({ frames := 3, cells := 0, slots := 0, locals := 70 } : Room) s m ([.ref (a 0), .int x, .int y] : List Value).toArray below meth c s.heap [] 0 0 (MQ below (vp_Si (fun r => r = watchF σ x y)) ([.ref (a 0), .int x, .int y] : List Value).toArray s 0 0 (fun _ => False)) (F0 m 5 ls []) := by
    intro n
    induction n with
    | zero =>
      intro k t hk hsp ls hl
      refine lv_iload hx hb dX2_watchersOf_5 (lv_at hl 0 rfl) ?_
      refine lv_aload_n hx hb dX2_watchersOf_7 rfl (lv_at hl 2 rfl) ?_
      refine va_get (D := D) (ci := 2) (v := .int (nI (s_n σ))) (C := RX2) (T := TX2) (N := 8) hx hb hts (by decide +kernel) hown hK hP 0 rfl rfl 5 (by decide) (hts (.fieldLink RX2 39 "Warren$State" "beings" "I") (by decide +kernel)) (fun _ h9 => h9) rfl dX2_watchersOf_8 ?_
      refine lv_icmp_ge (tgt := 58) hx hb dX2_watchersOf_11 (by decide) (fun c_11 => ?_) (fun c_11 => absurd (nI_le (by omega) (by omega)) c_11)
      refine lv_iload_n hx hb dX2_watchersOf_58 rfl (lv_at hl 1 rfl) ?_
      exact W.iret (v := t) hx hb hr (fun t ht _ => ⟨_, rfl, by rw [hsp]; rfl, ht⟩) hnil dX2_watchersOf_59
    | succ n ih5 =>
      intro k t hk hsp ls hl
      refine lv_iload hx hb dX2_watchersOf_5 (lv_at hl 0 rfl) ?_
      refine lv_aload_n hx hb dX2_watchersOf_7 rfl (lv_at hl 2 rfl) ?_
      refine va_get (D := D) (ci := 2) (v := .int (nI (s_n σ))) (C := RX2) (T := TX2) (N := 8) hx hb hts (by decide +kernel) hown hK hP 0 rfl rfl 5 (by decide) (hts (.fieldLink RX2 39 "Warren$State" "beings" "I") (by decide +kernel)) (fun _ h9 => h9) rfl dX2_watchersOf_8 ?_
      refine lv_icmp_ge (tgt := 58) hx hb dX2_watchersOf_11 (by decide) (fun c_11 => absurd c_11 (nI_ge (by omega) (by omega))) (fun c_11 => ?_)
      refine lv_aload_n hx hb dX2_watchersOf_14 rfl (lv_at hl 2 rfl) ?_
      refine lv_iload hx hb dX2_watchersOf_15 (lv_at hl 0 rfl) ?_
      refine vp_callSi (va_Run.run (va_runV (As := [.int (nI k)]) (rest := []) ⟨hx, hb, hml, hown, hts⟩ (c_X2_isAlive l D cI a σ (nI k)) (cwV 1 hts gX2_watchersOf_X2_isAlive rfl rfl rfl (by decide +kernel) ⟨Nat.le_of_ble_eq_true rfl, Nat.le_of_ble_eq_true rfl⟩) ⟨preR_blind, va_recv hK hP (ci := 2) (q0 := 0) rfl rfl, preR_of hP hK hE [.ref (a 0), .int (nI k)]⟩ rfl rfl hl.1 rfl (lv_room (Nat.le_of_ble_eq_true rfl)) dX2_watchersOf_17 ⟨Nat.zero_le _, Nat.zero_le _⟩)) (fun r hr9 => ?_)
      subst hr9
      refine w_bz (tgt := 52) hx hb dX2_watchersOf_20 (by decide) (fun c_20 => ?_) (fun c_20 => ?_)
      · refine lv_iinc (v := (nI (k + 1))) (lv' := [(4, .int (nI (k + 1))), (3, .int t), (0, .ref (a 0)), (1, .int x), (2, .int y)]) hx hb dX2_watchersOf_52 hl (k := 0) rfl (nI_1 k) (by decide) rfl (fun ls hl => ?_)
        refine lv_goto (tgt := 5) hx hb dX2_watchersOf_55 (by decide) ?_
        exact ih5 (k + 1) t (by omega) (by rw [hsp]; simp [watchL, c_11, c_20]) ls (lv_sub hl [0, 1, 2, 3, 4] rfl)
      · refine lv_aload_n hx hb dX2_watchersOf_23 rfl (lv_at hl 2 rfl) ?_
        refine lv_iload hx hb dX2_watchersOf_24 (lv_at hl 0 rfl) ?_
        refine lv_iconst (v := 0) hx hb dX2_watchersOf_26 (by decide) ?_
        refine vp_callSi (va_Run.run (va_runV (As := [.int (nI k), .int 0]) (rest := []) ⟨hx, hb, hml, hown, hts⟩ (c_X2_trait l D cI a σ (nI k) 0) (cwV 2 hts gX2_watchersOf_X2_trait rfl rfl rfl (by decide +kernel) ⟨Nat.le_of_ble_eq_true rfl, Nat.le_of_ble_eq_true rfl⟩) ⟨preR_blind, va_recv hK hP (ci := 2) (q0 := 0) rfl rfl, preR_of hP hK hE [.ref (a 0), .int (nI k), .int 0]⟩ rfl rfl hl.1 rfl (lv_room (Nat.le_of_ble_eq_true rfl)) dX2_watchersOf_27 ⟨Nat.zero_le _, Nat.zero_le _⟩)) (fun r hr9 => ?_)
        subst hr9
        refine lv_iload_n hx hb dX2_watchersOf_30 rfl (lv_at hl 3 rfl) ?_
        refine lv_icmp_eq (tgt := 52) hx hb dX2_watchersOf_31 (by decide) (fun c_31 => ?_) (fun c_31 => ?_)
        · refine lv_iinc (v := (nI (k + 1))) (lv' := [(4, .int (nI (k + 1))), (3, .int t), (0, .ref (a 0)), (1, .int x), (2, .int y)]) hx hb dX2_watchersOf_52 hl (k := 0) rfl (nI_1 k) (by decide) rfl (fun ls hl => ?_)
          refine lv_goto (tgt := 5) hx hb dX2_watchersOf_55 (by decide) ?_
          exact ih5 (k + 1) t (by omega) (by rw [hsp]; simp [watchL, c_11, c_20, c_31]) ls (lv_sub hl [0, 1, 2, 3, 4] rfl)
        · refine lv_aload_n hx hb dX2_watchersOf_34 rfl (lv_at hl 2 rfl) ?_
          refine lv_aload_n hx hb dX2_watchersOf_35 rfl (lv_at hl 2 rfl) ?_
          refine lv_iload hx hb dX2_watchersOf_36 (lv_at hl 0 rfl) ?_
          refine lv_iconst (v := 1) hx hb dX2_watchersOf_38 (by decide) ?_
          refine vp_callSi (va_Run.run (va_runV (As := [.int (nI k), .int 1]) (rest := [.ref (a 0)]) ⟨hx, hb, hml, hown, hts⟩ (c_X2_trait l D cI a σ (nI k) 1) (cwV 2 hts gX2_watchersOf_X2_trait rfl rfl rfl (by decide +kernel) ⟨Nat.le_of_ble_eq_true rfl, Nat.le_of_ble_eq_true rfl⟩) ⟨preR_blind, va_recv hK hP (ci := 2) (q0 := 0) rfl rfl, preR_of hP hK hE [.ref (a 0), .int (nI k), .int 1]⟩ rfl rfl hl.1 rfl (lv_room (Nat.le_of_ble_eq_true rfl)) dX2_watchersOf_39 ⟨Nat.zero_le _, Nat.zero_le _⟩)) (fun r hr9 => ?_)
          subst hr9
          refine lv_iload_n hx hb dX2_watchersOf_42 rfl (lv_at hl 4 rfl) ?_
          refine vp_callSi (va_Run.run (va_runV (As := [.int (traitF σ (nI k) 1), .int y]) (rest := []) ⟨hx, hb, hml, hown, hts⟩ (c_X2_isSeenFrom l D cI a σ (traitF σ (nI k) 1) y) (cwV 2 hts gX2_watchersOf_X2_isSeenFrom rfl rfl rfl (by decide +kernel) ⟨Nat.le_of_ble_eq_true rfl, Nat.le_of_ble_eq_true rfl⟩) ⟨preR_blind, va_recv hK hP (ci := 2) (q0 := 0) rfl rfl, preR_of hP hK hE [.ref (a 0), .int (traitF σ (nI k) 1), .int y]⟩ rfl rfl hl.1 rfl (lv_room (Nat.le_of_ble_eq_true rfl)) dX2_watchersOf_43 ⟨Nat.zero_le _, Nat.zero_le _⟩)) (fun r hr9 => ?_)
          subst hr9
          refine w_bz (tgt := 52) hx hb dX2_watchersOf_46 (by decide) (fun c_46 => ?_) (fun c_46 => ?_)
          · refine lv_iinc (v := (nI (k + 1))) (lv' := [(4, .int (nI (k + 1))), (3, .int t), (0, .ref (a 0)), (1, .int x), (2, .int y)]) hx hb dX2_watchersOf_52 hl (k := 0) rfl (nI_1 k) (by decide) rfl (fun ls hl => ?_)
            refine lv_goto (tgt := 5) hx hb dX2_watchersOf_55 (by decide) ?_
            exact ih5 (k + 1) t (by omega) (by rw [hsp]; simp [watchL, c_11, c_20, c_31, c_46]) ls (lv_sub hl [0, 1, 2, 3, 4] rfl)
          · refine lv_iinc (v := (t + 1)) (lv' := [(3, .int (t + 1)), (4, .int (nI k)), (0, .ref (a 0)), (1, .int x), (2, .int y)]) hx hb dX2_watchersOf_49 hl (k := 1) rfl rfl (by decide) rfl (fun ls hl => ?_)
            refine lv_iinc (v := (nI (k + 1))) (lv' := [(4, .int (nI (k + 1))), (3, .int (t + 1)), (0, .ref (a 0)), (1, .int x), (2, .int y)]) hx hb dX2_watchersOf_52 hl (k := 1) rfl (nI_1 k) (by decide) rfl (fun ls hl => ?_)
            refine lv_goto (tgt := 5) hx hb dX2_watchersOf_55 (by decide) ?_
            exact ih5 (k + 1) (t + 1) (by omega) (by rw [hsp]; simp [watchL, c_11, c_20, c_31, c_46]) ls (lv_sub hl [0, 1, 2, 3, 4] rfl)
  exact L5 (s_n σ) 0 0 (by omega) rfl ls (lv_sub hl [0, 1, 2, 3, 4] rfl)

set_option maxHeartbeats 4000000 in
set_option maxRecDepth 100000 in
theorem c_X2_hitOf (l : Launch) (D : va_G) (cI : ClassId) (a : Nat → Nat) (σ : SS) (x y : Int32) : Met l yX2_hitOf wsX2_hitOf ({ frames := 2, cells := 0, slots := 0, locals := 44 } : Room) (va_Pc [.ref (a 0), .int x, .int y] (preR D cI (sW cI a σ))) (vp_Si (fun r => r = hitF σ x y)) 0 0 (fun _ => False) := by
  refine Met.ofW (cc := cX2_hitOf) (maxL := 5) (ret := (some .int)) (by decide) rfl ?_
  intro p e s m args below meth c s₁ B hml hv
  obtain ⟨rfl, hP, hK, hE⟩ := hv
  have hx := B.exec
  have hb := B.bytes
  have hr := B.returns
  have hts := atoms_spec (ws := wsX2_hitOf) B.pre
  have hown : s.vm.findClass RX2 = some m.cls := findClass_of_methodNamed B.named
  have hlocks := B.notSynchronized
  have hl := lv_entry ([.ref (a 0), .int x, .int y]) (n := 5) (Nat.le_of_ble_eq_true rfl)
  rw [lg_entry_eq]
  generalize (lg_sl ([.ref (a 0), .int x, .int y]) ++ List.replicate (5 - (lg_sl ([.ref (a 0), .int x, .int y])).length) Slot.unset).toArray = ls at hl ⊢
  have hl : lv_has ls 5 [(0, .ref (a 0)), (1, .int x), (2, .int y)] := hl
  refine lv_aload_n hx hb dX2_hitOf_0 rfl (lv_at hl 0 rfl) ?_
  refine lv_iload_n hx hb dX2_hitOf_1 rfl (lv_at hl 1 rfl) ?_
  refine vp_callSi (va_Run.run (va_runV (As := [.int x]) (rest := []) ⟨hx, hb, hml, hown, hts⟩ (c_X2_isAlive l D cI a σ x) (cwV 1 hts gX2_hitOf_X2_isAlive rfl rfl rfl (by decide +kernel) ⟨Nat.le_of_ble_eq_true rfl, Nat.le_of_ble_eq_true rfl⟩) ⟨preR_blind, va_recv hK hP (ci := 2) (q0 := 0) rfl rfl, preR_of hP hK hE [.ref (a 0), .int x]⟩ rfl rfl hl.1 rfl (lv_room (Nat.le_of_ble_eq_true rfl)) dX2_hitOf_2 ⟨Nat.zero_le _, Nat.zero_le _⟩)) (fun r hr9 => ?_)
  subst hr9
  refine w_bz (tgt := 16) hx hb dX2_hitOf_5 (by decide) (fun c_5 => ?_) (fun c_5 => ?_)
  · refine lv_iconst (v := 0) hx hb dX2_hitOf_16 (by decide) ?_
    exact W.iret (v := 0) hx hb hr (fun t ht _ => ⟨_, rfl, by first | rfl | (simp only [hitF, c_5, Bool.false_eq_true, if_false, if_true]; done) | (simp only [hitF, c_5, Bool.false_eq_true, if_false, if_true]; rfl) | (simp [hitF, c_5]; done) | (simp [hitF, c_5]; rfl), ht⟩) hnil dX2_hitOf_17
  · refine lv_aload_n hx hb dX2_hitOf_8 rfl (lv_at hl 0 rfl) ?_
    refine lv_iload_n hx hb dX2_hitOf_9 rfl (lv_at hl 2 rfl) ?_
    refine vp_callSi (va_Run.run (va_runV (As := [.int y]) (rest := []) ⟨hx, hb, hml, hown, hts⟩ (c_X2_isAlive l D cI a σ y) (cwV 1 hts gX2_hitOf_X2_isAlive rfl rfl rfl (by decide +kernel) ⟨Nat.le_of_ble_eq_true rfl, Nat.le_of_ble_eq_true rfl⟩) ⟨preR_blind, va_recv hK hP (ci := 2) (q0 := 0) rfl rfl, preR_of hP hK hE [.ref (a 0), .int y]⟩ rfl rfl hl.1 rfl (lv_room (Nat.le_of_ble_eq_true rfl)) dX2_hitOf_10 ⟨Nat.zero_le _, Nat.zero_le _⟩)) (fun r hr9 => ?_)
    subst hr9
    refine w_bnz (tgt := 18) hx hb dX2_hitOf_13 (by decide) (fun c_13 => ?_) (fun c_13 => ?_)
    · refine lv_aload_n hx hb dX2_hitOf_18 rfl (lv_at hl 0 rfl) ?_
      refine lv_iload_n hx hb dX2_hitOf_19 rfl (lv_at hl 1 rfl) ?_
      refine lv_iconst (v := 4) hx hb dX2_hitOf_20 (by decide) ?_
      refine vp_callSi (va_Run.run (va_runV (As := [.int x, .int 4]) (rest := []) ⟨hx, hb, hml, hown, hts⟩ (c_X2_trait l D cI a σ x 4) (cwV 2 hts gX2_hitOf_X2_trait rfl rfl rfl (by decide +kernel) ⟨Nat.le_of_ble_eq_true rfl, Nat.le_of_ble_eq_true rfl⟩) ⟨preR_blind, va_recv hK hP (ci := 2) (q0 := 0) rfl rfl, preR_of hP hK hE [.ref (a 0), .int x, .int 4]⟩ rfl rfl hl.1 rfl (lv_room (Nat.le_of_ble_eq_true rfl)) dX2_hitOf_21 ⟨Nat.zero_le _, Nat.zero_le _⟩)) (fun r hr9 => ?_)
      subst hr9
      refine lv_aload_n hx hb dX2_hitOf_24 rfl (lv_at hl 0 rfl) ?_
      refine lv_iload_n hx hb dX2_hitOf_25 rfl (lv_at hl 1 rfl) ?_
      refine lv_iconst (v := 2) hx hb dX2_hitOf_26 (by decide) ?_
      refine vp_callSi (va_Run.run (va_runV (As := [.int x, .int 2]) (rest := [.int (traitF σ x 4)]) ⟨hx, hb, hml, hown, hts⟩ (c_X2_stackOf l D cI a σ x 2) (cwV 2 hts gX2_hitOf_X2_stackOf rfl rfl rfl (by decide +kernel) ⟨Nat.le_of_ble_eq_true rfl, Nat.le_of_ble_eq_true rfl⟩) ⟨preR_blind, va_recv hK hP (ci := 2) (q0 := 0) rfl rfl, preR_of hP hK hE [.ref (a 0), .int x, .int 2]⟩ rfl rfl hl.1 rfl (lv_room (Nat.le_of_ble_eq_true rfl)) dX2_hitOf_27 ⟨Nat.zero_le _, Nat.zero_le _⟩)) (fun r hr9 => ?_)
      subst hr9
      refine lv_iadd hx hb dX2_hitOf_30 ?_
      refine lv_istore_n (lv' := [(3, .int ((traitF σ x 4) + (stackF σ x 2))), (0, .ref (a 0)), (1, .int x), (2, .int y)]) hx hb dX2_hitOf_31 rfl hl (by decide) rfl (fun ls hl => ?_)
      refine lv_aload_n hx hb dX2_hitOf_32 rfl (lv_at hl 1 rfl) ?_
      refine lv_iload_n hx hb dX2_hitOf_33 rfl (lv_at hl 3 rfl) ?_
      refine lv_iconst (v := 5) hx hb dX2_hitOf_34 (by decide) ?_
      refine vp_callSi (va_Run.run (va_runV (As := [.int y, .int 5]) (rest := []) ⟨hx, hb, hml, hown, hts⟩ (c_X2_trait l D cI a σ y 5) (cwV 2 hts gX2_hitOf_X2_trait rfl rfl rfl (by decide +kernel) ⟨Nat.le_of_ble_eq_true rfl, Nat.le_of_ble_eq_true rfl⟩) ⟨preR_blind, va_recv hK hP (ci := 2) (q0 := 0) rfl rfl, preR_of hP hK hE [.ref (a 0), .int y, .int 5]⟩ rfl rfl hl.1 rfl (lv_room (Nat.le_of_ble_eq_true rfl)) dX2_hitOf_35 ⟨Nat.zero_le _, Nat.zero_le _⟩)) (fun r hr9 => ?_)
      subst hr9
      refine lv_aload_n hx hb dX2_hitOf_38 rfl (lv_at hl 1 rfl) ?_
      refine lv_iload_n hx hb dX2_hitOf_39 rfl (lv_at hl 3 rfl) ?_
      refine lv_iconst (v := 3) hx hb dX2_hitOf_40 (by decide) ?_
      refine vp_callSi (va_Run.run (va_runV (As := [.int y, .int 3]) (rest := [.int (traitF σ y 5)]) ⟨hx, hb, hml, hown, hts⟩ (c_X2_stackOf l D cI a σ y 3) (cwV 2 hts gX2_hitOf_X2_stackOf rfl rfl rfl (by decide +kernel) ⟨Nat.le_of_ble_eq_true rfl, Nat.le_of_ble_eq_true rfl⟩) ⟨preR_blind, va_recv hK hP (ci := 2) (q0 := 0) rfl rfl, preR_of hP hK hE [.ref (a 0), .int y, .int 3]⟩ rfl rfl hl.1 rfl (lv_room (Nat.le_of_ble_eq_true rfl)) dX2_hitOf_41 ⟨Nat.zero_le _, Nat.zero_le _⟩)) (fun r hr9 => ?_)
      subst hr9
      refine lv_iadd hx hb dX2_hitOf_44 ?_
      refine lv_istore (lv' := [(4, .int ((traitF σ y 5) + (stackF σ y 3))), (3, .int ((traitF σ x 4) + (stackF σ x 2))), (0, .ref (a 0)), (1, .int x), (2, .int y)]) hx hb dX2_hitOf_45 hl (by decide) rfl (fun ls hl => ?_)
      refine lv_iload_n hx hb dX2_hitOf_47 rfl (lv_at hl 1 rfl) ?_
      refine lv_iload hx hb dX2_hitOf_48 (lv_at hl 0 rfl) ?_
      refine lv_isub hx hb dX2_hitOf_50 ?_
      refine lv_iconst (v := 1) hx hb dX2_hitOf_51 (by decide) ?_
      refine va_mmax hx hb (hml.trans hl.1.symm) hown (hts (.methodLink RX2 66 Lib.Math.max.name) (by decide +kernel)) (hts (.static Lib.Math.max.name) (by decide +kernel)) (hts (.initialized "java/lang/Math") (by decide +kernel)) (hts (.code Lib.Math.max.name Lib.Math.max.code 2 (some .int)) (by decide +kernel)) (Nat.le_of_ble_eq_true rfl) (Nat.le_of_ble_eq_true rfl) (Nat.zero_le _) (Nat.zero_le _) dX2_hitOf_52 ?_
      exact W.iret (v := (maxI (((traitF σ x 4) + (stackF σ x 2)) - ((traitF σ y 5) + (stackF σ y 3))) 1)) hx hb hr (fun t ht _ => ⟨_, rfl, by first | rfl | (simp only [hitF, c_5, c_13, Bool.false_eq_true, if_false, if_true]; done) | (simp only [hitF, c_5, c_13, Bool.false_eq_true, if_false, if_true]; rfl) | (simp [hitF, c_5, c_13]; done) | (simp [hitF, c_5, c_13]; rfl), ht⟩) hnil dX2_hitOf_55
    · refine lv_iconst (v := 0) hx hb dX2_hitOf_16 (by decide) ?_
      exact W.iret (v := 0) hx hb hr (fun t ht _ => ⟨_, rfl, by first | rfl | (simp only [hitF, c_5, c_13, Bool.false_eq_true, if_false, if_true]; done) | (simp only [hitF, c_5, c_13, Bool.false_eq_true, if_false, if_true]; rfl) | (simp [hitF, c_5, c_13]; done) | (simp [hitF, c_5, c_13]; rfl), ht⟩) hnil dX2_hitOf_17

