-- ===== the shadow: its own methods =====
set_option maxHeartbeats 4000000 in
set_option maxRecDepth 100000 in
theorem c_X5_isEdge (l : Launch) (x : Int32) : Met l yX5_isEdge wsX5_isEdge ({ frames := 0, cells := 0, slots := 0, locals := 0 } : Room) (va_Pc [.int x] (fun _ => True)) (vp_Si (fun r => r = bi (edgeD x))) 0 0 (fun _ => False) := by
  refine Met.ofW (cc := cX5_isEdge) (maxL := 1) (ret := (some .boolean)) (by decide) rfl ?_
  intro p e s m args below meth c s₁ B hml hv
  obtain ⟨rfl, -⟩ := hv
  have hx := B.exec
  have hb := B.bytes
  have hr := B.returns
  have hts := atoms_spec (ws := wsX5_isEdge) B.pre
  have hown : s.vm.findClass RX5 = some m.cls := findClass_of_methodNamed B.named
  have hlocks := B.notSynchronized
  have hl := lv_entry ([.int x]) (n := 1) (Nat.le_of_ble_eq_true rfl)
  rw [lg_entry_eq]
  generalize (lg_sl ([.int x]) ++ List.replicate (1 - (lg_sl ([.int x])).length) Slot.unset).toArray = ls at hl ⊢
  have hl : lv_has ls 1 [(0, .int x)] := hl
  refine lv_iload_n hx hb dX5_isEdge_0 rfl (lv_at hl 0 rfl) ?_
  refine lv_bipush (v := 16) hx hb dX5_isEdge_1 (by decide) ?_
  refine lv_icmp_lt (tgt := 29) hx hb dX5_isEdge_3 (by decide) (fun c_3 => ?_) (fun c_3 => ?_)
  · refine lv_iconst (v := 1) hx hb dX5_isEdge_29 (by decide) ?_
    refine lv_goto (tgt := 34) hx hb dX5_isEdge_30 (by decide) ?_
    exact W.zret (v := 1) hx hb hr rfl (fun T9 ht _ => ⟨_, rfl, by first | rfl | (simp only [edgeD, remI, if_pos c_3]; done) | (simp only [edgeD, remI, if_pos c_3]; rfl) | (simp [edgeD, remI, c_3]; done) | (simp [edgeD, remI, c_3]; rfl), ht⟩) hnil dX5_isEdge_34
  · refine lv_iload_n hx hb dX5_isEdge_6 rfl (lv_at hl 0 rfl) ?_
    refine lv_sipush (v := 144) hx hb dX5_isEdge_7 (by decide) ?_
    refine lv_icmp_ge (tgt := 29) hx hb dX5_isEdge_10 (by decide) (fun c_10 => ?_) (fun c_10 => ?_)
    · refine lv_iconst (v := 1) hx hb dX5_isEdge_29 (by decide) ?_
      refine lv_goto (tgt := 34) hx hb dX5_isEdge_30 (by decide) ?_
      exact W.zret (v := 1) hx hb hr rfl (fun T9 ht _ => ⟨_, rfl, by first | rfl | (simp only [edgeD, remI, if_neg c_3, if_pos c_10]; done) | (simp only [edgeD, remI, if_neg c_3, if_pos c_10]; rfl) | (simp [edgeD, remI, c_3, c_10]; done) | (simp [edgeD, remI, c_3, c_10]; rfl), ht⟩) hnil dX5_isEdge_34
    · refine lv_iload_n hx hb dX5_isEdge_13 rfl (lv_at hl 0 rfl) ?_
      refine lv_bipush (v := 16) hx hb dX5_isEdge_14 (by decide) ?_
      refine lv_irem hx hb dX5_isEdge_16 (by decide) ?_
      refine lv_if_eq (tgt := 29) hx hb dX5_isEdge_17 (by decide) (fun c_17 => ?_) (fun c_17 => ?_)
      · refine lv_iconst (v := 1) hx hb dX5_isEdge_29 (by decide) ?_
        refine lv_goto (tgt := 34) hx hb dX5_isEdge_30 (by decide) ?_
        exact W.zret (v := 1) hx hb hr rfl (fun T9 ht _ => ⟨_, rfl, by first | rfl | (simp only [edgeD, remI, if_neg c_3, if_neg c_10, if_pos c_17]; done) | (simp only [edgeD, remI, if_neg c_3, if_neg c_10, if_pos c_17]; rfl) | (simp [edgeD, remI, c_3, c_10, c_17]; done) | (simp [edgeD, remI, c_3, c_10, c_17]; rfl), ht⟩) hnil dX5_isEdge_34
      · refine lv_iload_n hx hb dX5_isEdge_20 rfl (lv_at hl 0 rfl) ?_
        refine lv_bipush (v := 16) hx hb dX5_isEdge_21 (by decide) ?_
        refine lv_irem hx hb dX5_isEdge_23 (by decide) ?_
        refine lv_bipush (v := 15) hx hb dX5_isEdge_24 (by decide) ?_
        refine lv_icmp_ne (tgt := 33) hx hb dX5_isEdge_26 (by decide) (fun c_26 => ?_) (fun c_26 => ?_)
        · refine lv_iconst (v := 0) hx hb dX5_isEdge_33 (by decide) ?_
          exact W.zret (v := 0) hx hb hr rfl (fun T9 ht _ => ⟨_, rfl, by first | rfl | (simp only [edgeD, remI, if_neg c_3, if_neg c_10, if_neg c_17, if_neg c_26]; done) | (simp only [edgeD, remI, if_neg c_3, if_neg c_10, if_neg c_17, if_neg c_26]; rfl) | (simp [edgeD, remI, c_3, c_10, c_17, c_26]; done) | (simp [edgeD, remI, c_3, c_10, c_17, c_26]; rfl), ht⟩) hnil dX5_isEdge_34
        · refine lv_iconst (v := 1) hx hb dX5_isEdge_29 (by decide) ?_
          refine lv_goto (tgt := 34) hx hb dX5_isEdge_30 (by decide) ?_
          exact W.zret (v := 1) hx hb hr rfl (fun T9 ht _ => ⟨_, rfl, by first | rfl | (simp only [edgeD, remI, if_neg c_3, if_neg c_10, if_neg c_17, if_pos c_26]; done) | (simp only [edgeD, remI, if_neg c_3, if_neg c_10, if_neg c_17, if_pos c_26]; rfl) | (simp [edgeD, remI, c_3, c_10, c_17, c_26]; done) | (simp [edgeD, remI, c_3, c_10, c_17, c_26]; rfl), ht⟩) hnil dX5_isEdge_34
set_option maxHeartbeats 4000000 in
set_option maxRecDepth 100000 in
theorem c_X5_apart (l : Launch) (x y : Int32) : Met l yX5_apart wsX5_apart ({ frames := 1, cells := 0, slots := 0, locals := 14 } : Room) (va_Pc [.int x, .int y] (fun _ => True)) (vp_Si (fun r => r = apartM x y)) 0 0 (fun _ => False) := by
  refine Met.ofW (cc := cX5_apart) (maxL := 2) (ret := (some .int)) (by decide) rfl ?_
  intro p e s m args below meth c s₁ B hml hv
  obtain ⟨rfl, -⟩ := hv
  have hx := B.exec
  have hb := B.bytes
  have hr := B.returns
  have hts := atoms_spec (ws := wsX5_apart) B.pre
  have hown : s.vm.findClass RX5 = some m.cls := findClass_of_methodNamed B.named
  have hlocks := B.notSynchronized
  have hl := lv_entry ([.int x, .int y]) (n := 2) (Nat.le_of_ble_eq_true rfl)
  rw [lg_entry_eq]
  generalize (lg_sl ([.int x, .int y]) ++ List.replicate (2 - (lg_sl ([.int x, .int y])).length) Slot.unset).toArray = ls at hl ⊢
  have hl : lv_has ls 2 [(0, .int x), (1, .int y)] := hl
  refine lv_iload_n hx hb dX5_apart_0 rfl (lv_at hl 0 rfl) ?_
  refine lv_bipush (v := 16) hx hb dX5_apart_1 (by decide) ?_
  refine lv_irem hx hb dX5_apart_3 (by decide) ?_
  refine lv_iload_n hx hb dX5_apart_4 rfl (lv_at hl 1 rfl) ?_
  refine lv_bipush (v := 16) hx hb dX5_apart_5 (by decide) ?_
  refine lv_irem hx hb dX5_apart_7 (by decide) ?_
  refine lv_isub hx hb dX5_apart_8 ?_
  refine va_mabs hx hb (hml.trans hl.1.symm) hown (hts (.methodLink RX5 67 Lib.Math.abs.name) (by decide +kernel)) (hts (.static Lib.Math.abs.name) (by decide +kernel)) (hts (.initialized "java/lang/Math") (by decide +kernel)) (hts (.code Lib.Math.abs.name Lib.Math.abs.code 1 (some .int)) (by decide +kernel)) (Nat.le_of_ble_eq_true rfl) (Nat.le_of_ble_eq_true rfl) (Nat.zero_le _) (Nat.zero_le _) dX5_apart_9 ?_
  refine lv_iload_n hx hb dX5_apart_12 rfl (lv_at hl 0 rfl) ?_
  refine lv_bipush (v := 16) hx hb dX5_apart_13 (by decide) ?_
  refine lv_idiv hx hb dX5_apart_15 (by decide) ?_
  refine lv_iload_n hx hb dX5_apart_16 rfl (lv_at hl 1 rfl) ?_
  refine lv_bipush (v := 16) hx hb dX5_apart_17 (by decide) ?_
  refine lv_idiv hx hb dX5_apart_19 (by decide) ?_
  refine lv_isub hx hb dX5_apart_20 ?_
  refine va_mabs hx hb (hml.trans hl.1.symm) hown (hts (.methodLink RX5 67 Lib.Math.abs.name) (by decide +kernel)) (hts (.static Lib.Math.abs.name) (by decide +kernel)) (hts (.initialized "java/lang/Math") (by decide +kernel)) (hts (.code Lib.Math.abs.name Lib.Math.abs.code 1 (some .int)) (by decide +kernel)) (Nat.le_of_ble_eq_true rfl) (Nat.le_of_ble_eq_true rfl) (Nat.zero_le _) (Nat.zero_le _) dX5_apart_21 ?_
  refine va_mmax hx hb (hml.trans hl.1.symm) hown (hts (.methodLink RX5 72 Lib.Math.max.name) (by decide +kernel)) (hts (.static Lib.Math.max.name) (by decide +kernel)) (hts (.initialized "java/lang/Math") (by decide +kernel)) (hts (.code Lib.Math.max.name Lib.Math.max.code 2 (some .int)) (by decide +kernel)) (Nat.le_of_ble_eq_true rfl) (Nat.le_of_ble_eq_true rfl) (Nat.zero_le _) (Nat.zero_le _) dX5_apart_24 ?_
  exact W.iret (v := (maxI (absI ((remI x 16) - (remI y 16))) (absI ((x / 16) - (y / 16))))) hx hb hr (fun T9 ht _ => ⟨_, rfl, by first | rfl | (simp only [apartM, colI, rowI]; done) | (simp only [apartM, colI, rowI]; rfl) | (simp [apartM, colI, rowI]; done) | (simp [apartM, colI, rowI]; rfl), ht⟩) hnil dX5_apart_27
set_option maxHeartbeats 4000000 in
set_option maxRecDepth 100000 in
theorem c_X5_nearest (l : Launch) (x : Int32) (j : Nat) (h1 : 1 ≤ j) (hj : j ≤ 7) : Met l yX5_nearest wsX5_nearest ({ frames := 0, cells := 0, slots := 0, locals := 0 } : Room) (va_Pc [.int x, .int (nI j)] (fun _ => True)) (vp_Si (fun r => r = nearD x (nI j))) 0 0 (fun _ => False) := by
  refine Met.ofW (cc := cX5_nearest) (maxL := 4) (ret := (some .int)) (by decide) rfl ?_
  intro p e s m args below meth c s₁ B hml hv
  obtain ⟨rfl, -⟩ := hv
  have hx := B.exec
  have hb := B.bytes
  have hr := B.returns
  have hts := atoms_spec (ws := wsX5_nearest) B.pre
  have hown : s.vm.findClass RX5 = some m.cls := findClass_of_methodNamed B.named
  have hlocks := B.notSynchronized
  have hl := lv_entry ([.int x, .int (nI j)]) (n := 4) (Nat.le_of_ble_eq_true rfl)
  rw [lg_entry_eq]
  generalize (lg_sl ([.int x, .int (nI j)]) ++ List.replicate (4 - (lg_sl ([.int x, .int (nI j)])).length) Slot.unset).toArray = ls at hl ⊢
  have hl : lv_has ls 4 [(0, .int x), (1, .int (nI j))] := hl
  refine lv_iconst (v := 2) hx hb dX5_nearest_0 (by decide) ?_
  refine lv_iload_n hx hb dX5_nearest_1 rfl (lv_at hl 0 rfl) ?_
  refine lv_imul hx hb dX5_nearest_2 ?_
  refine lv_iload_n hx hb dX5_nearest_3 rfl (lv_at hl 1 rfl) ?_
  refine lv_iadd hx hb dX5_nearest_4 ?_
  refine lv_istore_n (lv' := [(2, .int ((2 * x) + (nI j))), (0, .int x), (1, .int (nI j))]) hx hb dX5_nearest_5 rfl hl (by decide) rfl (fun ls hl => ?_)
  refine lv_iload_n hx hb dX5_nearest_6 rfl (lv_at hl 0 rfl) ?_
  refine lv_iconst (v := 2) hx hb dX5_nearest_7 (by decide) ?_
  refine lv_iload_n hx hb dX5_nearest_8 rfl (lv_at hl 2 rfl) ?_
  refine lv_imul hx hb dX5_nearest_9 ?_
  refine lv_idiv hx hb dX5_nearest_10 (nz2r h1 hj) ?_
  refine lv_istore_n (lv' := [(3, .int (((2 * x) + (nI j)) / (2 * (nI j)))), (2, .int ((2 * x) + (nI j))), (0, .int x), (1, .int (nI j))]) hx hb dX5_nearest_11 rfl hl (by decide) rfl (fun ls hl => ?_)
  refine lv_iload_n hx hb dX5_nearest_12 rfl (lv_at hl 1 rfl) ?_
  refine lv_if_ge (tgt := 30) hx hb dX5_nearest_13 (by decide) (fun c_13 => ?_) (fun c_13 => ?_)
  · refine lv_iload_n hx hb dX5_nearest_30 rfl (lv_at hl 0 rfl) ?_
    exact W.iret (v := (((2 * x) + (nI j)) / (2 * (nI j)))) hx hb hr (fun T9 ht _ => ⟨_, rfl, by first | rfl | (simp only [nearD, remI, if_pos c_13]; done) | (simp only [nearD, remI, if_pos c_13]; rfl) | (simp [nearD, remI, c_13]; done) | (simp [nearD, remI, c_13]; rfl), ht⟩) hnil dX5_nearest_31
  · refine lv_iload_n hx hb dX5_nearest_16 rfl (lv_at hl 1 rfl) ?_
    refine lv_iconst (v := 2) hx hb dX5_nearest_17 (by decide) ?_
    refine lv_iload_n hx hb dX5_nearest_18 rfl (lv_at hl 3 rfl) ?_
    refine lv_imul hx hb dX5_nearest_19 ?_
    refine lv_irem hx hb dX5_nearest_20 (nz2r h1 hj) ?_
    refine lv_if_eq (tgt := 30) hx hb dX5_nearest_21 (by decide) (fun c_21 => ?_) (fun c_21 => ?_)
    · refine lv_iload_n hx hb dX5_nearest_30 rfl (lv_at hl 0 rfl) ?_
      exact W.iret (v := (((2 * x) + (nI j)) / (2 * (nI j)))) hx hb hr (fun T9 ht _ => ⟨_, rfl, by first | rfl | (simp only [nearD, remI, if_neg c_13, if_pos c_21]; done) | (simp only [nearD, remI, if_neg c_13, if_pos c_21]; rfl) | (simp [nearD, remI, c_13, c_21]; done) | (simp [nearD, remI, c_13, c_21]; rfl), ht⟩) hnil dX5_nearest_31
    · refine lv_iload_n hx hb dX5_nearest_24 rfl (lv_at hl 0 rfl) ?_
      refine lv_iconst (v := 1) hx hb dX5_nearest_25 (by decide) ?_
      refine lv_isub hx hb dX5_nearest_26 ?_
      refine lv_goto (tgt := 31) hx hb dX5_nearest_27 (by decide) ?_
      exact W.iret (v := ((((2 * x) + (nI j)) / (2 * (nI j))) - 1)) hx hb hr (fun T9 ht _ => ⟨_, rfl, by first | rfl | (simp only [nearD, remI, if_neg c_13, if_neg c_21]; done) | (simp only [nearD, remI, if_neg c_13, if_neg c_21]; rfl) | (simp [nearD, remI, c_13, c_21]; done) | (simp [nearD, remI, c_13, c_21]; rfl), ht⟩) hnil dX5_nearest_31
set_option maxHeartbeats 4000000 in
set_option maxRecDepth 100000 in
theorem c_X5_step (l : Launch) (x : Int32) : Met l yX5_step wsX5_step ({ frames := 0, cells := 0, slots := 0, locals := 0 } : Room) (va_Pc [.int x] (fun _ => True)) (vp_Si (fun r => r = stepD x)) 0 0 (fun _ => False) := by
  refine Met.ofW (cc := cX5_step) (maxL := 1) (ret := (some .int)) (by decide) rfl ?_
  intro p e s m args below meth c s₁ B hml hv
  obtain ⟨rfl, -⟩ := hv
  have hx := B.exec
  have hb := B.bytes
  have hr := B.returns
  have hts := atoms_spec (ws := wsX5_step) B.pre
  have hown : s.vm.findClass RX5 = some m.cls := findClass_of_methodNamed B.named
  have hlocks := B.notSynchronized
  have hl := lv_entry ([.int x]) (n := 1) (Nat.le_of_ble_eq_true rfl)
  rw [lg_entry_eq]
  generalize (lg_sl ([.int x]) ++ List.replicate (1 - (lg_sl ([.int x])).length) Slot.unset).toArray = ls at hl ⊢
  have hl : lv_has ls 1 [(0, .int x)] := hl
  refine lv_iload_n hx hb dX5_step_0 rfl (lv_at hl 0 rfl) ?_
  refine lv_if_ne (tgt := 9) hx hb dX5_step_1 (by decide) (fun c_1 => ?_) (fun c_1 => ?_)
  · refine lv_iload_n hx hb dX5_step_9 rfl (lv_at hl 0 rfl) ?_
    refine lv_iconst (v := 1) hx hb dX5_step_10 (by decide) ?_
    refine lv_icmp_ne (tgt := 18) hx hb dX5_step_11 (by decide) (fun c_11 => ?_) (fun c_11 => ?_)
    · refine lv_iload_n hx hb dX5_step_18 rfl (lv_at hl 0 rfl) ?_
      refine lv_iconst (v := 2) hx hb dX5_step_19 (by decide) ?_
      refine lv_icmp_ne (tgt := 28) hx hb dX5_step_20 (by decide) (fun c_20 => ?_) (fun c_20 => ?_)
      · refine lv_iconst (v := (-1)) hx hb dX5_step_28 (by decide) ?_
        exact W.iret (v := (-1)) hx hb hr (fun T9 ht _ => ⟨_, rfl, by first | rfl | (simp only [stepD, if_neg c_1, if_neg c_11, if_neg c_20]; done) | (simp only [stepD, if_neg c_1, if_neg c_11, if_neg c_20]; rfl) | (simp [stepD, c_1, c_11, c_20]; done) | (simp [stepD, c_1, c_11, c_20]; rfl), ht⟩) hnil dX5_step_29
      · refine lv_bipush (v := 16) hx hb dX5_step_23 (by decide) ?_
        refine lv_goto (tgt := 29) hx hb dX5_step_25 (by decide) ?_
        exact W.iret (v := 16) hx hb hr (fun T9 ht _ => ⟨_, rfl, by first | rfl | (simp only [stepD, if_neg c_1, if_neg c_11, if_pos c_20]; done) | (simp only [stepD, if_neg c_1, if_neg c_11, if_pos c_20]; rfl) | (simp [stepD, c_1, c_11, c_20]; done) | (simp [stepD, c_1, c_11, c_20]; rfl), ht⟩) hnil dX5_step_29
    · refine lv_iconst (v := 1) hx hb dX5_step_14 (by decide) ?_
      refine lv_goto (tgt := 29) hx hb dX5_step_15 (by decide) ?_
      exact W.iret (v := 1) hx hb hr (fun T9 ht _ => ⟨_, rfl, by first | rfl | (simp only [stepD, if_neg c_1, if_pos c_11]; done) | (simp only [stepD, if_neg c_1, if_pos c_11]; rfl) | (simp [stepD, c_1, c_11]; done) | (simp [stepD, c_1, c_11]; rfl), ht⟩) hnil dX5_step_29
  · refine lv_bipush (v := (-16)) hx hb dX5_step_4 (by decide) ?_
    refine lv_goto (tgt := 29) hx hb dX5_step_6 (by decide) ?_
    exact W.iret (v := (-16)) hx hb hr (fun T9 ht _ => ⟨_, rfl, by first | rfl | (simp only [stepD, if_pos c_1]; done) | (simp only [stepD, if_pos c_1]; rfl) | (simp [stepD, c_1]; done) | (simp [stepD, c_1]; rfl), ht⟩) hnil dX5_step_29
set_option maxHeartbeats 4000000 in
set_option maxRecDepth 100000 in
theorem c_L_below (l : Launch) (x y : Int32) (hy : ¬ y = 0) : Met l yL_below wsL_below ({ frames := 0, cells := 0, slots := 0, locals := 0 } : Room) (va_Pc [.int x, .int y] (fun _ => True)) (vp_Si (fun r => r = belowI x y)) 0 0 (fun _ => False) := by
  refine Met.ofW (cc := cL_below) (maxL := 2) (ret := (some .int)) (by decide) rfl ?_
  intro p e s m args below meth c s₁ B hml hv
  obtain ⟨rfl, -⟩ := hv
  have hx := B.exec
  have hb := B.bytes
  have hr := B.returns
  have hts := atoms_spec (ws := wsL_below) B.pre
  have hown : s.vm.findClass RL = some m.cls := findClass_of_methodNamed B.named
  have hlocks := B.notSynchronized
  have hl := lv_entry ([.int x, .int y]) (n := 2) (Nat.le_of_ble_eq_true rfl)
  rw [lg_entry_eq]
  generalize (lg_sl ([.int x, .int y]) ++ List.replicate (2 - (lg_sl ([.int x, .int y])).length) Slot.unset).toArray = ls at hl ⊢
  have hl : lv_has ls 2 [(0, .int x), (1, .int y)] := hl
  refine lv_iload_n hx hb dL_below_0 rfl (lv_at hl 0 rfl) ?_
  refine lv_ldc hx hb hown (hts (.constant RL 7 (2147483647)) (by decide +kernel)) dL_below_1 ?_
  refine lv_iand hx hb dL_below_3 ?_
  refine lv_iload_n hx hb dL_below_4 rfl (lv_at hl 1 rfl) ?_
  refine lv_irem hx hb dL_below_5 hy ?_
  exact W.iret (v := (remI (x &&& 2147483647) y)) hx hb hr (fun T9 ht _ => ⟨_, rfl, by first | rfl | (simp only [belowI]; done) | (simp only [belowI]; rfl) | (simp [belowI]; done) | (simp [belowI]; rfl), ht⟩) hnil dL_below_6
set_option maxHeartbeats 4000000 in
set_option maxRecDepth 100000 in
theorem c_L_cell (l : Launch) (b L : Nat) (xs : Nat → Int32) (x : Int32) (hk0 : ¬ x < 0) : Met l yL_cell wsL_cell ({ frames := 0, cells := 0, slots := 0, locals := 0 } : Room) (va_Pc [.ref b, .int x] (preB b L xs)) (vp_Si (fun r => r = cellI L xs x)) 0 0 (fun _ => False) := by
  refine Met.ofW (cc := cL_cell) (maxL := 2) (ret := (some .int)) (by decide) rfl ?_
  intro p e s m args below meth c s₁ B hml hv
  obtain ⟨rfl, hX, hbl, hbA, hL31⟩ := hv
  have hS : va_S (fun _ => False) s.heap s.heap [] := va_S.rf
  have hx := B.exec
  have hb := B.bytes
  have hr := B.returns
  have hts := atoms_spec (ws := wsL_cell) B.pre
  have hown : s.vm.findClass RL = some m.cls := findClass_of_methodNamed B.named
  have hlocks := B.notSynchronized
  have hl := lv_entry ([.ref b, .int x]) (n := 2) (Nat.le_of_ble_eq_true rfl)
  rw [lg_entry_eq]
  generalize (lg_sl ([.ref b, .int x]) ++ List.replicate (2 - (lg_sl ([.ref b, .int x])).length) Slot.unset).toArray = ls at hl ⊢
  have hl : lv_has ls 2 [(0, .ref b), (1, .int x)] := hl
  refine lv_iload_n hx hb dL_cell_0 rfl (lv_at hl 1 rfl) ?_
  refine lv_aload_n hx hb dL_cell_1 rfl (lv_at hl 0 rfl) ?_
  refine va_slen hx hb hX hbl hbA hS dL_cell_2 ?_
  refine lv_icmp_ge (tgt := 12) hx hb dL_cell_3 (by decide) (fun c_3 => ?_) (fun c_3 => ?_)
  · refine lv_ldc hx hb hown (hts (.constant RL 8 (790386105)) (by decide +kernel)) dL_cell_12 ?_
    refine lv_iload_n hx hb dL_cell_14 rfl (lv_at hl 1 rfl) ?_
    refine lv_iconst (v := 3) hx hb dL_cell_15 (by decide) ?_
    refine lv_iadd hx hb dL_cell_16 ?_
    refine lv_imul hx hb dL_cell_17 ?_
    exact W.iret (v := (790386105 * (x + 3))) hx hb hr (fun T9 ht _ => ⟨_, rfl, (if_pos c_3).symm, ht⟩) hnil dL_cell_18
  · refine lv_aload_n hx hb dL_cell_6 rfl (lv_at hl 0 rfl) ?_
    refine lv_iload_n hx hb dL_cell_7 rfl (lv_at hl 1 rfl) ?_
    refine va_sld hx hb hX hbl hbA hS (vin hL31 hk0 c_3) dL_cell_8 ?_
    refine lv_goto (tgt := 18) hx hb dL_cell_9 (by decide) ?_
    exact W.iret (v := (xs x.toNatClampNeg)) hx hb hr (fun T9 ht _ => ⟨_, rfl, (if_neg c_3).symm, ht⟩) hnil dL_cell_18
set_option maxHeartbeats 4000000 in
set_option maxRecDepth 100000 in
theorem c_X5_on (l : Launch) (D : va_G) (cI : ClassId) (cZ cG cY : ClassId) (o rr : Nat → Nat) (h b dr : Nat) (δ : DD) (Y : RW) (x : Int32) (hn : d_n δ ≤ 10) : Met l yX5_on wsX5_on ({ frames := 0, cells := 0, slots := 0, locals := 0 } : Room) (va_Pc [.ref (o 0), .int x] (preDR D cI cZ cG cY (dW cI cZ cG cY o rr h b dr δ Y ++ bW cI rr (d_n δ) (d_R δ)))) (vp_Si (fun r => r = onD δ x)) 0 0 (fun _ => False) := by
  refine Met.ofW (cc := cX5_on) (maxL := 3) (ret := (some .int)) (by decide) rfl ?_
  intro p e s m args below meth c s₁ B hml hv
  obtain ⟨rfl, hP, hK⟩ := hv
  have hx := B.exec
  have hb := B.bytes
  have hr := B.returns
  have hts := atoms_spec (ws := wsX5_on) B.pre
  have hown : s.vm.findClass RX5 = some m.cls := findClass_of_methodNamed B.named
  have hlocks := B.notSynchronized
  have hl := lv_entry ([.ref (o 0), .int x]) (n := 3) (Nat.le_of_ble_eq_true rfl)
  rw [lg_entry_eq]
  generalize (lg_sl ([.ref (o 0), .int x]) ++ List.replicate (3 - (lg_sl ([.ref (o 0), .int x])).length) Slot.unset).toArray = ls at hl ⊢
  have hl : lv_has ls 3 [(0, .ref (o 0)), (1, .int x)] := hl
  refine lv_iconst (v := 0) hx hb dX5_on_0 (by decide) ?_
  refine lv_istore_n (lv' := [(2, .int 0), (0, .ref (o 0)), (1, .int x)]) hx hb dX5_on_1 rfl hl (by decide) rfl (fun ls hl => ?_)
  have L2 : ∀ (n k : Nat) (hk : k + n = d_n δ) (hsp : onD δ x = fstI (fun j => decide (d_R δ j 1 = x)) n k) (ls : Array Slot), lv_has ls 3 [(2, .int (nI k)), (0, .ref (o 0)), (1, .int x)] → W p l e ({ frames := 0, cells := 0, slots := 0, locals := 0 } : Room) s m ([.ref (o 0), .int x] : List Value).toArray below meth c s.heap [] 0 0 (MQ below (vp_Si (fun r => r = onD δ x)) ([.ref (o 0), .int x] : List Value).toArray s 0 0 (fun _ => False)) (F0 m 2 ls []) := by
    intro n
    induction n with
    | zero =>
      intro k hk hsp ls hl
      refine lv_iload_n hx hb dX5_on_2 rfl (lv_at hl 0 rfl) ?_
      refine lv_aload_n hx hb dX5_on_3 rfl (lv_at hl 1 rfl) ?_
      refine va_get (D := D) (ci := 5) (v := .ref (o 5)) (C := RX5) (T := TX5) (N := 8) hx hb hts (by decide +kernel) hown hK hP 0 rfl rfl 5 (by decide) (hts (.fieldLink RX5 26 "WarrenLaw$Den" "beings" "[[I") (by decide +kernel)) (fun _ h9 => h9) rfl dX5_on_4 ?_
      refine va_alen (v := (nI (d_n δ))) hx hb hK hP 5 2 rfl rfl rfl dX5_on_7 ?_
      refine lv_icmp_ge (tgt := 31) hx hb dX5_on_8 (by decide) (fun c_8 => ?_) (fun c_8 => absurd (nI_le (by omega) (by omega)) c_8)
      refine lv_iconst (v := (-1)) hx hb dX5_on_31 (by decide) ?_
      exact W.iret (v := (-1)) hx hb hr (fun T9 ht _ => ⟨_, rfl, by rw [hsp]; rfl, ht⟩) hnil dX5_on_32
    | succ n ih2 =>
      intro k hk hsp ls hl
      refine lv_iload_n hx hb dX5_on_2 rfl (lv_at hl 0 rfl) ?_
      refine lv_aload_n hx hb dX5_on_3 rfl (lv_at hl 1 rfl) ?_
      refine va_get (D := D) (ci := 5) (v := .ref (o 5)) (C := RX5) (T := TX5) (N := 8) hx hb hts (by decide +kernel) hown hK hP 0 rfl rfl 5 (by decide) (hts (.fieldLink RX5 26 "WarrenLaw$Den" "beings" "[[I") (by decide +kernel)) (fun _ h9 => h9) rfl dX5_on_4 ?_
      refine va_alen (v := (nI (d_n δ))) hx hb hK hP 5 2 rfl rfl rfl dX5_on_7 ?_
      refine lv_icmp_ge (tgt := 31) hx hb dX5_on_8 (by decide) (fun c_8 => absurd c_8 (nI_ge (by omega) (by omega))) (fun c_8 => ?_)
      refine lv_aload_n hx hb dX5_on_11 rfl (lv_at hl 1 rfl) ?_
      refine va_get (D := D) (ci := 5) (v := .ref (o 5)) (C := RX5) (T := TX5) (N := 8) hx hb hts (by decide +kernel) hown hK hP 0 rfl rfl 5 (by decide) (hts (.fieldLink RX5 26 "WarrenLaw$Den" "beings" "[[I") (by decide +kernel)) (fun _ h9 => h9) rfl dX5_on_12 ?_
      refine lv_iload_n hx hb dX5_on_15 rfl (lv_at hl 0 rfl) ?_
      refine w_ldB hx hb hK hP 5 rfl (vp_in_nI (by omega) (by omega)) dX5_on_16 ?_
      rw [nI_clamp (by omega)]
      refine lv_iconst (v := 1) hx hb dX5_on_17 (by decide) ?_
      refine va_iald hx hb hK hP (6 + k) 0 (bW_at rfl (by omega)) rfl (vp_in_nI (n := 1) (by decide) (by decide)) dX5_on_18 ?_
      rw [show (1 : Int32).toNatClampNeg = 1 by decide]
      refine lv_iload_n hx hb dX5_on_19 rfl (lv_at hl 2 rfl) ?_
      refine lv_icmp_ne (tgt := 25) hx hb dX5_on_20 (by decide) (fun c_20 => ?_) (fun c_20 => ?_)
      · refine lv_iinc (v := (nI (k + 1))) (lv' := [(2, .int (nI (k + 1))), (0, .ref (o 0)), (1, .int x)]) hx hb dX5_on_25 hl (k := 0) rfl (nI_1 k) (by decide) rfl (fun ls hl => ?_)
        refine lv_goto (tgt := 2) hx hb dX5_on_28 (by decide) ?_
        exact ih2 (k + 1) (by omega) (by rw [hsp]; simp [fstI, c_20]) ls (lv_sub hl [0, 1, 2] rfl)
      · refine lv_iload_n hx hb dX5_on_23 rfl (lv_at hl 0 rfl) ?_
        exact W.iret (v := (nI k)) hx hb hr (fun T9 ht _ => ⟨_, rfl, by rw [hsp]; simp [fstI, c_20], ht⟩) hnil dX5_on_24
  exact L2 (d_n δ) 0 (by omega) rfl ls (lv_sub hl [0, 1, 2] rfl)
set_option maxHeartbeats 4000000 in
set_option maxRecDepth 100000 in
theorem c_X5_sees (l : Launch) (D : va_G) (cI : ClassId) (cZ cG cY : ClassId) (o rr : Nat → Nat) (h b dr : Nat) (δ : DD) (Y : RW) (x y : Int32) (hn : d_n δ ≤ 10) (hx9 : cellB x = true) (hy9 : cellB y = true) : Met l yX5_sees wsX5_sees ({ frames := 2, cells := 0, slots := 0, locals := 35 } : Room) (va_Pc [.ref (o 0), .int x, .int y] (preDR D cI cZ cG cY (dW cI cZ cG cY o rr h b dr δ Y ++ bW cI rr (d_n δ) (d_R δ)))) (vp_Si (fun r => r = bi (seesD (d_k δ) x y))) 0 0 (fun _ => False) := by
  refine Met.ofW (cc := cX5_sees) (maxL := 6) (ret := (some .boolean)) (by decide) rfl ?_
  intro p e s m args below meth c s₁ B hml hv
  obtain ⟨rfl, hP, hK⟩ := hv
  have hx := B.exec
  have hb := B.bytes
  have hr := B.returns
  have hts := atoms_spec (ws := wsX5_sees) B.pre
  have hown : s.vm.findClass RX5 = some m.cls := findClass_of_methodNamed B.named
  have hlocks := B.notSynchronized
  have hl := lv_entry ([.ref (o 0), .int x, .int y]) (n := 6) (Nat.le_of_ble_eq_true rfl)
  rw [lg_entry_eq]
  generalize (lg_sl ([.ref (o 0), .int x, .int y]) ++ List.replicate (6 - (lg_sl ([.ref (o 0), .int x, .int y])).length) Slot.unset).toArray = ls at hl ⊢
  have hl : lv_has ls 6 [(0, .ref (o 0)), (1, .int x), (2, .int y)] := hl
  refine lv_iload_n hx hb dX5_sees_0 rfl (lv_at hl 1 rfl) ?_
  refine lv_iload_n hx hb dX5_sees_1 rfl (lv_at hl 2 rfl) ?_
  refine vp_callSi (va_Run.run (va_runS (As := [.int x, .int y]) (rest := []) ⟨hx, hb, hml, hown, hts⟩ (c_X5_apart l x y) (va_cwS 2 hts gX5_sees_X5_apart rfl rfl rfl (by decide +kernel) ⟨Nat.le_of_ble_eq_true rfl, Nat.le_of_ble_eq_true rfl⟩) ⟨fun _ _ _ _ q => q, fun _ _ _ => ⟨rfl, trivial⟩⟩ rfl rfl hl.1 rfl (lv_room (Nat.le_of_ble_eq_true rfl)) dX5_sees_2 ⟨Nat.zero_le _, Nat.zero_le _⟩)) (fun r hr9 => ?_)
  subst hr9
  refine lv_istore_n (lv' := [(3, .int (apartM x y)), (0, .ref (o 0)), (1, .int x), (2, .int y)]) hx hb dX5_sees_5 rfl hl (by decide) rfl (fun ls hl => ?_)
  refine lv_iload_n hx hb dX5_sees_6 rfl (lv_at hl 0 rfl) ?_
  refine lv_bipush (v := 7) hx hb dX5_sees_7 (by decide) ?_
  refine lv_icmp_le (tgt := 14) hx hb dX5_sees_9 (by decide) (fun c_9 => ?_) (fun c_9 => ?_)
  · obtain ⟨j, hj, ej⟩ := apartM_le hx9 hy9 c_9
    rw [ej] at hl
    refine lv_iconst (v := 1) hx hb dX5_sees_14 (by decide) ?_
    refine lv_istore (lv' := [(4, .int 1), (3, .int (nI j)), (0, .ref (o 0)), (1, .int x), (2, .int y)]) hx hb dX5_sees_15 hl (by decide) rfl (fun ls hl => ?_)
    have L17 : ∀ (n k : Nat) (hk : k + n = j ∨ (n = 0 ∧ j ≤ k)) (hk1 : 1 ≤ k) (hk8 : k ≤ 8) (hsp : seesD (d_k δ) x y = seesDL (d_k δ) x y (nI j) n k) (ls : Array Slot), lv_has ls 6 [(4, .int (nI k)), (3, .int (nI j)), (0, .ref (o 0)), (1, .int x), (2, .int y)] → W p l e ({ frames := 2, cells := 0, slots := 0, locals := 35 } : Room) s m ([.ref (o 0), .int x, .int y] : List Value).toArray below meth c s.heap [] 0 0 (MQ below (vp_Si (fun r => r = bi (seesD (d_k δ) x y))) ([.ref (o 0), .int x, .int y] : List Value).toArray s 0 0 (fun _ => False)) (F0 m 17 ls []) := by
      intro n
      induction n with
      | zero =>
        intro k hk hk1 hk8 hsp ls hl
        refine lv_iload hx hb dX5_sees_17 (lv_at hl 0 rfl) ?_
        refine lv_iload_n hx hb dX5_sees_19 rfl (lv_at hl 1 rfl) ?_
        refine lv_icmp_ge (tgt := 101) hx hb dX5_sees_20 (by decide) (fun c_20 => ?_) (fun c_20 => absurd (nI_le (by omega) (by omega)) c_20)
        refine lv_iconst (v := 1) hx hb dX5_sees_101 (by decide) ?_
        exact W.zret (v := 1) hx hb hr rfl (fun T9 ht _ => ⟨_, rfl, by rw [hsp]; rfl, ht⟩) hnil dX5_sees_102
      | succ n ih17 =>
        intro k hk hk1 hk8 hsp ls hl
        refine lv_iload hx hb dX5_sees_17 (lv_at hl 0 rfl) ?_
        refine lv_iload_n hx hb dX5_sees_19 rfl (lv_at hl 1 rfl) ?_
        refine lv_icmp_ge (tgt := 101) hx hb dX5_sees_20 (by decide) (fun c_20 => absurd c_20 (nI_ge (by omega) (by omega))) (fun c_20 => ?_)
        refine lv_bipush (v := 16) hx hb dX5_sees_23 (by decide) ?_
        refine lv_iload_n hx hb dX5_sees_25 rfl (lv_at hl 3 rfl) ?_
        refine lv_bipush (v := 16) hx hb dX5_sees_26 (by decide) ?_
        refine lv_idiv hx hb dX5_sees_28 (by decide) ?_
        refine lv_iload hx hb dX5_sees_29 (lv_at hl 0 rfl) ?_
        refine lv_iload_n hx hb dX5_sees_31 rfl (lv_at hl 4 rfl) ?_
        refine lv_bipush (v := 16) hx hb dX5_sees_32 (by decide) ?_
        refine lv_idiv hx hb dX5_sees_34 (by decide) ?_
        refine lv_iload_n hx hb dX5_sees_35 rfl (lv_at hl 3 rfl) ?_
        refine lv_bipush (v := 16) hx hb dX5_sees_36 (by decide) ?_
        refine lv_idiv hx hb dX5_sees_38 (by decide) ?_
        refine lv_isub hx hb dX5_sees_39 ?_
        refine lv_imul hx hb dX5_sees_40 ?_
        refine lv_iload_n hx hb dX5_sees_41 rfl (lv_at hl 1 rfl) ?_
        refine vp_callSi (va_Run.run (va_runS (As := [.int ((nI k) * ((y / 16) - (x / 16))), .int (nI j)]) (rest := [.int (x / 16), .int 16]) ⟨hx, hb, hml, hown, hts⟩ (c_X5_nearest l ((nI k) * ((y / 16) - (x / 16))) j (by omega) (by omega)) (va_cwS 2 hts gX5_sees_X5_nearest rfl rfl rfl (by decide +kernel) ⟨Nat.le_of_ble_eq_true rfl, Nat.le_of_ble_eq_true rfl⟩) ⟨fun _ _ _ _ q => q, fun _ _ _ => ⟨rfl, trivial⟩⟩ rfl rfl hl.1 rfl (lv_room (Nat.le_of_ble_eq_true rfl)) dX5_sees_42 ⟨Nat.zero_le _, Nat.zero_le _⟩)) (fun r hr9 => ?_)
        subst hr9
        refine lv_iadd hx hb dX5_sees_45 ?_
        refine lv_imul hx hb dX5_sees_46 ?_
        refine lv_iload_n hx hb dX5_sees_47 rfl (lv_at hl 3 rfl) ?_
        refine lv_bipush (v := 16) hx hb dX5_sees_48 (by decide) ?_
        refine lv_irem hx hb dX5_sees_50 (by decide) ?_
        refine lv_iadd hx hb dX5_sees_51 ?_
        refine lv_iload hx hb dX5_sees_52 (lv_at hl 0 rfl) ?_
        refine lv_iload_n hx hb dX5_sees_54 rfl (lv_at hl 4 rfl) ?_
        refine lv_bipush (v := 16) hx hb dX5_sees_55 (by decide) ?_
        refine lv_irem hx hb dX5_sees_57 (by decide) ?_
        refine lv_iload_n hx hb dX5_sees_58 rfl (lv_at hl 3 rfl) ?_
        refine lv_bipush (v := 16) hx hb dX5_sees_59 (by decide) ?_
        refine lv_irem hx hb dX5_sees_61 (by decide) ?_
        refine lv_isub hx hb dX5_sees_62 ?_
        refine lv_imul hx hb dX5_sees_63 ?_
        refine lv_iload_n hx hb dX5_sees_64 rfl (lv_at hl 1 rfl) ?_
        refine vp_callSi (va_Run.run (va_runS (As := [.int ((nI k) * ((remI y 16) - (remI x 16))), .int (nI j)]) (rest := [.int ((16 * ((x / 16) + (nearD ((nI k) * ((y / 16) - (x / 16))) (nI j)))) + (remI x 16))]) ⟨hx, hb, hml, hown, hts⟩ (c_X5_nearest l ((nI k) * ((remI y 16) - (remI x 16))) j (by omega) (by omega)) (va_cwS 2 hts gX5_sees_X5_nearest rfl rfl rfl (by decide +kernel) ⟨Nat.le_of_ble_eq_true rfl, Nat.le_of_ble_eq_true rfl⟩) ⟨fun _ _ _ _ q => q, fun _ _ _ => ⟨rfl, trivial⟩⟩ rfl rfl hl.1 rfl (lv_room (Nat.le_of_ble_eq_true rfl)) dX5_sees_65 ⟨Nat.zero_le _, Nat.zero_le _⟩)) (fun r hr9 => ?_)
        subst hr9
        refine lv_iadd hx hb dX5_sees_68 ?_
        rw [show (((16 * ((x / 16) + (nearD ((nI k) * ((y / 16) - (x / 16))) (nI j)))) + (remI x 16)) + (nearD ((nI k) * ((remI y 16) - (remI x 16))) (nI j))) = cellD x y (nI j) (nI k) from rfl]
        refine lv_istore (lv' := [(5, .int (cellD x y (nI j) (nI k))), (4, .int (nI k)), (3, .int (nI j)), (0, .ref (o 0)), (1, .int x), (2, .int y)]) hx hb dX5_sees_69 hl (by decide) rfl (fun ls hl => ?_)
        refine lv_aload_n hx hb dX5_sees_71 rfl (lv_at hl 3 rfl) ?_
        refine va_get (D := D) (ci := 5) (v := .ref (o 1)) (C := RX5) (T := TX5) (N := 8) hx hb hts (by decide +kernel) hown hK hP 0 rfl rfl 3 (by decide) (hts (.fieldLink RX5 16 "WarrenLaw$Den" "kinds" "[I") (by decide +kernel)) (fun _ h9 => h9) rfl dX5_sees_72 ?_
        refine lv_iload hx hb dX5_sees_75 (lv_at hl 0 rfl) ?_
        refine va_iald hx hb hK hP 1 0 rfl rfl (cellD_in hx9 hy9 (by omega) (by omega) (by omega)) dX5_sees_77 ?_
        refine lv_iconst (v := 1) hx hb dX5_sees_78 (by decide) ?_
        refine lv_icmp_eq (tgt := 93) hx hb dX5_sees_79 (by decide) (fun c_79 => ?_) (fun c_79 => ?_)
        · refine lv_iconst (v := 0) hx hb dX5_sees_93 (by decide) ?_
          exact W.zret (v := 0) hx hb hr rfl (fun T9 ht _ => ⟨_, rfl, by rw [hsp]; simp [seesDL, c_79, bi], ht⟩) hnil dX5_sees_94
        · refine lv_aload_n hx hb dX5_sees_82 rfl (lv_at hl 3 rfl) ?_
          refine va_get (D := D) (ci := 5) (v := .ref (o 1)) (C := RX5) (T := TX5) (N := 8) hx hb hts (by decide +kernel) hown hK hP 0 rfl rfl 3 (by decide) (hts (.fieldLink RX5 16 "WarrenLaw$Den" "kinds" "[I") (by decide +kernel)) (fun _ h9 => h9) rfl dX5_sees_83 ?_
          refine lv_iload hx hb dX5_sees_86 (lv_at hl 0 rfl) ?_
          refine va_iald hx hb hK hP 1 0 rfl rfl (cellD_in hx9 hy9 (by omega) (by omega) (by omega)) dX5_sees_88 ?_
          refine lv_iconst (v := 2) hx hb dX5_sees_89 (by decide) ?_
          refine lv_icmp_ne (tgt := 95) hx hb dX5_sees_90 (by decide) (fun c_90 => ?_) (fun c_90 => ?_)
          · refine lv_iinc (v := (nI (k + 1))) (lv' := [(4, .int (nI (k + 1))), (5, .int (cellD x y (nI j) (nI k))), (3, .int (nI j)), (0, .ref (o 0)), (1, .int x), (2, .int y)]) hx hb dX5_sees_95 hl (k := 1) rfl (nI_1 k) (by decide) rfl (fun ls hl => ?_)
            refine lv_goto (tgt := 17) hx hb dX5_sees_98 (by decide) ?_
            exact ih17 (k + 1) (by omega) (by omega) (by omega) (by rw [hsp]; simp [seesDL, c_79, c_90]) ls (lv_sub hl [0, 2, 3, 4, 5] rfl)
          · refine lv_iconst (v := 0) hx hb dX5_sees_93 (by decide) ?_
            exact W.zret (v := 0) hx hb hr rfl (fun T9 ht _ => ⟨_, rfl, by rw [hsp]; simp [seesDL, c_79, c_90, bi], ht⟩) hnil dX5_sees_94
    exact L17 (j - 1) 1 (by omega) (by omega) (by omega) (by unfold seesD; rw [if_pos c_9, ej, nI_clamp (by omega)]) ls (lv_sub hl [0, 1, 2, 3, 4] rfl)
  · refine lv_iconst (v := 0) hx hb dX5_sees_12 (by decide) ?_
    exact W.zret (v := 0) hx hb hr rfl (fun T9 ht _ => ⟨_, rfl, by unfold seesD; rw [if_neg c_9]; rfl, ht⟩) hnil dX5_sees_13
set_option maxHeartbeats 4000000 in
set_option maxRecDepth 100000 in
theorem c_X5_turn (l : Launch) (D : va_G) (cI : ClassId) (cZ cG cY : ClassId) (o rr : Nat → Nat) (h b dr : Nat) (δ : DD) (Y : RW) (hn : d_n δ ≤ 10) : Met l yX5_turn wsX5_turn ({ frames := 0, cells := 0, slots := 0, locals := 0 } : Room) (va_Pc [.ref (o 0)] (preDR D cI cZ cG cY (dW cI cZ cG cY o rr h b dr δ Y ++ bW cI rr (d_n δ) (d_R δ)))) (vp_Si (fun r => r = turnD δ)) 0 0 (fun _ => False) := by
  refine Met.ofW (cc := cX5_turn) (maxL := 3) (ret := (some .int)) (by decide) rfl ?_
  intro p e s m args below meth c s₁ B hml hv
  obtain ⟨rfl, hP, hK⟩ := hv
  have hx := B.exec
  have hb := B.bytes
  have hr := B.returns
  have hts := atoms_spec (ws := wsX5_turn) B.pre
  have hown : s.vm.findClass RX5 = some m.cls := findClass_of_methodNamed B.named
  have hlocks := B.notSynchronized
  have hl := lv_entry ([.ref (o 0)]) (n := 3) (Nat.le_of_ble_eq_true rfl)
  rw [lg_entry_eq]
  generalize (lg_sl ([.ref (o 0)]) ++ List.replicate (3 - (lg_sl ([.ref (o 0)])).length) Slot.unset).toArray = ls at hl ⊢
  have hl : lv_has ls 3 [(0, .ref (o 0))] := hl
  refine lv_iconst (v := (-1)) hx hb dX5_turn_0 (by decide) ?_
  refine lv_istore_n (lv' := [(1, .int (-1)), (0, .ref (o 0))]) hx hb dX5_turn_1 rfl hl (by decide) rfl (fun ls hl => ?_)
  refine lv_aload_n hx hb dX5_turn_2 rfl (lv_at hl 1 rfl) ?_
  refine va_get (D := D) (ci := 5) (v := .ref (o 5)) (C := RX5) (T := TX5) (N := 8) hx hb hts (by decide +kernel) hown hK hP 0 rfl rfl 5 (by decide) (hts (.fieldLink RX5 26 "WarrenLaw$Den" "beings" "[[I") (by decide +kernel)) (fun _ h9 => h9) rfl dX5_turn_3 ?_
  refine va_alen (v := (nI (d_n δ))) hx hb hK hP 5 2 rfl rfl rfl dX5_turn_6 ?_
  refine lv_iconst (v := 1) hx hb dX5_turn_7 (by decide) ?_
  refine lv_isub hx hb dX5_turn_8 ?_
  refine lv_istore_n (lv' := [(2, .int ((nI (d_n δ)) - 1)), (1, .int (-1)), (0, .ref (o 0))]) hx hb dX5_turn_9 rfl hl (by decide) rfl (fun ls hl => ?_)
  have L10 : ∀ (n k : Nat) (tt : Int32) (hk : k = n) (hkn : k ≤ d_n δ) (hsp : turnD δ = turnDL (d_R δ) k tt) (ht : tt = -1 ∨ ∃ j, j < d_n δ ∧ tt = nI j) (ls : Array Slot), lv_has ls 3 [(2, .int (nI k - 1)), (1, .int tt), (0, .ref (o 0))] → W p l e ({ frames := 0, cells := 0, slots := 0, locals := 0 } : Room) s m ([.ref (o 0)] : List Value).toArray below meth c s.heap [] 0 0 (MQ below (vp_Si (fun r => r = turnD δ)) ([.ref (o 0)] : List Value).toArray s 0 0 (fun _ => False)) (F0 m 10 ls []) := by
    intro n
    induction n with
    | zero =>
      intro k tt hk hkn hsp ht ls hl
      refine lv_iload_n hx hb dX5_turn_10 rfl (lv_at hl 0 rfl) ?_
      refine lv_if_lt (tgt := 58) hx hb dX5_turn_11 (by decide) (fun c_11 => ?_) (fun c_11 => absurd ((by rw [hk]; decide)) c_11)
      refine lv_iload_n hx hb dX5_turn_58 rfl (lv_at hl 1 rfl) ?_
      exact W.iret (v := tt) hx hb hr (fun T9 ht _ => ⟨_, rfl, by rw [hsp, hk]; rfl, ht⟩) hnil dX5_turn_59
    | succ n ih10 =>
      intro k tt hk hkn hsp ht ls hl
      subst hk
      rw [nI_pred n] at hl
      refine lv_iload_n hx hb dX5_turn_10 rfl (lv_at hl 0 rfl) ?_
      refine lv_if_lt (tgt := 58) hx hb dX5_turn_11 (by decide) (fun c_11 => absurd c_11 ((nI_pos (by omega)))) (fun c_11 => ?_)
      refine lv_aload_n hx hb dX5_turn_14 rfl (lv_at hl 2 rfl) ?_
      refine va_get (D := D) (ci := 5) (v := .ref (o 5)) (C := RX5) (T := TX5) (N := 8) hx hb hts (by decide +kernel) hown hK hP 0 rfl rfl 5 (by decide) (hts (.fieldLink RX5 26 "WarrenLaw$Den" "beings" "[[I") (by decide +kernel)) (fun _ h9 => h9) rfl dX5_turn_15 ?_
      refine lv_iload_n hx hb dX5_turn_18 rfl (lv_at hl 0 rfl) ?_
      refine w_ldB hx hb hK hP 5 rfl (vp_in_nI (by omega) (by omega)) dX5_turn_19 ?_
      rw [nI_clamp (by omega)]
      refine lv_iconst (v := 1) hx hb dX5_turn_20 (by decide) ?_
      refine va_iald hx hb hK hP (6 + n) 0 (bW_at rfl (by omega)) rfl (vp_in_nI (n := 1) (by decide) (by decide)) dX5_turn_21 ?_
      rw [show (1 : Int32).toNatClampNeg = 1 by decide]
      refine lv_if_lt (tgt := 52) hx hb dX5_turn_22 (by decide) (fun c_22 => ?_) (fun c_22 => ?_)
      · refine lv_iinc (v := (nI n - 1)) (lv' := [(2, .int (nI n - 1)), (1, .int tt), (0, .ref (o 0))]) hx hb dX5_turn_52 hl (k := 0) rfl (m1_sub _) (by decide) rfl (fun ls hl => ?_)
        refine lv_goto (tgt := 10) hx hb dX5_turn_55 (by decide) ?_
        exact ih10 n tt rfl (by omega) (by rw [hsp]; simp [turnDL, c_22]) ht ls (lv_sub hl [0, 1, 2] rfl)
      · refine lv_iload_n hx hb dX5_turn_25 rfl (lv_at hl 1 rfl) ?_
        refine lv_if_lt (tgt := 50) hx hb dX5_turn_26 (by decide) (fun c_26 => ?_) (fun c_26 => ?_)
        · refine lv_iload_n hx hb dX5_turn_50 rfl (lv_at hl 0 rfl) ?_
          refine lv_istore_n (lv' := [(1, .int (nI n)), (2, .int (nI n)), (0, .ref (o 0))]) hx hb dX5_turn_51 rfl hl (by decide) rfl (fun ls hl => ?_)
          refine lv_iinc (v := (nI n - 1)) (lv' := [(2, .int (nI n - 1)), (1, .int (nI n)), (0, .ref (o 0))]) hx hb dX5_turn_52 hl (k := 1) rfl (m1_sub _) (by decide) rfl (fun ls hl => ?_)
          refine lv_goto (tgt := 10) hx hb dX5_turn_55 (by decide) ?_
          exact ih10 n (nI n) rfl (by omega) (by rw [hsp]; simp [turnDL, c_22, c_26]) (Or.inr ⟨n, by omega, rfl⟩) ls (lv_sub hl [0, 1, 2] rfl)
        · refine lv_aload_n hx hb dX5_turn_29 rfl (lv_at hl 2 rfl) ?_
          refine va_get (D := D) (ci := 5) (v := .ref (o 5)) (C := RX5) (T := TX5) (N := 8) hx hb hts (by decide +kernel) hown hK hP 0 rfl rfl 5 (by decide) (hts (.fieldLink RX5 26 "WarrenLaw$Den" "beings" "[[I") (by decide +kernel)) (fun _ h9 => h9) rfl dX5_turn_30 ?_
          refine lv_iload_n hx hb dX5_turn_33 rfl (lv_at hl 0 rfl) ?_
          refine w_ldB hx hb hK hP 5 rfl (vp_in_nI (by omega) (by omega)) dX5_turn_34 ?_
          rw [nI_clamp (by omega)]
          refine lv_bipush (v := 8) hx hb dX5_turn_35 (by decide) ?_
          refine va_iald hx hb hK hP (6 + n) 0 (bW_at rfl (by omega)) rfl (vp_in_nI (n := 8) (by decide) (by decide)) dX5_turn_37 ?_
          rw [show (8 : Int32).toNatClampNeg = 8 by decide]
          refine lv_aload_n hx hb dX5_turn_38 rfl (lv_at hl 2 rfl) ?_
          refine va_get (D := D) (ci := 5) (v := .ref (o 5)) (C := RX5) (T := TX5) (N := 8) hx hb hts (by decide +kernel) hown hK hP 0 rfl rfl 5 (by decide) (hts (.fieldLink RX5 26 "WarrenLaw$Den" "beings" "[[I") (by decide +kernel)) (fun _ h9 => h9) rfl dX5_turn_39 ?_
          refine lv_iload_n hx hb dX5_turn_42 rfl (lv_at hl 1 rfl) ?_
          refine w_ldB hx hb hK hP 5 rfl (tt_in ht c_26 (by omega)) dX5_turn_43 ?_
          refine lv_bipush (v := 8) hx hb dX5_turn_44 (by decide) ?_
          refine va_iald hx hb hK hP (6 + tt.toNatClampNeg) 0 (bW_at rfl (vin_lt (tt_in ht c_26 (by omega)))) rfl (vp_in_nI (n := 8) (by decide) (by decide)) dX5_turn_46 ?_
          rw [show (8 : Int32).toNatClampNeg = 8 by decide]
          refine lv_icmp_gt (tgt := 52) hx hb dX5_turn_47 (by decide) (fun c_47 => ?_) (fun c_47 => ?_)
          · refine lv_iinc (v := (nI n - 1)) (lv' := [(2, .int (nI n - 1)), (1, .int tt), (0, .ref (o 0))]) hx hb dX5_turn_52 hl (k := 0) rfl (m1_sub _) (by decide) rfl (fun ls hl => ?_)
            refine lv_goto (tgt := 10) hx hb dX5_turn_55 (by decide) ?_
            exact ih10 n tt rfl (by omega) (by rw [hsp]; simp [turnDL, c_22, c_26, c_47]) ht ls (lv_sub hl [0, 1, 2] rfl)
          · refine lv_iload_n hx hb dX5_turn_50 rfl (lv_at hl 0 rfl) ?_
            refine lv_istore_n (lv' := [(1, .int (nI n)), (2, .int (nI n)), (0, .ref (o 0))]) hx hb dX5_turn_51 rfl hl (by decide) rfl (fun ls hl => ?_)
            refine lv_iinc (v := (nI n - 1)) (lv' := [(2, .int (nI n - 1)), (1, .int (nI n)), (0, .ref (o 0))]) hx hb dX5_turn_52 hl (k := 1) rfl (m1_sub _) (by decide) rfl (fun ls hl => ?_)
            refine lv_goto (tgt := 10) hx hb dX5_turn_55 (by decide) ?_
            exact ih10 n (nI n) rfl (by omega) (by rw [hsp]; simp [turnDL, c_22, c_26, c_47]) (Or.inr ⟨n, by omega, rfl⟩) ls (lv_sub hl [0, 1, 2] rfl)
  exact L10 (d_n δ) (d_n δ) (-1) rfl (by omega) rfl (Or.inl rfl) ls (lv_sub hl [0, 1, 2] rfl)
set_option maxHeartbeats 4000000 in
set_option maxRecDepth 100000 in
theorem c_X5_target (l : Launch) (D : va_G) (cI : ClassId) (cZ cG cY : ClassId) (o rr : Nat → Nat) (h b dr : Nat) (δ : DD) (Y : RW) (jb : Nat) (hn : d_n δ ≤ 10) (hjb : jb < d_n δ) (hcell : ∀ j, j < d_n δ → ¬ d_R δ j 1 < 0 → cellB (d_R δ j 1) = true) : Met l yX5_target wsX5_target ({ frames := 3, cells := 0, slots := 0, locals := 60 } : Room) (va_Pc [.ref (o 0), .int (nI jb)] (preDR D cI cZ cG cY (dW cI cZ cG cY o rr h b dr δ Y ++ bW cI rr (d_n δ) (d_R δ)))) (vp_Si (fun r => r = targetD δ jb)) 0 0 (fun _ => False) := by
  refine Met.ofW (cc := cX5_target) (maxL := 6) (ret := (some .int)) (by decide) rfl ?_
  intro p e s m args below meth c s₁ B hml hv
  obtain ⟨rfl, hP, hK⟩ := hv
  have hx := B.exec
  have hb := B.bytes
  have hr := B.returns
  have hts := atoms_spec (ws := wsX5_target) B.pre
  have hown : s.vm.findClass RX5 = some m.cls := findClass_of_methodNamed B.named
  have hlocks := B.notSynchronized
  have hl := lv_entry ([.ref (o 0), .int (nI jb)]) (n := 6) (Nat.le_of_ble_eq_true rfl)
  rw [lg_entry_eq]
  generalize (lg_sl ([.ref (o 0), .int (nI jb)]) ++ List.replicate (6 - (lg_sl ([.ref (o 0), .int (nI jb)])).length) Slot.unset).toArray = ls at hl ⊢
  have hl : lv_has ls 6 [(0, .ref (o 0)), (1, .int (nI jb))] := hl
  refine lv_iconst (v := (-1)) hx hb dX5_target_0 (by decide) ?_
  refine lv_istore_n (lv' := [(2, .int (-1)), (0, .ref (o 0)), (1, .int (nI jb))]) hx hb dX5_target_1 rfl hl (by decide) rfl (fun ls hl => ?_)
  refine lv_aload_n hx hb dX5_target_2 rfl (lv_at hl 1 rfl) ?_
  refine va_get (D := D) (ci := 5) (v := .ref (o 5)) (C := RX5) (T := TX5) (N := 8) hx hb hts (by decide +kernel) hown hK hP 0 rfl rfl 5 (by decide) (hts (.fieldLink RX5 26 "WarrenLaw$Den" "beings" "[[I") (by decide +kernel)) (fun _ h9 => h9) rfl dX5_target_3 ?_
  refine lv_iload_n hx hb dX5_target_6 rfl (lv_at hl 2 rfl) ?_
  refine w_ldB hx hb hK hP 5 rfl (vp_in_nI hjb (by omega)) dX5_target_7 ?_
  rw [nI_clamp (by omega)]
  refine lv_astore_n (lv' := [(3, .ref (rr jb)), (2, .int (-1)), (0, .ref (o 0)), (1, .int (nI jb))]) hx hb dX5_target_8 rfl hl (by decide) rfl (fun ls hl => ?_)
  refine lv_aload_n hx hb dX5_target_9 rfl (lv_at hl 2 rfl) ?_
  refine va_get (D := D) (ci := 5) (v := .ref (o 5)) (C := RX5) (T := TX5) (N := 8) hx hb hts (by decide +kernel) hown hK hP 0 rfl rfl 5 (by decide) (hts (.fieldLink RX5 26 "WarrenLaw$Den" "beings" "[[I") (by decide +kernel)) (fun _ h9 => h9) rfl dX5_target_10 ?_
  refine va_alen (v := (nI (d_n δ))) hx hb hK hP 5 2 rfl rfl rfl dX5_target_13 ?_
  refine lv_iconst (v := 1) hx hb dX5_target_14 (by decide) ?_
  refine lv_isub hx hb dX5_target_15 ?_
  refine lv_istore (lv' := [(4, .int ((nI (d_n δ)) - 1)), (3, .ref (rr jb)), (2, .int (-1)), (0, .ref (o 0)), (1, .int (nI jb))]) hx hb dX5_target_16 hl (by decide) rfl (fun ls hl => ?_)
  have L18 : ∀ (n k : Nat) (tt : Int32) (hk : k = n) (hkn : k ≤ d_n δ) (hsp : ¬ d_R δ jb 1 < 0 → targetD δ jb = targetDL δ jb k tt) (hz : d_R δ jb 1 < 0 → tt = -1) (ht : tt = -1 ∨ ∃ j, j < d_n δ ∧ tt = nI j) (ls : Array Slot), lv_has ls 6 [(4, .int (nI k - 1)), (3, .ref (rr jb)), (2, .int tt), (0, .ref (o 0)), (1, .int (nI jb))] → W p l e ({ frames := 3, cells := 0, slots := 0, locals := 60 } : Room) s m ([.ref (o 0), .int (nI jb)] : List Value).toArray below meth c s.heap [] 0 0 (MQ below (vp_Si (fun r => r = targetD δ jb)) ([.ref (o 0), .int (nI jb)] : List Value).toArray s 0 0 (fun _ => False)) (F0 m 18 ls []) := by
    intro n
    induction n with
    | zero =>
      intro k tt hk hkn hsp hz ht ls hl
      refine lv_iload hx hb dX5_target_18 (lv_at hl 0 rfl) ?_
      refine lv_if_lt (tgt := 112) hx hb dX5_target_20 (by decide) (fun c_20 => ?_) (fun c_20 => absurd ((by rw [hk]; decide)) c_20)
      refine lv_iload_n hx hb dX5_target_112 rfl (lv_at hl 2 rfl) ?_
      exact W.iret (v := tt) hx hb hr (fun T9 ht _ => ⟨_, rfl, by by_cases q : d_R δ jb 1 < 0; (rw [hz q]; unfold targetD; rw [if_pos q]); (rw [hsp q, hk]; rfl), ht⟩) hnil dX5_target_113
    | succ n ih18 =>
      intro k tt hk hkn hsp hz ht ls hl
      subst hk
      rw [nI_pred n] at hl
      refine lv_iload hx hb dX5_target_18 (lv_at hl 0 rfl) ?_
      refine lv_if_lt (tgt := 112) hx hb dX5_target_20 (by decide) (fun c_20 => absurd c_20 ((nI_pos (by omega)))) (fun c_20 => ?_)
      refine lv_aload_n hx hb dX5_target_23 rfl (lv_at hl 1 rfl) ?_
      refine lv_iconst (v := 1) hx hb dX5_target_24 (by decide) ?_
      refine va_iald hx hb hK hP (6 + jb) 0 (bW_at rfl hjb) rfl (vp_in_nI (n := 1) (by decide) (by decide)) dX5_target_25 ?_
      rw [show (1 : Int32).toNatClampNeg = 1 by decide]
      refine lv_if_lt (tgt := 112) hx hb dX5_target_26 (by decide) (fun c_26 => ?_) (fun c_26 => ?_)
      · refine lv_iload_n hx hb dX5_target_112 rfl (lv_at hl 2 rfl) ?_
        exact W.iret (v := tt) hx hb hr (fun T9 ht _ => ⟨_, rfl, by rw [hz c_26]; unfold targetD; rw [if_pos c_26], ht⟩) hnil dX5_target_113
      · refine lv_aload_n hx hb dX5_target_29 rfl (lv_at hl 3 rfl) ?_
        refine va_get (D := D) (ci := 5) (v := .ref (o 5)) (C := RX5) (T := TX5) (N := 8) hx hb hts (by decide +kernel) hown hK hP 0 rfl rfl 5 (by decide) (hts (.fieldLink RX5 26 "WarrenLaw$Den" "beings" "[[I") (by decide +kernel)) (fun _ h9 => h9) rfl dX5_target_30 ?_
        refine lv_iload hx hb dX5_target_33 (lv_at hl 0 rfl) ?_
        refine w_ldB hx hb hK hP 5 rfl (vp_in_nI (by omega) (by omega)) dX5_target_35 ?_
        rw [nI_clamp (by omega)]
        refine lv_astore (lv' := [(5, .ref (rr n)), (4, .int (nI n)), (3, .ref (rr jb)), (2, .int tt), (0, .ref (o 0)), (1, .int (nI jb))]) hx hb dX5_target_36 hl (by decide) rfl (fun ls hl => ?_)
        refine lv_aload hx hb dX5_target_38 (lv_at hl 0 rfl) ?_
        refine lv_iconst (v := 1) hx hb dX5_target_40 (by decide) ?_
        refine va_iald hx hb hK hP (6 + n) 0 (bW_at rfl (by omega)) rfl (vp_in_nI (n := 1) (by decide) (by decide)) dX5_target_41 ?_
        rw [show (1 : Int32).toNatClampNeg = 1 by decide]
        refine lv_if_lt (tgt := 106) hx hb dX5_target_42 (by decide) (fun c_42 => ?_) (fun c_42 => ?_)
        · refine lv_iinc (v := (nI n - 1)) (lv' := [(4, .int (nI n - 1)), (5, .ref (rr n)), (3, .ref (rr jb)), (2, .int tt), (0, .ref (o 0)), (1, .int (nI jb))]) hx hb dX5_target_106 hl (k := 1) rfl (m1_sub _) (by decide) rfl (fun ls hl => ?_)
          refine lv_goto (tgt := 18) hx hb dX5_target_109 (by decide) ?_
          exact ih18 n tt rfl (by omega) (fun q => by rw [hsp q]; simp [targetDL, c_42]) (fun q => absurd q c_26) ht ls (lv_sub hl [0, 2, 3, 4, 5] rfl)
        · refine lv_aload hx hb dX5_target_45 (lv_at hl 0 rfl) ?_
          refine lv_iconst (v := 0) hx hb dX5_target_47 (by decide) ?_
          refine va_iald hx hb hK hP (6 + n) 0 (bW_at rfl (by omega)) rfl (vp_in_nI (n := 0) (by decide) (by decide)) dX5_target_48 ?_
          rw [show (0 : Int32).toNatClampNeg = 0 by decide]
          refine lv_aload_n hx hb dX5_target_49 rfl (lv_at hl 2 rfl) ?_
          refine lv_iconst (v := 0) hx hb dX5_target_50 (by decide) ?_
          refine va_iald hx hb hK hP (6 + jb) 0 (bW_at rfl hjb) rfl (vp_in_nI (n := 0) (by decide) (by decide)) dX5_target_51 ?_
          rw [show (0 : Int32).toNatClampNeg = 0 by decide]
          refine lv_icmp_eq (tgt := 106) hx hb dX5_target_52 (by decide) (fun c_52 => ?_) (fun c_52 => ?_)
          · refine lv_iinc (v := (nI n - 1)) (lv' := [(4, .int (nI n - 1)), (5, .ref (rr n)), (3, .ref (rr jb)), (2, .int tt), (0, .ref (o 0)), (1, .int (nI jb))]) hx hb dX5_target_106 hl (k := 1) rfl (m1_sub _) (by decide) rfl (fun ls hl => ?_)
            refine lv_goto (tgt := 18) hx hb dX5_target_109 (by decide) ?_
            exact ih18 n tt rfl (by omega) (fun q => by rw [hsp q]; simp [targetDL, c_42, c_52]) (fun q => absurd q c_26) ht ls (lv_sub hl [0, 2, 3, 4, 5] rfl)
          · refine lv_aload_n hx hb dX5_target_55 rfl (lv_at hl 4 rfl) ?_
            refine lv_aload_n hx hb dX5_target_56 rfl (lv_at hl 2 rfl) ?_
            refine lv_iconst (v := 1) hx hb dX5_target_57 (by decide) ?_
            refine va_iald hx hb hK hP (6 + jb) 0 (bW_at rfl hjb) rfl (vp_in_nI (n := 1) (by decide) (by decide)) dX5_target_58 ?_
            rw [show (1 : Int32).toNatClampNeg = 1 by decide]
            refine lv_aload hx hb dX5_target_59 (lv_at hl 0 rfl) ?_
            refine lv_iconst (v := 1) hx hb dX5_target_61 (by decide) ?_
            refine va_iald hx hb hK hP (6 + n) 0 (bW_at rfl (by omega)) rfl (vp_in_nI (n := 1) (by decide) (by decide)) dX5_target_62 ?_
            rw [show (1 : Int32).toNatClampNeg = 1 by decide]
            refine vp_callSi (va_Run.run (va_runV (As := [.int ((d_R δ jb) 1), .int ((d_R δ n) 1)]) (rest := []) ⟨hx, hb, hml, hown, hts⟩ (c_X5_sees l D cI cZ cG cY o rr h b dr δ Y ((d_R δ jb) 1) ((d_R δ n) 1) hn (hcell jb hjb c_26) (hcell n (by omega) c_42)) (cwV 2 hts gX5_target_X5_sees rfl rfl rfl (by decide +kernel) ⟨Nat.le_of_ble_eq_true rfl, Nat.le_of_ble_eq_true rfl⟩) ⟨preDR_blind, va_recv hK hP (ci := 5) (q0 := 0) rfl rfl, preDR_of hP hK [.ref (o 0), .int ((d_R δ jb) 1), .int ((d_R δ n) 1)]⟩ rfl rfl hl.1 rfl (lv_room (Nat.le_of_ble_eq_true rfl)) dX5_target_63 ⟨Nat.zero_le _, Nat.zero_le _⟩)) (fun r9 hr9 => ?_)
            subst hr9
            refine w_bnz (tgt := 72) hx hb dX5_target_66 (by decide) (fun c_66 => ?_) (fun c_66 => ?_)
            · refine lv_iload_n hx hb dX5_target_72 rfl (lv_at hl 3 rfl) ?_
              refine lv_if_lt (tgt := 103) hx hb dX5_target_73 (by decide) (fun c_73 => ?_) (fun c_73 => ?_)
              · refine lv_iload hx hb dX5_target_103 (lv_at hl 1 rfl) ?_
                refine lv_istore_n (lv' := [(2, .int (nI n)), (5, .ref (rr n)), (4, .int (nI n)), (3, .ref (rr jb)), (0, .ref (o 0)), (1, .int (nI jb))]) hx hb dX5_target_105 rfl hl (by decide) rfl (fun ls hl => ?_)
                refine lv_iinc (v := (nI n - 1)) (lv' := [(4, .int (nI n - 1)), (2, .int (nI n)), (5, .ref (rr n)), (3, .ref (rr jb)), (0, .ref (o 0)), (1, .int (nI jb))]) hx hb dX5_target_106 hl (k := 2) rfl (m1_sub _) (by decide) rfl (fun ls hl => ?_)
                refine lv_goto (tgt := 18) hx hb dX5_target_109 (by decide) ?_
                exact ih18 n (nI n) rfl (by omega) (fun q => by rw [hsp q]; simp [targetDL, c_42, c_52, c_66, c_73]) (fun q => absurd q c_26) (Or.inr ⟨n, by omega, rfl⟩) ls (lv_sub hl [0, 3, 1, 4, 5] rfl)
              · refine lv_aload_n hx hb dX5_target_76 rfl (lv_at hl 2 rfl) ?_
                refine lv_iconst (v := 1) hx hb dX5_target_77 (by decide) ?_
                refine va_iald hx hb hK hP (6 + jb) 0 (bW_at rfl hjb) rfl (vp_in_nI (n := 1) (by decide) (by decide)) dX5_target_78 ?_
                rw [show (1 : Int32).toNatClampNeg = 1 by decide]
                refine lv_aload hx hb dX5_target_79 (lv_at hl 0 rfl) ?_
                refine lv_iconst (v := 1) hx hb dX5_target_81 (by decide) ?_
                refine va_iald hx hb hK hP (6 + n) 0 (bW_at rfl (by omega)) rfl (vp_in_nI (n := 1) (by decide) (by decide)) dX5_target_82 ?_
                rw [show (1 : Int32).toNatClampNeg = 1 by decide]
                refine vp_callSi (va_Run.run (va_runS (As := [.int ((d_R δ jb) 1), .int ((d_R δ n) 1)]) (rest := []) ⟨hx, hb, hml, hown, hts⟩ (c_X5_apart l ((d_R δ jb) 1) ((d_R δ n) 1)) (va_cwS 2 hts gX5_target_X5_apart rfl rfl rfl (by decide +kernel) ⟨Nat.le_of_ble_eq_true rfl, Nat.le_of_ble_eq_true rfl⟩) ⟨fun _ _ _ _ q => q, fun _ _ _ => ⟨rfl, trivial⟩⟩ rfl rfl hl.1 rfl (lv_room (Nat.le_of_ble_eq_true rfl)) dX5_target_83 ⟨Nat.zero_le _, Nat.zero_le _⟩)) (fun r hr9 => ?_)
                subst hr9
                refine lv_aload_n hx hb dX5_target_86 rfl (lv_at hl 2 rfl) ?_
                refine lv_iconst (v := 1) hx hb dX5_target_87 (by decide) ?_
                refine va_iald hx hb hK hP (6 + jb) 0 (bW_at rfl hjb) rfl (vp_in_nI (n := 1) (by decide) (by decide)) dX5_target_88 ?_
                rw [show (1 : Int32).toNatClampNeg = 1 by decide]
                refine lv_aload_n hx hb dX5_target_89 rfl (lv_at hl 4 rfl) ?_
                refine va_get (D := D) (ci := 5) (v := .ref (o 5)) (C := RX5) (T := TX5) (N := 8) hx hb hts (by decide +kernel) hown hK hP 0 rfl rfl 5 (by decide) (hts (.fieldLink RX5 26 "WarrenLaw$Den" "beings" "[[I") (by decide +kernel)) (fun _ h9 => h9) rfl dX5_target_90 ?_
                refine lv_iload_n hx hb dX5_target_93 rfl (lv_at hl 3 rfl) ?_
                refine w_ldB hx hb hK hP 5 rfl (tt_in ht c_73 (by omega)) dX5_target_94 ?_
                refine lv_iconst (v := 1) hx hb dX5_target_95 (by decide) ?_
                refine va_iald hx hb hK hP (6 + tt.toNatClampNeg) 0 (bW_at rfl (vin_lt (tt_in ht c_73 (by omega)))) rfl (vp_in_nI (n := 1) (by decide) (by decide)) dX5_target_96 ?_
                rw [show (1 : Int32).toNatClampNeg = 1 by decide]
                refine vp_callSi (va_Run.run (va_runS (As := [.int ((d_R δ jb) 1), .int ((d_R δ tt.toNatClampNeg) 1)]) (rest := [.int (apartM ((d_R δ jb) 1) ((d_R δ n) 1))]) ⟨hx, hb, hml, hown, hts⟩ (c_X5_apart l ((d_R δ jb) 1) ((d_R δ tt.toNatClampNeg) 1)) (va_cwS 2 hts gX5_target_X5_apart rfl rfl rfl (by decide +kernel) ⟨Nat.le_of_ble_eq_true rfl, Nat.le_of_ble_eq_true rfl⟩) ⟨fun _ _ _ _ q => q, fun _ _ _ => ⟨rfl, trivial⟩⟩ rfl rfl hl.1 rfl (lv_room (Nat.le_of_ble_eq_true rfl)) dX5_target_97 ⟨Nat.zero_le _, Nat.zero_le _⟩)) (fun r hr9 => ?_)
                subst hr9
                refine lv_icmp_gt (tgt := 106) hx hb dX5_target_100 (by decide) (fun c_100 => ?_) (fun c_100 => ?_)
                · refine lv_iinc (v := (nI n - 1)) (lv' := [(4, .int (nI n - 1)), (5, .ref (rr n)), (3, .ref (rr jb)), (2, .int tt), (0, .ref (o 0)), (1, .int (nI jb))]) hx hb dX5_target_106 hl (k := 1) rfl (m1_sub _) (by decide) rfl (fun ls hl => ?_)
                  refine lv_goto (tgt := 18) hx hb dX5_target_109 (by decide) ?_
                  exact ih18 n tt rfl (by omega) (fun q => by rw [hsp q]; simp [targetDL, c_42, c_52, c_66, c_73, c_100]) (fun q => absurd q c_26) ht ls (lv_sub hl [0, 2, 3, 4, 5] rfl)
                · refine lv_iload hx hb dX5_target_103 (lv_at hl 1 rfl) ?_
                  refine lv_istore_n (lv' := [(2, .int (nI n)), (5, .ref (rr n)), (4, .int (nI n)), (3, .ref (rr jb)), (0, .ref (o 0)), (1, .int (nI jb))]) hx hb dX5_target_105 rfl hl (by decide) rfl (fun ls hl => ?_)
                  refine lv_iinc (v := (nI n - 1)) (lv' := [(4, .int (nI n - 1)), (2, .int (nI n)), (5, .ref (rr n)), (3, .ref (rr jb)), (0, .ref (o 0)), (1, .int (nI jb))]) hx hb dX5_target_106 hl (k := 2) rfl (m1_sub _) (by decide) rfl (fun ls hl => ?_)
                  refine lv_goto (tgt := 18) hx hb dX5_target_109 (by decide) ?_
                  exact ih18 n (nI n) rfl (by omega) (fun q => by rw [hsp q]; simp [targetDL, c_42, c_52, c_66, c_73, c_100]) (fun q => absurd q c_26) (Or.inr ⟨n, by omega, rfl⟩) ls (lv_sub hl [0, 3, 1, 4, 5] rfl)
            · refine lv_goto (tgt := 106) hx hb dX5_target_69 (by decide) ?_
              refine lv_iinc (v := (nI n - 1)) (lv' := [(4, .int (nI n - 1)), (5, .ref (rr n)), (3, .ref (rr jb)), (2, .int tt), (0, .ref (o 0)), (1, .int (nI jb))]) hx hb dX5_target_106 hl (k := 1) rfl (m1_sub _) (by decide) rfl (fun ls hl => ?_)
              refine lv_goto (tgt := 18) hx hb dX5_target_109 (by decide) ?_
              exact ih18 n tt rfl (by omega) (fun q => by rw [hsp q]; simp [targetDL, c_42, c_52, c_66]) (fun q => absurd q c_26) ht ls (lv_sub hl [0, 2, 3, 4, 5] rfl)
  exact L18 (d_n δ) (d_n δ) (-1) rfl (by omega) (fun q => by unfold targetD; rw [if_neg q]) (fun _ => rfl) (Or.inl rfl) ls (lv_sub hl [0, 1, 2, 3, 4] rfl)
set_option maxHeartbeats 4000000 in
set_option maxRecDepth 100000 in
theorem c_X5_hit (l : Launch) (D : va_G) (cI : ClassId) (cZ cG cY : ClassId) (o rr : Nat → Nat) (h b dr : Nat) (δ : DD) (Y : RW) (jb jo : Nat) (hn : d_n δ ≤ 10) (hjb : jb < d_n δ) (ho : jo < d_n δ) : Met l yX5_hit wsX5_hit ({ frames := 1, cells := 0, slots := 0, locals := 13 } : Room) (va_Pc [.ref (o 0), .int (nI jb), .int (nI jo)] (preDR D cI cZ cG cY (dW cI cZ cG cY o rr h b dr δ Y ++ bW cI rr (d_n δ) (d_R δ)))) (vp_Si (fun r => r = hitD δ jb jo)) 0 0 (fun _ => False) := by
  refine Met.ofW (cc := cX5_hit) (maxL := 3) (ret := (some .int)) (by decide) rfl ?_
  intro p e s m args below meth c s₁ B hml hv
  obtain ⟨rfl, hP, hK⟩ := hv
  have hx := B.exec
  have hb := B.bytes
  have hr := B.returns
  have hts := atoms_spec (ws := wsX5_hit) B.pre
  have hown : s.vm.findClass RX5 = some m.cls := findClass_of_methodNamed B.named
  have hlocks := B.notSynchronized
  have hl := lv_entry ([.ref (o 0), .int (nI jb), .int (nI jo)]) (n := 3) (Nat.le_of_ble_eq_true rfl)
  rw [lg_entry_eq]
  generalize (lg_sl ([.ref (o 0), .int (nI jb), .int (nI jo)]) ++ List.replicate (3 - (lg_sl ([.ref (o 0), .int (nI jb), .int (nI jo)])).length) Slot.unset).toArray = ls at hl ⊢
  have hl : lv_has ls 3 [(0, .ref (o 0)), (1, .int (nI jb)), (2, .int (nI jo))] := hl
  refine lv_iconst (v := 1) hx hb dX5_hit_0 (by decide) ?_
  refine lv_aload_n hx hb dX5_hit_1 rfl (lv_at hl 0 rfl) ?_
  refine va_get (D := D) (ci := 5) (v := .ref (o 5)) (C := RX5) (T := TX5) (N := 8) hx hb hts (by decide +kernel) hown hK hP 0 rfl rfl 5 (by decide) (hts (.fieldLink RX5 26 "WarrenLaw$Den" "beings" "[[I") (by decide +kernel)) (fun _ h9 => h9) rfl dX5_hit_2 ?_
  refine lv_iload_n hx hb dX5_hit_5 rfl (lv_at hl 1 rfl) ?_
  refine w_ldB hx hb hK hP 5 rfl (vp_in_nI hjb (by omega)) dX5_hit_6 ?_
  rw [nI_clamp (by omega)]
  refine lv_iconst (v := 4) hx hb dX5_hit_7 (by decide) ?_
  refine va_iald hx hb hK hP (6 + jb) 0 (bW_at rfl hjb) rfl (vp_in_nI (n := 4) (by decide) (by decide)) dX5_hit_8 ?_
  rw [show (4 : Int32).toNatClampNeg = 4 by decide]
  refine lv_aload_n hx hb dX5_hit_9 rfl (lv_at hl 0 rfl) ?_
  refine va_get (D := D) (ci := 5) (v := .ref (o 5)) (C := RX5) (T := TX5) (N := 8) hx hb hts (by decide +kernel) hown hK hP 0 rfl rfl 5 (by decide) (hts (.fieldLink RX5 26 "WarrenLaw$Den" "beings" "[[I") (by decide +kernel)) (fun _ h9 => h9) rfl dX5_hit_10 ?_
  refine lv_iload_n hx hb dX5_hit_13 rfl (lv_at hl 1 rfl) ?_
  refine w_ldB hx hb hK hP 5 rfl (vp_in_nI hjb (by omega)) dX5_hit_14 ?_
  rw [nI_clamp (by omega)]
  refine lv_bipush (v := 11) hx hb dX5_hit_15 (by decide) ?_
  refine va_iald hx hb hK hP (6 + jb) 0 (bW_at rfl hjb) rfl (vp_in_nI (n := 11) (by decide) (by decide)) dX5_hit_17 ?_
  rw [show (11 : Int32).toNatClampNeg = 11 by decide]
  refine lv_iadd hx hb dX5_hit_18 ?_
  refine lv_aload_n hx hb dX5_hit_19 rfl (lv_at hl 0 rfl) ?_
  refine va_get (D := D) (ci := 5) (v := .ref (o 5)) (C := RX5) (T := TX5) (N := 8) hx hb hts (by decide +kernel) hown hK hP 0 rfl rfl 5 (by decide) (hts (.fieldLink RX5 26 "WarrenLaw$Den" "beings" "[[I") (by decide +kernel)) (fun _ h9 => h9) rfl dX5_hit_20 ?_
  refine lv_iload_n hx hb dX5_hit_23 rfl (lv_at hl 2 rfl) ?_
  refine w_ldB hx hb hK hP 5 rfl (vp_in_nI ho (by omega)) dX5_hit_24 ?_
  rw [nI_clamp (by omega)]
  refine lv_iconst (v := 5) hx hb dX5_hit_25 (by decide) ?_
  refine va_iald hx hb hK hP (6 + jo) 0 (bW_at rfl ho) rfl (vp_in_nI (n := 5) (by decide) (by decide)) dX5_hit_26 ?_
  rw [show (5 : Int32).toNatClampNeg = 5 by decide]
  refine lv_isub hx hb dX5_hit_27 ?_
  refine lv_aload_n hx hb dX5_hit_28 rfl (lv_at hl 0 rfl) ?_
  refine va_get (D := D) (ci := 5) (v := .ref (o 5)) (C := RX5) (T := TX5) (N := 8) hx hb hts (by decide +kernel) hown hK hP 0 rfl rfl 5 (by decide) (hts (.fieldLink RX5 26 "WarrenLaw$Den" "beings" "[[I") (by decide +kernel)) (fun _ h9 => h9) rfl dX5_hit_29 ?_
  refine lv_iload_n hx hb dX5_hit_32 rfl (lv_at hl 2 rfl) ?_
  refine w_ldB hx hb hK hP 5 rfl (vp_in_nI ho (by omega)) dX5_hit_33 ?_
  rw [nI_clamp (by omega)]
  refine lv_bipush (v := 12) hx hb dX5_hit_34 (by decide) ?_
  refine va_iald hx hb hK hP (6 + jo) 0 (bW_at rfl ho) rfl (vp_in_nI (n := 12) (by decide) (by decide)) dX5_hit_36 ?_
  rw [show (12 : Int32).toNatClampNeg = 12 by decide]
  refine lv_isub hx hb dX5_hit_37 ?_
  refine va_mmax hx hb (hml.trans hl.1.symm) hown (hts (.methodLink RX5 72 Lib.Math.max.name) (by decide +kernel)) (hts (.static Lib.Math.max.name) (by decide +kernel)) (hts (.initialized "java/lang/Math") (by decide +kernel)) (hts (.code Lib.Math.max.name Lib.Math.max.code 2 (some .int)) (by decide +kernel)) (Nat.le_of_ble_eq_true rfl) (Nat.le_of_ble_eq_true rfl) (Nat.zero_le _) (Nat.zero_le _) dX5_hit_38 ?_
  exact W.iret (v := (maxI 1 (((((d_R δ jb) 4) + ((d_R δ jb) 11)) - ((d_R δ jo) 5)) - ((d_R δ jo) 12)))) hx hb hr (fun T9 ht _ => ⟨_, rfl, rfl, ht⟩) hnil dX5_hit_41
set_option maxHeartbeats 4000000 in
set_option maxRecDepth 100000 in
theorem c_X5_isPossible (l : Launch) (D : va_G) (cI : ClassId) (cZ cG cY : ClassId) (o rr : Nat → Nat) (h b dr : Nat) (δ : DD) (Y : RW) (jb : Nat) (x : Int32) (hn : d_n δ ≤ 10) (hjb : jb < d_n δ) (hcell : ∀ j, j < d_n δ → ¬ d_R δ j 1 < 0 → cellB (d_R δ j 1) = true) (hin9 : ∀ d, vp_in (d_R δ jb 1 + stepD d) 160) : Met l yX5_isPossible wsX5_isPossible ({ frames := 4, cells := 0, slots := 0, locals := 85 } : Room) (va_Pc [.ref (o 0), .int (nI jb), .int x] (preDR D cI cZ cG cY (dW cI cZ cG cY o rr h b dr δ Y ++ bW cI rr (d_n δ) (d_R δ)))) (vp_Si (fun r => r = bi (possD δ jb x))) 0 0 (fun _ => False) := by
  refine Met.ofW (cc := cX5_isPossible) (maxL := 5) (ret := (some .boolean)) (by decide) rfl ?_
  intro p e s m args below meth c s₁ B hml hv
  obtain ⟨rfl, hP, hK⟩ := hv
  have hx := B.exec
  have hb := B.bytes
  have hr := B.returns
  have hts := atoms_spec (ws := wsX5_isPossible) B.pre
  have hown : s.vm.findClass RX5 = some m.cls := findClass_of_methodNamed B.named
  have hlocks := B.notSynchronized
  have hl := lv_entry ([.ref (o 0), .int (nI jb), .int x]) (n := 5) (Nat.le_of_ble_eq_true rfl)
  rw [lg_entry_eq]
  generalize (lg_sl ([.ref (o 0), .int (nI jb), .int x]) ++ List.replicate (5 - (lg_sl ([.ref (o 0), .int (nI jb), .int x])).length) Slot.unset).toArray = ls at hl ⊢
  have hl : lv_has ls 5 [(0, .ref (o 0)), (1, .int (nI jb)), (2, .int x)] := hl
  refine lv_aload_n hx hb dX5_isPossible_0 rfl (lv_at hl 0 rfl) ?_
  refine va_get (D := D) (ci := 5) (v := .ref (o 5)) (C := RX5) (T := TX5) (N := 8) hx hb hts (by decide +kernel) hown hK hP 0 rfl rfl 5 (by decide) (hts (.fieldLink RX5 26 "WarrenLaw$Den" "beings" "[[I") (by decide +kernel)) (fun _ h9 => h9) rfl dX5_isPossible_1 ?_
  refine lv_iload_n hx hb dX5_isPossible_4 rfl (lv_at hl 1 rfl) ?_
  refine w_ldB hx hb hK hP 5 rfl (vp_in_nI hjb (by omega)) dX5_isPossible_5 ?_
  rw [nI_clamp (by omega)]
  refine lv_astore_n (lv' := [(3, .ref (rr jb)), (0, .ref (o 0)), (1, .int (nI jb)), (2, .int x)]) hx hb dX5_isPossible_6 rfl hl (by decide) rfl (fun ls hl => ?_)
  refine lv_iload_n hx hb dX5_isPossible_7 rfl (lv_at hl 3 rfl) ?_
  refine lv_if_ne (tgt := 13) hx hb dX5_isPossible_8 (by decide) (fun c_8 => ?_) (fun c_8 => ?_)
  · refine lv_iload_n hx hb dX5_isPossible_13 rfl (lv_at hl 3 rfl) ?_
    refine lv_iconst (v := 5) hx hb dX5_isPossible_14 (by decide) ?_
    refine lv_icmp_ne (tgt := 28) hx hb dX5_isPossible_15 (by decide) (fun c_15 => ?_) (fun c_15 => ?_)
    · refine lv_iload_n hx hb dX5_isPossible_28 rfl (lv_at hl 3 rfl) ?_
      refine lv_iconst (v := 4) hx hb dX5_isPossible_29 (by decide) ?_
      refine lv_icmp_le (tgt := 47) hx hb dX5_isPossible_30 (by decide) (fun c_30 => ?_) (fun c_30 => ?_)
      · refine lv_aload_n hx hb dX5_isPossible_47 rfl (lv_at hl 0 rfl) ?_
        refine lv_iconst (v := 1) hx hb dX5_isPossible_48 (by decide) ?_
        refine va_iald hx hb hK hP (6 + jb) 0 (bW_at rfl hjb) rfl (vp_in_nI (n := 1) (by decide) (by decide)) dX5_isPossible_49 ?_
        rw [show (1 : Int32).toNatClampNeg = 1 by decide]
        refine lv_iload_n hx hb dX5_isPossible_50 rfl (lv_at hl 3 rfl) ?_
        refine lv_iconst (v := 1) hx hb dX5_isPossible_51 (by decide) ?_
        refine lv_isub hx hb dX5_isPossible_52 ?_
        refine vp_callSi (va_Run.run (va_runS (As := [.int (x - 1)]) (rest := [.int ((d_R δ jb) 1)]) ⟨hx, hb, hml, hown, hts⟩ (c_X5_step l (x - 1)) (va_cwS 1 hts gX5_isPossible_X5_step rfl rfl rfl (by decide +kernel) ⟨Nat.le_of_ble_eq_true rfl, Nat.le_of_ble_eq_true rfl⟩) ⟨fun _ _ _ _ q => q, fun _ _ _ => ⟨rfl, trivial⟩⟩ rfl rfl hl.1 rfl (lv_room (Nat.le_of_ble_eq_true rfl)) dX5_isPossible_53 ⟨Nat.zero_le _, Nat.zero_le _⟩)) (fun r hr9 => ?_)
        subst hr9
        refine lv_iadd hx hb dX5_isPossible_56 ?_
        refine lv_istore (lv' := [(4, .int (((d_R δ jb) 1) + (stepD (x - 1)))), (3, .ref (rr jb)), (0, .ref (o 0)), (1, .int (nI jb)), (2, .int x)]) hx hb dX5_isPossible_57 hl (by decide) rfl (fun ls hl => ?_)
        refine lv_aload_n hx hb dX5_isPossible_59 rfl (lv_at hl 2 rfl) ?_
        refine va_get (D := D) (ci := 5) (v := .ref (o 1)) (C := RX5) (T := TX5) (N := 8) hx hb hts (by decide +kernel) hown hK hP 0 rfl rfl 3 (by decide) (hts (.fieldLink RX5 16 "WarrenLaw$Den" "kinds" "[I") (by decide +kernel)) (fun _ h9 => h9) rfl dX5_isPossible_60 ?_
        refine lv_iload hx hb dX5_isPossible_63 (lv_at hl 0 rfl) ?_
        refine va_iald hx hb hK hP 1 0 rfl rfl (hin9 (x - 1)) dX5_isPossible_65 ?_
        refine lv_iconst (v := 1) hx hb dX5_isPossible_66 (by decide) ?_
        refine lv_icmp_eq (tgt := 102) hx hb dX5_isPossible_67 (by decide) (fun c_67 => ?_) (fun c_67 => ?_)
        · refine lv_iconst (v := 0) hx hb dX5_isPossible_102 (by decide) ?_
          exact W.zret (v := 0) hx hb hr rfl (fun T9 ht _ => ⟨_, rfl, by unfold possD; rw [if_neg c_8, if_neg c_15, if_pos c_30]; unfold goB; rw [if_pos c_67]; rfl, ht⟩) hnil dX5_isPossible_103
        · refine lv_aload_n hx hb dX5_isPossible_70 rfl (lv_at hl 2 rfl) ?_
          refine lv_iload hx hb dX5_isPossible_71 (lv_at hl 0 rfl) ?_
          refine vp_callSi (va_Run.run (va_runV (As := [.int (((d_R δ jb) 1) + (stepD (x - 1)))]) (rest := []) ⟨hx, hb, hml, hown, hts⟩ (c_X5_on l D cI cZ cG cY o rr h b dr δ Y (((d_R δ jb) 1) + (stepD (x - 1))) hn) (cwV 1 hts gX5_isPossible_X5_on rfl rfl rfl (by decide +kernel) ⟨Nat.le_of_ble_eq_true rfl, Nat.le_of_ble_eq_true rfl⟩) ⟨preDR_blind, va_recv hK hP (ci := 5) (q0 := 0) rfl rfl, preDR_of hP hK [.ref (o 0), .int (((d_R δ jb) 1) + (stepD (x - 1)))]⟩ rfl rfl hl.1 rfl (lv_room (Nat.le_of_ble_eq_true rfl)) dX5_isPossible_73 ⟨Nat.zero_le _, Nat.zero_le _⟩)) (fun r9 hr9 => ?_)
          subst hr9
          refine lv_if_lt (tgt := 98) hx hb dX5_isPossible_76 (by decide) (fun c_76 => ?_) (fun c_76 => ?_)
          · refine lv_iconst (v := 1) hx hb dX5_isPossible_98 (by decide) ?_
            refine lv_goto (tgt := 103) hx hb dX5_isPossible_99 (by decide) ?_
            exact W.zret (v := 1) hx hb hr rfl (fun T9 ht _ => ⟨_, rfl, by unfold possD; rw [if_neg c_8, if_neg c_15, if_pos c_30]; unfold goB; rw [if_neg c_67, if_pos c_76]; rfl, ht⟩) hnil dX5_isPossible_103
          · refine lv_aload_n hx hb dX5_isPossible_79 rfl (lv_at hl 2 rfl) ?_
            refine va_get (D := D) (ci := 5) (v := .ref (o 5)) (C := RX5) (T := TX5) (N := 8) hx hb hts (by decide +kernel) hown hK hP 0 rfl rfl 5 (by decide) (hts (.fieldLink RX5 26 "WarrenLaw$Den" "beings" "[[I") (by decide +kernel)) (fun _ h9 => h9) rfl dX5_isPossible_80 ?_
            refine lv_aload_n hx hb dX5_isPossible_83 rfl (lv_at hl 2 rfl) ?_
            refine lv_iload hx hb dX5_isPossible_84 (lv_at hl 0 rfl) ?_
            refine vp_callSi (va_Run.run (va_runV (As := [.int (((d_R δ jb) 1) + (stepD (x - 1)))]) (rest := [.ref (o 5)]) ⟨hx, hb, hml, hown, hts⟩ (c_X5_on l D cI cZ cG cY o rr h b dr δ Y (((d_R δ jb) 1) + (stepD (x - 1))) hn) (cwV 1 hts gX5_isPossible_X5_on rfl rfl rfl (by decide +kernel) ⟨Nat.le_of_ble_eq_true rfl, Nat.le_of_ble_eq_true rfl⟩) ⟨preDR_blind, va_recv hK hP (ci := 5) (q0 := 0) rfl rfl, preDR_of hP hK [.ref (o 0), .int (((d_R δ jb) 1) + (stepD (x - 1)))]⟩ rfl rfl hl.1 rfl (lv_room (Nat.le_of_ble_eq_true rfl)) dX5_isPossible_86 ⟨Nat.zero_le _, Nat.zero_le _⟩)) (fun r9 hr9 => ?_)
            subst hr9
            refine w_ldB hx hb hK hP 5 rfl (on_in hn c_76) dX5_isPossible_89 ?_
            refine lv_iconst (v := 0) hx hb dX5_isPossible_90 (by decide) ?_
            refine va_iald hx hb hK hP (6 + ((onD δ (((d_R δ jb) 1) + (stepD (x - 1)))).toNatClampNeg)) 0 (bW_at rfl (vin_lt (on_in hn c_76))) rfl (vp_in_nI (n := 0) (by decide) (by decide)) dX5_isPossible_91 ?_
            rw [show (0 : Int32).toNatClampNeg = 0 by decide]
            refine lv_aload_n hx hb dX5_isPossible_92 rfl (lv_at hl 1 rfl) ?_
            refine lv_iconst (v := 0) hx hb dX5_isPossible_93 (by decide) ?_
            refine va_iald hx hb hK hP (6 + jb) 0 (bW_at rfl hjb) rfl (vp_in_nI (n := 0) (by decide) (by decide)) dX5_isPossible_94 ?_
            rw [show (0 : Int32).toNatClampNeg = 0 by decide]
            refine lv_icmp_eq (tgt := 102) hx hb dX5_isPossible_95 (by decide) (fun c_95 => ?_) (fun c_95 => ?_)
            · refine lv_iconst (v := 0) hx hb dX5_isPossible_102 (by decide) ?_
              exact W.zret (v := 0) hx hb hr rfl (fun T9 ht _ => ⟨_, rfl, by unfold possD; rw [if_neg c_8, if_neg c_15, if_pos c_30]; unfold goB; rw [if_neg c_67, if_neg c_76, if_pos c_95]; rfl, ht⟩) hnil dX5_isPossible_103
            · refine lv_iconst (v := 1) hx hb dX5_isPossible_98 (by decide) ?_
              refine lv_goto (tgt := 103) hx hb dX5_isPossible_99 (by decide) ?_
              exact W.zret (v := 1) hx hb hr rfl (fun T9 ht _ => ⟨_, rfl, by unfold possD; rw [if_neg c_8, if_neg c_15, if_pos c_30]; unfold goB; rw [if_neg c_67, if_neg c_76, if_neg c_95]; rfl, ht⟩) hnil dX5_isPossible_103
      · refine lv_aload_n hx hb dX5_isPossible_33 rfl (lv_at hl 0 rfl) ?_
        refine lv_bipush (v := 7) hx hb dX5_isPossible_34 (by decide) ?_
        refine va_iald hx hb hK hP (6 + jb) 0 (bW_at rfl hjb) rfl (vp_in_nI (n := 7) (by decide) (by decide)) dX5_isPossible_36 ?_
        rw [show (7 : Int32).toNatClampNeg = 7 by decide]
        refine lv_iconst (v := 2) hx hb dX5_isPossible_37 (by decide) ?_
        refine lv_icmp_le (tgt := 45) hx hb dX5_isPossible_38 (by decide) (fun c_38 => ?_) (fun c_38 => ?_)
        · refine lv_iconst (v := 0) hx hb dX5_isPossible_45 (by decide) ?_
          exact W.zret (v := 0) hx hb hr rfl (fun T9 ht _ => ⟨_, rfl, by unfold possD; rw [if_neg c_8, if_neg c_15, if_neg c_30]; unfold magD; rw [if_pos c_38]; rfl, ht⟩) hnil dX5_isPossible_46
        · refine lv_iconst (v := 1) hx hb dX5_isPossible_41 (by decide) ?_
          refine lv_goto (tgt := 46) hx hb dX5_isPossible_42 (by decide) ?_
          exact W.zret (v := 1) hx hb hr rfl (fun T9 ht _ => ⟨_, rfl, by unfold possD; rw [if_neg c_8, if_neg c_15, if_neg c_30]; unfold magD; rw [if_neg c_38]; rfl, ht⟩) hnil dX5_isPossible_46
    · refine lv_aload_n hx hb dX5_isPossible_18 rfl (lv_at hl 1 rfl) ?_
      refine lv_iload_n hx hb dX5_isPossible_19 rfl (lv_at hl 2 rfl) ?_
      refine vp_callSi (va_Run.run (va_runV (As := [.int (nI jb)]) (rest := []) ⟨hx, hb, hml, hown, hts⟩ (c_X5_target l D cI cZ cG cY o rr h b dr δ Y jb hn hjb hcell) (cwV 1 hts gX5_isPossible_X5_target rfl rfl rfl (by decide +kernel) ⟨Nat.le_of_ble_eq_true rfl, Nat.le_of_ble_eq_true rfl⟩) ⟨preDR_blind, va_recv hK hP (ci := 5) (q0 := 0) rfl rfl, preDR_of hP hK [.ref (o 0), .int (nI jb)]⟩ rfl rfl hl.1 rfl (lv_room (Nat.le_of_ble_eq_true rfl)) dX5_isPossible_20 ⟨Nat.zero_le _, Nat.zero_le _⟩)) (fun r9 hr9 => ?_)
      subst hr9
      refine lv_if_ge (tgt := 28) hx hb dX5_isPossible_23 (by decide) (fun c_23 => ?_) (fun c_23 => ?_)
      · refine lv_iload_n hx hb dX5_isPossible_28 rfl (lv_at hl 3 rfl) ?_
        refine lv_iconst (v := 4) hx hb dX5_isPossible_29 (by decide) ?_
        refine lv_icmp_le (tgt := 47) hx hb dX5_isPossible_30 (by decide) (fun c_30 => absurd c_30 ((by rw [c_15]; decide))) (fun c_30 => ?_)
        refine lv_aload_n hx hb dX5_isPossible_33 rfl (lv_at hl 0 rfl) ?_
        refine lv_bipush (v := 7) hx hb dX5_isPossible_34 (by decide) ?_
        refine va_iald hx hb hK hP (6 + jb) 0 (bW_at rfl hjb) rfl (vp_in_nI (n := 7) (by decide) (by decide)) dX5_isPossible_36 ?_
        rw [show (7 : Int32).toNatClampNeg = 7 by decide]
        refine lv_iconst (v := 2) hx hb dX5_isPossible_37 (by decide) ?_
        refine lv_icmp_le (tgt := 45) hx hb dX5_isPossible_38 (by decide) (fun c_38 => ?_) (fun c_38 => ?_)
        · refine lv_iconst (v := 0) hx hb dX5_isPossible_45 (by decide) ?_
          exact W.zret (v := 0) hx hb hr rfl (fun T9 ht _ => ⟨_, rfl, by unfold possD; rw [if_neg c_8, if_pos c_15, if_neg (Int32.not_lt.mpr c_23)]; unfold magD; rw [if_pos c_38]; rfl, ht⟩) hnil dX5_isPossible_46
        · refine lv_iconst (v := 1) hx hb dX5_isPossible_41 (by decide) ?_
          refine lv_goto (tgt := 46) hx hb dX5_isPossible_42 (by decide) ?_
          exact W.zret (v := 1) hx hb hr rfl (fun T9 ht _ => ⟨_, rfl, by unfold possD; rw [if_neg c_8, if_pos c_15, if_neg (Int32.not_lt.mpr c_23)]; unfold magD; rw [if_neg c_38]; rfl, ht⟩) hnil dX5_isPossible_46
      · refine lv_iconst (v := 0) hx hb dX5_isPossible_26 (by decide) ?_
        exact W.zret (v := 0) hx hb hr rfl (fun T9 ht _ => ⟨_, rfl, by unfold possD; rw [if_neg c_8, if_pos c_15, if_pos (Int32.not_le.mp c_23)]; rfl, ht⟩) hnil dX5_isPossible_27
  · refine lv_iconst (v := 1) hx hb dX5_isPossible_11 (by decide) ?_
    exact W.zret (v := 1) hx hb hr rfl (fun T9 ht _ => ⟨_, rfl, by unfold possD; rw [if_pos c_8]; rfl, ht⟩) hnil dX5_isPossible_12
set_option maxHeartbeats 4000000 in
set_option maxRecDepth 100000 in
theorem c_X5_draw (l : Launch) (D : va_G) (cI : ClassId) (sz : Nat) (cZ cG cY : ClassId) (o rr : Nat → Nat) (h b dr : Nat) (δ : DD) (Y : RW) (t L : Nat) (xs : Nat → Int32) (N : Nat) (hn : d_n δ ≤ 10) (hN1 : 1 ≤ N) (hN2 : N < 2 ^ 31) (hd : dr < 1000000) : Met l yX5_draw wsX5_draw ({ frames := 1, cells := 0, slots := 0, locals := 21 } : Room) (va_Pc [.ref (o 0), .int (nI N)] (preD D cI cZ cG cY t b L xs (dW cI cZ cG cY o rr h b dr δ Y ++ bW cI rr (d_n δ) (d_R δ)) sz)) (va_Qi (fun (r : Int32) (u : Unit) => ∃ j : Nat, j < N ∧ r = nI j) (fun (u : Unit) => posD D cI cZ cG cY (va_A (dW cI cZ cG cY o rr h b dr δ Y ++ bW cI rr (d_n δ) (d_R δ)) sz) (dW cI cZ cG cY o rr h b (dr + 1) δ Y ++ bW cI rr (d_n δ) (d_R δ))) (va_A (dW cI cZ cG cY o rr h b dr δ Y ++ bW cI rr (d_n δ) (d_R δ)) sz)) 0 0 (va_A (dW cI cZ cG cY o rr h b dr δ Y ++ bW cI rr (d_n δ) (d_R δ)) sz) := by
  refine Met.ofW (cc := cX5_draw) (maxL := 3) (ret := (some .int)) (by decide) rfl ?_
  intro p e s m args below meth c s₁ B hml hv
  obtain ⟨rfl, ⟨hsz, hP, hK, hD0⟩, hGX⟩ := hv
  have hx := B.exec
  have hb := B.bytes
  have hr := B.returns
  have hts := atoms_spec (ws := wsX5_draw) B.pre
  have hown : s.vm.findClass RX5 = some m.cls := findClass_of_methodNamed B.named
  have hlocks := B.notSynchronized
  subst hsz
  have hD := hD0.self (sz := s.heap.size)
  generalize hAe : va_A (dW cI cZ cG cY o rr h b dr δ Y ++ bW cI rr (d_n δ) (d_R δ)) s.heap.size = A at hD hGX ⊢
  have hA : ∀ q : Nat, s.heap.size ≤ q → A q := fun q h => by rw [← hAe]; exact Or.inr h
  have hS : va_S A s.heap s.heap [] := va_S.rf
  have hP : va_P D vwCl (dW cI cZ cG cY o rr h b dr δ Y ++ bW cI rr (d_n δ) (d_R δ)) s.heap := hP
  have hl := lv_entry ([.ref (o 0), .int (nI N)]) (n := 3) (Nat.le_of_ble_eq_true rfl)
  rw [lg_entry_eq]
  generalize (lg_sl ([.ref (o 0), .int (nI N)]) ++ List.replicate (3 - (lg_sl ([.ref (o 0), .int (nI N)])).length) Slot.unset).toArray = ls at hl ⊢
  have hl : lv_has ls 3 [(0, .ref (o 0)), (1, .int (nI N))] := hl
  obtain ⟨hXV, hTX, hN9, hSX, hG, hBX, hnc, hnb, hov⟩ := id hGX
  refine lv_aload_n hx hb dX5_draw_0 rfl (lv_at hl 0 rfl) ?_
  refine va_get (D := D) (ci := 5) (v := .ref b) (C := RX5) (T := TX5) (N := 8) hx hb hts (by decide +kernel) hown hK hP 0 rfl rfl 1 (by decide) (hts (.fieldLink RX5 30 "WarrenLaw$Den" "s" "[I") (by decide +kernel)) (fun _ h9 => h9) rfl dX5_draw_1 ?_
  refine lv_aload_n hx hb dX5_draw_4 rfl (lv_at hl 0 rfl) ?_
  refine va_get (D := D) (ci := 5) (v := .int (nI dr)) (C := RX5) (T := TX5) (N := 8) hx hb hts (by decide +kernel) hown hK hP 0 rfl rfl 2 (by decide) (hts (.fieldLink RX5 33 "WarrenLaw$Den" "draws" "I") (by decide +kernel)) (fun _ h9 => h9) rfl dX5_draw_5 ?_
  refine lv_bipush (v := 24) hx hb dX5_draw_8 (by decide) ?_
  refine lv_irem hx hb dX5_draw_10 (by decide) ?_
  rw [show nI dr - nI dr / 24 * 24 = nI (dr % 24) from rem24 (by omega)]
  refine vp_callSi (va_Run.run (va_runSN (As := [.ref b, .int (nI (dr % 24))]) (rest := []) ⟨hx, hb, hml, hown, hts⟩ (c_L_cell l b L xs (nI (dr % 24)) (nI_pos (by omega))) ⟨va_cnB 2 hts gX5_draw_L_cell_n37 rfl rfl rfl hnc (hts _ (by decide +kernel : Cond.initialized yL_cell.cls ∈ _)) (by decide +kernel) ⟨Nat.le_of_ble_eq_true rfl, Nat.le_of_ble_eq_true rfl⟩, (hts _ (by decide +kernel : Cond.static yL_cell ∈ _)), trivial⟩ ⟨preB_blind, preB_of hBX hS [.ref b, .int (nI (dr % 24))]⟩ rfl rfl hl.1 rfl (lv_room (Nat.le_of_ble_eq_true rfl)) dX5_draw_11 ⟨Nat.le_of_ble_eq_true rfl, Nat.le_of_ble_eq_true rfl⟩)) (fun r9 hr9 => ?_)
  subst hr9
  refine lv_aload_n hx hb dX5_draw_14 rfl (lv_at hl 0 rfl) ?_
  refine va_get (D := D) (ci := 5) (v := .int (nI dr)) (C := RX5) (T := TX5) (N := 8) hx hb hts (by decide +kernel) hown hK hP 0 rfl rfl 2 (by decide) (hts (.fieldLink RX5 33 "WarrenLaw$Den" "draws" "I") (by decide +kernel)) (fun _ h9 => h9) rfl dX5_draw_15 ?_
  refine lv_bipush (v := 24) hx hb dX5_draw_18 (by decide) ?_
  refine lv_idiv hx hb dX5_draw_20 (by decide) ?_
  refine lv_bipush (v := 8) hx hb dX5_draw_21 (by decide) ?_
  refine lv_irem hx hb dX5_draw_23 (by decide) ?_
  refine lv_ishr hx hb dX5_draw_24 ?_
  refine lv_sipush (v := 173) hx hb dX5_draw_25 (by decide) ?_
  refine lv_aload_n hx hb dX5_draw_28 rfl (lv_at hl 0 rfl) ?_
  refine va_get (D := D) (ci := 5) (v := .int (nI dr)) (C := RX5) (T := TX5) (N := 8) hx hb hts (by decide +kernel) hown hK hP 0 rfl rfl 2 (by decide) (hts (.fieldLink RX5 33 "WarrenLaw$Den" "draws" "I") (by decide +kernel)) (fun _ h9 => h9) rfl dX5_draw_29 ?_
  refine lv_imul hx hb dX5_draw_32 ?_
  refine lv_iadd hx hb dX5_draw_33 ?_
  refine lv_iload_n hx hb dX5_draw_34 rfl (lv_at hl 1 rfl) ?_
  refine vp_callSi (va_Run.run (va_runSN (As := [.int (((cellI L xs (nI (dr % 24))) >>> ((remI ((nI dr) / 24) 8) &&& 31)) + (173 * (nI dr))), .int (nI N)]) (rest := []) ⟨hx, hb, hml, hown, hts⟩ (c_L_below l (((cellI L xs (nI (dr % 24))) >>> ((remI ((nI dr) / 24) 8) &&& 31)) + (173 * (nI dr))) (nI N) (nI_ne0 (by omega) (by omega))) ⟨va_cnB 2 hts gX5_draw_L_below_n43 rfl rfl rfl hnb (hts _ (by decide +kernel : Cond.initialized yL_below.cls ∈ _)) (by decide +kernel) ⟨Nat.le_of_ble_eq_true rfl, Nat.le_of_ble_eq_true rfl⟩, (hts _ (by decide +kernel : Cond.static yL_below ∈ _)), trivial⟩ ⟨fun _ _ _ _ q => q, fun _ _ _ => ⟨rfl, trivial⟩⟩ rfl rfl hl.1 rfl (lv_room (Nat.le_of_ble_eq_true rfl)) dX5_draw_35 ⟨Nat.zero_le _, Nat.zero_le _⟩)) (fun r hr9 => ?_)
  subst hr9
  refine lv_istore_n (lv' := [(2, .int (belowI (((cellI L xs (nI (dr % 24))) >>> ((remI ((nI dr) / 24) 8) &&& 31)) + (173 * (nI dr))) (nI N))), (0, .ref (o 0)), (1, .int (nI N))]) hx hb dX5_draw_38 rfl hl (by decide) rfl (fun ls hl => ?_)
  refine lv_aload_n hx hb dX5_draw_39 rfl (lv_at hl 1 rfl) ?_
  refine lv_dup hx hb dX5_draw_40 rfl ?_
  refine va_get (D := D) (ci := 5) (v := .int (nI dr)) (C := RX5) (T := TX5) (N := 8) hx hb hts (by decide +kernel) hown hK hP 0 rfl rfl 2 (by decide) (hts (.fieldLink RX5 33 "WarrenLaw$Den" "draws" "I") (by decide +kernel)) (fun _ h9 => h9) rfl dX5_draw_41 ?_
  refine lv_iconst (v := 1) hx hb dX5_draw_44 (by decide) ?_
  refine lv_iadd hx hb dX5_draw_45 ?_
  rw [nI_1 dr]
  refine va_put (D := D) (ci := 5) (v := .int (nI (dr + 1))) (ty := .int) (C := RX5) (T := TX5) (N := 8) hx hb hts (by decide +kernel) tyX5 tyX5_ok nmX5 hown hK hP hD hS 0 rfl rfl 2 (by decide) (hts (.fieldLink RX5 33 "WarrenLaw$Den" "draws" "I") (by decide +kernel)) (fun _ h9 => h9) rfl (by decide +kernel) rfl rfl (Nat.le_of_ble_eq_true rfl) dX5_draw_46 (fun H locs hP hD hS => ?_)
  have hP : va_P D vwCl (dW cI cZ cG cY o rr h b (dr + 1) δ Y ++ bW cI rr (d_n δ) (d_R δ)) H := hP
  have hD : va_D A (dW cI cZ cG cY o rr h b (dr + 1) δ Y ++ bW cI rr (d_n δ) (d_R δ)) := hD
  refine lv_iload_n hx hb dX5_draw_49 rfl (lv_at hl 0 rfl) ?_
  have hP9 := hP
  have hD9 := hD
  exact W.iret (v := (belowI (((cellI L xs (nI (dr % 24))) >>> ((remI ((nI dr) / 24) 8) &&& 31)) + (173 * (nI dr))) (nI N))) hx hb hr (fun T9 ht hW => ⟨⟨(belowI (((cellI L xs (nI (dr % 24))) >>> ((remI ((nI dr) / 24) 8) &&& 31)) + (173 * (nI dr))) (nI N)), (), rfl, (below_or _ hN1 hN2), by rw [ht]; exact hP9, va_K.moved hW.alike hK, hD9⟩, hS.F ht⟩) hS.2.2 dX5_draw_50
set_option maxHeartbeats 4000000 in
set_option maxRecDepth 100000 in
theorem c_X5_look (l : Launch) (D : va_G) (cI : ClassId) (sz : Nat) (cZ cG cY : ClassId) (o rr : Nat → Nat) (h b dr : Nat) (δ : DD) (Y : RW) (t L : Nat) (xs : Nat → Int32) (jb sd : Nat) (hn : d_n δ ≤ 10) (hjb : jb < d_n δ) (hs2 : sd < 2) (hsd : d_R δ jb 0 = nI sd) (hcl : d_R δ jb 1 < 0 ∨ cellB (d_R δ jb 1) = true) : Met l yX5_look wsX5_look ({ frames := 3, cells := 0, slots := 0, locals := 60 } : Room) (va_Pc [.ref (o 0), .int (nI jb)] (preD D cI cZ cG cY t b L xs (dW cI cZ cG cY o rr h b dr δ Y ++ bW cI rr (d_n δ) (d_R δ)) sz)) (va_Qv (fun (u : RW) => True) (fun (u : RW) => posD D cI cZ cG cY (va_A (dW cI cZ cG cY o rr h b dr δ Y ++ bW cI rr (d_n δ) (d_R δ)) sz) (dW cI cZ cG cY o rr h b dr δ u ++ bW cI rr (d_n δ) (d_R δ))) (va_A (dW cI cZ cG cY o rr h b dr δ Y ++ bW cI rr (d_n δ) (d_R δ)) sz)) 0 0 (va_A (dW cI cZ cG cY o rr h b dr δ Y ++ bW cI rr (d_n δ) (d_R δ)) sz) := by
  refine Met.ofW (cc := cX5_look) (maxL := 4) (ret := none) (by decide) rfl ?_
  intro p e s m args below meth c s₁ B hml hv
  obtain ⟨rfl, ⟨hsz, hP, hK, hD0⟩, hGX⟩ := hv
  have hx := B.exec
  have hb := B.bytes
  have hr := B.returns
  have hts := atoms_spec (ws := wsX5_look) B.pre
  have hown : s.vm.findClass RX5 = some m.cls := findClass_of_methodNamed B.named
  have hlocks := B.notSynchronized
  subst hsz
  have hD := hD0.self (sz := s.heap.size)
  generalize hAe : va_A (dW cI cZ cG cY o rr h b dr δ Y ++ bW cI rr (d_n δ) (d_R δ)) s.heap.size = A at hD hGX ⊢
  have hA : ∀ q : Nat, s.heap.size ≤ q → A q := fun q h => by rw [← hAe]; exact Or.inr h
  have hS : va_S A s.heap s.heap [] := va_S.rf
  have hP : va_P D vwCl (dW cI cZ cG cY o rr h b dr δ Y ++ bW cI rr (d_n δ) (d_R δ)) s.heap := hP
  have hl := lv_entry ([.ref (o 0), .int (nI jb)]) (n := 4) (Nat.le_of_ble_eq_true rfl)
  rw [lg_entry_eq]
  generalize (lg_sl ([.ref (o 0), .int (nI jb)]) ++ List.replicate (4 - (lg_sl ([.ref (o 0), .int (nI jb)])).length) Slot.unset).toArray = ls at hl ⊢
  have hl : lv_has ls 4 [(0, .ref (o 0)), (1, .int (nI jb))] := hl
  refine lv_aload_n hx hb dX5_look_0 rfl (lv_at hl 0 rfl) ?_
  refine va_get (D := D) (ci := 5) (v := .ref (o 5)) (C := RX5) (T := TX5) (N := 8) hx hb hts (by decide +kernel) hown hK hP 0 rfl rfl 5 (by decide) (hts (.fieldLink RX5 26 "WarrenLaw$Den" "beings" "[[I") (by decide +kernel)) (fun _ h9 => h9) rfl dX5_look_1 ?_
  refine lv_iload_n hx hb dX5_look_4 rfl (lv_at hl 1 rfl) ?_
  refine w_ldB hx hb hK hP 5 rfl (vp_in_nI hjb (by omega)) dX5_look_5 ?_
  rw [nI_clamp (by omega)]
  refine lv_astore_n (lv' := [(2, .ref (rr jb)), (0, .ref (o 0)), (1, .int (nI jb))]) hx hb dX5_look_6 rfl hl (by decide) rfl (fun ls hl => ?_)
  refine lv_iconst (v := 0) hx hb dX5_look_7 (by decide) ?_
  refine lv_istore_n (lv' := [(3, .int 0), (2, .ref (rr jb)), (0, .ref (o 0)), (1, .int (nI jb))]) hx hb dX5_look_8 rfl hl (by decide) rfl (fun ls hl => ?_)
  have L9 : ∀ (n k : Nat) (Y1 : RW) (hk : k + n = 160) (H : Heap) (locs : List Loc) (ls : Array Slot), lv_has ls 4 [(3, .int (nI k)), (2, .ref (rr jb)), (0, .ref (o 0)), (1, .int (nI jb))] → va_P D vwCl (dW cI cZ cG cY o rr h b dr δ Y1 ++ bW cI rr (d_n δ) (d_R δ)) H → va_D A (dW cI cZ cG cY o rr h b dr δ Y1 ++ bW cI rr (d_n δ) (d_R δ)) → va_S A s.heap H locs → W p l e ({ frames := 3, cells := 0, slots := 0, locals := 60 } : Room) s m ([.ref (o 0), .int (nI jb)] : List Value).toArray below meth c H locs 0 0 (MQ below (va_Qv (fun (u : RW) => True) (fun (u : RW) => posD D cI cZ cG cY A (dW cI cZ cG cY o rr h b dr δ u ++ bW cI rr (d_n δ) (d_R δ))) A) ([.ref (o 0), .int (nI jb)] : List Value).toArray s 0 0 A) (F0 m 9 ls []) := by
    intro n
    induction n with
    | zero =>
      intro k Y1 hk H locs ls hl hP hD hS
      refine lv_iload_n hx hb dX5_look_9 rfl (lv_at hl 0 rfl) ?_
      refine lv_sipush (v := 160) hx hb dX5_look_10 (by decide) ?_
      refine lv_icmp_ge (tgt := 49) hx hb dX5_look_13 (by decide) (fun c_13 => ?_) (fun c_13 => absurd (nI_le (b := k) (a := 160) (by omega) (by omega)) c_13)
      have hP9 := hP
      have hD9 := hD
      exact W.vret hx hb hr (fun T9 ht hW => ⟨⟨Y1, rfl, trivial, by rw [ht]; exact hP9, va_K.moved hW.alike hK, hD9⟩, hS.F ht⟩) hS.2.2 dX5_look_49
    | succ n ih9 =>
      intro k Y1 hk H locs ls hl hP hD hS
      refine lv_iload_n hx hb dX5_look_9 rfl (lv_at hl 0 rfl) ?_
      refine lv_sipush (v := 160) hx hb dX5_look_10 (by decide) ?_
      refine lv_icmp_ge (tgt := 49) hx hb dX5_look_13 (by decide) (fun c_13 => absurd c_13 (nI_ge (b := 160) (by omega) (by omega))) (fun c_13 => ?_)
      refine lv_aload_n hx hb dX5_look_16 rfl (lv_at hl 1 rfl) ?_
      refine lv_iconst (v := 1) hx hb dX5_look_17 (by decide) ?_
      refine va_iald hx hb hK hP (6 + jb) 0 (bW_at rfl hjb) rfl (vp_in_nI (n := 1) (by decide) (by decide)) dX5_look_18 ?_
      rw [show (1 : Int32).toNatClampNeg = 1 by decide]
      refine lv_if_lt (tgt := 49) hx hb dX5_look_19 (by decide) (fun c_19 => ?_) (fun c_19 => ?_)
      · have hP9 := hP
        have hD9 := hD
        exact W.vret hx hb hr (fun T9 ht hW => ⟨⟨Y1, rfl, trivial, by rw [ht]; exact hP9, va_K.moved hW.alike hK, hD9⟩, hS.F ht⟩) hS.2.2 dX5_look_49
      · refine lv_aload_n hx hb dX5_look_22 rfl (lv_at hl 2 rfl) ?_
        refine va_get (D := D) (ci := 5) (v := .ref (o 2)) (C := RX5) (T := TX5) (N := 8) hx hb hts (by decide +kernel) hown hK hP 0 rfl rfl 4 (by decide) (hts (.fieldLink RX5 22 "WarrenLaw$Den" "known" "[[Z") (by decide +kernel)) (fun _ h9 => h9) rfl dX5_look_23 ?_
        refine lv_aload_n hx hb dX5_look_26 rfl (lv_at hl 1 rfl) ?_
        refine lv_iconst (v := 0) hx hb dX5_look_27 (by decide) ?_
        refine va_iald hx hb hK hP (6 + jb) 0 (bW_at rfl hjb) rfl (vp_in_nI (n := 0) (by decide) (by decide)) dX5_look_28 ?_
        rw [show (0 : Int32).toNatClampNeg = 0 by decide]
        rw [hsd]
        refine w_ldY hx hb hK hP 2 rfl (vp_in_nI hs2 (by omega)) dX5_look_29 ?_
        rw [nI_clamp (by omega)]
        refine lv_iload_n hx hb dX5_look_30 rfl (lv_at hl 0 rfl) ?_
        refine lv_dup2_11 hx hb dX5_look_31 rfl rfl ?_
        refine va_zald hx hb hK hP (3 + sd) 1 (dY_at hs2) rfl (vp_in_nI (by omega) (by decide)) dX5_look_32 ?_
        rw [nI_clamp (by omega)]
        refine lv_aload_n hx hb dX5_look_33 rfl (lv_at hl 2 rfl) ?_
        refine lv_aload_n hx hb dX5_look_34 rfl (lv_at hl 1 rfl) ?_
        refine lv_iconst (v := 1) hx hb dX5_look_35 (by decide) ?_
        refine va_iald hx hb hK hP (6 + jb) 0 (bW_at rfl hjb) rfl (vp_in_nI (n := 1) (by decide) (by decide)) dX5_look_36 ?_
        rw [show (1 : Int32).toNatClampNeg = 1 by decide]
        refine lv_iload_n hx hb dX5_look_37 rfl (lv_at hl 0 rfl) ?_
        refine vp_callSi (va_Run.run (va_runV (As := [.int ((d_R δ jb) 1), .int (nI k)]) (rest := [.int (Y1 sd k), .int (nI k), .ref (o (3 + sd))]) ⟨hx, hb, hml, hown, hts⟩ (c_X5_sees l D cI cZ cG cY o rr h b dr δ Y1 ((d_R δ jb) 1) (nI k) hn (hcl.resolve_left c_19) (cell_of (by omega))) (cwV 2 hts gX5_look_X5_sees rfl rfl rfl (by decide +kernel) ⟨Nat.le_of_ble_eq_true rfl, Nat.le_of_ble_eq_true rfl⟩) ⟨preDR_blind, va_recv hK hP (ci := 5) (q0 := 0) rfl rfl, preDR_of hP hK [.ref (o 0), .int ((d_R δ jb) 1), .int (nI k)]⟩ rfl rfl hl.1 rfl (lv_room (Nat.le_of_ble_eq_true rfl)) dX5_look_38 ⟨Nat.zero_le _, Nat.zero_le _⟩)) (fun r9 hr9 => ?_)
        subst hr9
        refine lv_ior hx hb dX5_look_41 ?_
        refine va_zast hx hb hK hP hD hS (3 + sd) 1 (dY_at hs2) rfl (vp_in_nI (by omega) (by decide)) dX5_look_42 (fun H locs hP hD hS => ?_)
        rw [nI_clamp (by omega)] at hP hD
        rw [dY_set hs2] at hP hD
        have hP : va_P D vwCl (dW cI cZ cG cY o rr h b dr δ (upR Y1 sd (upd (Y1 sd) k (vp_nar .boolean ((Y1 sd k) ||| (bi (seesD (d_k δ) ((d_R δ jb) 1) (nI k))))))) ++ bW cI rr (d_n δ) (d_R δ)) H := hP
        have hD : va_D A (dW cI cZ cG cY o rr h b dr δ (upR Y1 sd (upd (Y1 sd) k (vp_nar .boolean ((Y1 sd k) ||| (bi (seesD (d_k δ) ((d_R δ jb) 1) (nI k))))))) ++ bW cI rr (d_n δ) (d_R δ)) := hD
        refine lv_iinc (v := (nI (k + 1))) (lv' := [(3, .int (nI (k + 1))), (2, .ref (rr jb)), (0, .ref (o 0)), (1, .int (nI jb))]) hx hb dX5_look_43 hl (k := 0) rfl (nI_1 k) (by decide) rfl (fun ls hl => ?_)
        refine lv_goto (tgt := 9) hx hb dX5_look_46 (by decide) ?_
        exact ih9 (k + 1) (upR Y1 sd (upd (Y1 sd) k (vp_nar .boolean ((Y1 sd k) ||| (bi (seesD (d_k δ) ((d_R δ jb) 1) (nI k))))))) (by omega) _ _ ls (lv_sub hl [0, 1, 2, 3] rfl) hP hD hS
  exact L9 160 0 Y (by omega) _ _ ls (lv_sub hl [0, 1, 2, 3] rfl) hP hD hS
set_option maxHeartbeats 4000000 in
set_option maxRecDepth 100000 in
theorem c_X5_lose (l : Launch) (D : va_G) (cI : ClassId) (sz : Nat) (cZ cG cY : ClassId) (o rr : Nat → Nat) (h b dr : Nat) (δ : DD) (Y : RW) (t L : Nat) (xs : Nat → Int32) (jb : Nat) (x : Int32) (hn : d_n δ ≤ 10) (hjb : jb < d_n δ) : Met l yX5_lose wsX5_lose ({ frames := 0, cells := 0, slots := 0, locals := 0 } : Room) (va_Pc [.ref (rr jb), .int x] (preD D cI cZ cG cY t b L xs (dW cI cZ cG cY o rr h b dr δ Y ++ bW cI rr (d_n δ) (d_R δ)) sz)) (va_Qv (fun (u : DD) => u = e_g δ jb (loseR (d_R δ jb) x)) (fun (u : DD) => posD D cI cZ cG cY (va_A (dW cI cZ cG cY o rr h b dr δ Y ++ bW cI rr (d_n δ) (d_R δ)) sz) (dW cI cZ cG cY o rr h b dr u Y ++ bW cI rr (d_n u) (d_R u))) (va_A (dW cI cZ cG cY o rr h b dr δ Y ++ bW cI rr (d_n δ) (d_R δ)) sz)) 0 0 (va_A (dW cI cZ cG cY o rr h b dr δ Y ++ bW cI rr (d_n δ) (d_R δ)) sz) := by
  refine Met.ofW (cc := cX5_lose) (maxL := 2) (ret := none) (by decide) rfl ?_
  intro p e s m args below meth c s₁ B hml hv
  obtain ⟨rfl, ⟨hsz, hP, hK, hD0⟩, hGX⟩ := hv
  have hx := B.exec
  have hb := B.bytes
  have hr := B.returns
  have hts := atoms_spec (ws := wsX5_lose) B.pre
  have hown : s.vm.findClass RX5 = some m.cls := findClass_of_methodNamed B.named
  have hlocks := B.notSynchronized
  subst hsz
  have hD := hD0.self (sz := s.heap.size)
  generalize hAe : va_A (dW cI cZ cG cY o rr h b dr δ Y ++ bW cI rr (d_n δ) (d_R δ)) s.heap.size = A at hD hGX ⊢
  have hA : ∀ q : Nat, s.heap.size ≤ q → A q := fun q h => by rw [← hAe]; exact Or.inr h
  have hS : va_S A s.heap s.heap [] := va_S.rf
  have hP : va_P D vwCl (dW cI cZ cG cY o rr h b dr δ Y ++ bW cI rr (d_n δ) (d_R δ)) s.heap := hP
  have hl := lv_entry ([.ref (rr jb), .int x]) (n := 2) (Nat.le_of_ble_eq_true rfl)
  rw [lg_entry_eq]
  generalize (lg_sl ([.ref (rr jb), .int x]) ++ List.replicate (2 - (lg_sl ([.ref (rr jb), .int x])).length) Slot.unset).toArray = ls at hl ⊢
  have hl : lv_has ls 2 [(0, .ref (rr jb)), (1, .int x)] := hl
  refine lv_aload_n hx hb dX5_lose_0 rfl (lv_at hl 0 rfl) ?_
  refine lv_iconst (v := 2) hx hb dX5_lose_1 (by decide) ?_
  refine lv_dup2_11 hx hb dX5_lose_2 rfl rfl ?_
  refine va_iald hx hb hK hP (6 + jb) 0 (bW_at rfl hjb) rfl (vp_in_nI (n := 2) (by decide) (by decide)) dX5_lose_3 ?_
  rw [show (2 : Int32).toNatClampNeg = 2 by decide]
  refine lv_iload_n hx hb dX5_lose_4 rfl (lv_at hl 1 rfl) ?_
  refine lv_isub hx hb dX5_lose_5 ?_
  refine va_iast hx hb hK hP hD hS (6 + jb) 0 (bW_at rfl hjb) rfl (vp_in_nI (n := 2) (by decide) (by decide)) dX5_lose_6 (fun H locs hP hD hS => ?_)
  rw [show (2 : Int32).toNatClampNeg = 2 by decide] at hP hD
  have hP := bW_setP rfl hP
  have hD := bW_setD rfl hD
  have hP : va_P D vwCl (dW cI cZ cG cY o rr h b dr (e_g δ jb (upd (d_R δ jb) 2 (((d_R δ jb) 2) - x))) Y ++ bW cI rr (d_n (e_g δ jb (upd (d_R δ jb) 2 (((d_R δ jb) 2) - x)))) (d_R (e_g δ jb (upd (d_R δ jb) 2 (((d_R δ jb) 2) - x))))) H := hP
  have hD : va_D A (dW cI cZ cG cY o rr h b dr (e_g δ jb (upd (d_R δ jb) 2 (((d_R δ jb) 2) - x))) Y ++ bW cI rr (d_n (e_g δ jb (upd (d_R δ jb) 2 (((d_R δ jb) 2) - x)))) (d_R (e_g δ jb (upd (d_R δ jb) 2 (((d_R δ jb) 2) - x))))) := hD
  refine lv_aload_n hx hb dX5_lose_7 rfl (lv_at hl 0 rfl) ?_
  refine lv_iconst (v := 2) hx hb dX5_lose_8 (by decide) ?_
  refine va_iald hx hb hK hP (6 + jb) 0 (bW_at2 rfl hjb) rfl (vp_in_nI (n := 2) (by decide) (by decide)) dX5_lose_9 ?_
  rw [show (2 : Int32).toNatClampNeg = 2 by decide]
  rw [pk_us]
  refine lv_if_le (tgt := 14) hx hb dX5_lose_10 (by decide) (fun c_10 => ?_) (fun c_10 => ?_)
  · refine lv_aload_n hx hb dX5_lose_14 rfl (lv_at hl 0 rfl) ?_
    refine lv_iconst (v := 2) hx hb dX5_lose_15 (by decide) ?_
    refine lv_iconst (v := 0) hx hb dX5_lose_16 (by decide) ?_
    refine va_iast hx hb hK hP hD hS (6 + jb) 0 (bW_at2 rfl hjb) rfl (vp_in_nI (n := 2) (by decide) (by decide)) dX5_lose_17 (fun H locs hP hD hS => ?_)
    rw [show (2 : Int32).toNatClampNeg = 2 by decide] at hP hD
    have hP := bW_wrP rfl hP
    have hD := bW_wrD rfl hD
    have hP : va_P D vwCl (dW cI cZ cG cY o rr h b dr (e_g δ jb (upd (upd (d_R δ jb) 2 (((d_R δ jb) 2) - x)) 2 0)) Y ++ bW cI rr (d_n (e_g δ jb (upd (upd (d_R δ jb) 2 (((d_R δ jb) 2) - x)) 2 0))) (d_R (e_g δ jb (upd (upd (d_R δ jb) 2 (((d_R δ jb) 2) - x)) 2 0)))) H := hP
    have hD : va_D A (dW cI cZ cG cY o rr h b dr (e_g δ jb (upd (upd (d_R δ jb) 2 (((d_R δ jb) 2) - x)) 2 0)) Y ++ bW cI rr (d_n (e_g δ jb (upd (upd (d_R δ jb) 2 (((d_R δ jb) 2) - x)) 2 0))) (d_R (e_g δ jb (upd (upd (d_R δ jb) 2 (((d_R δ jb) 2) - x)) 2 0)))) := hD
    refine lv_aload_n hx hb dX5_lose_18 rfl (lv_at hl 0 rfl) ?_
    refine lv_iconst (v := 1) hx hb dX5_lose_19 (by decide) ?_
    refine lv_iconst (v := (-1)) hx hb dX5_lose_20 (by decide) ?_
    refine va_iast hx hb hK hP hD hS (6 + jb) 0 (bW_at2 rfl hjb) rfl (vp_in_nI (n := 1) (by decide) (by decide)) dX5_lose_21 (fun H locs hP hD hS => ?_)
    rw [show (1 : Int32).toNatClampNeg = 1 by decide] at hP hD
    have hP := bW_wrP rfl hP
    have hD := bW_wrD rfl hD
    have hP : va_P D vwCl (dW cI cZ cG cY o rr h b dr (e_g δ jb (upd (upd (upd (d_R δ jb) 2 (((d_R δ jb) 2) - x)) 2 0) 1 (-1))) Y ++ bW cI rr (d_n (e_g δ jb (upd (upd (upd (d_R δ jb) 2 (((d_R δ jb) 2) - x)) 2 0) 1 (-1)))) (d_R (e_g δ jb (upd (upd (upd (d_R δ jb) 2 (((d_R δ jb) 2) - x)) 2 0) 1 (-1))))) H := hP
    have hD : va_D A (dW cI cZ cG cY o rr h b dr (e_g δ jb (upd (upd (upd (d_R δ jb) 2 (((d_R δ jb) 2) - x)) 2 0) 1 (-1))) Y ++ bW cI rr (d_n (e_g δ jb (upd (upd (upd (d_R δ jb) 2 (((d_R δ jb) 2) - x)) 2 0) 1 (-1)))) (d_R (e_g δ jb (upd (upd (upd (d_R δ jb) 2 (((d_R δ jb) 2) - x)) 2 0) 1 (-1))))) := hD
    have hP9 := hP
    have hD9 := hD
    exact W.vret hx hb hr (fun T9 ht hW => ⟨⟨(e_g δ jb (upd (upd (upd (d_R δ jb) 2 (((d_R δ jb) 2) - x)) 2 0) 1 (-1))), rfl, by unfold loseR; rw [if_pos c_10], by rw [ht]; exact hP9, va_K.moved hW.alike hK, hD9⟩, hS.F ht⟩) hS.2.2 dX5_lose_22
  · have hP9 := hP
    have hD9 := hD
    exact W.vret hx hb hr (fun T9 ht hW => ⟨⟨(e_g δ jb (upd (d_R δ jb) 2 (((d_R δ jb) 2) - x))), rfl, by unfold loseR; rw [if_neg c_10], by rw [ht]; exact hP9, va_K.moved hW.alike hK, hD9⟩, hS.F ht⟩) hS.2.2 dX5_lose_13
set_option maxHeartbeats 4000000 in
set_option maxRecDepth 100000 in
theorem c_X5_comeOn (l : Launch) (D : va_G) (cI : ClassId) (sz : Nat) (cZ cG cY : ClassId) (o rr : Nat → Nat) (h b dr : Nat) (δ : DD) (Y : RW) (t L : Nat) (xs : Nat → Int32) (jb ee : Nat) (x y : Int32) (hn : d_n δ ≤ 10) (hjb : jb < d_n δ) (hee : ee < 5) : Met l yX5_comeOn wsX5_comeOn ({ frames := 1, cells := 0, slots := 0, locals := 15 } : Room) (va_Pc [.ref (rr jb), .int (nI ee), .int x, .int y] (preD D cI cZ cG cY t b L xs (dW cI cZ cG cY o rr h b dr δ Y ++ bW cI rr (d_n δ) (d_R δ)) sz)) (va_Qv (fun (u : DD) => u = e_g δ jb (comeR (d_R δ jb) ee x y)) (fun (u : DD) => posD D cI cZ cG cY (va_A (dW cI cZ cG cY o rr h b dr δ Y ++ bW cI rr (d_n δ) (d_R δ)) sz) (dW cI cZ cG cY o rr h b dr u Y ++ bW cI rr (d_n u) (d_R u))) (va_A (dW cI cZ cG cY o rr h b dr δ Y ++ bW cI rr (d_n δ) (d_R δ)) sz)) 0 0 (va_A (dW cI cZ cG cY o rr h b dr δ Y ++ bW cI rr (d_n δ) (d_R δ)) sz) := by
  refine Met.ofW (cc := cX5_comeOn) (maxL := 4) (ret := none) (by decide) rfl ?_
  intro p e s m args below meth c s₁ B hml hv
  obtain ⟨rfl, ⟨hsz, hP, hK, hD0⟩, hGX⟩ := hv
  have hx := B.exec
  have hb := B.bytes
  have hr := B.returns
  have hts := atoms_spec (ws := wsX5_comeOn) B.pre
  have hown : s.vm.findClass RX5 = some m.cls := findClass_of_methodNamed B.named
  have hlocks := B.notSynchronized
  subst hsz
  have hD := hD0.self (sz := s.heap.size)
  generalize hAe : va_A (dW cI cZ cG cY o rr h b dr δ Y ++ bW cI rr (d_n δ) (d_R δ)) s.heap.size = A at hD hGX ⊢
  have hA : ∀ q : Nat, s.heap.size ≤ q → A q := fun q h => by rw [← hAe]; exact Or.inr h
  have hS : va_S A s.heap s.heap [] := va_S.rf
  have hP : va_P D vwCl (dW cI cZ cG cY o rr h b dr δ Y ++ bW cI rr (d_n δ) (d_R δ)) s.heap := hP
  have hl := lv_entry ([.ref (rr jb), .int (nI ee), .int x, .int y]) (n := 4) (Nat.le_of_ble_eq_true rfl)
  rw [lg_entry_eq]
  generalize (lg_sl ([.ref (rr jb), .int (nI ee), .int x, .int y]) ++ List.replicate (4 - (lg_sl ([.ref (rr jb), .int (nI ee), .int x, .int y])).length) Slot.unset).toArray = ls at hl ⊢
  have hl : lv_has ls 4 [(0, .ref (rr jb)), (1, .int (nI ee)), (2, .int x), (3, .int y)] := hl
  refine lv_aload_n hx hb dX5_comeOn_0 rfl (lv_at hl 0 rfl) ?_
  refine lv_bipush (v := 9) hx hb dX5_comeOn_1 (by decide) ?_
  refine lv_iload_n hx hb dX5_comeOn_3 rfl (lv_at hl 1 rfl) ?_
  refine lv_iadd hx hb dX5_comeOn_4 ?_
  rw [show (9 : Int32) + nI ee = nI (9 + ee) from nI_add 9 ee]
  refine lv_bipush (v := 9) hx hb dX5_comeOn_5 (by decide) ?_
  refine lv_aload_n hx hb dX5_comeOn_7 rfl (lv_at hl 0 rfl) ?_
  refine lv_bipush (v := 9) hx hb dX5_comeOn_8 (by decide) ?_
  refine lv_iload_n hx hb dX5_comeOn_10 rfl (lv_at hl 1 rfl) ?_
  refine lv_iadd hx hb dX5_comeOn_11 ?_
  rw [show (9 : Int32) + nI ee = nI (9 + ee) from nI_add 9 ee]
  refine va_iald hx hb hK hP (6 + jb) 0 (bW_at rfl hjb) rfl (vp_in_nI (by omega) (by decide)) dX5_comeOn_12 ?_
  rw [nI_clamp (by omega)]
  refine lv_iload_n hx hb dX5_comeOn_13 rfl (lv_at hl 2 rfl) ?_
  refine lv_iadd hx hb dX5_comeOn_14 ?_
  refine va_mmin hx hb (hml.trans hl.1.symm) hown (hts (.methodLink RX5 106 Lib.Math.min.name) (by decide +kernel)) (hts (.static Lib.Math.min.name) (by decide +kernel)) (hts (.initialized "java/lang/Math") (by decide +kernel)) (hts (.code Lib.Math.min.name Lib.Math.min.code 2 (some .int)) (by decide +kernel)) (Nat.le_of_ble_eq_true rfl) (Nat.le_of_ble_eq_true rfl) (Nat.le_of_ble_eq_true rfl) (Nat.le_of_ble_eq_true rfl) dX5_comeOn_15 ?_
  refine va_iast hx hb hK hP hD hS (6 + jb) 0 (bW_at rfl hjb) rfl (vp_in_nI (by omega) (by decide)) dX5_comeOn_18 (fun H locs hP hD hS => ?_)
  rw [nI_clamp (by omega)] at hP hD
  have hP := bW_setP rfl hP
  have hD := bW_setD rfl hD
  have hP : va_P D vwCl (dW cI cZ cG cY o rr h b dr (e_g δ jb (upd (d_R δ jb) (9 + ee) (minI 9 (((d_R δ jb) (9 + ee)) + x)))) Y ++ bW cI rr (d_n (e_g δ jb (upd (d_R δ jb) (9 + ee) (minI 9 (((d_R δ jb) (9 + ee)) + x))))) (d_R (e_g δ jb (upd (d_R δ jb) (9 + ee) (minI 9 (((d_R δ jb) (9 + ee)) + x)))))) H := hP
  have hD : va_D A (dW cI cZ cG cY o rr h b dr (e_g δ jb (upd (d_R δ jb) (9 + ee) (minI 9 (((d_R δ jb) (9 + ee)) + x)))) Y ++ bW cI rr (d_n (e_g δ jb (upd (d_R δ jb) (9 + ee) (minI 9 (((d_R δ jb) (9 + ee)) + x))))) (d_R (e_g δ jb (upd (d_R δ jb) (9 + ee) (minI 9 (((d_R δ jb) (9 + ee)) + x)))))) := hD
  refine lv_aload_n hx hb dX5_comeOn_19 rfl (lv_at hl 0 rfl) ?_
  refine lv_bipush (v := 14) hx hb dX5_comeOn_20 (by decide) ?_
  refine lv_iload_n hx hb dX5_comeOn_22 rfl (lv_at hl 1 rfl) ?_
  refine lv_iadd hx hb dX5_comeOn_23 ?_
  rw [show (14 : Int32) + nI ee = nI (14 + ee) from nI_add 14 ee]
  refine lv_aload_n hx hb dX5_comeOn_24 rfl (lv_at hl 0 rfl) ?_
  refine lv_bipush (v := 14) hx hb dX5_comeOn_25 (by decide) ?_
  refine lv_iload_n hx hb dX5_comeOn_27 rfl (lv_at hl 1 rfl) ?_
  refine lv_iadd hx hb dX5_comeOn_28 ?_
  rw [show (14 : Int32) + nI ee = nI (14 + ee) from nI_add 14 ee]
  refine va_iald hx hb hK hP (6 + jb) 0 (bW_at2 rfl hjb) rfl (vp_in_nI (by omega) (by decide)) dX5_comeOn_29 ?_
  rw [nI_clamp (by omega)]
  refine lv_iload_n hx hb dX5_comeOn_30 rfl (lv_at hl 3 rfl) ?_
  refine va_mmax hx hb (hml.trans hl.1.symm) hown (hts (.methodLink RX5 72 Lib.Math.max.name) (by decide +kernel)) (hts (.static Lib.Math.max.name) (by decide +kernel)) (hts (.initialized "java/lang/Math") (by decide +kernel)) (hts (.code Lib.Math.max.name Lib.Math.max.code 2 (some .int)) (by decide +kernel)) (Nat.le_of_ble_eq_true rfl) (Nat.le_of_ble_eq_true rfl) (Nat.le_of_ble_eq_true rfl) (Nat.le_of_ble_eq_true rfl) dX5_comeOn_31 ?_
  refine va_iast hx hb hK hP hD hS (6 + jb) 0 (bW_at2 rfl hjb) rfl (vp_in_nI (by omega) (by decide)) dX5_comeOn_34 (fun H locs hP hD hS => ?_)
  rw [nI_clamp (by omega)] at hP hD
  have hP := bW_wrP rfl hP
  have hD := bW_wrD rfl hD
  have hP : va_P D vwCl (dW cI cZ cG cY o rr h b dr (e_g δ jb (upd (upd (d_R δ jb) (9 + ee) (minI 9 (((d_R δ jb) (9 + ee)) + x))) (14 + ee) (maxI ((upd (d_R δ jb) (9 + ee) (minI 9 (((d_R δ jb) (9 + ee)) + x))) (14 + ee)) y))) Y ++ bW cI rr (d_n (e_g δ jb (upd (upd (d_R δ jb) (9 + ee) (minI 9 (((d_R δ jb) (9 + ee)) + x))) (14 + ee) (maxI ((upd (d_R δ jb) (9 + ee) (minI 9 (((d_R δ jb) (9 + ee)) + x))) (14 + ee)) y)))) (d_R (e_g δ jb (upd (upd (d_R δ jb) (9 + ee) (minI 9 (((d_R δ jb) (9 + ee)) + x))) (14 + ee) (maxI ((upd (d_R δ jb) (9 + ee) (minI 9 (((d_R δ jb) (9 + ee)) + x))) (14 + ee)) y))))) H := hP
  have hD : va_D A (dW cI cZ cG cY o rr h b dr (e_g δ jb (upd (upd (d_R δ jb) (9 + ee) (minI 9 (((d_R δ jb) (9 + ee)) + x))) (14 + ee) (maxI ((upd (d_R δ jb) (9 + ee) (minI 9 (((d_R δ jb) (9 + ee)) + x))) (14 + ee)) y))) Y ++ bW cI rr (d_n (e_g δ jb (upd (upd (d_R δ jb) (9 + ee) (minI 9 (((d_R δ jb) (9 + ee)) + x))) (14 + ee) (maxI ((upd (d_R δ jb) (9 + ee) (minI 9 (((d_R δ jb) (9 + ee)) + x))) (14 + ee)) y)))) (d_R (e_g δ jb (upd (upd (d_R δ jb) (9 + ee) (minI 9 (((d_R δ jb) (9 + ee)) + x))) (14 + ee) (maxI ((upd (d_R δ jb) (9 + ee) (minI 9 (((d_R δ jb) (9 + ee)) + x))) (14 + ee)) y))))) := hD
  have hP9 := hP
  have hD9 := hD
  exact W.vret hx hb hr (fun T9 ht hW => ⟨⟨(e_g δ jb (upd (upd (d_R δ jb) (9 + ee) (minI 9 (((d_R δ jb) (9 + ee)) + x))) (14 + ee) (maxI ((upd (d_R δ jb) (9 + ee) (minI 9 (((d_R δ jb) (9 + ee)) + x))) (14 + ee)) y))), rfl, rfl, by rw [ht]; exact hP9, va_K.moved hW.alike hK, hD9⟩, hS.F ht⟩) hS.2.2 dX5_comeOn_35
