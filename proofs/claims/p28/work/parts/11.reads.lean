set_option maxHeartbeats 4000000 in
set_option maxRecDepth 100000 in
theorem c_X2_kindAt (l : Launch) (D : va_G) (cI : ClassId) (a : Nat → Nat) (σ : SS) (x : Int32) : Met l yX2_kindAt wsX2_kindAt ({ frames := 0, cells := 0, slots := 0, locals := 0 } : Room) (va_Pc [.ref (a 0), .int x] (preR D cI (sW cI a σ))) (vp_Si (fun r => r = kindF σ x)) 0 0 (fun _ => False) := by
  refine Met.ofW (cc := cX2_kindAt) (maxL := 2) (ret := (some .int)) (by decide) rfl ?_
  intro p e s m args below meth c s₁ B hml hv
  obtain ⟨rfl, hP, hK, hE⟩ := hv
  have hx := B.exec
  have hb := B.bytes
  have hr := B.returns
  have hts := atoms_spec (ws := wsX2_kindAt) B.pre
  have hown : s.vm.findClass RX2 = some m.cls := findClass_of_methodNamed B.named
  have hlocks := B.notSynchronized
  have hl := lv_entry ([.ref (a 0), .int x]) (n := 2) (Nat.le_of_ble_eq_true rfl)
  rw [lg_entry_eq]
  generalize (lg_sl ([.ref (a 0), .int x]) ++ List.replicate (2 - (lg_sl ([.ref (a 0), .int x])).length) Slot.unset).toArray = ls at hl ⊢
  have hl : lv_has ls 2 [(0, .ref (a 0)), (1, .int x)] := hl
  refine lv_iload_n hx hb dX2_kindAt_0 rfl (lv_at hl 1 rfl) ?_
  refine lv_if_lt (tgt := 22) hx hb dX2_kindAt_1 (by decide) (fun c_1 => ?_) (fun c_1 => ?_)
  · refine lv_iconst (v := 1) hx hb dX2_kindAt_22 (by decide) ?_
    exact W.iret (v := 1) hx hb hr (fun t ht _ => ⟨_, rfl, by first | rfl | (simp only [kindF, rd, if_pos c_1]; done) | (simp only [kindF, rd, if_pos c_1]; rfl) | (simp [kindF, rd, c_1]; done) | (simp [kindF, rd, c_1]; rfl), ht⟩) hnil dX2_kindAt_23
  · refine lv_iload_n hx hb dX2_kindAt_4 rfl (lv_at hl 1 rfl) ?_
    refine lv_aload_n hx hb dX2_kindAt_5 rfl (lv_at hl 0 rfl) ?_
    refine va_get (D := D) (ci := 2) (v := .ref (a 1)) (C := RX2) (T := TX2) (N := 8) hx hb hts (by decide +kernel) hown hK hP 0 rfl rfl 0 (by decide) (hts (.fieldLink RX2 9 "Warren$State" "kinds" "[I") (by decide +kernel)) (fun _ h9 => h9) rfl dX2_kindAt_6 ?_
    refine va_alen (v := nI 160) hx hb hK hP 1 0 rfl rfl rfl dX2_kindAt_9 ?_
    refine lv_icmp_ge (tgt := 22) hx hb dX2_kindAt_10 (by decide) (fun c_10 => ?_) (fun c_10 => ?_)
    · refine lv_iconst (v := 1) hx hb dX2_kindAt_22 (by decide) ?_
      exact W.iret (v := 1) hx hb hr (fun t ht _ => ⟨_, rfl, by first | rfl | (simp only [kindF, rd, if_neg c_1, if_pos c_10]; done) | (simp only [kindF, rd, if_neg c_1, if_pos c_10]; rfl) | (simp [kindF, rd, c_1, c_10]; done) | (simp [kindF, rd, c_1, c_10]; rfl), ht⟩) hnil dX2_kindAt_23
    · refine lv_aload_n hx hb dX2_kindAt_13 rfl (lv_at hl 0 rfl) ?_
      refine va_get (D := D) (ci := 2) (v := .ref (a 1)) (C := RX2) (T := TX2) (N := 8) hx hb hts (by decide +kernel) hown hK hP 0 rfl rfl 0 (by decide) (hts (.fieldLink RX2 9 "Warren$State" "kinds" "[I") (by decide +kernel)) (fun _ h9 => h9) rfl dX2_kindAt_14 ?_
      refine lv_iload_n hx hb dX2_kindAt_17 rfl (lv_at hl 1 rfl) ?_
      refine va_iald hx hb hK hP 1 0 rfl rfl (vin (by decide) (by assumption) (by assumption)) dX2_kindAt_18 ?_
      refine lv_goto (tgt := 23) hx hb dX2_kindAt_19 (by decide) ?_
      exact W.iret (v := ((s_ki σ) x.toNatClampNeg)) hx hb hr (fun t ht _ => ⟨_, rfl, by first | rfl | (simp only [kindF, rd, if_neg c_1, if_neg c_10]; done) | (simp only [kindF, rd, if_neg c_1, if_neg c_10]; rfl) | (simp [kindF, rd, c_1, c_10]; done) | (simp [kindF, rd, c_1, c_10]; rfl), ht⟩) hnil dX2_kindAt_23

set_option maxHeartbeats 4000000 in
set_option maxRecDepth 100000 in
theorem c_X2_trait (l : Launch) (D : va_G) (cI : ClassId) (a : Nat → Nat) (σ : SS) (x y : Int32) : Met l yX2_trait wsX2_trait ({ frames := 0, cells := 0, slots := 0, locals := 0 } : Room) (va_Pc [.ref (a 0), .int x, .int y] (preR D cI (sW cI a σ))) (vp_Si (fun r => r = traitF σ x y)) 0 0 (fun _ => False) := by
  refine Met.ofW (cc := cX2_trait) (maxL := 4) (ret := (some .int)) (by decide) rfl ?_
  intro p e s m args below meth c s₁ B hml hv
  obtain ⟨rfl, hP, hK, hE⟩ := hv
  have hx := B.exec
  have hb := B.bytes
  have hr := B.returns
  have hts := atoms_spec (ws := wsX2_trait) B.pre
  have hown : s.vm.findClass RX2 = some m.cls := findClass_of_methodNamed B.named
  have hlocks := B.notSynchronized
  have hl := lv_entry ([.ref (a 0), .int x, .int y]) (n := 4) (Nat.le_of_ble_eq_true rfl)
  rw [lg_entry_eq]
  generalize (lg_sl ([.ref (a 0), .int x, .int y]) ++ List.replicate (4 - (lg_sl ([.ref (a 0), .int x, .int y])).length) Slot.unset).toArray = ls at hl ⊢
  have hl : lv_has ls 4 [(0, .ref (a 0)), (1, .int x), (2, .int y)] := hl
  refine lv_iload_n hx hb dX2_trait_0 rfl (lv_at hl 1 rfl) ?_
  refine lv_bipush (v := 9) hx hb dX2_trait_1 (by decide) ?_
  refine lv_imul hx hb dX2_trait_3 ?_
  refine lv_iload_n hx hb dX2_trait_4 rfl (lv_at hl 2 rfl) ?_
  refine lv_iadd hx hb dX2_trait_5 ?_
  refine lv_istore_n (lv' := [(3, .int ((x * 9) + y)), (0, .ref (a 0)), (1, .int x), (2, .int y)]) hx hb dX2_trait_6 rfl hl (by decide) rfl (fun ls hl => ?_)
  refine lv_iload_n hx hb dX2_trait_7 rfl (lv_at hl 0 rfl) ?_
  refine lv_if_lt (tgt := 29) hx hb dX2_trait_8 (by decide) (fun c_8 => ?_) (fun c_8 => ?_)
  · refine lv_iconst (v := 0) hx hb dX2_trait_29 (by decide) ?_
    exact W.iret (v := 0) hx hb hr (fun t ht _ => ⟨_, rfl, by first | rfl | (simp only [traitF, rd, if_pos c_8]; done) | (simp only [traitF, rd, if_pos c_8]; rfl) | (simp [traitF, rd, c_8]; done) | (simp [traitF, rd, c_8]; rfl), ht⟩) hnil dX2_trait_30
  · refine lv_iload_n hx hb dX2_trait_11 rfl (lv_at hl 0 rfl) ?_
    refine lv_aload_n hx hb dX2_trait_12 rfl (lv_at hl 1 rfl) ?_
    refine va_get (D := D) (ci := 2) (v := .ref (a 3)) (C := RX2) (T := TX2) (N := 8) hx hb hts (by decide +kernel) hown hK hP 0 rfl rfl 2 (by decide) (hts (.fieldLink RX2 18 "Warren$State" "traits" "[I") (by decide +kernel)) (fun _ h9 => h9) rfl dX2_trait_13 ?_
    refine va_alen (v := nI 90) hx hb hK hP 3 0 rfl rfl rfl dX2_trait_16 ?_
    refine lv_icmp_ge (tgt := 29) hx hb dX2_trait_17 (by decide) (fun c_17 => ?_) (fun c_17 => ?_)
    · refine lv_iconst (v := 0) hx hb dX2_trait_29 (by decide) ?_
      exact W.iret (v := 0) hx hb hr (fun t ht _ => ⟨_, rfl, by first | rfl | (simp only [traitF, rd, if_neg c_8, if_pos c_17]; done) | (simp only [traitF, rd, if_neg c_8, if_pos c_17]; rfl) | (simp [traitF, rd, c_8, c_17]; done) | (simp [traitF, rd, c_8, c_17]; rfl), ht⟩) hnil dX2_trait_30
    · refine lv_aload_n hx hb dX2_trait_20 rfl (lv_at hl 1 rfl) ?_
      refine va_get (D := D) (ci := 2) (v := .ref (a 3)) (C := RX2) (T := TX2) (N := 8) hx hb hts (by decide +kernel) hown hK hP 0 rfl rfl 2 (by decide) (hts (.fieldLink RX2 18 "Warren$State" "traits" "[I") (by decide +kernel)) (fun _ h9 => h9) rfl dX2_trait_21 ?_
      refine lv_iload_n hx hb dX2_trait_24 rfl (lv_at hl 0 rfl) ?_
      refine va_iald hx hb hK hP 3 0 rfl rfl (vin (by decide) (by assumption) (by assumption)) dX2_trait_25 ?_
      refine lv_goto (tgt := 30) hx hb dX2_trait_26 (by decide) ?_
      exact W.iret (v := ((s_tr σ) ((x * 9) + y).toNatClampNeg)) hx hb hr (fun t ht _ => ⟨_, rfl, by first | rfl | (simp only [traitF, rd, if_neg c_8, if_neg c_17]; done) | (simp only [traitF, rd, if_neg c_8, if_neg c_17]; rfl) | (simp [traitF, rd, c_8, c_17]; done) | (simp [traitF, rd, c_8, c_17]; rfl), ht⟩) hnil dX2_trait_30

set_option maxHeartbeats 4000000 in
set_option maxRecDepth 100000 in
theorem c_X2_stackOf (l : Launch) (D : va_G) (cI : ClassId) (a : Nat → Nat) (σ : SS) (x y : Int32) : Met l yX2_stackOf wsX2_stackOf ({ frames := 0, cells := 0, slots := 0, locals := 0 } : Room) (va_Pc [.ref (a 0), .int x, .int y] (preR D cI (sW cI a σ))) (vp_Si (fun r => r = stackF σ x y)) 0 0 (fun _ => False) := by
  refine Met.ofW (cc := cX2_stackOf) (maxL := 4) (ret := (some .int)) (by decide) rfl ?_
  intro p e s m args below meth c s₁ B hml hv
  obtain ⟨rfl, hP, hK, hE⟩ := hv
  have hx := B.exec
  have hb := B.bytes
  have hr := B.returns
  have hts := atoms_spec (ws := wsX2_stackOf) B.pre
  have hown : s.vm.findClass RX2 = some m.cls := findClass_of_methodNamed B.named
  have hlocks := B.notSynchronized
  have hl := lv_entry ([.ref (a 0), .int x, .int y]) (n := 4) (Nat.le_of_ble_eq_true rfl)
  rw [lg_entry_eq]
  generalize (lg_sl ([.ref (a 0), .int x, .int y]) ++ List.replicate (4 - (lg_sl ([.ref (a 0), .int x, .int y])).length) Slot.unset).toArray = ls at hl ⊢
  have hl : lv_has ls 4 [(0, .ref (a 0)), (1, .int x), (2, .int y)] := hl
  refine lv_iload_n hx hb dX2_stackOf_0 rfl (lv_at hl 1 rfl) ?_
  refine lv_iconst (v := 5) hx hb dX2_stackOf_1 (by decide) ?_
  refine lv_imul hx hb dX2_stackOf_2 ?_
  refine lv_iload_n hx hb dX2_stackOf_3 rfl (lv_at hl 2 rfl) ?_
  refine lv_iadd hx hb dX2_stackOf_4 ?_
  refine lv_istore_n (lv' := [(3, .int ((x * 5) + y)), (0, .ref (a 0)), (1, .int x), (2, .int y)]) hx hb dX2_stackOf_5 rfl hl (by decide) rfl (fun ls hl => ?_)
  refine lv_iload_n hx hb dX2_stackOf_6 rfl (lv_at hl 0 rfl) ?_
  refine lv_if_lt (tgt := 28) hx hb dX2_stackOf_7 (by decide) (fun c_7 => ?_) (fun c_7 => ?_)
  · refine lv_iconst (v := 0) hx hb dX2_stackOf_28 (by decide) ?_
    exact W.iret (v := 0) hx hb hr (fun t ht _ => ⟨_, rfl, by first | rfl | (simp only [stackF, rd, if_pos c_7]; done) | (simp only [stackF, rd, if_pos c_7]; rfl) | (simp [stackF, rd, c_7]; done) | (simp [stackF, rd, c_7]; rfl), ht⟩) hnil dX2_stackOf_29
  · refine lv_iload_n hx hb dX2_stackOf_10 rfl (lv_at hl 0 rfl) ?_
    refine lv_aload_n hx hb dX2_stackOf_11 rfl (lv_at hl 1 rfl) ?_
    refine va_get (D := D) (ci := 2) (v := .ref (a 4)) (C := RX2) (T := TX2) (N := 8) hx hb hts (by decide +kernel) hown hK hP 0 rfl rfl 3 (by decide) (hts (.fieldLink RX2 21 "Warren$State" "stacks" "[I") (by decide +kernel)) (fun _ h9 => h9) rfl dX2_stackOf_12 ?_
    refine va_alen (v := nI 50) hx hb hK hP 4 0 rfl rfl rfl dX2_stackOf_15 ?_
    refine lv_icmp_ge (tgt := 28) hx hb dX2_stackOf_16 (by decide) (fun c_16 => ?_) (fun c_16 => ?_)
    · refine lv_iconst (v := 0) hx hb dX2_stackOf_28 (by decide) ?_
      exact W.iret (v := 0) hx hb hr (fun t ht _ => ⟨_, rfl, by first | rfl | (simp only [stackF, rd, if_neg c_7, if_pos c_16]; done) | (simp only [stackF, rd, if_neg c_7, if_pos c_16]; rfl) | (simp [stackF, rd, c_7, c_16]; done) | (simp [stackF, rd, c_7, c_16]; rfl), ht⟩) hnil dX2_stackOf_29
    · refine lv_aload_n hx hb dX2_stackOf_19 rfl (lv_at hl 1 rfl) ?_
      refine va_get (D := D) (ci := 2) (v := .ref (a 4)) (C := RX2) (T := TX2) (N := 8) hx hb hts (by decide +kernel) hown hK hP 0 rfl rfl 3 (by decide) (hts (.fieldLink RX2 21 "Warren$State" "stacks" "[I") (by decide +kernel)) (fun _ h9 => h9) rfl dX2_stackOf_20 ?_
      refine lv_iload_n hx hb dX2_stackOf_23 rfl (lv_at hl 0 rfl) ?_
      refine va_iald hx hb hK hP 4 0 rfl rfl (vin (by decide) (by assumption) (by assumption)) dX2_stackOf_24 ?_
      refine lv_goto (tgt := 29) hx hb dX2_stackOf_25 (by decide) ?_
      exact W.iret (v := ((s_st σ) ((x * 5) + y).toNatClampNeg)) hx hb hr (fun t ht _ => ⟨_, rfl, by first | rfl | (simp only [stackF, rd, if_neg c_7, if_neg c_16]; done) | (simp only [stackF, rd, if_neg c_7, if_neg c_16]; rfl) | (simp [stackF, rd, c_7, c_16]; done) | (simp [stackF, rd, c_7, c_16]; rfl), ht⟩) hnil dX2_stackOf_29

set_option maxHeartbeats 4000000 in
set_option maxRecDepth 100000 in
theorem c_X2_turnsOf (l : Launch) (D : va_G) (cI : ClassId) (a : Nat → Nat) (σ : SS) (x y : Int32) : Met l yX2_turnsOf wsX2_turnsOf ({ frames := 0, cells := 0, slots := 0, locals := 0 } : Room) (va_Pc [.ref (a 0), .int x, .int y] (preR D cI (sW cI a σ))) (vp_Si (fun r => r = turnsF σ x y)) 0 0 (fun _ => False) := by
  refine Met.ofW (cc := cX2_turnsOf) (maxL := 4) (ret := (some .int)) (by decide) rfl ?_
  intro p e s m args below meth c s₁ B hml hv
  obtain ⟨rfl, hP, hK, hE⟩ := hv
  have hx := B.exec
  have hb := B.bytes
  have hr := B.returns
  have hts := atoms_spec (ws := wsX2_turnsOf) B.pre
  have hown : s.vm.findClass RX2 = some m.cls := findClass_of_methodNamed B.named
  have hlocks := B.notSynchronized
  have hl := lv_entry ([.ref (a 0), .int x, .int y]) (n := 4) (Nat.le_of_ble_eq_true rfl)
  rw [lg_entry_eq]
  generalize (lg_sl ([.ref (a 0), .int x, .int y]) ++ List.replicate (4 - (lg_sl ([.ref (a 0), .int x, .int y])).length) Slot.unset).toArray = ls at hl ⊢
  have hl : lv_has ls 4 [(0, .ref (a 0)), (1, .int x), (2, .int y)] := hl
  refine lv_iload_n hx hb dX2_turnsOf_0 rfl (lv_at hl 1 rfl) ?_
  refine lv_iconst (v := 5) hx hb dX2_turnsOf_1 (by decide) ?_
  refine lv_imul hx hb dX2_turnsOf_2 ?_
  refine lv_iload_n hx hb dX2_turnsOf_3 rfl (lv_at hl 2 rfl) ?_
  refine lv_iadd hx hb dX2_turnsOf_4 ?_
  refine lv_istore_n (lv' := [(3, .int ((x * 5) + y)), (0, .ref (a 0)), (1, .int x), (2, .int y)]) hx hb dX2_turnsOf_5 rfl hl (by decide) rfl (fun ls hl => ?_)
  refine lv_iload_n hx hb dX2_turnsOf_6 rfl (lv_at hl 0 rfl) ?_
  refine lv_if_lt (tgt := 28) hx hb dX2_turnsOf_7 (by decide) (fun c_7 => ?_) (fun c_7 => ?_)
  · refine lv_iconst (v := 0) hx hb dX2_turnsOf_28 (by decide) ?_
    exact W.iret (v := 0) hx hb hr (fun t ht _ => ⟨_, rfl, by first | rfl | (simp only [turnsF, rd, if_pos c_7]; done) | (simp only [turnsF, rd, if_pos c_7]; rfl) | (simp [turnsF, rd, c_7]; done) | (simp [turnsF, rd, c_7]; rfl), ht⟩) hnil dX2_turnsOf_29
  · refine lv_iload_n hx hb dX2_turnsOf_10 rfl (lv_at hl 0 rfl) ?_
    refine lv_aload_n hx hb dX2_turnsOf_11 rfl (lv_at hl 1 rfl) ?_
    refine va_get (D := D) (ci := 2) (v := .ref (a 5)) (C := RX2) (T := TX2) (N := 8) hx hb hts (by decide +kernel) hown hK hP 0 rfl rfl 4 (by decide) (hts (.fieldLink RX2 24 "Warren$State" "turns" "[I") (by decide +kernel)) (fun _ h9 => h9) rfl dX2_turnsOf_12 ?_
    refine va_alen (v := nI 50) hx hb hK hP 5 0 rfl rfl rfl dX2_turnsOf_15 ?_
    refine lv_icmp_ge (tgt := 28) hx hb dX2_turnsOf_16 (by decide) (fun c_16 => ?_) (fun c_16 => ?_)
    · refine lv_iconst (v := 0) hx hb dX2_turnsOf_28 (by decide) ?_
      exact W.iret (v := 0) hx hb hr (fun t ht _ => ⟨_, rfl, by first | rfl | (simp only [turnsF, rd, if_neg c_7, if_pos c_16]; done) | (simp only [turnsF, rd, if_neg c_7, if_pos c_16]; rfl) | (simp [turnsF, rd, c_7, c_16]; done) | (simp [turnsF, rd, c_7, c_16]; rfl), ht⟩) hnil dX2_turnsOf_29
    · refine lv_aload_n hx hb dX2_turnsOf_19 rfl (lv_at hl 1 rfl) ?_
      refine va_get (D := D) (ci := 2) (v := .ref (a 5)) (C := RX2) (T := TX2) (N := 8) hx hb hts (by decide +kernel) hown hK hP 0 rfl rfl 4 (by decide) (hts (.fieldLink RX2 24 "Warren$State" "turns" "[I") (by decide +kernel)) (fun _ h9 => h9) rfl dX2_turnsOf_20 ?_
      refine lv_iload_n hx hb dX2_turnsOf_23 rfl (lv_at hl 0 rfl) ?_
      refine va_iald hx hb hK hP 5 0 rfl rfl (vin (by decide) (by assumption) (by assumption)) dX2_turnsOf_24 ?_
      refine lv_goto (tgt := 29) hx hb dX2_turnsOf_25 (by decide) ?_
      exact W.iret (v := ((s_tu σ) ((x * 5) + y).toNatClampNeg)) hx hb hr (fun t ht _ => ⟨_, rfl, by first | rfl | (simp only [turnsF, rd, if_neg c_7, if_neg c_16]; done) | (simp only [turnsF, rd, if_neg c_7, if_neg c_16]; rfl) | (simp [turnsF, rd, c_7, c_16]; done) | (simp [turnsF, rd, c_7, c_16]; rfl), ht⟩) hnil dX2_turnsOf_29

set_option maxHeartbeats 4000000 in
set_option maxRecDepth 100000 in
theorem c_X2_isBeing (l : Launch) (D : va_G) (cI : ClassId) (a : Nat → Nat) (σ : SS) (x : Int32) : Met l yX2_isBeing wsX2_isBeing ({ frames := 0, cells := 0, slots := 0, locals := 0 } : Room) (va_Pc [.ref (a 0), .int x] (preR D cI (sW cI a σ))) (vp_Si (fun r => r = bi (beingB σ x))) 0 0 (fun _ => False) := by
  refine Met.ofW (cc := cX2_isBeing) (maxL := 2) (ret := (some .boolean)) (by decide) rfl ?_
  intro p e s m args below meth c s₁ B hml hv
  obtain ⟨rfl, hP, hK, hE⟩ := hv
  have hx := B.exec
  have hb := B.bytes
  have hr := B.returns
  have hts := atoms_spec (ws := wsX2_isBeing) B.pre
  have hown : s.vm.findClass RX2 = some m.cls := findClass_of_methodNamed B.named
  have hlocks := B.notSynchronized
  have hl := lv_entry ([.ref (a 0), .int x]) (n := 2) (Nat.le_of_ble_eq_true rfl)
  rw [lg_entry_eq]
  generalize (lg_sl ([.ref (a 0), .int x]) ++ List.replicate (2 - (lg_sl ([.ref (a 0), .int x])).length) Slot.unset).toArray = ls at hl ⊢
  have hl : lv_has ls 2 [(0, .ref (a 0)), (1, .int x)] := hl
  refine lv_iload_n hx hb dX2_isBeing_0 rfl (lv_at hl 1 rfl) ?_
  refine lv_if_lt (tgt := 16) hx hb dX2_isBeing_1 (by decide) (fun c_1 => ?_) (fun c_1 => ?_)
  · refine lv_iconst (v := 0) hx hb dX2_isBeing_16 (by decide) ?_
    exact W.zret (v := 0) hx hb hr rfl (fun t ht _ => ⟨_, rfl, by first | rfl | (simp only [beingB, if_pos c_1]; done) | (simp only [beingB, if_pos c_1]; rfl) | (simp [beingB, c_1]; done) | (simp [beingB, c_1]; rfl), ht⟩) hnil dX2_isBeing_17
  · refine lv_iload_n hx hb dX2_isBeing_4 rfl (lv_at hl 1 rfl) ?_
    refine lv_aload_n hx hb dX2_isBeing_5 rfl (lv_at hl 0 rfl) ?_
    refine va_get (D := D) (ci := 2) (v := .int (nI (s_n σ))) (C := RX2) (T := TX2) (N := 8) hx hb hts (by decide +kernel) hown hK hP 0 rfl rfl 5 (by decide) (hts (.fieldLink RX2 39 "Warren$State" "beings" "I") (by decide +kernel)) (fun _ h9 => h9) rfl dX2_isBeing_6 ?_
    refine lv_icmp_ge (tgt := 16) hx hb dX2_isBeing_9 (by decide) (fun c_9 => ?_) (fun c_9 => ?_)
    · refine lv_iconst (v := 0) hx hb dX2_isBeing_16 (by decide) ?_
      exact W.zret (v := 0) hx hb hr rfl (fun t ht _ => ⟨_, rfl, by first | rfl | (simp only [beingB, if_neg c_1, if_pos c_9]; done) | (simp only [beingB, if_neg c_1, if_pos c_9]; rfl) | (simp [beingB, c_1, c_9]; done) | (simp [beingB, c_1, c_9]; rfl), ht⟩) hnil dX2_isBeing_17
    · refine lv_iconst (v := 1) hx hb dX2_isBeing_12 (by decide) ?_
      refine lv_goto (tgt := 17) hx hb dX2_isBeing_13 (by decide) ?_
      exact W.zret (v := 1) hx hb hr rfl (fun t ht _ => ⟨_, rfl, by first | rfl | (simp only [beingB, if_neg c_1, if_neg c_9]; done) | (simp only [beingB, if_neg c_1, if_neg c_9]; rfl) | (simp [beingB, c_1, c_9]; done) | (simp [beingB, c_1, c_9]; rfl), ht⟩) hnil dX2_isBeing_17

set_option maxHeartbeats 4000000 in
set_option maxRecDepth 100000 in
theorem c_X2_hasRoom (l : Launch) (D : va_G) (cI : ClassId) (a : Nat → Nat) (σ : SS) : Met l yX2_hasRoom wsX2_hasRoom ({ frames := 0, cells := 0, slots := 0, locals := 0 } : Room) (va_Pc [.ref (a 0)] (preR D cI (sW cI a σ))) (vp_Si (fun r => r = bi (roomB σ))) 0 0 (fun _ => False) := by
  refine Met.ofW (cc := cX2_hasRoom) (maxL := 1) (ret := (some .boolean)) (by decide) rfl ?_
  intro p e s m args below meth c s₁ B hml hv
  obtain ⟨rfl, hP, hK, hE⟩ := hv
  have hx := B.exec
  have hb := B.bytes
  have hr := B.returns
  have hts := atoms_spec (ws := wsX2_hasRoom) B.pre
  have hown : s.vm.findClass RX2 = some m.cls := findClass_of_methodNamed B.named
  have hlocks := B.notSynchronized
  have hl := lv_entry ([.ref (a 0)]) (n := 1) (Nat.le_of_ble_eq_true rfl)
  rw [lg_entry_eq]
  generalize (lg_sl ([.ref (a 0)]) ++ List.replicate (1 - (lg_sl ([.ref (a 0)])).length) Slot.unset).toArray = ls at hl ⊢
  have hl : lv_has ls 1 [(0, .ref (a 0))] := hl
  refine lv_aload_n hx hb dX2_hasRoom_0 rfl (lv_at hl 0 rfl) ?_
  refine va_get (D := D) (ci := 2) (v := .int (nI (s_n σ))) (C := RX2) (T := TX2) (N := 8) hx hb hts (by decide +kernel) hown hK hP 0 rfl rfl 5 (by decide) (hts (.fieldLink RX2 39 "Warren$State" "beings" "I") (by decide +kernel)) (fun _ h9 => h9) rfl dX2_hasRoom_1 ?_
  refine lv_bipush (v := 10) hx hb dX2_hasRoom_4 (by decide) ?_
  refine lv_icmp_ge (tgt := 13) hx hb dX2_hasRoom_6 (by decide) (fun c_6 => ?_) (fun c_6 => ?_)
  · refine lv_iconst (v := 0) hx hb dX2_hasRoom_13 (by decide) ?_
    exact W.zret (v := 0) hx hb hr rfl (fun t ht _ => ⟨_, rfl, by first | rfl | (simp only [roomB, if_pos c_6]; done) | (simp only [roomB, if_pos c_6]; rfl) | (simp [roomB, c_6]; done) | (simp [roomB, c_6]; rfl), ht⟩) hnil dX2_hasRoom_14
  · refine lv_iconst (v := 1) hx hb dX2_hasRoom_9 (by decide) ?_
    refine lv_goto (tgt := 14) hx hb dX2_hasRoom_10 (by decide) ?_
    exact W.zret (v := 1) hx hb hr rfl (fun t ht _ => ⟨_, rfl, by first | rfl | (simp only [roomB, if_neg c_6]; done) | (simp only [roomB, if_neg c_6]; rfl) | (simp [roomB, c_6]; done) | (simp [roomB, c_6]; rfl), ht⟩) hnil dX2_hasRoom_14

set_option maxHeartbeats 4000000 in
set_option maxRecDepth 100000 in
theorem c_X2_isAlive (l : Launch) (D : va_G) (cI : ClassId) (a : Nat → Nat) (σ : SS) (x : Int32) : Met l yX2_isAlive wsX2_isAlive ({ frames := 1, cells := 0, slots := 0, locals := 23 } : Room) (va_Pc [.ref (a 0), .int x] (preR D cI (sW cI a σ))) (vp_Si (fun r => r = bi (aliveB σ x))) 0 0 (fun _ => False) := by
  refine Met.ofW (cc := cX2_isAlive) (maxL := 2) (ret := (some .boolean)) (by decide) rfl ?_
  intro p e s m args below meth c s₁ B hml hv
  obtain ⟨rfl, hP, hK, hE⟩ := hv
  have hx := B.exec
  have hb := B.bytes
  have hr := B.returns
  have hts := atoms_spec (ws := wsX2_isAlive) B.pre
  have hown : s.vm.findClass RX2 = some m.cls := findClass_of_methodNamed B.named
  have hlocks := B.notSynchronized
  have hl := lv_entry ([.ref (a 0), .int x]) (n := 2) (Nat.le_of_ble_eq_true rfl)
  rw [lg_entry_eq]
  generalize (lg_sl ([.ref (a 0), .int x]) ++ List.replicate (2 - (lg_sl ([.ref (a 0), .int x])).length) Slot.unset).toArray = ls at hl ⊢
  have hl : lv_has ls 2 [(0, .ref (a 0)), (1, .int x)] := hl
  refine lv_aload_n hx hb dX2_isAlive_0 rfl (lv_at hl 0 rfl) ?_
  refine lv_iload_n hx hb dX2_isAlive_1 rfl (lv_at hl 1 rfl) ?_
  refine lv_iconst (v := 2) hx hb dX2_isAlive_2 (by decide) ?_
  refine vp_callSi (va_Run.run (va_runV (As := [.int x, .int 2]) (rest := []) ⟨hx, hb, hml, hown, hts⟩ (c_X2_trait l D cI a σ x 2) (cwV 2 hts gX2_isAlive_X2_trait rfl rfl rfl (by decide +kernel) ⟨Nat.le_of_ble_eq_true rfl, Nat.le_of_ble_eq_true rfl⟩) ⟨preR_blind, va_recv hK hP (ci := 2) (q0 := 0) rfl rfl, preR_of hP hK hE [.ref (a 0), .int x, .int 2]⟩ rfl rfl hl.1 rfl (lv_room (Nat.le_of_ble_eq_true rfl)) dX2_isAlive_3 ⟨Nat.zero_le _, Nat.zero_le _⟩)) (fun r hr9 => ?_)
  subst hr9
  refine lv_if_le (tgt := 13) hx hb dX2_isAlive_6 (by decide) (fun c_6 => ?_) (fun c_6 => ?_)
  · refine lv_iconst (v := 0) hx hb dX2_isAlive_13 (by decide) ?_
    exact W.zret (v := 0) hx hb hr rfl (fun t ht _ => ⟨_, rfl, by first | rfl | (simp only [aliveB, if_pos c_6]; done) | (simp only [aliveB, if_pos c_6]; rfl) | (simp [aliveB, c_6]; done) | (simp [aliveB, c_6]; rfl), ht⟩) hnil dX2_isAlive_14
  · refine lv_iconst (v := 1) hx hb dX2_isAlive_9 (by decide) ?_
    refine lv_goto (tgt := 14) hx hb dX2_isAlive_10 (by decide) ?_
    exact W.zret (v := 1) hx hb hr rfl (fun t ht _ => ⟨_, rfl, by first | rfl | (simp only [aliveB, if_neg c_6]; done) | (simp only [aliveB, if_neg c_6]; rfl) | (simp [aliveB, c_6]; done) | (simp [aliveB, c_6]; rfl), ht⟩) hnil dX2_isAlive_14

set_option maxHeartbeats 4000000 in
set_option maxRecDepth 100000 in
theorem c_X2_isAfraid (l : Launch) (D : va_G) (cI : ClassId) (a : Nat → Nat) (σ : SS) (x : Int32) : Met l yX2_isAfraid wsX2_isAfraid ({ frames := 1, cells := 0, slots := 0, locals := 23 } : Room) (va_Pc [.ref (a 0), .int x] (preR D cI (sW cI a σ))) (vp_Si (fun r => r = bi (afraidB σ x))) 0 0 (fun _ => False) := by
  refine Met.ofW (cc := cX2_isAfraid) (maxL := 2) (ret := (some .boolean)) (by decide) rfl ?_
  intro p e s m args below meth c s₁ B hml hv
  obtain ⟨rfl, hP, hK, hE⟩ := hv
  have hx := B.exec
  have hb := B.bytes
  have hr := B.returns
  have hts := atoms_spec (ws := wsX2_isAfraid) B.pre
  have hown : s.vm.findClass RX2 = some m.cls := findClass_of_methodNamed B.named
  have hlocks := B.notSynchronized
  have hl := lv_entry ([.ref (a 0), .int x]) (n := 2) (Nat.le_of_ble_eq_true rfl)
  rw [lg_entry_eq]
  generalize (lg_sl ([.ref (a 0), .int x]) ++ List.replicate (2 - (lg_sl ([.ref (a 0), .int x])).length) Slot.unset).toArray = ls at hl ⊢
  have hl : lv_has ls 2 [(0, .ref (a 0)), (1, .int x)] := hl
  refine lv_iconst (v := 3) hx hb dX2_isAfraid_0 (by decide) ?_
  refine lv_aload_n hx hb dX2_isAfraid_1 rfl (lv_at hl 0 rfl) ?_
  refine lv_iload_n hx hb dX2_isAfraid_2 rfl (lv_at hl 1 rfl) ?_
  refine lv_iconst (v := 2) hx hb dX2_isAfraid_3 (by decide) ?_
  refine vp_callSi (va_Run.run (va_runV (As := [.int x, .int 2]) (rest := [.int 3]) ⟨hx, hb, hml, hown, hts⟩ (c_X2_trait l D cI a σ x 2) (cwV 2 hts gX2_isAfraid_X2_trait rfl rfl rfl (by decide +kernel) ⟨Nat.le_of_ble_eq_true rfl, Nat.le_of_ble_eq_true rfl⟩) ⟨preR_blind, va_recv hK hP (ci := 2) (q0 := 0) rfl rfl, preR_of hP hK hE [.ref (a 0), .int x, .int 2]⟩ rfl rfl hl.1 rfl (lv_room (Nat.le_of_ble_eq_true rfl)) dX2_isAfraid_4 ⟨Nat.zero_le _, Nat.zero_le _⟩)) (fun r hr9 => ?_)
  subst hr9
  refine lv_imul hx hb dX2_isAfraid_7 ?_
  refine lv_aload_n hx hb dX2_isAfraid_8 rfl (lv_at hl 0 rfl) ?_
  refine lv_iload_n hx hb dX2_isAfraid_9 rfl (lv_at hl 1 rfl) ?_
  refine lv_iconst (v := 3) hx hb dX2_isAfraid_10 (by decide) ?_
  refine vp_callSi (va_Run.run (va_runV (As := [.int x, .int 3]) (rest := [.int (3 * (traitF σ x 2))]) ⟨hx, hb, hml, hown, hts⟩ (c_X2_trait l D cI a σ x 3) (cwV 2 hts gX2_isAfraid_X2_trait rfl rfl rfl (by decide +kernel) ⟨Nat.le_of_ble_eq_true rfl, Nat.le_of_ble_eq_true rfl⟩) ⟨preR_blind, va_recv hK hP (ci := 2) (q0 := 0) rfl rfl, preR_of hP hK hE [.ref (a 0), .int x, .int 3]⟩ rfl rfl hl.1 rfl (lv_room (Nat.le_of_ble_eq_true rfl)) dX2_isAfraid_11 ⟨Nat.zero_le _, Nat.zero_le _⟩)) (fun r hr9 => ?_)
  subst hr9
  refine lv_icmp_ge (tgt := 21) hx hb dX2_isAfraid_14 (by decide) (fun c_14 => ?_) (fun c_14 => ?_)
  · refine lv_iconst (v := 0) hx hb dX2_isAfraid_21 (by decide) ?_
    exact W.zret (v := 0) hx hb hr rfl (fun t ht _ => ⟨_, rfl, by first | rfl | (simp only [afraidB, if_pos c_14]; done) | (simp only [afraidB, if_pos c_14]; rfl) | (simp [afraidB, c_14]; done) | (simp [afraidB, c_14]; rfl), ht⟩) hnil dX2_isAfraid_22
  · refine lv_iconst (v := 1) hx hb dX2_isAfraid_17 (by decide) ?_
    refine lv_goto (tgt := 22) hx hb dX2_isAfraid_18 (by decide) ?_
    exact W.zret (v := 1) hx hb hr rfl (fun t ht _ => ⟨_, rfl, by first | rfl | (simp only [afraidB, if_neg c_14]; done) | (simp only [afraidB, if_neg c_14]; rfl) | (simp [afraidB, c_14]; done) | (simp [afraidB, c_14]; rfl), ht⟩) hnil dX2_isAfraid_22

set_option maxHeartbeats 4000000 in
set_option maxRecDepth 100000 in
theorem c_X2_whoIsOn (l : Launch) (D : va_G) (cI : ClassId) (a : Nat → Nat) (σ : SS) (x : Int32) (hn : s_n σ ≤ 10) : Met l yX2_whoIsOn wsX2_whoIsOn ({ frames := 1, cells := 0, slots := 0, locals := 23 } : Room) (va_Pc [.ref (a 0), .int x] (preR D cI (sW cI a σ))) (vp_Si (fun r => r = onF σ x)) 0 0 (fun _ => False) := by
  refine Met.ofW (cc := cX2_whoIsOn) (maxL := 3) (ret := (some .int)) (by decide) rfl ?_
  intro p e s m args below meth c s₁ B hml hv
  obtain ⟨rfl, hP, hK, hE⟩ := hv
  have hx := B.exec
  have hb := B.bytes
  have hr := B.returns
  have hts := atoms_spec (ws := wsX2_whoIsOn) B.pre
  have hown : s.vm.findClass RX2 = some m.cls := findClass_of_methodNamed B.named
  have hlocks := B.notSynchronized
  have hl := lv_entry ([.ref (a 0), .int x]) (n := 3) (Nat.le_of_ble_eq_true rfl)
  rw [lg_entry_eq]
  generalize (lg_sl ([.ref (a 0), .int x]) ++ List.replicate (3 - (lg_sl ([.ref (a 0), .int x])).length) Slot.unset).toArray = ls at hl ⊢
  have hl : lv_has ls 3 [(0, .ref (a 0)), (1, .int x)] := hl
  refine lv_iconst (v := 0) hx hb dX2_whoIsOn_0 (by decide) ?_
  refine lv_istore_n (lv' := [(2, .int 0), (0, .ref (a 0)), (1, .int x)]) hx hb dX2_whoIsOn_1 rfl hl (by decide) rfl (fun ls hl => ?_)
  have L2 : ∀ (n k : Nat) (hk : k + n = s_n σ) (hsp : onF σ x = fstI (fun j => decide (traitF σ (nI j) 1 = x)) n k) (ls : Array Slot), lv_has ls 3 [(2, .int (nI k)), (0, .ref (a 0)), (1, .int x)] → W p l e ({ frames := 1, cells := 0, slots := 0, locals := 23 } : Room) s m ([.ref (a 0), .int x] : List Value).toArray below meth c s.heap [] 0 0 (MQ below (vp_Si (fun r => r = onF σ x)) ([.ref (a 0), .int x] : List Value).toArray s 0 0 (fun _ => False)) (F0 m 2 ls []) := by
    intro n
    induction n with
    | zero =>
      intro k hk hsp ls hl
      refine lv_iload_n hx hb dX2_whoIsOn_2 rfl (lv_at hl 0 rfl) ?_
      refine lv_aload_n hx hb dX2_whoIsOn_3 rfl (lv_at hl 1 rfl) ?_
      refine va_get (D := D) (ci := 2) (v := .int (nI (s_n σ))) (C := RX2) (T := TX2) (N := 8) hx hb hts (by decide +kernel) hown hK hP 0 rfl rfl 5 (by decide) (hts (.fieldLink RX2 39 "Warren$State" "beings" "I") (by decide +kernel)) (fun _ h9 => h9) rfl dX2_whoIsOn_4 ?_
      refine lv_icmp_ge (tgt := 28) hx hb dX2_whoIsOn_7 (by decide) (fun c_7 => ?_) (fun c_7 => absurd (nI_le (by omega) (by omega)) c_7)
      refine lv_iconst (v := (-1)) hx hb dX2_whoIsOn_28 (by decide) ?_
      exact W.iret (v := (-1)) hx hb hr (fun t ht _ => ⟨_, rfl, by rw [hsp]; rfl, ht⟩) hnil dX2_whoIsOn_29
    | succ n ih2 =>
      intro k hk hsp ls hl
      refine lv_iload_n hx hb dX2_whoIsOn_2 rfl (lv_at hl 0 rfl) ?_
      refine lv_aload_n hx hb dX2_whoIsOn_3 rfl (lv_at hl 1 rfl) ?_
      refine va_get (D := D) (ci := 2) (v := .int (nI (s_n σ))) (C := RX2) (T := TX2) (N := 8) hx hb hts (by decide +kernel) hown hK hP 0 rfl rfl 5 (by decide) (hts (.fieldLink RX2 39 "Warren$State" "beings" "I") (by decide +kernel)) (fun _ h9 => h9) rfl dX2_whoIsOn_4 ?_
      refine lv_icmp_ge (tgt := 28) hx hb dX2_whoIsOn_7 (by decide) (fun c_7 => absurd c_7 (nI_ge (by omega) (by omega))) (fun c_7 => ?_)
      refine lv_aload_n hx hb dX2_whoIsOn_10 rfl (lv_at hl 1 rfl) ?_
      refine lv_iload_n hx hb dX2_whoIsOn_11 rfl (lv_at hl 0 rfl) ?_
      refine lv_iconst (v := 1) hx hb dX2_whoIsOn_12 (by decide) ?_
      refine vp_callSi (va_Run.run (va_runV (As := [.int (nI k), .int 1]) (rest := []) ⟨hx, hb, hml, hown, hts⟩ (c_X2_trait l D cI a σ (nI k) 1) (cwV 2 hts gX2_whoIsOn_X2_trait rfl rfl rfl (by decide +kernel) ⟨Nat.le_of_ble_eq_true rfl, Nat.le_of_ble_eq_true rfl⟩) ⟨preR_blind, va_recv hK hP (ci := 2) (q0 := 0) rfl rfl, preR_of hP hK hE [.ref (a 0), .int (nI k), .int 1]⟩ rfl rfl hl.1 rfl (lv_room (Nat.le_of_ble_eq_true rfl)) dX2_whoIsOn_13 ⟨Nat.zero_le _, Nat.zero_le _⟩)) (fun r hr9 => ?_)
      subst hr9
      refine lv_iload_n hx hb dX2_whoIsOn_16 rfl (lv_at hl 2 rfl) ?_
      refine lv_icmp_ne (tgt := 22) hx hb dX2_whoIsOn_17 (by decide) (fun c_17 => ?_) (fun c_17 => ?_)
      · refine lv_iinc (v := (nI (k + 1))) (lv' := [(2, .int (nI (k + 1))), (0, .ref (a 0)), (1, .int x)]) hx hb dX2_whoIsOn_22 hl (k := 0) rfl (nI_1 k) (by decide) rfl (fun ls hl => ?_)
        refine lv_goto (tgt := 2) hx hb dX2_whoIsOn_25 (by decide) ?_
        exact ih2 (k + 1) (by omega) (by rw [hsp]; simp [fstI, c_17]) ls (lv_sub hl [0, 1, 2] rfl)
      · refine lv_iload_n hx hb dX2_whoIsOn_20 rfl (lv_at hl 0 rfl) ?_
        exact W.iret (v := (nI k)) hx hb hr (fun t ht _ => ⟨_, rfl, by rw [hsp]; simp [fstI, c_17], ht⟩) hnil dX2_whoIsOn_21
  exact L2 (s_n σ) 0 (by omega) rfl ls (lv_sub hl [0, 1, 2] rfl)

