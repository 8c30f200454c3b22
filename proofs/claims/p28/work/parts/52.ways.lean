-- ===== the ways =====
set_option maxHeartbeats 4000000 in
set_option maxRecDepth 100000 in
theorem c_X3_lengthAt (l : Launch) (D : va_G) (cI : ClassId) (b : Nat → Nat) (ψ : YS) (x : Int32) : Met l yX3_lengthAt wsX3_lengthAt ({ frames := 0, cells := 0, slots := 0, locals := 0 } : Room) (va_Pc [.ref (b 0), .int x] (preR D cI (yW cI b ψ))) (vp_Si (fun r => r = lenF ψ x)) 0 0 (fun _ => False) := by
  refine Met.ofW (cc := cX3_lengthAt) (maxL := 2) (ret := (some .int)) (by decide) rfl ?_
  intro p e s m args below meth c s₁ B hml hv
  obtain ⟨rfl, hP, hK, hE⟩ := hv
  have hx := B.exec
  have hb := B.bytes
  have hr := B.returns
  have hts := atoms_spec (ws := wsX3_lengthAt) B.pre
  have hown : s.vm.findClass RX3 = some m.cls := findClass_of_methodNamed B.named
  have hlocks := B.notSynchronized
  have hl := lv_entry ([.ref (b 0), .int x]) (n := 2) (Nat.le_of_ble_eq_true rfl)
  rw [lg_entry_eq]
  generalize (lg_sl ([.ref (b 0), .int x]) ++ List.replicate (2 - (lg_sl ([.ref (b 0), .int x])).length) Slot.unset).toArray = ls at hl ⊢
  have hl : lv_has ls 2 [(0, .ref (b 0)), (1, .int x)] := hl
  refine lv_iload_n hx hb dX3_lengthAt_0 rfl (lv_at hl 1 rfl) ?_
  refine lv_if_lt (tgt := 22) hx hb dX3_lengthAt_1 (by decide) (fun c_1 => ?_) (fun c_1 => ?_)
  · refine lv_bipush (v := (-2)) hx hb dX3_lengthAt_22 (by decide) ?_
    exact W.iret (v := (-2)) hx hb hr (fun T9 ht _ => ⟨_, rfl, by first | rfl | (simp only [lenF, rd, if_pos c_1]; done) | (simp only [lenF, rd, if_pos c_1]; rfl) | (simp [lenF, rd, c_1]; done) | (simp [lenF, rd, c_1]; rfl), ht⟩) hnil dX3_lengthAt_24
  · refine lv_iload_n hx hb dX3_lengthAt_4 rfl (lv_at hl 1 rfl) ?_
    refine lv_aload_n hx hb dX3_lengthAt_5 rfl (lv_at hl 0 rfl) ?_
    refine va_get (D := D) (ci := 3) (v := .ref (b 1)) (C := RX3) (T := TX3) (N := 3) hx hb hts (by decide +kernel) hown hK hP 0 rfl rfl 0 (by decide) (hts (.fieldLink RX3 9 "Warren$Ways" "lengths" "[I") (by decide +kernel)) (fun _ h9 => h9) rfl dX3_lengthAt_6 ?_
    refine va_alen (v := nI 160) hx hb hK hP 1 0 rfl rfl rfl dX3_lengthAt_9 ?_
    refine lv_icmp_ge (tgt := 22) hx hb dX3_lengthAt_10 (by decide) (fun c_10 => ?_) (fun c_10 => ?_)
    · refine lv_bipush (v := (-2)) hx hb dX3_lengthAt_22 (by decide) ?_
      exact W.iret (v := (-2)) hx hb hr (fun T9 ht _ => ⟨_, rfl, by first | rfl | (simp only [lenF, rd, if_neg c_1, if_pos c_10]; done) | (simp only [lenF, rd, if_neg c_1, if_pos c_10]; rfl) | (simp [lenF, rd, c_1, c_10]; done) | (simp [lenF, rd, c_1, c_10]; rfl), ht⟩) hnil dX3_lengthAt_24
    · refine lv_aload_n hx hb dX3_lengthAt_13 rfl (lv_at hl 0 rfl) ?_
      refine va_get (D := D) (ci := 3) (v := .ref (b 1)) (C := RX3) (T := TX3) (N := 3) hx hb hts (by decide +kernel) hown hK hP 0 rfl rfl 0 (by decide) (hts (.fieldLink RX3 9 "Warren$Ways" "lengths" "[I") (by decide +kernel)) (fun _ h9 => h9) rfl dX3_lengthAt_14 ?_
      refine lv_iload_n hx hb dX3_lengthAt_17 rfl (lv_at hl 1 rfl) ?_
      refine va_iald hx hb hK hP 1 0 rfl rfl (vin (by decide) (by assumption) (by assumption)) dX3_lengthAt_18 ?_
      refine lv_goto (tgt := 24) hx hb dX3_lengthAt_19 (by decide) ?_
      exact W.iret (v := ((ψ.1) x.toNatClampNeg)) hx hb hr (fun T9 ht _ => ⟨_, rfl, by first | rfl | (simp only [lenF, rd, if_neg c_1, if_neg c_10]; done) | (simp only [lenF, rd, if_neg c_1, if_neg c_10]; rfl) | (simp [lenF, rd, c_1, c_10]; done) | (simp [lenF, rd, c_1, c_10]; rfl), ht⟩) hnil dX3_lengthAt_24
set_option maxHeartbeats 4000000 in
set_option maxRecDepth 100000 in
theorem c_X3_putLength (l : Launch) (D : va_G) (cI : ClassId) (sz : Nat) (b : Nat → Nat) (ψ : YS) (x y : Int32) : Met l yX3_putLength wsX3_putLength ({ frames := 0, cells := 0, slots := 0, locals := 0 } : Room) (va_Pc [.ref (b 0), .int x, .int y] (preM D cI (yW cI b ψ) sz)) (va_Qv (fun (u : YS) => u = putLenF ψ x y) (fun (u : YS) => posM D cI (va_A (yW cI b ψ) sz) (yW cI b u)) (va_A (yW cI b ψ) sz)) 0 0 (va_A (yW cI b ψ) sz) := by
  refine Met.ofW (cc := cX3_putLength) (maxL := 3) (ret := none) (by decide) rfl ?_
  intro p e s m args below meth c s₁ B hml hv
  obtain ⟨rfl, hsz, hP, hK, hE, hD0⟩ := hv
  have hx := B.exec
  have hb := B.bytes
  have hr := B.returns
  have hts := atoms_spec (ws := wsX3_putLength) B.pre
  have hown : s.vm.findClass RX3 = some m.cls := findClass_of_methodNamed B.named
  have hlocks := B.notSynchronized
  subst hsz
  have hD := hD0.self (sz := s.heap.size)
  generalize hAe : va_A (yW cI b ψ) s.heap.size = A at hD ⊢
  have hA : ∀ q : Nat, s.heap.size ≤ q → A q := fun q h => by rw [← hAe]; exact Or.inr h
  have hS : va_S A s.heap s.heap [] := va_S.rf
  have hP : va_P D vwCl (yW cI b ψ) s.heap := hP
  have hl := lv_entry ([.ref (b 0), .int x, .int y]) (n := 3) (Nat.le_of_ble_eq_true rfl)
  rw [lg_entry_eq]
  generalize (lg_sl ([.ref (b 0), .int x, .int y]) ++ List.replicate (3 - (lg_sl ([.ref (b 0), .int x, .int y])).length) Slot.unset).toArray = ls at hl ⊢
  have hl : lv_has ls 3 [(0, .ref (b 0)), (1, .int x), (2, .int y)] := hl
  refine lv_iload_n hx hb dX3_putLength_0 rfl (lv_at hl 1 rfl) ?_
  refine lv_if_lt (tgt := 20) hx hb dX3_putLength_1 (by decide) (fun c_1 => ?_) (fun c_1 => ?_)
  · have hP9 := hP
    have hD9 := hD
    exact W.vret hx hb hr (fun T9 ht hW => ⟨⟨ψ, rfl, by first | rfl | (simp only [putLenF, wr, if_pos c_1]; done) | (simp only [putLenF, wr, if_pos c_1]; rfl) | (simp [putLenF, wr, c_1]; done) | (simp [putLenF, wr, c_1]; rfl), by rw [ht]; exact hP9, va_K.moved hW.alike hK, hD9⟩, hS.F ht⟩) hS.2.2 dX3_putLength_20
  · refine lv_iload_n hx hb dX3_putLength_4 rfl (lv_at hl 1 rfl) ?_
    refine lv_aload_n hx hb dX3_putLength_5 rfl (lv_at hl 0 rfl) ?_
    refine va_get (D := D) (ci := 3) (v := .ref (b 1)) (C := RX3) (T := TX3) (N := 3) hx hb hts (by decide +kernel) hown hK hP 0 rfl rfl 0 (by decide) (hts (.fieldLink RX3 9 "Warren$Ways" "lengths" "[I") (by decide +kernel)) (fun _ h9 => h9) rfl dX3_putLength_6 ?_
    refine va_alen (v := nI 160) hx hb hK hP 1 0 rfl rfl rfl dX3_putLength_9 ?_
    refine lv_icmp_ge (tgt := 20) hx hb dX3_putLength_10 (by decide) (fun c_10 => ?_) (fun c_10 => ?_)
    · have hP9 := hP
      have hD9 := hD
      exact W.vret hx hb hr (fun T9 ht hW => ⟨⟨ψ, rfl, by first | rfl | (simp only [putLenF, wr, if_neg c_1, if_pos c_10]; done) | (simp only [putLenF, wr, if_neg c_1, if_pos c_10]; rfl) | (simp [putLenF, wr, c_1, c_10]; done) | (simp [putLenF, wr, c_1, c_10]; rfl), by rw [ht]; exact hP9, va_K.moved hW.alike hK, hD9⟩, hS.F ht⟩) hS.2.2 dX3_putLength_20
    · refine lv_aload_n hx hb dX3_putLength_13 rfl (lv_at hl 0 rfl) ?_
      refine va_get (D := D) (ci := 3) (v := .ref (b 1)) (C := RX3) (T := TX3) (N := 3) hx hb hts (by decide +kernel) hown hK hP 0 rfl rfl 0 (by decide) (hts (.fieldLink RX3 9 "Warren$Ways" "lengths" "[I") (by decide +kernel)) (fun _ h9 => h9) rfl dX3_putLength_14 ?_
      refine lv_iload_n hx hb dX3_putLength_17 rfl (lv_at hl 1 rfl) ?_
      refine lv_iload_n hx hb dX3_putLength_18 rfl (lv_at hl 2 rfl) ?_
      refine va_iast hx hb hK hP hD hS 1 0 rfl rfl (vin (by decide) (by assumption) (by assumption)) dX3_putLength_19 (fun H locs hP hD hS => ?_)
      have hP : va_P D vwCl (yW cI b ((upd (ψ.1) x.toNatClampNeg y), ψ.2)) H := hP
      have hD : va_D A (yW cI b ((upd (ψ.1) x.toNatClampNeg y), ψ.2)) := hD
      have hP9 := hP
      have hD9 := hD
      exact W.vret hx hb hr (fun T9 ht hW => ⟨⟨((upd (ψ.1) x.toNatClampNeg y), ψ.2), rfl, by first | rfl | (simp only [putLenF, wr, if_neg c_1, if_neg c_10]; done) | (simp only [putLenF, wr, if_neg c_1, if_neg c_10]; rfl) | (simp [putLenF, wr, c_1, c_10]; done) | (simp [putLenF, wr, c_1, c_10]; rfl), by rw [ht]; exact hP9, va_K.moved hW.alike hK, hD9⟩, hS.F ht⟩) hS.2.2 dX3_putLength_20
set_option maxHeartbeats 4000000 in
set_option maxRecDepth 100000 in
theorem c_X3_enqueue (l : Launch) (D : va_G) (cI : ClassId) (sz : Nat) (b : Nat → Nat) (ψ : YS) (x : Int32) : Met l yX3_enqueue wsX3_enqueue ({ frames := 0, cells := 0, slots := 0, locals := 0 } : Room) (va_Pc [.ref (b 0), .int x] (preM D cI (yW cI b ψ) sz)) (va_Qv (fun (u : YS) => u = enqF ψ x) (fun (u : YS) => posM D cI (va_A (yW cI b ψ) sz) (yW cI b u)) (va_A (yW cI b ψ) sz)) 0 0 (va_A (yW cI b ψ) sz) := by
  refine Met.ofW (cc := cX3_enqueue) (maxL := 2) (ret := none) (by decide) rfl ?_
  intro p e s m args below meth c s₁ B hml hv
  obtain ⟨rfl, hsz, hP, hK, hE, hD0⟩ := hv
  have hx := B.exec
  have hb := B.bytes
  have hr := B.returns
  have hts := atoms_spec (ws := wsX3_enqueue) B.pre
  have hown : s.vm.findClass RX3 = some m.cls := findClass_of_methodNamed B.named
  have hlocks := B.notSynchronized
  subst hsz
  have hD := hD0.self (sz := s.heap.size)
  generalize hAe : va_A (yW cI b ψ) s.heap.size = A at hD ⊢
  have hA : ∀ q : Nat, s.heap.size ≤ q → A q := fun q h => by rw [← hAe]; exact Or.inr h
  have hS : va_S A s.heap s.heap [] := va_S.rf
  have hP : va_P D vwCl (yW cI b ψ) s.heap := hP
  have hl := lv_entry ([.ref (b 0), .int x]) (n := 2) (Nat.le_of_ble_eq_true rfl)
  rw [lg_entry_eq]
  generalize (lg_sl ([.ref (b 0), .int x]) ++ List.replicate (2 - (lg_sl ([.ref (b 0), .int x])).length) Slot.unset).toArray = ls at hl ⊢
  have hl : lv_has ls 2 [(0, .ref (b 0)), (1, .int x)] := hl
  refine lv_aload_n hx hb dX3_enqueue_0 rfl (lv_at hl 0 rfl) ?_
  refine va_get (D := D) (ci := 3) (v := .int (ψ.2.2)) (C := RX3) (T := TX3) (N := 3) hx hb hts (by decide +kernel) hown hK hP 0 rfl rfl 2 (by decide) (hts (.fieldLink RX3 24 "Warren$Ways" "queued" "I") (by decide +kernel)) (fun _ h9 => h9) rfl dX3_enqueue_1 ?_
  refine lv_if_lt (tgt := 39) hx hb dX3_enqueue_4 (by decide) (fun c_4 => ?_) (fun c_4 => ?_)
  · have hP9 := hP
    have hD9 := hD
    exact W.vret hx hb hr (fun T9 ht hW => ⟨⟨ψ, rfl, by first | rfl | (simp only [enqF, if_pos c_4]; done) | (simp only [enqF, if_pos c_4]; rfl) | (simp [enqF, c_4]; done) | (simp [enqF, c_4]; rfl), by rw [ht]; exact hP9, va_K.moved hW.alike hK, hD9⟩, hS.F ht⟩) hS.2.2 dX3_enqueue_39
  · refine lv_aload_n hx hb dX3_enqueue_7 rfl (lv_at hl 0 rfl) ?_
    refine va_get (D := D) (ci := 3) (v := .int (ψ.2.2)) (C := RX3) (T := TX3) (N := 3) hx hb hts (by decide +kernel) hown hK hP 0 rfl rfl 2 (by decide) (hts (.fieldLink RX3 24 "Warren$Ways" "queued" "I") (by decide +kernel)) (fun _ h9 => h9) rfl dX3_enqueue_8 ?_
    refine lv_aload_n hx hb dX3_enqueue_11 rfl (lv_at hl 0 rfl) ?_
    refine va_get (D := D) (ci := 3) (v := .ref (b 2)) (C := RX3) (T := TX3) (N := 3) hx hb hts (by decide +kernel) hown hK hP 0 rfl rfl 1 (by decide) (hts (.fieldLink RX3 15 "Warren$Ways" "queue" "[I") (by decide +kernel)) (fun _ h9 => h9) rfl dX3_enqueue_12 ?_
    refine va_alen (v := nI 320) hx hb hK hP 2 0 rfl rfl rfl dX3_enqueue_15 ?_
    refine lv_icmp_ge (tgt := 39) hx hb dX3_enqueue_16 (by decide) (fun c_16 => ?_) (fun c_16 => ?_)
    · have hP9 := hP
      have hD9 := hD
      exact W.vret hx hb hr (fun T9 ht hW => ⟨⟨ψ, rfl, by first | rfl | (simp only [enqF, if_neg c_4, if_pos c_16]; done) | (simp only [enqF, if_neg c_4, if_pos c_16]; rfl) | (simp [enqF, c_4, c_16]; done) | (simp [enqF, c_4, c_16]; rfl), by rw [ht]; exact hP9, va_K.moved hW.alike hK, hD9⟩, hS.F ht⟩) hS.2.2 dX3_enqueue_39
    · refine lv_aload_n hx hb dX3_enqueue_19 rfl (lv_at hl 0 rfl) ?_
      refine va_get (D := D) (ci := 3) (v := .ref (b 2)) (C := RX3) (T := TX3) (N := 3) hx hb hts (by decide +kernel) hown hK hP 0 rfl rfl 1 (by decide) (hts (.fieldLink RX3 15 "Warren$Ways" "queue" "[I") (by decide +kernel)) (fun _ h9 => h9) rfl dX3_enqueue_20 ?_
      refine lv_aload_n hx hb dX3_enqueue_23 rfl (lv_at hl 0 rfl) ?_
      refine va_get (D := D) (ci := 3) (v := .int (ψ.2.2)) (C := RX3) (T := TX3) (N := 3) hx hb hts (by decide +kernel) hown hK hP 0 rfl rfl 2 (by decide) (hts (.fieldLink RX3 24 "Warren$Ways" "queued" "I") (by decide +kernel)) (fun _ h9 => h9) rfl dX3_enqueue_24 ?_
      refine lv_iload_n hx hb dX3_enqueue_27 rfl (lv_at hl 1 rfl) ?_
      refine va_iast hx hb hK hP hD hS 2 0 rfl rfl (vin (by decide) (by assumption) (by assumption)) dX3_enqueue_28 (fun H locs hP hD hS => ?_)
      have hP : va_P D vwCl (yW cI b (ψ.1, (upd (ψ.2.1) (ψ.2.2).toNatClampNeg x), ψ.2.2)) H := hP
      have hD : va_D A (yW cI b (ψ.1, (upd (ψ.2.1) (ψ.2.2).toNatClampNeg x), ψ.2.2)) := hD
      refine lv_aload_n hx hb dX3_enqueue_29 rfl (lv_at hl 0 rfl) ?_
      refine lv_dup hx hb dX3_enqueue_30 rfl ?_
      refine va_get (D := D) (ci := 3) (v := .int ((ψ.1, (upd (ψ.2.1) (ψ.2.2).toNatClampNeg x), ψ.2.2).2.2)) (C := RX3) (T := TX3) (N := 3) hx hb hts (by decide +kernel) hown hK hP 0 rfl rfl 2 (by decide) (hts (.fieldLink RX3 24 "Warren$Ways" "queued" "I") (by decide +kernel)) (fun _ h9 => h9) rfl dX3_enqueue_31 ?_
      refine lv_iconst (v := 1) hx hb dX3_enqueue_34 (by decide) ?_
      refine lv_iadd hx hb dX3_enqueue_35 ?_
      refine va_put (D := D) (ci := 3) (v := .int (((ψ.1, (upd (ψ.2.1) (ψ.2.2).toNatClampNeg x), ψ.2.2).2.2) + 1)) (ty := .int) (C := RX3) (T := TX3) (N := 3) hx hb hts (by decide +kernel) tyX3 tyX3_ok nmX3 hown hK hP hD hS 0 rfl rfl 2 (by decide) (hts (.fieldLink RX3 24 "Warren$Ways" "queued" "I") (by decide +kernel)) (fun _ h9 => h9) rfl (by decide +kernel) rfl rfl (Nat.le_of_ble_eq_true rfl) dX3_enqueue_36 (fun H locs hP hD hS => ?_)
      have hP : va_P D vwCl (yW cI b ((ψ.1, (upd (ψ.2.1) (ψ.2.2).toNatClampNeg x), ψ.2.2).1, (ψ.1, (upd (ψ.2.1) (ψ.2.2).toNatClampNeg x), ψ.2.2).2.1, (((ψ.1, (upd (ψ.2.1) (ψ.2.2).toNatClampNeg x), ψ.2.2).2.2) + 1))) H := hP
      have hD : va_D A (yW cI b ((ψ.1, (upd (ψ.2.1) (ψ.2.2).toNatClampNeg x), ψ.2.2).1, (ψ.1, (upd (ψ.2.1) (ψ.2.2).toNatClampNeg x), ψ.2.2).2.1, (((ψ.1, (upd (ψ.2.1) (ψ.2.2).toNatClampNeg x), ψ.2.2).2.2) + 1))) := hD
      have hP9 := hP
      have hD9 := hD
      exact W.vret hx hb hr (fun T9 ht hW => ⟨⟨((ψ.1, (upd (ψ.2.1) (ψ.2.2).toNatClampNeg x), ψ.2.2).1, (ψ.1, (upd (ψ.2.1) (ψ.2.2).toNatClampNeg x), ψ.2.2).2.1, (((ψ.1, (upd (ψ.2.1) (ψ.2.2).toNatClampNeg x), ψ.2.2).2.2) + 1)), rfl, by first | rfl | (simp only [enqF, if_neg c_4, if_neg c_16]; done) | (simp only [enqF, if_neg c_4, if_neg c_16]; rfl) | (simp [enqF, c_4, c_16]; done) | (simp [enqF, c_4, c_16]; rfl), by rw [ht]; exact hP9, va_K.moved hW.alike hK, hD9⟩, hS.F ht⟩) hS.2.2 dX3_enqueue_39
set_option maxHeartbeats 4000000 in
set_option maxRecDepth 100000 in
theorem c_X3_from (l : Launch) (D : va_G) (cI : ClassId) (b : Nat → Nat) (ψ : YS) (x : Int32) : Met l yX3_from wsX3_from ({ frames := 1, cells := 0, slots := 0, locals := 21 } : Room) (va_Pc [.ref (b 0), .int x] (preR D cI (yW cI b ψ))) (vp_Si (fun r => r = fromF ψ x)) 0 0 (fun _ => False) := by
  refine Met.ofW (cc := cX3_from) (maxL := 2) (ret := (some .int)) (by decide) rfl ?_
  intro p e s m args below meth c s₁ B hml hv
  obtain ⟨rfl, hP, hK, hE⟩ := hv
  have hx := B.exec
  have hb := B.bytes
  have hr := B.returns
  have hts := atoms_spec (ws := wsX3_from) B.pre
  have hown : s.vm.findClass RX3 = some m.cls := findClass_of_methodNamed B.named
  have hlocks := B.notSynchronized
  have hl := lv_entry ([.ref (b 0), .int x]) (n := 2) (Nat.le_of_ble_eq_true rfl)
  rw [lg_entry_eq]
  generalize (lg_sl ([.ref (b 0), .int x]) ++ List.replicate (2 - (lg_sl ([.ref (b 0), .int x])).length) Slot.unset).toArray = ls at hl ⊢
  have hl : lv_has ls 2 [(0, .ref (b 0)), (1, .int x)] := hl
  refine lv_aload_n hx hb dX3_from_0 rfl (lv_at hl 0 rfl) ?_
  refine lv_iload_n hx hb dX3_from_1 rfl (lv_at hl 1 rfl) ?_
  refine vp_callSi (va_Run.run (va_runV (As := [.int x]) (rest := []) ⟨hx, hb, hml, hown, hts⟩ (c_X3_lengthAt l D cI b ψ x) (cwV 1 hts gX3_from_X3_lengthAt rfl rfl rfl (by decide +kernel) ⟨Nat.le_of_ble_eq_true rfl, Nat.le_of_ble_eq_true rfl⟩) ⟨preR_blind, va_recv hK hP (ci := 3) (q0 := 0) rfl rfl, preR_of hP hK hE [.ref (b 0), .int x]⟩ rfl rfl hl.1 rfl (lv_room (Nat.le_of_ble_eq_true rfl)) dX3_from_2 ⟨Nat.zero_le _, Nat.zero_le _⟩)) (fun r hr9 => ?_)
  subst hr9
  refine lv_iconst (v := (-1)) hx hb dX3_from_5 (by decide) ?_
  refine va_mmax hx hb (hml.trans hl.1.symm) hown (hts (.methodLink RX3 56 Lib.Math.max.name) (by decide +kernel)) (hts (.static Lib.Math.max.name) (by decide +kernel)) (hts (.initialized "java/lang/Math") (by decide +kernel)) (hts (.code Lib.Math.max.name Lib.Math.max.code 2 (some .int)) (by decide +kernel)) (Nat.le_of_ble_eq_true rfl) (Nat.le_of_ble_eq_true rfl) (Nat.zero_le _) (Nat.zero_le _) dX3_from_6 ?_
  exact W.iret (v := (maxI (lenF ψ x) (-1))) hx hb hr (fun T9 ht _ => ⟨_, rfl, by first | rfl | (simp only [fromF]; done) | (simp only [fromF]; rfl) | (simp [fromF]; done) | (simp [fromF]; rfl), ht⟩) hnil dX3_from_9
set_option maxHeartbeats 4000000 in
set_option maxRecDepth 100000 in
theorem c_X3_reachAround (l : Launch) (D : va_G) (cI : ClassId) (sz : Nat) (b : Nat → Nat) (ψ : YS) (a : Nat → Nat) (σ : SS) (x y : Int32) (t : Nat) : Met l yX3_reachAround wsX3_reachAround ({ frames := 1, cells := 0, slots := 0, locals := 22 } : Room) (va_Pc [.ref (b 0), .ref (a 0), .int x, .int y] (preSX D cI (yW cI b ψ ++ sW cI a σ) sz t)) (va_Qv (fun (u : YS) => u = reachF σ ψ x y) (fun (u : YS) => posM D cI (va_A (yW cI b ψ ++ sW cI a σ) sz) (yW cI b u ++ sW cI a σ)) (va_A (yW cI b ψ ++ sW cI a σ) sz)) 0 0 (va_A (yW cI b ψ ++ sW cI a σ) sz) := by
  refine Met.ofW (cc := cX3_reachAround) (maxL := 6) (ret := none) (by decide) rfl ?_
  intro p e s m args below meth c s₁ B hml hv
  obtain ⟨rfl, ⟨hsz, hP, hK, hE, hD0⟩, hSX⟩ := hv
  have hx := B.exec
  have hb := B.bytes
  have hr := B.returns
  have hts := atoms_spec (ws := wsX3_reachAround) B.pre
  have hown : s.vm.findClass RX3 = some m.cls := findClass_of_methodNamed B.named
  have hlocks := B.notSynchronized
  subst hsz
  have hD := hD0.self (sz := s.heap.size)
  generalize hAe : va_A (yW cI b ψ ++ sW cI a σ) s.heap.size = A at hD hSX ⊢
  have hA : ∀ q : Nat, s.heap.size ≤ q → A q := fun q h => by rw [← hAe]; exact Or.inr h
  have hS : va_S A s.heap s.heap [] := va_S.rf
  have hP : va_P D vwCl (yW cI b ψ ++ sW cI a σ) s.heap := hP
  have hl := lv_entry ([.ref (b 0), .ref (a 0), .int x, .int y]) (n := 6) (Nat.le_of_ble_eq_true rfl)
  rw [lg_entry_eq]
  generalize (lg_sl ([.ref (b 0), .ref (a 0), .int x, .int y]) ++ List.replicate (6 - (lg_sl ([.ref (b 0), .ref (a 0), .int x, .int y])).length) Slot.unset).toArray = ls at hl ⊢
  have hl : lv_has ls 6 [(0, .ref (b 0)), (1, .ref (a 0)), (2, .int x), (3, .int y)] := hl
  refine lv_iconst (v := 0) hx hb dX3_reachAround_0 (by decide) ?_
  refine lv_istore (lv' := [(4, .int 0), (0, .ref (b 0)), (1, .ref (a 0)), (2, .int x), (3, .int y)]) hx hb dX3_reachAround_1 hl (by decide) rfl (fun ls hl => ?_)
  have L3 : ∀ (n k : Nat) (φ : YS) (hk : k + n = 4) (hsp : reachF σ ψ x y = reachL σ x y n k φ) (H : Heap) (locs : List Loc) (ls : Array Slot), lv_has ls 6 [(4, .int (nI k)), (0, .ref (b 0)), (1, .ref (a 0)), (2, .int x), (3, .int y)] → va_P D vwCl (yW cI b φ ++ sW cI a σ) H → va_D A (yW cI b φ ++ sW cI a σ) → va_S A s.heap H locs → W p l e ({ frames := 1, cells := 0, slots := 0, locals := 22 } : Room) s m ([.ref (b 0), .ref (a 0), .int x, .int y] : List Value).toArray below meth c H locs 0 0 (MQ below (va_Qv (fun (u : YS) => u = reachF σ ψ x y) (fun (u : YS) => posM D cI A (yW cI b u ++ sW cI a σ)) A) ([.ref (b 0), .ref (a 0), .int x, .int y] : List Value).toArray s 0 0 A) (F0 m 3 ls []) := by
    intro n
    induction n with
    | zero =>
      intro k φ hk hsp H locs ls hl hP hD hS
      refine lv_iload hx hb dX3_reachAround_3 (lv_at hl 0 rfl) ?_
      refine va_getsN hx hb hSX.1 hS hown (va_Nw.use rfl hE.2.2.2.2.1) (fun _ h9 => h9) dX3_reachAround_5 ?_
      refine va_tlen (v := nI 4) hx hb hSX.2 hS rfl dX3_reachAround_8 ?_
      refine lv_icmp_ge (tgt := 63) hx hb dX3_reachAround_9 (by decide) (fun c_9 => ?_) (fun c_9 => absurd (nI_le (by omega) (by omega)) c_9)
      have hP9 := hP.sub (ws' := yW cI b φ ++ sW cI a σ) [0, 1, 2, 3, 4, 5, 6, 7, 8] rfl
      have hD9 := hD.sub (ws' := yW cI b φ ++ sW cI a σ) [0, 1, 2, 3, 4, 5, 6, 7, 8] (by decide) rfl
      exact W.vret hx hb hr (fun T9 ht hW => ⟨⟨φ, rfl, by rw [hsp]; rfl, by rw [ht]; exact hP9, va_K.moved hW.alike hK, hD9⟩, hS.F ht⟩) hS.2.2 dX3_reachAround_63
    | succ n ih3 =>
      intro k φ hk hsp H locs ls hl hP hD hS
      refine lv_iload hx hb dX3_reachAround_3 (lv_at hl 0 rfl) ?_
      refine va_getsN hx hb hSX.1 hS hown (va_Nw.use rfl hE.2.2.2.2.1) (fun _ h9 => h9) dX3_reachAround_5 ?_
      refine va_tlen (v := nI 4) hx hb hSX.2 hS rfl dX3_reachAround_8 ?_
      refine lv_icmp_ge (tgt := 63) hx hb dX3_reachAround_9 (by decide) (fun c_9 => absurd c_9 (nI_ge (by omega) (by omega))) (fun c_9 => ?_)
      refine lv_iload_n hx hb dX3_reachAround_12 rfl (lv_at hl 3 rfl) ?_
      refine va_getsN hx hb hSX.1 hS hown (va_Nw.use rfl hE.2.2.2.2.1) (fun _ h9 => h9) dX3_reachAround_13 ?_
      refine lv_iload hx hb dX3_reachAround_16 (lv_at hl 0 rfl) ?_
      refine va_ti (v := .int (stF (nI k).toNatClampNeg)) hx hb hSX.2 hS (vp_in_nI (by omega) (by decide)) rfl dX3_reachAround_18 ?_
      rw [nI_clamp (by omega)]
      refine lv_iadd hx hb dX3_reachAround_19 ?_
      refine lv_istore (lv' := [(5, .int (x + (stF k))), (4, .int (nI k)), (0, .ref (b 0)), (1, .ref (a 0)), (2, .int x), (3, .int y)]) hx hb dX3_reachAround_20 hl (by decide) rfl (fun ls hl => ?_)
      refine lv_aload_n hx hb dX3_reachAround_22 rfl (lv_at hl 2 rfl) ?_
      refine lv_iload hx hb dX3_reachAround_23 (lv_at hl 0 rfl) ?_
      refine vp_callSi (va_Run.run (va_runV (As := [.int (x + (stF k))]) (rest := []) ⟨hx, hb, hml, hown, hts⟩ (c_X3_lengthAt l D cI b φ (x + (stF k))) (cwV 1 hts gX3_reachAround_X3_lengthAt rfl rfl rfl (by decide +kernel) ⟨Nat.le_of_ble_eq_true rfl, Nat.le_of_ble_eq_true rfl⟩) ⟨preR_blind, va_recv hK hP (ci := 3) (q0 := 0) rfl rfl, preR_of (hP.sub (ws' := yW cI b φ) [0, 1, 2] rfl) hK hE [.ref (b 0), .int (x + (stF k))]⟩ rfl rfl hl.1 rfl (lv_room (Nat.le_of_ble_eq_true rfl)) dX3_reachAround_25 ⟨Nat.zero_le _, Nat.zero_le _⟩)) (fun r hr9 => ?_)
      subst hr9
      refine lv_iconst (v := (-1)) hx hb dX3_reachAround_28 (by decide) ?_
      refine lv_icmp_ne (tgt := 57) hx hb dX3_reachAround_29 (by decide) (fun c_29 => ?_) (fun c_29 => ?_)
      · refine lv_iinc (v := (nI (k + 1))) (lv' := [(4, .int (nI (k + 1))), (5, .int (x + (stF k))), (0, .ref (b 0)), (1, .ref (a 0)), (2, .int x), (3, .int y)]) hx hb dX3_reachAround_57 hl (k := 1) rfl (nI_1 k) (by decide) rfl (fun ls hl => ?_)
        refine lv_goto (tgt := 3) hx hb dX3_reachAround_60 (by decide) ?_
        exact ih3 (k + 1) φ (by omega) (by rw [hsp]; simp [reachL, c_29]) _ _ ls (lv_sub hl [0, 2, 3, 4, 5] rfl) hP hD hS
      · refine lv_aload_n hx hb dX3_reachAround_32 rfl (lv_at hl 3 rfl) ?_
        refine lv_iload hx hb dX3_reachAround_33 (lv_at hl 0 rfl) ?_
        refine vp_callSi (va_Run.run (va_runV (As := [.int (x + (stF k))]) (rest := []) ⟨hx, hb, hml, hown, hts⟩ (c_X2_kindAt l D cI a σ (x + (stF k))) (cwV 1 hts gX3_reachAround_X2_kindAt rfl rfl rfl (by decide +kernel) ⟨Nat.le_of_ble_eq_true rfl, Nat.le_of_ble_eq_true rfl⟩) ⟨preR_blind, va_recv hK hP (ci := 2) (q0 := 3) rfl rfl, preR_of (hP.sub (ws' := sW cI a σ) [3, 4, 5, 6, 7, 8] rfl) hK hE [.ref (a 0), .int (x + (stF k))]⟩ rfl rfl hl.1 rfl (lv_room (Nat.le_of_ble_eq_true rfl)) dX3_reachAround_35 ⟨Nat.zero_le _, Nat.zero_le _⟩)) (fun r hr9 => ?_)
        subst hr9
        refine lv_iconst (v := 1) hx hb dX3_reachAround_38 (by decide) ?_
        refine lv_icmp_eq (tgt := 57) hx hb dX3_reachAround_39 (by decide) (fun c_39 => ?_) (fun c_39 => ?_)
        · refine lv_iinc (v := (nI (k + 1))) (lv' := [(4, .int (nI (k + 1))), (5, .int (x + (stF k))), (0, .ref (b 0)), (1, .ref (a 0)), (2, .int x), (3, .int y)]) hx hb dX3_reachAround_57 hl (k := 1) rfl (nI_1 k) (by decide) rfl (fun ls hl => ?_)
          refine lv_goto (tgt := 3) hx hb dX3_reachAround_60 (by decide) ?_
          exact ih3 (k + 1) φ (by omega) (by rw [hsp]; simp [reachL, c_29, c_39]) _ _ ls (lv_sub hl [0, 2, 3, 4, 5] rfl) hP hD hS
        · refine lv_aload_n hx hb dX3_reachAround_42 rfl (lv_at hl 2 rfl) ?_
          refine lv_iload hx hb dX3_reachAround_43 (lv_at hl 0 rfl) ?_
          refine lv_iload_n hx hb dX3_reachAround_45 rfl (lv_at hl 5 rfl) ?_
          have hFc := va_free (wc := yW cI b φ) hD hS hA [0, 1, 2] rfl
          refine va_callv (va_runV (As := [.int (x + (stF k)), .int y]) (rest := []) ⟨hx, hb, hml, hown, hts⟩ (c_X3_putLength l D cI _ b φ (x + (stF k)) y) (cwV 2 hts gX3_reachAround_X3_putLength rfl rfl rfl (by decide +kernel) ⟨Nat.le_of_ble_eq_true rfl, Nat.le_of_ble_eq_true rfl⟩) ⟨preM_blind, va_recv hK hP (ci := 3) (q0 := 0) rfl rfl, preM_of (hP.sub (ws' := yW cI b φ) [0, 1, 2] rfl) hK hE (hD.sub (ws' := yW cI b φ) [0, 1, 2] (by decide) rfl) [.ref (b 0), .int (x + (stF k)), .int y]⟩ rfl rfl hl.1 rfl (lv_room (Nat.le_of_ble_eq_true rfl)) dX3_reachAround_46 ⟨Nat.le_of_ble_eq_true rfl, Nat.le_of_ble_eq_true rfl⟩) hS (fun q _ h => hFc q h) hFc (fun u t9 H1 locs ht hvm hw hB hz1 hk1 hS => ?_)
          obtain ⟨hP1, hK1, hD1⟩ := hB
          rw [ht] at hP1
          subst hw
          obtain ⟨hP, hD⟩ := va_join (wr := sW cI a σ) (w1 := yW cI b (putLenF φ (x + (stF k)) y)) hP hD [0, 1, 2] [3, 4, 5, 6, 7, 8] rfl rfl (by decide) (by decide) hk1 hFc hP1 hD1
          generalize H1 = H at hP hS ⊢
          have hP : va_P D vwCl (sW cI a σ ++ yW cI b (putLenF φ (x + (stF k)) y)) H := hP
          have hD : va_D A (sW cI a σ ++ yW cI b (putLenF φ (x + (stF k)) y)) := hD
          refine lv_aload_n hx hb dX3_reachAround_49 rfl (lv_at hl 2 rfl) ?_
          refine lv_iconst (v := 2) hx hb dX3_reachAround_50 (by decide) ?_
          refine lv_iload hx hb dX3_reachAround_51 (lv_at hl 0 rfl) ?_
          refine lv_imul hx hb dX3_reachAround_53 ?_
          have hFc := va_free (wc := yW cI b (putLenF φ (x + (stF k)) y)) hD hS hA [6, 7, 8] rfl
          refine va_callv (va_runV (As := [.int (2 * (x + (stF k)))]) (rest := []) ⟨hx, hb, hml, hown, hts⟩ (c_X3_enqueue l D cI _ b (putLenF φ (x + (stF k)) y) (2 * (x + (stF k)))) (cwV 1 hts gX3_reachAround_X3_enqueue rfl rfl rfl (by decide +kernel) ⟨Nat.le_of_ble_eq_true rfl, Nat.le_of_ble_eq_true rfl⟩) ⟨preM_blind, va_recv hK hP (ci := 3) (q0 := 6) rfl rfl, preM_of (hP.sub (ws' := yW cI b (putLenF φ (x + (stF k)) y)) [6, 7, 8] rfl) hK hE (hD.sub (ws' := yW cI b (putLenF φ (x + (stF k)) y)) [6, 7, 8] (by decide) rfl) [.ref (b 0), .int (2 * (x + (stF k)))]⟩ rfl rfl hl.1 rfl (lv_room (Nat.le_of_ble_eq_true rfl)) dX3_reachAround_54 ⟨Nat.le_of_ble_eq_true rfl, Nat.le_of_ble_eq_true rfl⟩) hS (fun q _ h => hFc q h) hFc (fun u t9 H1 locs ht hvm hw hB hz1 hk1 hS => ?_)
          obtain ⟨hP1, hK1, hD1⟩ := hB
          rw [ht] at hP1
          subst hw
          obtain ⟨hP, hD⟩ := va_join (wr := sW cI a σ) (w1 := yW cI b (enqF (putLenF φ (x + (stF k)) y) (2 * (x + (stF k))))) hP hD [6, 7, 8] [0, 1, 2, 3, 4, 5] rfl rfl (by decide) (by decide) hk1 hFc hP1 hD1
          generalize H1 = H at hP hS ⊢
          have hP : va_P D vwCl (sW cI a σ ++ yW cI b (enqF (putLenF φ (x + (stF k)) y) (2 * (x + (stF k))))) H := hP
          have hD : va_D A (sW cI a σ ++ yW cI b (enqF (putLenF φ (x + (stF k)) y) (2 * (x + (stF k))))) := hD
          have hP : va_P D vwCl (yW cI b (enqF (putLenF φ (x + (stF k)) y) (2 * (x + (stF k)))) ++ sW cI a σ) H := hP.sub (ws' := yW cI b (enqF (putLenF φ (x + (stF k)) y) (2 * (x + (stF k)))) ++ sW cI a σ) [6, 7, 8, 0, 1, 2, 3, 4, 5] rfl
          have hD : va_D A (yW cI b (enqF (putLenF φ (x + (stF k)) y) (2 * (x + (stF k)))) ++ sW cI a σ) := hD.sub (ws' := yW cI b (enqF (putLenF φ (x + (stF k)) y) (2 * (x + (stF k)))) ++ sW cI a σ) [6, 7, 8, 0, 1, 2, 3, 4, 5] (by decide) rfl
          refine lv_iinc (v := (nI (k + 1))) (lv' := [(4, .int (nI (k + 1))), (5, .int (x + (stF k))), (0, .ref (b 0)), (1, .ref (a 0)), (2, .int x), (3, .int y)]) hx hb dX3_reachAround_57 hl (k := 1) rfl (nI_1 k) (by decide) rfl (fun ls hl => ?_)
          refine lv_goto (tgt := 3) hx hb dX3_reachAround_60 (by decide) ?_
          exact ih3 (k + 1) (enqF (putLenF φ (x + (stF k)) y) (2 * (x + (stF k)))) (by omega) (by rw [hsp]; simp [reachL, c_29, c_39]) _ _ ls (lv_sub hl [0, 2, 3, 4, 5] rfl) hP hD hS
  exact L3 4 0 ψ (by omega) rfl _ _ ls (lv_sub hl [0, 1, 2, 3, 4] rfl) hP hD hS
set_option maxHeartbeats 4000000 in
set_option maxRecDepth 100000 in
theorem c_X3_spread (l : Launch) (D : va_G) (cI : ClassId) (sz : Nat) (b : Nat → Nat) (ψ : YS) (a : Nat → Nat) (σ : SS)  (t : Nat) : Met l yX3_spread wsX3_spread ({ frames := 2, cells := 0, slots := 0, locals := 47 } : Room) (va_Pc [.ref (b 0), .ref (a 0)] (preSX D cI (yW cI b ψ ++ sW cI a σ) sz t)) (va_Qv (fun (u : YS) => u = spreadF σ ψ) (fun (u : YS) => posM D cI (va_A (yW cI b ψ ++ sW cI a σ) sz) (yW cI b u ++ sW cI a σ)) (va_A (yW cI b ψ ++ sW cI a σ) sz)) 0 0 (va_A (yW cI b ψ ++ sW cI a σ) sz) := by
  refine Met.ofW (cc := cX3_spread) (maxL := 6) (ret := none) (by decide) rfl ?_
  intro p e s m args below meth c s₁ B hml hv
  obtain ⟨rfl, ⟨hsz, hP, hK, hE, hD0⟩, hSX⟩ := hv
  have hx := B.exec
  have hb := B.bytes
  have hr := B.returns
  have hts := atoms_spec (ws := wsX3_spread) B.pre
  have hown : s.vm.findClass RX3 = some m.cls := findClass_of_methodNamed B.named
  have hlocks := B.notSynchronized
  subst hsz
  have hD := hD0.self (sz := s.heap.size)
  generalize hAe : va_A (yW cI b ψ ++ sW cI a σ) s.heap.size = A at hD hSX ⊢
  have hA : ∀ q : Nat, s.heap.size ≤ q → A q := fun q h => by rw [← hAe]; exact Or.inr h
  have hS : va_S A s.heap s.heap [] := va_S.rf
  have hP : va_P D vwCl (yW cI b ψ ++ sW cI a σ) s.heap := hP
  have hl := lv_entry ([.ref (b 0), .ref (a 0)]) (n := 6) (Nat.le_of_ble_eq_true rfl)
  rw [lg_entry_eq]
  generalize (lg_sl ([.ref (b 0), .ref (a 0)]) ++ List.replicate (6 - (lg_sl ([.ref (b 0), .ref (a 0)])).length) Slot.unset).toArray = ls at hl ⊢
  have hl : lv_has ls 6 [(0, .ref (b 0)), (1, .ref (a 0))] := hl
  refine lv_iconst (v := 0) hx hb dX3_spread_0 (by decide) ?_
  refine lv_istore_n (lv' := [(2, .int 0), (0, .ref (b 0)), (1, .ref (a 0))]) hx hb dX3_spread_1 rfl hl (by decide) rfl (fun ls hl => ?_)
  have L2 : ∀ (n k : Nat) (φ : YS) (hk : k + n = 320) (hsp : spreadF σ ψ = spreadL σ n k φ) (H : Heap) (locs : List Loc) (ls : Array Slot), lv_has ls 6 [(2, .int (nI k)), (0, .ref (b 0)), (1, .ref (a 0))] → va_P D vwCl (yW cI b φ ++ sW cI a σ) H → va_D A (yW cI b φ ++ sW cI a σ) → va_S A s.heap H locs → W p l e ({ frames := 2, cells := 0, slots := 0, locals := 47 } : Room) s m ([.ref (b 0), .ref (a 0)] : List Value).toArray below meth c H locs 0 0 (MQ below (va_Qv (fun (u : YS) => u = spreadF σ ψ) (fun (u : YS) => posM D cI A (yW cI b u ++ sW cI a σ)) A) ([.ref (b 0), .ref (a 0)] : List Value).toArray s 0 0 A) (F0 m 2 ls []) := by
    intro n
    induction n with
    | zero =>
      intro k φ hk hsp H locs ls hl hP hD hS
      refine lv_iload_n hx hb dX3_spread_2 rfl (lv_at hl 0 rfl) ?_
      refine lv_aload_n hx hb dX3_spread_3 rfl (lv_at hl 1 rfl) ?_
      refine va_get (D := D) (ci := 3) (v := .int (φ.2.2)) (C := RX3) (T := TX3) (N := 3) hx hb hts (by decide +kernel) hown hK hP 0 rfl rfl 2 (by decide) (hts (.fieldLink RX3 24 "Warren$Ways" "queued" "I") (by decide +kernel)) (fun _ h9 => h9) rfl dX3_spread_4 ?_
      refine lv_icmp_ge (tgt := 112) hx hb dX3_spread_7 (by decide) (fun c_7 => ?_) (fun c_7 => ?_)
      · have hP9 := hP.sub (ws' := yW cI b φ ++ sW cI a σ) [0, 1, 2, 3, 4, 5, 6, 7, 8] rfl
        have hD9 := hD.sub (ws' := yW cI b φ ++ sW cI a σ) [0, 1, 2, 3, 4, 5, 6, 7, 8] (by decide) rfl
        exact W.vret hx hb hr (fun T9 ht hW => ⟨⟨φ, rfl, by rw [hsp]; first | rfl | (simp [spreadL, c_7]; done), by rw [ht]; exact hP9, va_K.moved hW.alike hK, hD9⟩, hS.F ht⟩) hS.2.2 dX3_spread_112
      · refine lv_iload_n hx hb dX3_spread_10 rfl (lv_at hl 0 rfl) ?_
        refine lv_aload_n hx hb dX3_spread_11 rfl (lv_at hl 1 rfl) ?_
        refine va_get (D := D) (ci := 3) (v := .ref (b 2)) (C := RX3) (T := TX3) (N := 3) hx hb hts (by decide +kernel) hown hK hP 0 rfl rfl 1 (by decide) (hts (.fieldLink RX3 15 "Warren$Ways" "queue" "[I") (by decide +kernel)) (fun _ h9 => h9) rfl dX3_spread_12 ?_
        refine va_alen (v := nI 320) hx hb hK hP 2 0 rfl rfl rfl dX3_spread_15 ?_
        refine lv_icmp_ge (tgt := 112) hx hb dX3_spread_16 (by decide) (fun c_16 => ?_) (fun c_16 => absurd (nI_le (by omega) (by omega)) c_16)
        have hP9 := hP.sub (ws' := yW cI b φ ++ sW cI a σ) [0, 1, 2, 3, 4, 5, 6, 7, 8] rfl
        have hD9 := hD.sub (ws' := yW cI b φ ++ sW cI a σ) [0, 1, 2, 3, 4, 5, 6, 7, 8] (by decide) rfl
        exact W.vret hx hb hr (fun T9 ht hW => ⟨⟨φ, rfl, by rw [hsp]; first | rfl | (simp [spreadL, c_7]; done), by rw [ht]; exact hP9, va_K.moved hW.alike hK, hD9⟩, hS.F ht⟩) hS.2.2 dX3_spread_112
    | succ n ih2 =>
      intro k φ hk hsp H locs ls hl hP hD hS
      refine lv_iload_n hx hb dX3_spread_2 rfl (lv_at hl 0 rfl) ?_
      refine lv_aload_n hx hb dX3_spread_3 rfl (lv_at hl 1 rfl) ?_
      refine va_get (D := D) (ci := 3) (v := .int (φ.2.2)) (C := RX3) (T := TX3) (N := 3) hx hb hts (by decide +kernel) hown hK hP 0 rfl rfl 2 (by decide) (hts (.fieldLink RX3 24 "Warren$Ways" "queued" "I") (by decide +kernel)) (fun _ h9 => h9) rfl dX3_spread_4 ?_
      refine lv_icmp_ge (tgt := 112) hx hb dX3_spread_7 (by decide) (fun c_7 => ?_) (fun c_7 => ?_)
      · have hP9 := hP.sub (ws' := yW cI b φ ++ sW cI a σ) [0, 1, 2, 3, 4, 5, 6, 7, 8] rfl
        have hD9 := hD.sub (ws' := yW cI b φ ++ sW cI a σ) [0, 1, 2, 3, 4, 5, 6, 7, 8] (by decide) rfl
        exact W.vret hx hb hr (fun T9 ht hW => ⟨⟨φ, rfl, by rw [hsp]; first | rfl | (simp [spreadL, c_7]; done), by rw [ht]; exact hP9, va_K.moved hW.alike hK, hD9⟩, hS.F ht⟩) hS.2.2 dX3_spread_112
      · refine lv_iload_n hx hb dX3_spread_10 rfl (lv_at hl 0 rfl) ?_
        refine lv_aload_n hx hb dX3_spread_11 rfl (lv_at hl 1 rfl) ?_
        refine va_get (D := D) (ci := 3) (v := .ref (b 2)) (C := RX3) (T := TX3) (N := 3) hx hb hts (by decide +kernel) hown hK hP 0 rfl rfl 1 (by decide) (hts (.fieldLink RX3 15 "Warren$Ways" "queue" "[I") (by decide +kernel)) (fun _ h9 => h9) rfl dX3_spread_12 ?_
        refine va_alen (v := nI 320) hx hb hK hP 2 0 rfl rfl rfl dX3_spread_15 ?_
        refine lv_icmp_ge (tgt := 112) hx hb dX3_spread_16 (by decide) (fun c_16 => absurd c_16 (nI_ge (by omega) (by omega))) (fun c_16 => ?_)
        refine lv_aload_n hx hb dX3_spread_19 rfl (lv_at hl 1 rfl) ?_
        refine va_get (D := D) (ci := 3) (v := .ref (b 2)) (C := RX3) (T := TX3) (N := 3) hx hb hts (by decide +kernel) hown hK hP 0 rfl rfl 1 (by decide) (hts (.fieldLink RX3 15 "Warren$Ways" "queue" "[I") (by decide +kernel)) (fun _ h9 => h9) rfl dX3_spread_20 ?_
        refine lv_iload_n hx hb dX3_spread_23 rfl (lv_at hl 0 rfl) ?_
        refine va_iald hx hb hK hP 2 0 rfl rfl (vp_in_nI (by omega) (by decide)) dX3_spread_24 ?_
        rw [nI_clamp (by omega)]
        refine lv_iconst (v := 2) hx hb dX3_spread_25 (by decide) ?_
        refine lv_idiv hx hb dX3_spread_26 (by decide) ?_
        refine lv_istore_n (lv' := [(3, .int ((φ.2.1 k) / 2)), (2, .int (nI k)), (0, .ref (b 0)), (1, .ref (a 0))]) hx hb dX3_spread_27 rfl hl (by decide) rfl (fun ls hl => ?_)
        refine lv_aload_n hx hb dX3_spread_28 rfl (lv_at hl 2 rfl) ?_
        refine va_get (D := D) (ci := 3) (v := .ref (b 2)) (C := RX3) (T := TX3) (N := 3) hx hb hts (by decide +kernel) hown hK hP 0 rfl rfl 1 (by decide) (hts (.fieldLink RX3 15 "Warren$Ways" "queue" "[I") (by decide +kernel)) (fun _ h9 => h9) rfl dX3_spread_29 ?_
        refine lv_iload_n hx hb dX3_spread_32 rfl (lv_at hl 1 rfl) ?_
        refine va_iald hx hb hK hP 2 0 rfl rfl (vp_in_nI (by omega) (by decide)) dX3_spread_33 ?_
        rw [nI_clamp (by omega)]
        refine lv_iconst (v := 2) hx hb dX3_spread_34 (by decide) ?_
        refine lv_irem hx hb dX3_spread_35 (by decide) ?_
        refine lv_iconst (v := 1) hx hb dX3_spread_36 (by decide) ?_
        refine lv_icmp_ne (tgt := 44) hx hb dX3_spread_37 (by decide) (fun c_37 => ?_) (fun c_37 => ?_)
        · refine lv_iconst (v := 0) hx hb dX3_spread_44 (by decide) ?_
          refine lv_istore (lv' := [(4, .int 0), (3, .int ((φ.2.1 k) / 2)), (2, .int (nI k)), (0, .ref (b 0)), (1, .ref (a 0))]) hx hb dX3_spread_45 hl (by decide) rfl (fun ls hl => ?_)
          refine lv_aload_n hx hb dX3_spread_47 rfl (lv_at hl 4 rfl) ?_
          refine lv_iload_n hx hb dX3_spread_48 rfl (lv_at hl 1 rfl) ?_
          refine vp_callSi (va_Run.run (va_runV (As := [.int ((φ.2.1 k) / 2)]) (rest := []) ⟨hx, hb, hml, hown, hts⟩ (c_X2_kindAt l D cI a σ ((φ.2.1 k) / 2)) (cwV 1 hts gX3_spread_X2_kindAt rfl rfl rfl (by decide +kernel) ⟨Nat.le_of_ble_eq_true rfl, Nat.le_of_ble_eq_true rfl⟩) ⟨preR_blind, va_recv hK hP (ci := 2) (q0 := 3) rfl rfl, preR_of (hP.sub (ws' := sW cI a σ) [3, 4, 5, 6, 7, 8] rfl) hK hE [.ref (a 0), .int ((φ.2.1 k) / 2)]⟩ rfl rfl hl.1 rfl (lv_room (Nat.le_of_ble_eq_true rfl)) dX3_spread_49 ⟨Nat.zero_le _, Nat.zero_le _⟩)) (fun r hr9 => ?_)
          subst hr9
          refine lv_if_eq (tgt := 59) hx hb dX3_spread_52 (by decide) (fun c_52 => ?_) (fun c_52 => ?_)
          · refine lv_iconst (v := 0) hx hb dX3_spread_59 (by decide) ?_
            refine lv_istore (lv' := [(5, .int 0), (4, .int 0), (3, .int ((φ.2.1 k) / 2)), (2, .int (nI k)), (0, .ref (b 0)), (1, .ref (a 0))]) hx hb dX3_spread_60 hl (by decide) rfl (fun ls hl => ?_)
            refine lv_iload hx hb dX3_spread_62 (lv_at hl 0 rfl) ?_
            refine lv_if_eq (tgt := 84) hx hb dX3_spread_64 (by decide) (fun _ => ?_) (fun z9 => absurd (by decide) z9)
            refine lv_aload_n hx hb dX3_spread_84 rfl (lv_at hl 4 rfl) ?_
            refine lv_aload_n hx hb dX3_spread_85 rfl (lv_at hl 5 rfl) ?_
            refine lv_iload_n hx hb dX3_spread_86 rfl (lv_at hl 2 rfl) ?_
            refine lv_aload_n hx hb dX3_spread_87 rfl (lv_at hl 4 rfl) ?_
            refine lv_iload_n hx hb dX3_spread_88 rfl (lv_at hl 2 rfl) ?_
            refine vp_callSi (va_Run.run (va_runV (As := [.int ((φ.2.1 k) / 2)]) (rest := [.int ((φ.2.1 k) / 2), .ref (a 0), .ref (b 0)]) ⟨hx, hb, hml, hown, hts⟩ (c_X3_lengthAt l D cI b φ ((φ.2.1 k) / 2)) (cwV 1 hts gX3_spread_X3_lengthAt rfl rfl rfl (by decide +kernel) ⟨Nat.le_of_ble_eq_true rfl, Nat.le_of_ble_eq_true rfl⟩) ⟨preR_blind, va_recv hK hP (ci := 3) (q0 := 0) rfl rfl, preR_of (hP.sub (ws' := yW cI b φ) [0, 1, 2] rfl) hK hE [.ref (b 0), .int ((φ.2.1 k) / 2)]⟩ rfl rfl hl.1 rfl (lv_room (Nat.le_of_ble_eq_true rfl)) dX3_spread_89 ⟨Nat.zero_le _, Nat.zero_le _⟩)) (fun r hr9 => ?_)
            subst hr9
            refine lv_iload hx hb dX3_spread_92 (lv_at hl 0 rfl) ?_
            refine lv_if_eq (tgt := 101) hx hb dX3_spread_94 (by decide) (fun _ => ?_) (fun z9 => absurd (by decide) z9)
            refine lv_iconst (v := 1) hx hb dX3_spread_101 (by decide) ?_
            refine lv_iadd hx hb dX3_spread_102 ?_
            have hFc := va_free (wc := yW cI b φ ++ sW cI a σ) hD hS hA [0, 1, 2, 3, 4, 5, 6, 7, 8] rfl
            refine va_callv (va_runV (As := [.ref (a 0), .int ((φ.2.1 k) / 2), .int ((lenF φ ((φ.2.1 k) / 2)) + 1)]) (rest := []) ⟨hx, hb, hml, hown, hts⟩ (c_X3_reachAround l D cI _ b φ a σ ((φ.2.1 k) / 2) ((lenF φ ((φ.2.1 k) / 2)) + 1) t) (cwV 3 hts gX3_spread_X3_reachAround rfl rfl rfl (by decide +kernel) ⟨Nat.le_of_ble_eq_true rfl, Nat.le_of_ble_eq_true rfl⟩) ⟨preSX_blind, va_recv hK hP (ci := 3) (q0 := 0) rfl rfl, preSX_of hP hK hE hD hSX hS hFc [.ref (b 0), .ref (a 0), .int ((φ.2.1 k) / 2), .int ((lenF φ ((φ.2.1 k) / 2)) + 1)]⟩ rfl rfl hl.1 rfl (lv_room (Nat.le_of_ble_eq_true rfl)) dX3_spread_103 ⟨Nat.le_of_ble_eq_true rfl, Nat.le_of_ble_eq_true rfl⟩) hS (fun q _ h => hFc q h) hFc (fun u t9 H1 locs ht hvm hw hB hz1 hk1 hS => ?_)
            obtain ⟨hP1, hK1, hD1⟩ := hB
            rw [ht] at hP1
            rw [hw] at hP1 hD1
            obtain ⟨hP, hD⟩ := va_join (wr := []) (w1 := yW cI b (reachF σ φ ((φ.2.1 k) / 2) ((lenF φ ((φ.2.1 k) / 2)) + 1)) ++ sW cI a σ) hP hD [0, 1, 2, 3, 4, 5, 6, 7, 8] [] rfl rfl (by decide) (by decide) hk1 hFc hP1 hD1
            generalize H1 = H at hP hS ⊢
            have hP : va_P D vwCl (yW cI b (reachF σ φ ((φ.2.1 k) / 2) ((lenF φ ((φ.2.1 k) / 2)) + 1)) ++ sW cI a σ) H := hP
            have hD : va_D A (yW cI b (reachF σ φ ((φ.2.1 k) / 2) ((lenF φ ((φ.2.1 k) / 2)) + 1)) ++ sW cI a σ) := hD
            refine lv_iinc (v := (nI (k + 1))) (lv' := [(2, .int (nI (k + 1))), (5, .int 0), (4, .int 0), (3, .int ((φ.2.1 k) / 2)), (0, .ref (b 0)), (1, .ref (a 0))]) hx hb dX3_spread_106 hl (k := 3) rfl (nI_1 k) (by decide) rfl (fun ls hl => ?_)
            refine lv_goto (tgt := 2) hx hb dX3_spread_109 (by decide) ?_
            exact ih2 (k + 1) (reachF σ φ ((φ.2.1 k) / 2) ((lenF φ ((φ.2.1 k) / 2)) + 1)) (by omega) (by rw [hsp]; simp [spreadL, entryF, remI, c_7, c_37, c_52]) _ _ ls (lv_sub hl [0, 4, 5] rfl) hP hD hS
          · refine lv_iconst (v := 1) hx hb dX3_spread_55 (by decide) ?_
            refine lv_goto (tgt := 60) hx hb dX3_spread_56 (by decide) ?_
            refine lv_istore (lv' := [(5, .int 1), (4, .int 0), (3, .int ((φ.2.1 k) / 2)), (2, .int (nI k)), (0, .ref (b 0)), (1, .ref (a 0))]) hx hb dX3_spread_60 hl (by decide) rfl (fun ls hl => ?_)
            refine lv_iload hx hb dX3_spread_62 (lv_at hl 0 rfl) ?_
            refine lv_if_eq (tgt := 84) hx hb dX3_spread_64 (by decide) (fun z9 => absurd z9 (by decide)) (fun _ => ?_)
            refine lv_iload hx hb dX3_spread_67 (lv_at hl 1 rfl) ?_
            refine lv_if_ne (tgt := 84) hx hb dX3_spread_69 (by decide) (fun z9 => absurd (by decide) z9) (fun _ => ?_)
            refine lv_aload_n hx hb dX3_spread_72 rfl (lv_at hl 4 rfl) ?_
            refine lv_iconst (v := 2) hx hb dX3_spread_73 (by decide) ?_
            refine lv_iload_n hx hb dX3_spread_74 rfl (lv_at hl 2 rfl) ?_
            refine lv_imul hx hb dX3_spread_75 ?_
            refine lv_iconst (v := 1) hx hb dX3_spread_76 (by decide) ?_
            refine lv_iadd hx hb dX3_spread_77 ?_
            have hFc := va_free (wc := yW cI b φ) hD hS hA [0, 1, 2] rfl
            refine va_callv (va_runV (As := [.int ((2 * ((φ.2.1 k) / 2)) + 1)]) (rest := []) ⟨hx, hb, hml, hown, hts⟩ (c_X3_enqueue l D cI _ b φ ((2 * ((φ.2.1 k) / 2)) + 1)) (cwV 1 hts gX3_spread_X3_enqueue rfl rfl rfl (by decide +kernel) ⟨Nat.le_of_ble_eq_true rfl, Nat.le_of_ble_eq_true rfl⟩) ⟨preM_blind, va_recv hK hP (ci := 3) (q0 := 0) rfl rfl, preM_of (hP.sub (ws' := yW cI b φ) [0, 1, 2] rfl) hK hE (hD.sub (ws' := yW cI b φ) [0, 1, 2] (by decide) rfl) [.ref (b 0), .int ((2 * ((φ.2.1 k) / 2)) + 1)]⟩ rfl rfl hl.1 rfl (lv_room (Nat.le_of_ble_eq_true rfl)) dX3_spread_78 ⟨Nat.le_of_ble_eq_true rfl, Nat.le_of_ble_eq_true rfl⟩) hS (fun q _ h => hFc q h) hFc (fun u t9 H1 locs ht hvm hw hB hz1 hk1 hS => ?_)
            obtain ⟨hP1, hK1, hD1⟩ := hB
            rw [ht] at hP1
            subst hw
            obtain ⟨hP, hD⟩ := va_join (wr := sW cI a σ) (w1 := yW cI b (enqF φ ((2 * ((φ.2.1 k) / 2)) + 1))) hP hD [0, 1, 2] [3, 4, 5, 6, 7, 8] rfl rfl (by decide) (by decide) hk1 hFc hP1 hD1
            generalize H1 = H at hP hS ⊢
            have hP : va_P D vwCl (sW cI a σ ++ yW cI b (enqF φ ((2 * ((φ.2.1 k) / 2)) + 1))) H := hP
            have hD : va_D A (sW cI a σ ++ yW cI b (enqF φ ((2 * ((φ.2.1 k) / 2)) + 1))) := hD
            refine lv_goto (tgt := 106) hx hb dX3_spread_81 (by decide) ?_
            have hP : va_P D vwCl (yW cI b (enqF φ ((2 * ((φ.2.1 k) / 2)) + 1)) ++ sW cI a σ) H := hP.sub (ws' := yW cI b (enqF φ ((2 * ((φ.2.1 k) / 2)) + 1)) ++ sW cI a σ) [6, 7, 8, 0, 1, 2, 3, 4, 5] rfl
            have hD : va_D A (yW cI b (enqF φ ((2 * ((φ.2.1 k) / 2)) + 1)) ++ sW cI a σ) := hD.sub (ws' := yW cI b (enqF φ ((2 * ((φ.2.1 k) / 2)) + 1)) ++ sW cI a σ) [6, 7, 8, 0, 1, 2, 3, 4, 5] (by decide) rfl
            refine lv_iinc (v := (nI (k + 1))) (lv' := [(2, .int (nI (k + 1))), (5, .int 1), (4, .int 0), (3, .int ((φ.2.1 k) / 2)), (0, .ref (b 0)), (1, .ref (a 0))]) hx hb dX3_spread_106 hl (k := 3) rfl (nI_1 k) (by decide) rfl (fun ls hl => ?_)
            refine lv_goto (tgt := 2) hx hb dX3_spread_109 (by decide) ?_
            exact ih2 (k + 1) (enqF φ ((2 * ((φ.2.1 k) / 2)) + 1)) (by omega) (by rw [hsp]; simp [spreadL, entryF, remI, c_7, c_37, c_52]) _ _ ls (lv_sub hl [0, 4, 5] rfl) hP hD hS
        · refine lv_iconst (v := 1) hx hb dX3_spread_40 (by decide) ?_
          refine lv_goto (tgt := 45) hx hb dX3_spread_41 (by decide) ?_
          refine lv_istore (lv' := [(4, .int 1), (3, .int ((φ.2.1 k) / 2)), (2, .int (nI k)), (0, .ref (b 0)), (1, .ref (a 0))]) hx hb dX3_spread_45 hl (by decide) rfl (fun ls hl => ?_)
          refine lv_aload_n hx hb dX3_spread_47 rfl (lv_at hl 4 rfl) ?_
          refine lv_iload_n hx hb dX3_spread_48 rfl (lv_at hl 1 rfl) ?_
          refine vp_callSi (va_Run.run (va_runV (As := [.int ((φ.2.1 k) / 2)]) (rest := []) ⟨hx, hb, hml, hown, hts⟩ (c_X2_kindAt l D cI a σ ((φ.2.1 k) / 2)) (cwV 1 hts gX3_spread_X2_kindAt rfl rfl rfl (by decide +kernel) ⟨Nat.le_of_ble_eq_true rfl, Nat.le_of_ble_eq_true rfl⟩) ⟨preR_blind, va_recv hK hP (ci := 2) (q0 := 3) rfl rfl, preR_of (hP.sub (ws' := sW cI a σ) [3, 4, 5, 6, 7, 8] rfl) hK hE [.ref (a 0), .int ((φ.2.1 k) / 2)]⟩ rfl rfl hl.1 rfl (lv_room (Nat.le_of_ble_eq_true rfl)) dX3_spread_49 ⟨Nat.zero_le _, Nat.zero_le _⟩)) (fun r hr9 => ?_)
          subst hr9
          refine lv_if_eq (tgt := 59) hx hb dX3_spread_52 (by decide) (fun c_52 => ?_) (fun c_52 => ?_)
          · refine lv_iconst (v := 0) hx hb dX3_spread_59 (by decide) ?_
            refine lv_istore (lv' := [(5, .int 0), (4, .int 1), (3, .int ((φ.2.1 k) / 2)), (2, .int (nI k)), (0, .ref (b 0)), (1, .ref (a 0))]) hx hb dX3_spread_60 hl (by decide) rfl (fun ls hl => ?_)
            refine lv_iload hx hb dX3_spread_62 (lv_at hl 0 rfl) ?_
            refine lv_if_eq (tgt := 84) hx hb dX3_spread_64 (by decide) (fun _ => ?_) (fun z9 => absurd (by decide) z9)
            refine lv_aload_n hx hb dX3_spread_84 rfl (lv_at hl 4 rfl) ?_
            refine lv_aload_n hx hb dX3_spread_85 rfl (lv_at hl 5 rfl) ?_
            refine lv_iload_n hx hb dX3_spread_86 rfl (lv_at hl 2 rfl) ?_
            refine lv_aload_n hx hb dX3_spread_87 rfl (lv_at hl 4 rfl) ?_
            refine lv_iload_n hx hb dX3_spread_88 rfl (lv_at hl 2 rfl) ?_
            refine vp_callSi (va_Run.run (va_runV (As := [.int ((φ.2.1 k) / 2)]) (rest := [.int ((φ.2.1 k) / 2), .ref (a 0), .ref (b 0)]) ⟨hx, hb, hml, hown, hts⟩ (c_X3_lengthAt l D cI b φ ((φ.2.1 k) / 2)) (cwV 1 hts gX3_spread_X3_lengthAt rfl rfl rfl (by decide +kernel) ⟨Nat.le_of_ble_eq_true rfl, Nat.le_of_ble_eq_true rfl⟩) ⟨preR_blind, va_recv hK hP (ci := 3) (q0 := 0) rfl rfl, preR_of (hP.sub (ws' := yW cI b φ) [0, 1, 2] rfl) hK hE [.ref (b 0), .int ((φ.2.1 k) / 2)]⟩ rfl rfl hl.1 rfl (lv_room (Nat.le_of_ble_eq_true rfl)) dX3_spread_89 ⟨Nat.zero_le _, Nat.zero_le _⟩)) (fun r hr9 => ?_)
            subst hr9
            refine lv_iload hx hb dX3_spread_92 (lv_at hl 0 rfl) ?_
            refine lv_if_eq (tgt := 101) hx hb dX3_spread_94 (by decide) (fun _ => ?_) (fun z9 => absurd (by decide) z9)
            refine lv_iconst (v := 1) hx hb dX3_spread_101 (by decide) ?_
            refine lv_iadd hx hb dX3_spread_102 ?_
            have hFc := va_free (wc := yW cI b φ ++ sW cI a σ) hD hS hA [0, 1, 2, 3, 4, 5, 6, 7, 8] rfl
            refine va_callv (va_runV (As := [.ref (a 0), .int ((φ.2.1 k) / 2), .int ((lenF φ ((φ.2.1 k) / 2)) + 1)]) (rest := []) ⟨hx, hb, hml, hown, hts⟩ (c_X3_reachAround l D cI _ b φ a σ ((φ.2.1 k) / 2) ((lenF φ ((φ.2.1 k) / 2)) + 1) t) (cwV 3 hts gX3_spread_X3_reachAround rfl rfl rfl (by decide +kernel) ⟨Nat.le_of_ble_eq_true rfl, Nat.le_of_ble_eq_true rfl⟩) ⟨preSX_blind, va_recv hK hP (ci := 3) (q0 := 0) rfl rfl, preSX_of hP hK hE hD hSX hS hFc [.ref (b 0), .ref (a 0), .int ((φ.2.1 k) / 2), .int ((lenF φ ((φ.2.1 k) / 2)) + 1)]⟩ rfl rfl hl.1 rfl (lv_room (Nat.le_of_ble_eq_true rfl)) dX3_spread_103 ⟨Nat.le_of_ble_eq_true rfl, Nat.le_of_ble_eq_true rfl⟩) hS (fun q _ h => hFc q h) hFc (fun u t9 H1 locs ht hvm hw hB hz1 hk1 hS => ?_)
            obtain ⟨hP1, hK1, hD1⟩ := hB
            rw [ht] at hP1
            rw [hw] at hP1 hD1
            obtain ⟨hP, hD⟩ := va_join (wr := []) (w1 := yW cI b (reachF σ φ ((φ.2.1 k) / 2) ((lenF φ ((φ.2.1 k) / 2)) + 1)) ++ sW cI a σ) hP hD [0, 1, 2, 3, 4, 5, 6, 7, 8] [] rfl rfl (by decide) (by decide) hk1 hFc hP1 hD1
            generalize H1 = H at hP hS ⊢
            have hP : va_P D vwCl (yW cI b (reachF σ φ ((φ.2.1 k) / 2) ((lenF φ ((φ.2.1 k) / 2)) + 1)) ++ sW cI a σ) H := hP
            have hD : va_D A (yW cI b (reachF σ φ ((φ.2.1 k) / 2) ((lenF φ ((φ.2.1 k) / 2)) + 1)) ++ sW cI a σ) := hD
            refine lv_iinc (v := (nI (k + 1))) (lv' := [(2, .int (nI (k + 1))), (5, .int 0), (4, .int 1), (3, .int ((φ.2.1 k) / 2)), (0, .ref (b 0)), (1, .ref (a 0))]) hx hb dX3_spread_106 hl (k := 3) rfl (nI_1 k) (by decide) rfl (fun ls hl => ?_)
            refine lv_goto (tgt := 2) hx hb dX3_spread_109 (by decide) ?_
            exact ih2 (k + 1) (reachF σ φ ((φ.2.1 k) / 2) ((lenF φ ((φ.2.1 k) / 2)) + 1)) (by omega) (by rw [hsp]; simp [spreadL, entryF, remI, c_7, c_37, c_52]) _ _ ls (lv_sub hl [0, 4, 5] rfl) hP hD hS
          · refine lv_iconst (v := 1) hx hb dX3_spread_55 (by decide) ?_
            refine lv_goto (tgt := 60) hx hb dX3_spread_56 (by decide) ?_
            refine lv_istore (lv' := [(5, .int 1), (4, .int 1), (3, .int ((φ.2.1 k) / 2)), (2, .int (nI k)), (0, .ref (b 0)), (1, .ref (a 0))]) hx hb dX3_spread_60 hl (by decide) rfl (fun ls hl => ?_)
            refine lv_iload hx hb dX3_spread_62 (lv_at hl 0 rfl) ?_
            refine lv_if_eq (tgt := 84) hx hb dX3_spread_64 (by decide) (fun z9 => absurd z9 (by decide)) (fun _ => ?_)
            refine lv_iload hx hb dX3_spread_67 (lv_at hl 1 rfl) ?_
            refine lv_if_ne (tgt := 84) hx hb dX3_spread_69 (by decide) (fun _ => ?_) (fun z9 => absurd z9 (by decide))
            refine lv_aload_n hx hb dX3_spread_84 rfl (lv_at hl 4 rfl) ?_
            refine lv_aload_n hx hb dX3_spread_85 rfl (lv_at hl 5 rfl) ?_
            refine lv_iload_n hx hb dX3_spread_86 rfl (lv_at hl 2 rfl) ?_
            refine lv_aload_n hx hb dX3_spread_87 rfl (lv_at hl 4 rfl) ?_
            refine lv_iload_n hx hb dX3_spread_88 rfl (lv_at hl 2 rfl) ?_
            refine vp_callSi (va_Run.run (va_runV (As := [.int ((φ.2.1 k) / 2)]) (rest := [.int ((φ.2.1 k) / 2), .ref (a 0), .ref (b 0)]) ⟨hx, hb, hml, hown, hts⟩ (c_X3_lengthAt l D cI b φ ((φ.2.1 k) / 2)) (cwV 1 hts gX3_spread_X3_lengthAt rfl rfl rfl (by decide +kernel) ⟨Nat.le_of_ble_eq_true rfl, Nat.le_of_ble_eq_true rfl⟩) ⟨preR_blind, va_recv hK hP (ci := 3) (q0 := 0) rfl rfl, preR_of (hP.sub (ws' := yW cI b φ) [0, 1, 2] rfl) hK hE [.ref (b 0), .int ((φ.2.1 k) / 2)]⟩ rfl rfl hl.1 rfl (lv_room (Nat.le_of_ble_eq_true rfl)) dX3_spread_89 ⟨Nat.zero_le _, Nat.zero_le _⟩)) (fun r hr9 => ?_)
            subst hr9
            refine lv_iload hx hb dX3_spread_92 (lv_at hl 0 rfl) ?_
            refine lv_if_eq (tgt := 101) hx hb dX3_spread_94 (by decide) (fun z9 => absurd z9 (by decide)) (fun _ => ?_)
            refine lv_iconst (v := 2) hx hb dX3_spread_97 (by decide) ?_
            refine lv_goto (tgt := 102) hx hb dX3_spread_98 (by decide) ?_
            refine lv_iadd hx hb dX3_spread_102 ?_
            have hFc := va_free (wc := yW cI b φ ++ sW cI a σ) hD hS hA [0, 1, 2, 3, 4, 5, 6, 7, 8] rfl
            refine va_callv (va_runV (As := [.ref (a 0), .int ((φ.2.1 k) / 2), .int ((lenF φ ((φ.2.1 k) / 2)) + 2)]) (rest := []) ⟨hx, hb, hml, hown, hts⟩ (c_X3_reachAround l D cI _ b φ a σ ((φ.2.1 k) / 2) ((lenF φ ((φ.2.1 k) / 2)) + 2) t) (cwV 3 hts gX3_spread_X3_reachAround rfl rfl rfl (by decide +kernel) ⟨Nat.le_of_ble_eq_true rfl, Nat.le_of_ble_eq_true rfl⟩) ⟨preSX_blind, va_recv hK hP (ci := 3) (q0 := 0) rfl rfl, preSX_of hP hK hE hD hSX hS hFc [.ref (b 0), .ref (a 0), .int ((φ.2.1 k) / 2), .int ((lenF φ ((φ.2.1 k) / 2)) + 2)]⟩ rfl rfl hl.1 rfl (lv_room (Nat.le_of_ble_eq_true rfl)) dX3_spread_103 ⟨Nat.le_of_ble_eq_true rfl, Nat.le_of_ble_eq_true rfl⟩) hS (fun q _ h => hFc q h) hFc (fun u t9 H1 locs ht hvm hw hB hz1 hk1 hS => ?_)
            obtain ⟨hP1, hK1, hD1⟩ := hB
            rw [ht] at hP1
            rw [hw] at hP1 hD1
            obtain ⟨hP, hD⟩ := va_join (wr := []) (w1 := yW cI b (reachF σ φ ((φ.2.1 k) / 2) ((lenF φ ((φ.2.1 k) / 2)) + 2)) ++ sW cI a σ) hP hD [0, 1, 2, 3, 4, 5, 6, 7, 8] [] rfl rfl (by decide) (by decide) hk1 hFc hP1 hD1
            generalize H1 = H at hP hS ⊢
            have hP : va_P D vwCl (yW cI b (reachF σ φ ((φ.2.1 k) / 2) ((lenF φ ((φ.2.1 k) / 2)) + 2)) ++ sW cI a σ) H := hP
            have hD : va_D A (yW cI b (reachF σ φ ((φ.2.1 k) / 2) ((lenF φ ((φ.2.1 k) / 2)) + 2)) ++ sW cI a σ) := hD
            refine lv_iinc (v := (nI (k + 1))) (lv' := [(2, .int (nI (k + 1))), (5, .int 1), (4, .int 1), (3, .int ((φ.2.1 k) / 2)), (0, .ref (b 0)), (1, .ref (a 0))]) hx hb dX3_spread_106 hl (k := 3) rfl (nI_1 k) (by decide) rfl (fun ls hl => ?_)
            refine lv_goto (tgt := 2) hx hb dX3_spread_109 (by decide) ?_
            exact ih2 (k + 1) (reachF σ φ ((φ.2.1 k) / 2) ((lenF φ ((φ.2.1 k) / 2)) + 2)) (by omega) (by rw [hsp]; simp [spreadL, entryF, remI, c_7, c_37, c_52]) _ _ ls (lv_sub hl [0, 4, 5] rfl) hP hD hS
  exact L2 320 0 ψ (by omega) rfl _ _ ls (lv_sub hl [0, 1, 2] rfl) hP hD hS
set_option maxHeartbeats 4000000 in
set_option maxRecDepth 100000 in
theorem c_X3_measure (l : Launch) (D : va_G) (cI : ClassId) (sz : Nat) (b : Nat → Nat) (ψ : YS) (a : Nat → Nat) (σ : SS) (x y : Int32) (t : Nat) (hn : s_n σ ≤ 10) : Met l yX3_measure wsX3_measure ({ frames := 3, cells := 0, slots := 0, locals := 72 } : Room) (va_Pc [.ref (b 0), .ref (a 0), .int x, .int y] (preSX D cI (yW cI b ψ ++ sW cI a σ) sz t)) (va_Qv (fun (u : YS) => u.1 = lensF σ x y) (fun (u : YS) => posM D cI (va_A (yW cI b ψ ++ sW cI a σ) sz) (yW cI b u ++ sW cI a σ)) (va_A (yW cI b ψ ++ sW cI a σ) sz)) 0 0 (va_A (yW cI b ψ ++ sW cI a σ) sz) := by
  refine Met.ofW (cc := cX3_measure) (maxL := 5) (ret := none) (by decide) rfl ?_
  intro p e s m args below meth c s₁ B hml hv
  obtain ⟨rfl, ⟨hsz, hP, hK, hE, hD0⟩, hSX⟩ := hv
  have hx := B.exec
  have hb := B.bytes
  have hr := B.returns
  have hts := atoms_spec (ws := wsX3_measure) B.pre
  have hown : s.vm.findClass RX3 = some m.cls := findClass_of_methodNamed B.named
  have hlocks := B.notSynchronized
  subst hsz
  have hD := hD0.self (sz := s.heap.size)
  generalize hAe : va_A (yW cI b ψ ++ sW cI a σ) s.heap.size = A at hD hSX ⊢
  have hA : ∀ q : Nat, s.heap.size ≤ q → A q := fun q h => by rw [← hAe]; exact Or.inr h
  have hS : va_S A s.heap s.heap [] := va_S.rf
  have hP : va_P D vwCl (yW cI b ψ ++ sW cI a σ) s.heap := hP
  have hl := lv_entry ([.ref (b 0), .ref (a 0), .int x, .int y]) (n := 5) (Nat.le_of_ble_eq_true rfl)
  rw [lg_entry_eq]
  generalize (lg_sl ([.ref (b 0), .ref (a 0), .int x, .int y]) ++ List.replicate (5 - (lg_sl ([.ref (b 0), .ref (a 0), .int x, .int y])).length) Slot.unset).toArray = ls at hl ⊢
  have hl : lv_has ls 5 [(0, .ref (b 0)), (1, .ref (a 0)), (2, .int x), (3, .int y)] := hl
  refine lv_aload_n hx hb dX3_measure_0 rfl (lv_at hl 0 rfl) ?_
  refine va_get (D := D) (ci := 3) (v := .ref (b 1)) (C := RX3) (T := TX3) (N := 3) hx hb hts (by decide +kernel) hown hK hP 0 rfl rfl 0 (by decide) (hts (.fieldLink RX3 9 "Warren$Ways" "lengths" "[I") (by decide +kernel)) (fun _ h9 => h9) rfl dX3_measure_1 ?_
  refine lv_iconst (v := (-1)) hx hb dX3_measure_4 (by decide) ?_
  have hP : va_P D vwCl ([((b 0), .inr (3, [.ref (b 1), .ref (b 2), .int ψ.2.2]))] ++ [((b 1), .inl (cI, 160, .inl ψ.1))] ++ [((b 2), .inl (cI, 320, .inl ψ.2.1))] ++ sW cI a σ) s.heap := hP
  have hD : va_D A ([((b 0), .inr (3, [.ref (b 1), .ref (b 2), .int ψ.2.2]))] ++ [((b 1), .inl (cI, 160, .inl ψ.1))] ++ [((b 2), .inl (cI, 320, .inl ψ.2.1))] ++ sW cI a σ) := hD
  have hFc := va_free (wc := [((b 1), .inl (cI, 160, .inl ψ.1))]) hD hS hA [1] rfl
  refine va_callv (va_runS (As := [.ref (b 1), .int (-1)]) (rest := []) ⟨hx, hb, hml, hown, hts⟩ (c_J7_fill_53178 l D cI _ (b 1) 160 ψ.1 (-1) (by decide)) (va_cwS 2 hts gX3_measure_J7_fill_53178 rfl rfl rfl (by decide +kernel) ⟨Nat.le_of_ble_eq_true rfl, Nat.le_of_ble_eq_true rfl⟩) ⟨preM_blind, preM_of (hP.sub (ws' := [((b 1), .inl (cI, 160, .inl ψ.1))]) [1] rfl) hK hE (hD.sub (ws' := [((b 1), .inl (cI, 160, .inl ψ.1))]) [1] (by decide) rfl) [.ref (b 1), .int (-1)]⟩ rfl rfl hl.1 rfl (lv_room (Nat.le_of_ble_eq_true rfl)) dX3_measure_5 ⟨Nat.le_of_ble_eq_true rfl, Nat.le_of_ble_eq_true rfl⟩) hS (fun q _ h => hFc q h) hFc (fun u t9 H1 locs ht hvm hw hB hz1 hk1 hS => ?_)
  obtain ⟨hP1, hK1, hD1⟩ := hB
  rw [ht] at hP1
  subst hw
  obtain ⟨hP, hD⟩ := va_join (wr := [((b 0), .inr (3, [.ref (b 1), .ref (b 2), .int ψ.2.2]))] ++ [((b 2), .inl (cI, 320, .inl ψ.2.1))] ++ sW cI a σ) (w1 := [((b 1), .inl (cI, 160, .inl (fillF ψ.1 160 (-1))))]) hP hD [1] [0, 2, 3, 4, 5, 6, 7, 8] rfl rfl (by decide) (by decide) hk1 hFc hP1 hD1
  generalize H1 = H at hP hS ⊢
  have hP : va_P D vwCl ([((b 0), .inr (3, [.ref (b 1), .ref (b 2), .int ψ.2.2]))] ++ [((b 2), .inl (cI, 320, .inl ψ.2.1))] ++ sW cI a σ ++ [((b 1), .inl (cI, 160, .inl (fillF ψ.1 160 (-1))))]) H := hP
  have hD : va_D A ([((b 0), .inr (3, [.ref (b 1), .ref (b 2), .int ψ.2.2]))] ++ [((b 2), .inl (cI, 320, .inl ψ.2.1))] ++ sW cI a σ ++ [((b 1), .inl (cI, 160, .inl (fillF ψ.1 160 (-1))))]) := hD
  have hP : va_P D vwCl (yW cI b ((fillF ψ.1 160 (-1)), ψ.2.1, ψ.2.2) ++ sW cI a σ) H := hP.sub (ws' := yW cI b ((fillF ψ.1 160 (-1)), ψ.2.1, ψ.2.2) ++ sW cI a σ) [0, 8, 1, 2, 3, 4, 5, 6, 7] rfl
  have hD : va_D A (yW cI b ((fillF ψ.1 160 (-1)), ψ.2.1, ψ.2.2) ++ sW cI a σ) := hD.sub (ws' := yW cI b ((fillF ψ.1 160 (-1)), ψ.2.1, ψ.2.2) ++ sW cI a σ) [0, 8, 1, 2, 3, 4, 5, 6, 7] (by decide) rfl
  have hP : va_P D vwCl (yW cI b ((fillF ψ.1 160 (-1)), ψ.2.1, ψ.2.2) ++ sW cI a σ) H := hP
  have hD : va_D A (yW cI b ((fillF ψ.1 160 (-1)), ψ.2.1, ψ.2.2) ++ sW cI a σ) := hD
  refine lv_aload_n hx hb dX3_measure_8 rfl (lv_at hl 0 rfl) ?_
  refine lv_iconst (v := 0) hx hb dX3_measure_9 (by decide) ?_
  refine va_put (D := D) (ci := 3) (v := .int 0) (ty := .int) (C := RX3) (T := TX3) (N := 3) hx hb hts (by decide +kernel) tyX3 tyX3_ok nmX3 hown hK hP hD hS 0 rfl rfl 2 (by decide) (hts (.fieldLink RX3 24 "Warren$Ways" "queued" "I") (by decide +kernel)) (fun _ h9 => h9) rfl (by decide +kernel) rfl rfl (Nat.le_of_ble_eq_true rfl) dX3_measure_10 (fun H locs hP hD hS => ?_)
  have hP : va_P D vwCl (yW cI b (((fillF ψ.1 160 (-1)), ψ.2.1, ψ.2.2).1, ((fillF ψ.1 160 (-1)), ψ.2.1, ψ.2.2).2.1, 0) ++ sW cI a σ) H := hP
  have hD : va_D A (yW cI b (((fillF ψ.1 160 (-1)), ψ.2.1, ψ.2.2).1, ((fillF ψ.1 160 (-1)), ψ.2.1, ψ.2.2).2.1, 0) ++ sW cI a σ) := hD
  refine lv_aload_n hx hb dX3_measure_13 rfl (lv_at hl 1 rfl) ?_
  refine lv_iload_n hx hb dX3_measure_14 rfl (lv_at hl 3 rfl) ?_
  refine vp_callSi (va_Run.run (va_runV (As := [.int y]) (rest := []) ⟨hx, hb, hml, hown, hts⟩ (c_X2_kindAt l D cI a σ y) (cwV 1 hts gX3_measure_X2_kindAt rfl rfl rfl (by decide +kernel) ⟨Nat.le_of_ble_eq_true rfl, Nat.le_of_ble_eq_true rfl⟩) ⟨preR_blind, va_recv hK hP (ci := 2) (q0 := 3) rfl rfl, preR_of (hP.sub (ws' := sW cI a σ) [3, 4, 5, 6, 7, 8] rfl) hK hE [.ref (a 0), .int y]⟩ rfl rfl hl.1 rfl (lv_room (Nat.le_of_ble_eq_true rfl)) dX3_measure_15 ⟨Nat.zero_le _, Nat.zero_le _⟩)) (fun r hr9 => ?_)
  subst hr9
  refine lv_iconst (v := 1) hx hb dX3_measure_18 (by decide) ?_
  refine lv_icmp_ne (tgt := 23) hx hb dX3_measure_19 (by decide) (fun c_19 => ?_) (fun c_19 => ?_)
  · refine lv_iconst (v := 0) hx hb dX3_measure_23 (by decide) ?_
    refine lv_istore (lv' := [(4, .int 0), (0, .ref (b 0)), (1, .ref (a 0)), (2, .int x), (3, .int y)]) hx hb dX3_measure_24 hl (by decide) rfl (fun ls hl => ?_)
    have L26 : ∀ (n k : Nat) (φ : YS) (hk : k + n = s_n σ) (hsp : blockL σ x (s_n σ) 0 (clearF ψ) = blockL σ x n k φ) (H : Heap) (locs : List Loc) (ls : Array Slot), lv_has ls 5 [(4, .int (nI k)), (0, .ref (b 0)), (1, .ref (a 0)), (2, .int x), (3, .int y)] → va_P D vwCl (yW cI b φ ++ sW cI a σ) H → va_D A (yW cI b φ ++ sW cI a σ) → va_S A s.heap H locs → W p l e ({ frames := 3, cells := 0, slots := 0, locals := 72 } : Room) s m ([.ref (b 0), .ref (a 0), .int x, .int y] : List Value).toArray below meth c H locs 0 0 (MQ below (va_Qv (fun (u : YS) => u.1 = lensF σ x y) (fun (u : YS) => posM D cI A (yW cI b u ++ sW cI a σ)) A) ([.ref (b 0), .ref (a 0), .int x, .int y] : List Value).toArray s 0 0 A) (F0 m 26 ls []) := by
      intro n
      induction n with
      | zero =>
        intro k φ hk hsp H locs ls hl hP hD hS
        refine lv_iload hx hb dX3_measure_26 (lv_at hl 0 rfl) ?_
        refine lv_aload_n hx hb dX3_measure_28 rfl (lv_at hl 2 rfl) ?_
        refine va_getN (D := D) (ci := 2) (v := .int (nI (s_n σ))) (C := RX2) (T := TX2) (N := 8) hx hb hts (by decide +kernel) hown hK hP 3 rfl rfl 5 (by decide) (va_Nw.use rfl hE.2.2.2.1) (fun _ h9 => h9) rfl dX3_measure_29 ?_
        refine lv_icmp_ge (tgt := 60) hx hb dX3_measure_32 (by decide) (fun c_32 => ?_) (fun c_32 => absurd (nI_le (by omega) (by omega)) c_32)
        refine lv_aload_n hx hb dX3_measure_60 rfl (lv_at hl 1 rfl) ?_
        refine lv_iload_n hx hb dX3_measure_61 rfl (lv_at hl 4 rfl) ?_
        refine lv_iconst (v := 0) hx hb dX3_measure_62 (by decide) ?_
        have hFc := va_free (wc := yW cI b φ) hD hS hA [0, 1, 2] rfl
        refine va_callv (va_runV (As := [.int y, .int 0]) (rest := []) ⟨hx, hb, hml, hown, hts⟩ (c_X3_putLength l D cI _ b φ y 0) (cwV 2 hts gX3_measure_X3_putLength rfl rfl rfl (by decide +kernel) ⟨Nat.le_of_ble_eq_true rfl, Nat.le_of_ble_eq_true rfl⟩) ⟨preM_blind, va_recv hK hP (ci := 3) (q0 := 0) rfl rfl, preM_of (hP.sub (ws' := yW cI b φ) [0, 1, 2] rfl) hK hE (hD.sub (ws' := yW cI b φ) [0, 1, 2] (by decide) rfl) [.ref (b 0), .int y, .int 0]⟩ rfl rfl hl.1 rfl (lv_room (Nat.le_of_ble_eq_true rfl)) dX3_measure_63 ⟨Nat.le_of_ble_eq_true rfl, Nat.le_of_ble_eq_true rfl⟩) hS (fun q _ h => hFc q h) hFc (fun u t9 H1 locs ht hvm hw hB hz1 hk1 hS => ?_)
        obtain ⟨hP1, hK1, hD1⟩ := hB
        rw [ht] at hP1
        subst hw
        obtain ⟨hP, hD⟩ := va_join (wr := sW cI a σ) (w1 := yW cI b (putLenF φ y 0)) hP hD [0, 1, 2] [3, 4, 5, 6, 7, 8] rfl rfl (by decide) (by decide) hk1 hFc hP1 hD1
        generalize H1 = H at hP hS ⊢
        have hP : va_P D vwCl (sW cI a σ ++ yW cI b (putLenF φ y 0)) H := hP
        have hD : va_D A (sW cI a σ ++ yW cI b (putLenF φ y 0)) := hD
        refine lv_aload_n hx hb dX3_measure_66 rfl (lv_at hl 1 rfl) ?_
        refine lv_iconst (v := 2) hx hb dX3_measure_67 (by decide) ?_
        refine lv_iload_n hx hb dX3_measure_68 rfl (lv_at hl 4 rfl) ?_
        refine lv_imul hx hb dX3_measure_69 ?_
        have hFc := va_free (wc := yW cI b (putLenF φ y 0)) hD hS hA [6, 7, 8] rfl
        refine va_callv (va_runV (As := [.int (2 * y)]) (rest := []) ⟨hx, hb, hml, hown, hts⟩ (c_X3_enqueue l D cI _ b (putLenF φ y 0) (2 * y)) (cwV 1 hts gX3_measure_X3_enqueue rfl rfl rfl (by decide +kernel) ⟨Nat.le_of_ble_eq_true rfl, Nat.le_of_ble_eq_true rfl⟩) ⟨preM_blind, va_recv hK hP (ci := 3) (q0 := 6) rfl rfl, preM_of (hP.sub (ws' := yW cI b (putLenF φ y 0)) [6, 7, 8] rfl) hK hE (hD.sub (ws' := yW cI b (putLenF φ y 0)) [6, 7, 8] (by decide) rfl) [.ref (b 0), .int (2 * y)]⟩ rfl rfl hl.1 rfl (lv_room (Nat.le_of_ble_eq_true rfl)) dX3_measure_70 ⟨Nat.le_of_ble_eq_true rfl, Nat.le_of_ble_eq_true rfl⟩) hS (fun q _ h => hFc q h) hFc (fun u t9 H1 locs ht hvm hw hB hz1 hk1 hS => ?_)
        obtain ⟨hP1, hK1, hD1⟩ := hB
        rw [ht] at hP1
        subst hw
        obtain ⟨hP, hD⟩ := va_join (wr := sW cI a σ) (w1 := yW cI b (enqF (putLenF φ y 0) (2 * y))) hP hD [6, 7, 8] [0, 1, 2, 3, 4, 5] rfl rfl (by decide) (by decide) hk1 hFc hP1 hD1
        generalize H1 = H at hP hS ⊢
        have hP : va_P D vwCl (sW cI a σ ++ yW cI b (enqF (putLenF φ y 0) (2 * y))) H := hP
        have hD : va_D A (sW cI a σ ++ yW cI b (enqF (putLenF φ y 0) (2 * y))) := hD
        refine lv_aload_n hx hb dX3_measure_73 rfl (lv_at hl 1 rfl) ?_
        refine lv_aload_n hx hb dX3_measure_74 rfl (lv_at hl 2 rfl) ?_
        have hFc := va_free (wc := yW cI b (enqF (putLenF φ y 0) (2 * y)) ++ sW cI a σ) hD hS hA [6, 7, 8, 0, 1, 2, 3, 4, 5] rfl
        refine va_callv (va_runV (As := [.ref (a 0)]) (rest := []) ⟨hx, hb, hml, hown, hts⟩ (c_X3_spread l D cI _ b (enqF (putLenF φ y 0) (2 * y)) a σ t) (cwV 1 hts gX3_measure_X3_spread rfl rfl rfl (by decide +kernel) ⟨Nat.le_of_ble_eq_true rfl, Nat.le_of_ble_eq_true rfl⟩) ⟨preSX_blind, va_recv hK hP (ci := 3) (q0 := 6) rfl rfl, preSX_of (hP.sub (ws' := yW cI b (enqF (putLenF φ y 0) (2 * y)) ++ sW cI a σ) [6, 7, 8, 0, 1, 2, 3, 4, 5] rfl) hK hE (hD.sub (ws' := yW cI b (enqF (putLenF φ y 0) (2 * y)) ++ sW cI a σ) [6, 7, 8, 0, 1, 2, 3, 4, 5] (by decide) rfl) hSX hS hFc [.ref (b 0), .ref (a 0)]⟩ rfl rfl hl.1 rfl (lv_room (Nat.le_of_ble_eq_true rfl)) dX3_measure_75 ⟨Nat.le_of_ble_eq_true rfl, Nat.le_of_ble_eq_true rfl⟩) hS (fun q _ h => hFc q h) hFc (fun u t9 H1 locs ht hvm hw hB hz1 hk1 hS => ?_)
        obtain ⟨hP1, hK1, hD1⟩ := hB
        rw [ht] at hP1
        rw [hw] at hP1 hD1
        obtain ⟨hP, hD⟩ := va_join (wr := []) (w1 := yW cI b (spreadF σ (enqF (putLenF φ y 0) (2 * y))) ++ sW cI a σ) hP hD [6, 7, 8, 0, 1, 2, 3, 4, 5] [] rfl rfl (by decide) (by decide) hk1 hFc hP1 hD1
        generalize H1 = H at hP hS ⊢
        have hP : va_P D vwCl (yW cI b (spreadF σ (enqF (putLenF φ y 0) (2 * y))) ++ sW cI a σ) H := hP
        have hD : va_D A (yW cI b (spreadF σ (enqF (putLenF φ y 0) (2 * y))) ++ sW cI a σ) := hD
        have hP := P_row hP hD 1 rfl (lensF σ x y) (fun j hj => by have h9 := measure_lens σ ψ x y j hj; rw [measureF, if_neg c_19, hsp] at h9; exact h9)
        have hD := hD.set (p := 1) (e := .inl (cI, 160, .inl (lensF σ x y))) rfl
        have hP : va_P D vwCl (yW cI b ((lensF σ x y), (spreadF σ (enqF (putLenF φ y 0) (2 * y))).2) ++ sW cI a σ) H := hP
        have hD : va_D A (yW cI b ((lensF σ x y), (spreadF σ (enqF (putLenF φ y 0) (2 * y))).2) ++ sW cI a σ) := hD
        have hP9 := hP.sub (ws' := yW cI b ((lensF σ x y), (spreadF σ (enqF (putLenF φ y 0) (2 * y))).2) ++ sW cI a σ) [0, 1, 2, 3, 4, 5, 6, 7, 8] rfl
        have hD9 := hD.sub (ws' := yW cI b ((lensF σ x y), (spreadF σ (enqF (putLenF φ y 0) (2 * y))).2) ++ sW cI a σ) [0, 1, 2, 3, 4, 5, 6, 7, 8] (by decide) rfl
        exact W.vret hx hb hr (fun T9 ht hW => ⟨⟨((lensF σ x y), (spreadF σ (enqF (putLenF φ y 0) (2 * y))).2), rfl, rfl, by rw [ht]; exact hP9, va_K.moved hW.alike hK, hD9⟩, hS.F ht⟩) hS.2.2 dX3_measure_78
      | succ n ih26 =>
        intro k φ hk hsp H locs ls hl hP hD hS
        refine lv_iload hx hb dX3_measure_26 (lv_at hl 0 rfl) ?_
        refine lv_aload_n hx hb dX3_measure_28 rfl (lv_at hl 2 rfl) ?_
        refine va_getN (D := D) (ci := 2) (v := .int (nI (s_n σ))) (C := RX2) (T := TX2) (N := 8) hx hb hts (by decide +kernel) hown hK hP 3 rfl rfl 5 (by decide) (va_Nw.use rfl hE.2.2.2.1) (fun _ h9 => h9) rfl dX3_measure_29 ?_
        refine lv_icmp_ge (tgt := 60) hx hb dX3_measure_32 (by decide) (fun c_32 => absurd c_32 (nI_ge (by omega) (by omega))) (fun c_32 => ?_)
        refine lv_iload hx hb dX3_measure_35 (lv_at hl 0 rfl) ?_
        refine lv_iload_n hx hb dX3_measure_37 rfl (lv_at hl 3 rfl) ?_
        refine lv_icmp_eq (tgt := 54) hx hb dX3_measure_38 (by decide) (fun c_38 => ?_) (fun c_38 => ?_)
        · refine lv_iinc (v := (nI (k + 1))) (lv' := [(4, .int (nI (k + 1))), (0, .ref (b 0)), (1, .ref (a 0)), (2, .int x), (3, .int y)]) hx hb dX3_measure_54 hl (k := 0) rfl (nI_1 k) (by decide) rfl (fun ls hl => ?_)
          refine lv_goto (tgt := 26) hx hb dX3_measure_57 (by decide) ?_
          exact ih26 (k + 1) φ (by omega) (by rw [hsp]; simp [blockL, c_38]) _ _ ls (lv_sub hl [0, 1, 2, 3, 4] rfl) hP hD hS
        · refine lv_aload_n hx hb dX3_measure_41 rfl (lv_at hl 1 rfl) ?_
          refine lv_aload_n hx hb dX3_measure_42 rfl (lv_at hl 2 rfl) ?_
          refine lv_iload hx hb dX3_measure_43 (lv_at hl 0 rfl) ?_
          refine lv_iconst (v := 1) hx hb dX3_measure_45 (by decide) ?_
          refine vp_callSi (va_Run.run (va_runV (As := [.int (nI k), .int 1]) (rest := [.ref (b 0)]) ⟨hx, hb, hml, hown, hts⟩ (c_X2_trait l D cI a σ (nI k) 1) (cwV 2 hts gX3_measure_X2_trait rfl rfl rfl (by decide +kernel) ⟨Nat.le_of_ble_eq_true rfl, Nat.le_of_ble_eq_true rfl⟩) ⟨preR_blind, va_recv hK hP (ci := 2) (q0 := 3) rfl rfl, preR_of (hP.sub (ws' := sW cI a σ) [3, 4, 5, 6, 7, 8] rfl) hK hE [.ref (a 0), .int (nI k), .int 1]⟩ rfl rfl hl.1 rfl (lv_room (Nat.le_of_ble_eq_true rfl)) dX3_measure_46 ⟨Nat.zero_le _, Nat.zero_le _⟩)) (fun r hr9 => ?_)
          subst hr9
          refine lv_bipush (v := (-2)) hx hb dX3_measure_49 (by decide) ?_
          have hFc := va_free (wc := yW cI b φ) hD hS hA [0, 1, 2] rfl
          refine va_callv (va_runV (As := [.int (traitF σ (nI k) 1), .int (-2)]) (rest := []) ⟨hx, hb, hml, hown, hts⟩ (c_X3_putLength l D cI _ b φ (traitF σ (nI k) 1) (-2)) (cwV 2 hts gX3_measure_X3_putLength rfl rfl rfl (by decide +kernel) ⟨Nat.le_of_ble_eq_true rfl, Nat.le_of_ble_eq_true rfl⟩) ⟨preM_blind, va_recv hK hP (ci := 3) (q0 := 0) rfl rfl, preM_of (hP.sub (ws' := yW cI b φ) [0, 1, 2] rfl) hK hE (hD.sub (ws' := yW cI b φ) [0, 1, 2] (by decide) rfl) [.ref (b 0), .int (traitF σ (nI k) 1), .int (-2)]⟩ rfl rfl hl.1 rfl (lv_room (Nat.le_of_ble_eq_true rfl)) dX3_measure_51 ⟨Nat.le_of_ble_eq_true rfl, Nat.le_of_ble_eq_true rfl⟩) hS (fun q _ h => hFc q h) hFc (fun u t9 H1 locs ht hvm hw hB hz1 hk1 hS => ?_)
          obtain ⟨hP1, hK1, hD1⟩ := hB
          rw [ht] at hP1
          subst hw
          obtain ⟨hP, hD⟩ := va_join (wr := sW cI a σ) (w1 := yW cI b (putLenF φ (traitF σ (nI k) 1) (-2))) hP hD [0, 1, 2] [3, 4, 5, 6, 7, 8] rfl rfl (by decide) (by decide) hk1 hFc hP1 hD1
          generalize H1 = H at hP hS ⊢
          have hP : va_P D vwCl (sW cI a σ ++ yW cI b (putLenF φ (traitF σ (nI k) 1) (-2))) H := hP
          have hD : va_D A (sW cI a σ ++ yW cI b (putLenF φ (traitF σ (nI k) 1) (-2))) := hD
          have hP : va_P D vwCl (yW cI b (putLenF φ (traitF σ (nI k) 1) (-2)) ++ sW cI a σ) H := hP.sub (ws' := yW cI b (putLenF φ (traitF σ (nI k) 1) (-2)) ++ sW cI a σ) [6, 7, 8, 0, 1, 2, 3, 4, 5] rfl
          have hD : va_D A (yW cI b (putLenF φ (traitF σ (nI k) 1) (-2)) ++ sW cI a σ) := hD.sub (ws' := yW cI b (putLenF φ (traitF σ (nI k) 1) (-2)) ++ sW cI a σ) [6, 7, 8, 0, 1, 2, 3, 4, 5] (by decide) rfl
          refine lv_iinc (v := (nI (k + 1))) (lv' := [(4, .int (nI (k + 1))), (0, .ref (b 0)), (1, .ref (a 0)), (2, .int x), (3, .int y)]) hx hb dX3_measure_54 hl (k := 0) rfl (nI_1 k) (by decide) rfl (fun ls hl => ?_)
          refine lv_goto (tgt := 26) hx hb dX3_measure_57 (by decide) ?_
          exact ih26 (k + 1) (putLenF φ (traitF σ (nI k) 1) (-2)) (by omega) (by rw [hsp]; simp [blockL, c_38]) _ _ ls (lv_sub hl [0, 1, 2, 3, 4] rfl) hP hD hS
    exact L26 (s_n σ) 0 (((fillF ψ.1 160 (-1)), ψ.2.1, ψ.2.2).1, ((fillF ψ.1 160 (-1)), ψ.2.1, ψ.2.2).2.1, 0) (by omega) rfl _ _ ls (lv_sub hl [0, 1, 2, 3, 4] rfl) hP hD hS
  · have hP := P_row hP hD 1 rfl (lensF σ x y) (fun j hj => by have h9 := measure_lens σ ψ x y j hj; rw [measureF, if_pos c_19] at h9; exact h9)
    have hD := hD.set (p := 1) (e := .inl (cI, 160, .inl (lensF σ x y))) rfl
    have hP : va_P D vwCl (yW cI b ((lensF σ x y), (((fillF ψ.1 160 (-1)), ψ.2.1, ψ.2.2).1, ((fillF ψ.1 160 (-1)), ψ.2.1, ψ.2.2).2.1, 0).2) ++ sW cI a σ) H := hP
    have hD : va_D A (yW cI b ((lensF σ x y), (((fillF ψ.1 160 (-1)), ψ.2.1, ψ.2.2).1, ((fillF ψ.1 160 (-1)), ψ.2.1, ψ.2.2).2.1, 0).2) ++ sW cI a σ) := hD
    have hP9 := hP.sub (ws' := yW cI b ((lensF σ x y), (((fillF ψ.1 160 (-1)), ψ.2.1, ψ.2.2).1, ((fillF ψ.1 160 (-1)), ψ.2.1, ψ.2.2).2.1, 0).2) ++ sW cI a σ) [0, 1, 2, 3, 4, 5, 6, 7, 8] rfl
    have hD9 := hD.sub (ws' := yW cI b ((lensF σ x y), (((fillF ψ.1 160 (-1)), ψ.2.1, ψ.2.2).1, ((fillF ψ.1 160 (-1)), ψ.2.1, ψ.2.2).2.1, 0).2) ++ sW cI a σ) [0, 1, 2, 3, 4, 5, 6, 7, 8] (by decide) rfl
    exact W.vret hx hb hr (fun T9 ht hW => ⟨⟨((lensF σ x y), (((fillF ψ.1 160 (-1)), ψ.2.1, ψ.2.2).1, ((fillF ψ.1 160 (-1)), ψ.2.1, ψ.2.2).2.1, 0).2), rfl, rfl, by rw [ht]; exact hP9, va_K.moved hW.alike hK, hD9⟩, hS.F ht⟩) hS.2.2 dX3_measure_22
