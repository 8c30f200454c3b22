set_option maxHeartbeats 4000000 in
set_option maxRecDepth 100000 in
theorem c_X2_putKind (l : Launch) (D : va_G) (cI : ClassId) (sz : Nat) (a : Nat → Nat) (σ : SS) (x y : Int32) : Met l yX2_putKind wsX2_putKind ({ frames := 0, cells := 0, slots := 0, locals := 0 } : Room) (va_Pc [.ref (a 0), .int x, .int y] (preM D cI (sW cI a σ) sz)) (va_Qv (fun (u : SS) => u = putKindF σ x y) (fun (u : SS) => posM D cI (va_A (sW cI a σ) sz) (sW cI a u)) (va_A (sW cI a σ) sz)) 0 0 (va_A (sW cI a σ) sz) := by
  refine Met.ofW (cc := cX2_putKind) (maxL := 3) (ret := none) (by decide) rfl ?_
  intro p e s m args below meth c s₁ B hml hv
  obtain ⟨rfl, hsz, hP, hK, hE, hD0⟩ := hv
  have hx := B.exec
  have hb := B.bytes
  have hr := B.returns
  have hts := atoms_spec (ws := wsX2_putKind) B.pre
  have hown : s.vm.findClass RX2 = some m.cls := findClass_of_methodNamed B.named
  have hlocks := B.notSynchronized
  subst hsz
  have hD := hD0.self (sz := s.heap.size)
  generalize hAe : va_A (sW cI a σ) s.heap.size = A at hD ⊢
  have hA : ∀ q : Nat, s.heap.size ≤ q → A q := fun q h => by rw [← hAe]; exact Or.inr h
  have hS : va_S A s.heap s.heap [] := va_S.rf
  have hP : va_P D vwCl (sW cI a σ) s.heap := hP
  have hl := lv_entry ([.ref (a 0), .int x, .int y]) (n := 3) (Nat.le_of_ble_eq_true rfl)
  rw [lg_entry_eq]
  generalize (lg_sl ([.ref (a 0), .int x, .int y]) ++ List.replicate (3 - (lg_sl ([.ref (a 0), .int x, .int y])).length) Slot.unset).toArray = ls at hl ⊢
  have hl : lv_has ls 3 [(0, .ref (a 0)), (1, .int x), (2, .int y)] := hl
  refine lv_iload_n hx hb dX2_putKind_0 rfl (lv_at hl 1 rfl) ?_
  refine lv_if_lt (tgt := 20) hx hb dX2_putKind_1 (by decide) (fun c_1 => ?_) (fun c_1 => ?_)
  · have hP9 := hP
    have hD9 := hD
    exact W.vret hx hb hr (fun t ht hW => ⟨⟨σ, rfl, by first | rfl | (simp only [putKindF, wr, if_pos c_1]; done) | (simp only [putKindF, wr, if_pos c_1]; rfl) | (simp [putKindF, wr, c_1]; done) | (simp [putKindF, wr, c_1]; rfl), by rw [ht]; exact hP9, va_K.moved hW.alike hK, hD9⟩, hS.F ht⟩) hS.2.2 dX2_putKind_20
  · refine lv_iload_n hx hb dX2_putKind_4 rfl (lv_at hl 1 rfl) ?_
    refine lv_aload_n hx hb dX2_putKind_5 rfl (lv_at hl 0 rfl) ?_
    refine va_get (D := D) (ci := 2) (v := .ref (a 1)) (C := RX2) (T := TX2) (N := 8) hx hb hts (by decide +kernel) hown hK hP 0 rfl rfl 0 (by decide) (hts (.fieldLink RX2 9 "Warren$State" "kinds" "[I") (by decide +kernel)) (fun _ h9 => h9) rfl dX2_putKind_6 ?_
    refine va_alen (v := nI 160) hx hb hK hP 1 0 rfl rfl rfl dX2_putKind_9 ?_
    refine lv_icmp_ge (tgt := 20) hx hb dX2_putKind_10 (by decide) (fun c_10 => ?_) (fun c_10 => ?_)
    · have hP9 := hP
      have hD9 := hD
      exact W.vret hx hb hr (fun t ht hW => ⟨⟨σ, rfl, by first | rfl | (simp only [putKindF, wr, if_neg c_1, if_pos c_10]; done) | (simp only [putKindF, wr, if_neg c_1, if_pos c_10]; rfl) | (simp [putKindF, wr, c_1, c_10]; done) | (simp [putKindF, wr, c_1, c_10]; rfl), by rw [ht]; exact hP9, va_K.moved hW.alike hK, hD9⟩, hS.F ht⟩) hS.2.2 dX2_putKind_20
    · refine lv_aload_n hx hb dX2_putKind_13 rfl (lv_at hl 0 rfl) ?_
      refine va_get (D := D) (ci := 2) (v := .ref (a 1)) (C := RX2) (T := TX2) (N := 8) hx hb hts (by decide +kernel) hown hK hP 0 rfl rfl 0 (by decide) (hts (.fieldLink RX2 9 "Warren$State" "kinds" "[I") (by decide +kernel)) (fun _ h9 => h9) rfl dX2_putKind_14 ?_
      refine lv_iload_n hx hb dX2_putKind_17 rfl (lv_at hl 1 rfl) ?_
      refine lv_iload_n hx hb dX2_putKind_18 rfl (lv_at hl 2 rfl) ?_
      refine va_iast hx hb hK hP hD hS 1 0 rfl rfl (vin (by decide) (by assumption) (by assumption)) dX2_putKind_19 (fun H locs hP hD hS => ?_)
      have hP : va_P D vwCl (sW cI a (w_ki σ (upd (s_ki σ) x.toNatClampNeg y))) H := hP
      have hD : va_D A (sW cI a (w_ki σ (upd (s_ki σ) x.toNatClampNeg y))) := hD
      have hP9 := hP
      have hD9 := hD
      exact W.vret hx hb hr (fun t ht hW => ⟨⟨(w_ki σ (upd (s_ki σ) x.toNatClampNeg y)), rfl, by first | rfl | (simp only [putKindF, wr, if_neg c_1, if_neg c_10]; done) | (simp only [putKindF, wr, if_neg c_1, if_neg c_10]; rfl) | (simp [putKindF, wr, c_1, c_10]; done) | (simp [putKindF, wr, c_1, c_10]; rfl), by rw [ht]; exact hP9, va_K.moved hW.alike hK, hD9⟩, hS.F ht⟩) hS.2.2 dX2_putKind_20

set_option maxHeartbeats 4000000 in
set_option maxRecDepth 100000 in
theorem c_X2_putTrait (l : Launch) (D : va_G) (cI : ClassId) (sz : Nat) (a : Nat → Nat) (σ : SS) (x y z : Int32) : Met l yX2_putTrait wsX2_putTrait ({ frames := 0, cells := 0, slots := 0, locals := 0 } : Room) (va_Pc [.ref (a 0), .int x, .int y, .int z] (preM D cI (sW cI a σ) sz)) (va_Qv (fun (u : SS) => u = putTraitF σ x y z) (fun (u : SS) => posM D cI (va_A (sW cI a σ) sz) (sW cI a u)) (va_A (sW cI a σ) sz)) 0 0 (va_A (sW cI a σ) sz) := by
  refine Met.ofW (cc := cX2_putTrait) (maxL := 5) (ret := none) (by decide) rfl ?_
  intro p e s m args below meth c s₁ B hml hv
  obtain ⟨rfl, hsz, hP, hK, hE, hD0⟩ := hv
  have hx := B.exec
  have hb := B.bytes
  have hr := B.returns
  have hts := atoms_spec (ws := wsX2_putTrait) B.pre
  have hown : s.vm.findClass RX2 = some m.cls := findClass_of_methodNamed B.named
  have hlocks := B.notSynchronized
  subst hsz
  have hD := hD0.self (sz := s.heap.size)
  generalize hAe : va_A (sW cI a σ) s.heap.size = A at hD ⊢
  have hA : ∀ q : Nat, s.heap.size ≤ q → A q := fun q h => by rw [← hAe]; exact Or.inr h
  have hS : va_S A s.heap s.heap [] := va_S.rf
  have hP : va_P D vwCl (sW cI a σ) s.heap := hP
  have hl := lv_entry ([.ref (a 0), .int x, .int y, .int z]) (n := 5) (Nat.le_of_ble_eq_true rfl)
  rw [lg_entry_eq]
  generalize (lg_sl ([.ref (a 0), .int x, .int y, .int z]) ++ List.replicate (5 - (lg_sl ([.ref (a 0), .int x, .int y, .int z])).length) Slot.unset).toArray = ls at hl ⊢
  have hl : lv_has ls 5 [(0, .ref (a 0)), (1, .int x), (2, .int y), (3, .int z)] := hl
  refine lv_iload_n hx hb dX2_putTrait_0 rfl (lv_at hl 1 rfl) ?_
  refine lv_bipush (v := 9) hx hb dX2_putTrait_1 (by decide) ?_
  refine lv_imul hx hb dX2_putTrait_3 ?_
  refine lv_iload_n hx hb dX2_putTrait_4 rfl (lv_at hl 2 rfl) ?_
  refine lv_iadd hx hb dX2_putTrait_5 ?_
  refine lv_istore (lv' := [(4, .int ((x * 9) + y)), (0, .ref (a 0)), (1, .int x), (2, .int y), (3, .int z)]) hx hb dX2_putTrait_6 hl (by decide) rfl (fun ls hl => ?_)
  refine lv_iload hx hb dX2_putTrait_8 (lv_at hl 0 rfl) ?_
  refine lv_if_lt (tgt := 31) hx hb dX2_putTrait_10 (by decide) (fun c_10 => ?_) (fun c_10 => ?_)
  · have hP9 := hP
    have hD9 := hD
    exact W.vret hx hb hr (fun t ht hW => ⟨⟨σ, rfl, by first | rfl | (simp only [putTraitF, wr, if_pos c_10]; done) | (simp only [putTraitF, wr, if_pos c_10]; rfl) | (simp [putTraitF, wr, c_10]; done) | (simp [putTraitF, wr, c_10]; rfl), by rw [ht]; exact hP9, va_K.moved hW.alike hK, hD9⟩, hS.F ht⟩) hS.2.2 dX2_putTrait_31
  · refine lv_iload hx hb dX2_putTrait_13 (lv_at hl 0 rfl) ?_
    refine lv_aload_n hx hb dX2_putTrait_15 rfl (lv_at hl 1 rfl) ?_
    refine va_get (D := D) (ci := 2) (v := .ref (a 3)) (C := RX2) (T := TX2) (N := 8) hx hb hts (by decide +kernel) hown hK hP 0 rfl rfl 2 (by decide) (hts (.fieldLink RX2 18 "Warren$State" "traits" "[I") (by decide +kernel)) (fun _ h9 => h9) rfl dX2_putTrait_16 ?_
    refine va_alen (v := nI 90) hx hb hK hP 3 0 rfl rfl rfl dX2_putTrait_19 ?_
    refine lv_icmp_ge (tgt := 31) hx hb dX2_putTrait_20 (by decide) (fun c_20 => ?_) (fun c_20 => ?_)
    · have hP9 := hP
      have hD9 := hD
      exact W.vret hx hb hr (fun t ht hW => ⟨⟨σ, rfl, by first | rfl | (simp only [putTraitF, wr, if_neg c_10, if_pos c_20]; done) | (simp only [putTraitF, wr, if_neg c_10, if_pos c_20]; rfl) | (simp [putTraitF, wr, c_10, c_20]; done) | (simp [putTraitF, wr, c_10, c_20]; rfl), by rw [ht]; exact hP9, va_K.moved hW.alike hK, hD9⟩, hS.F ht⟩) hS.2.2 dX2_putTrait_31
    · refine lv_aload_n hx hb dX2_putTrait_23 rfl (lv_at hl 1 rfl) ?_
      refine va_get (D := D) (ci := 2) (v := .ref (a 3)) (C := RX2) (T := TX2) (N := 8) hx hb hts (by decide +kernel) hown hK hP 0 rfl rfl 2 (by decide) (hts (.fieldLink RX2 18 "Warren$State" "traits" "[I") (by decide +kernel)) (fun _ h9 => h9) rfl dX2_putTrait_24 ?_
      refine lv_iload hx hb dX2_putTrait_27 (lv_at hl 0 rfl) ?_
      refine lv_iload_n hx hb dX2_putTrait_29 rfl (lv_at hl 4 rfl) ?_
      refine va_iast hx hb hK hP hD hS 3 0 rfl rfl (vin (by decide) (by assumption) (by assumption)) dX2_putTrait_30 (fun H locs hP hD hS => ?_)
      have hP : va_P D vwCl (sW cI a (w_tr σ (upd (s_tr σ) ((x * 9) + y).toNatClampNeg z))) H := hP
      have hD : va_D A (sW cI a (w_tr σ (upd (s_tr σ) ((x * 9) + y).toNatClampNeg z))) := hD
      have hP9 := hP
      have hD9 := hD
      exact W.vret hx hb hr (fun t ht hW => ⟨⟨(w_tr σ (upd (s_tr σ) ((x * 9) + y).toNatClampNeg z)), rfl, by first | rfl | (simp only [putTraitF, wr, if_neg c_10, if_neg c_20]; done) | (simp only [putTraitF, wr, if_neg c_10, if_neg c_20]; rfl) | (simp [putTraitF, wr, c_10, c_20]; done) | (simp [putTraitF, wr, c_10, c_20]; rfl), by rw [ht]; exact hP9, va_K.moved hW.alike hK, hD9⟩, hS.F ht⟩) hS.2.2 dX2_putTrait_31

