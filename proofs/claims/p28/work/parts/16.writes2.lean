set_option maxHeartbeats 4000000 in
set_option maxRecDepth 100000 in
theorem c_X2_putEffect (l : Launch) (D : va_G) (cI : ClassId) (sz : Nat) (a : Nat → Nat) (σ : SS) (x y z v : Int32) : Met l yX2_putEffect wsX2_putEffect ({ frames := 0, cells := 0, slots := 0, locals := 0 } : Room) (va_Pc [.ref (a 0), .int x, .int y, .int z, .int v] (preM D cI (sW cI a σ) sz)) (va_Qv (fun (u : SS) => u = putEffectF σ x y z v) (fun (u : SS) => posM D cI (va_A (sW cI a σ) sz) (sW cI a u)) (va_A (sW cI a σ) sz)) 0 0 (va_A (sW cI a σ) sz) := by
  refine Met.ofW (cc := cX2_putEffect) (maxL := 6) (ret := none) (by decide) rfl ?_
  intro p e s m args below meth c s₁ B hml hv
  obtain ⟨rfl, hsz, hP, hK, hE, hD0⟩ := hv
  have hx := B.exec
  have hb := B.bytes
  have hr := B.returns
  have hts := atoms_spec (ws := wsX2_putEffect) B.pre
  have hown : s.vm.findClass RX2 = some m.cls := findClass_of_methodNamed B.named
  have hlocks := B.notSynchronized
  subst hsz
  have hD := hD0.self (sz := s.heap.size)
  generalize hAe : va_A (sW cI a σ) s.heap.size = A at hD ⊢
  have hA : ∀ q : Nat, s.heap.size ≤ q → A q := fun q h => by rw [← hAe]; exact Or.inr h
  have hS : va_S A s.heap s.heap [] := va_S.rf
  have hP : va_P D vwCl (sW cI a σ) s.heap := hP
  have hl := lv_entry ([.ref (a 0), .int x, .int y, .int z, .int v]) (n := 6) (Nat.le_of_ble_eq_true rfl)
  rw [lg_entry_eq]
  generalize (lg_sl ([.ref (a 0), .int x, .int y, .int z, .int v]) ++ List.replicate (6 - (lg_sl ([.ref (a 0), .int x, .int y, .int z, .int v])).length) Slot.unset).toArray = ls at hl ⊢
  have hl : lv_has ls 6 [(0, .ref (a 0)), (1, .int x), (2, .int y), (3, .int z), (4, .int v)] := hl
  refine lv_iload_n hx hb dX2_putEffect_0 rfl (lv_at hl 1 rfl) ?_
  refine lv_iconst (v := 5) hx hb dX2_putEffect_1 (by decide) ?_
  refine lv_imul hx hb dX2_putEffect_2 ?_
  refine lv_iload_n hx hb dX2_putEffect_3 rfl (lv_at hl 2 rfl) ?_
  refine lv_iadd hx hb dX2_putEffect_4 ?_
  refine lv_istore (lv' := [(5, .int ((x * 5) + y)), (0, .ref (a 0)), (1, .int x), (2, .int y), (3, .int z), (4, .int v)]) hx hb dX2_putEffect_5 hl (by decide) rfl (fun ls hl => ?_)
  refine lv_iload hx hb dX2_putEffect_7 (lv_at hl 0 rfl) ?_
  refine lv_if_lt (tgt := 49) hx hb dX2_putEffect_9 (by decide) (fun c_9 => ?_) (fun c_9 => ?_)
  · have hP9 := hP
    have hD9 := hD
    exact W.vret hx hb hr (fun t ht hW => ⟨⟨σ, rfl, by first | rfl | (simp only [putEffectF, wr, if_pos c_9]; done) | (simp only [putEffectF, wr, if_pos c_9]; rfl) | (simp [putEffectF, wr, c_9]; done) | (simp [putEffectF, wr, c_9]; rfl), by rw [ht]; exact hP9, va_K.moved hW.alike hK, hD9⟩, hS.F ht⟩) hS.2.2 dX2_putEffect_49
  · refine lv_iload hx hb dX2_putEffect_12 (lv_at hl 0 rfl) ?_
    refine lv_aload_n hx hb dX2_putEffect_14 rfl (lv_at hl 1 rfl) ?_
    refine va_get (D := D) (ci := 2) (v := .ref (a 4)) (C := RX2) (T := TX2) (N := 8) hx hb hts (by decide +kernel) hown hK hP 0 rfl rfl 3 (by decide) (hts (.fieldLink RX2 21 "Warren$State" "stacks" "[I") (by decide +kernel)) (fun _ h9 => h9) rfl dX2_putEffect_15 ?_
    refine va_alen (v := nI 50) hx hb hK hP 4 0 rfl rfl rfl dX2_putEffect_18 ?_
    refine lv_icmp_ge (tgt := 49) hx hb dX2_putEffect_19 (by decide) (fun c_19 => ?_) (fun c_19 => ?_)
    · have hP9 := hP
      have hD9 := hD
      exact W.vret hx hb hr (fun t ht hW => ⟨⟨σ, rfl, by first | rfl | (simp only [putEffectF, wr, if_neg c_9, if_pos c_19]; done) | (simp only [putEffectF, wr, if_neg c_9, if_pos c_19]; rfl) | (simp [putEffectF, wr, c_9, c_19]; done) | (simp [putEffectF, wr, c_9, c_19]; rfl), by rw [ht]; exact hP9, va_K.moved hW.alike hK, hD9⟩, hS.F ht⟩) hS.2.2 dX2_putEffect_49
    · refine lv_iload hx hb dX2_putEffect_22 (lv_at hl 0 rfl) ?_
      refine lv_aload_n hx hb dX2_putEffect_24 rfl (lv_at hl 1 rfl) ?_
      refine va_get (D := D) (ci := 2) (v := .ref (a 5)) (C := RX2) (T := TX2) (N := 8) hx hb hts (by decide +kernel) hown hK hP 0 rfl rfl 4 (by decide) (hts (.fieldLink RX2 24 "Warren$State" "turns" "[I") (by decide +kernel)) (fun _ h9 => h9) rfl dX2_putEffect_25 ?_
      refine va_alen (v := nI 50) hx hb hK hP 5 0 rfl rfl rfl dX2_putEffect_28 ?_
      refine lv_icmp_ge (tgt := 49) hx hb dX2_putEffect_29 (by decide) (fun c_29 => absurd c_29 (c_19)) (fun c_29 => ?_)
      refine lv_aload_n hx hb dX2_putEffect_32 rfl (lv_at hl 1 rfl) ?_
      refine va_get (D := D) (ci := 2) (v := .ref (a 4)) (C := RX2) (T := TX2) (N := 8) hx hb hts (by decide +kernel) hown hK hP 0 rfl rfl 3 (by decide) (hts (.fieldLink RX2 21 "Warren$State" "stacks" "[I") (by decide +kernel)) (fun _ h9 => h9) rfl dX2_putEffect_33 ?_
      refine lv_iload hx hb dX2_putEffect_36 (lv_at hl 0 rfl) ?_
      refine lv_iload_n hx hb dX2_putEffect_38 rfl (lv_at hl 4 rfl) ?_
      refine va_iast hx hb hK hP hD hS 4 0 rfl rfl (vin (by decide) (by assumption) (by assumption)) dX2_putEffect_39 (fun H locs hP hD hS => ?_)
      have hP : va_P D vwCl (sW cI a (w_st σ (upd (s_st σ) ((x * 5) + y).toNatClampNeg z))) H := hP
      have hD : va_D A (sW cI a (w_st σ (upd (s_st σ) ((x * 5) + y).toNatClampNeg z))) := hD
      refine lv_aload_n hx hb dX2_putEffect_40 rfl (lv_at hl 1 rfl) ?_
      refine va_get (D := D) (ci := 2) (v := .ref (a 5)) (C := RX2) (T := TX2) (N := 8) hx hb hts (by decide +kernel) hown hK hP 0 rfl rfl 4 (by decide) (hts (.fieldLink RX2 24 "Warren$State" "turns" "[I") (by decide +kernel)) (fun _ h9 => h9) rfl dX2_putEffect_41 ?_
      refine lv_iload hx hb dX2_putEffect_44 (lv_at hl 0 rfl) ?_
      refine lv_iload hx hb dX2_putEffect_46 (lv_at hl 5 rfl) ?_
      refine va_iast hx hb hK hP hD hS 5 0 rfl rfl (vin (by decide) (by assumption) (by assumption)) dX2_putEffect_48 (fun H locs hP hD hS => ?_)
      have hP : va_P D vwCl (sW cI a (w_tu (w_st σ (upd (s_st σ) ((x * 5) + y).toNatClampNeg z)) (upd (s_tu (w_st σ (upd (s_st σ) ((x * 5) + y).toNatClampNeg z))) ((x * 5) + y).toNatClampNeg v))) H := hP
      have hD : va_D A (sW cI a (w_tu (w_st σ (upd (s_st σ) ((x * 5) + y).toNatClampNeg z)) (upd (s_tu (w_st σ (upd (s_st σ) ((x * 5) + y).toNatClampNeg z))) ((x * 5) + y).toNatClampNeg v))) := hD
      have hP9 := hP
      have hD9 := hD
      exact W.vret hx hb hr (fun t ht hW => ⟨⟨(w_tu (w_st σ (upd (s_st σ) ((x * 5) + y).toNatClampNeg z)) (upd (s_tu (w_st σ (upd (s_st σ) ((x * 5) + y).toNatClampNeg z))) ((x * 5) + y).toNatClampNeg v)), rfl, by first | rfl | (simp only [putEffectF, wr, if_neg c_9, if_neg c_19, if_neg c_29]; done) | (simp only [putEffectF, wr, if_neg c_9, if_neg c_19, if_neg c_29]; rfl) | (simp [putEffectF, wr, c_9, c_19, c_29]; done) | (simp [putEffectF, wr, c_9, c_19, c_29]; rfl), by rw [ht]; exact hP9, va_K.moved hW.alike hK, hD9⟩, hS.F ht⟩) hS.2.2 dX2_putEffect_49

set_option maxHeartbeats 4000000 in
set_option maxRecDepth 100000 in
theorem c_X2_addEffect (l : Launch) (D : va_G) (cI : ClassId) (sz : Nat) (a : Nat → Nat) (σ : SS) (x y z v : Int32) : Met l yX2_addEffect wsX2_addEffect ({ frames := 1, cells := 0, slots := 0, locals := 25 } : Room) (va_Pc [.ref (a 0), .int x, .int y, .int z, .int v] (preM D cI (sW cI a σ) sz)) (va_Qv (fun (u : SS) => u = addEffectF σ x y z v) (fun (u : SS) => posM D cI (va_A (sW cI a σ) sz) (sW cI a u)) (va_A (sW cI a σ) sz)) 0 0 (va_A (sW cI a σ) sz) := by
  refine Met.ofW (cc := cX2_addEffect) (maxL := 5) (ret := none) (by decide) rfl ?_
  intro p e s m args below meth c s₁ B hml hv
  obtain ⟨rfl, hsz, hP, hK, hE, hD0⟩ := hv
  have hx := B.exec
  have hb := B.bytes
  have hr := B.returns
  have hts := atoms_spec (ws := wsX2_addEffect) B.pre
  have hown : s.vm.findClass RX2 = some m.cls := findClass_of_methodNamed B.named
  have hlocks := B.notSynchronized
  subst hsz
  have hD := hD0.self (sz := s.heap.size)
  generalize hAe : va_A (sW cI a σ) s.heap.size = A at hD ⊢
  have hA : ∀ q : Nat, s.heap.size ≤ q → A q := fun q h => by rw [← hAe]; exact Or.inr h
  have hS : va_S A s.heap s.heap [] := va_S.rf
  have hP : va_P D vwCl (sW cI a σ) s.heap := hP
  have hl := lv_entry ([.ref (a 0), .int x, .int y, .int z, .int v]) (n := 5) (Nat.le_of_ble_eq_true rfl)
  rw [lg_entry_eq]
  generalize (lg_sl ([.ref (a 0), .int x, .int y, .int z, .int v]) ++ List.replicate (5 - (lg_sl ([.ref (a 0), .int x, .int y, .int z, .int v])).length) Slot.unset).toArray = ls at hl ⊢
  have hl : lv_has ls 5 [(0, .ref (a 0)), (1, .int x), (2, .int y), (3, .int z), (4, .int v)] := hl
  refine lv_aload_n hx hb dX2_addEffect_0 rfl (lv_at hl 0 rfl) ?_
  refine lv_iload_n hx hb dX2_addEffect_1 rfl (lv_at hl 1 rfl) ?_
  refine lv_iload_n hx hb dX2_addEffect_2 rfl (lv_at hl 2 rfl) ?_
  refine lv_aload_n hx hb dX2_addEffect_3 rfl (lv_at hl 0 rfl) ?_
  refine lv_iload_n hx hb dX2_addEffect_4 rfl (lv_at hl 1 rfl) ?_
  refine lv_iload_n hx hb dX2_addEffect_5 rfl (lv_at hl 2 rfl) ?_
  refine vp_callSi (va_Run.run (va_runV (As := [.int x, .int y]) (rest := [.int y, .int x, .ref (a 0)]) ⟨hx, hb, hml, hown, hts⟩ (c_X2_stackOf l D cI a σ x y) (cwV 2 hts gX2_addEffect_X2_stackOf rfl rfl rfl (by decide +kernel) ⟨Nat.le_of_ble_eq_true rfl, Nat.le_of_ble_eq_true rfl⟩) ⟨preR_blind, va_recv hK hP (ci := 2) (q0 := 0) rfl rfl, preR_of hP hK hE [.ref (a 0), .int x, .int y]⟩ rfl rfl hl.1 rfl (lv_room (Nat.le_of_ble_eq_true rfl)) dX2_addEffect_6 ⟨Nat.zero_le _, Nat.zero_le _⟩)) (fun r hr9 => ?_)
  subst hr9
  refine lv_iload_n hx hb dX2_addEffect_9 rfl (lv_at hl 3 rfl) ?_
  refine lv_iadd hx hb dX2_addEffect_10 ?_
  refine lv_bipush (v := 9) hx hb dX2_addEffect_11 (by decide) ?_
  refine va_mmin hx hb (hml.trans hl.1.symm) hown (hts (.methodLink RX2 95 Lib.Math.min.name) (by decide +kernel)) (hts (.static Lib.Math.min.name) (by decide +kernel)) (hts (.initialized "java/lang/Math") (by decide +kernel)) (hts (.code Lib.Math.min.name Lib.Math.min.code 2 (some .int)) (by decide +kernel)) (Nat.le_of_ble_eq_true rfl) (Nat.le_of_ble_eq_true rfl) (Nat.zero_le _) (Nat.zero_le _) dX2_addEffect_13 ?_
  refine lv_aload_n hx hb dX2_addEffect_16 rfl (lv_at hl 0 rfl) ?_
  refine lv_iload_n hx hb dX2_addEffect_17 rfl (lv_at hl 1 rfl) ?_
  refine lv_iload_n hx hb dX2_addEffect_18 rfl (lv_at hl 2 rfl) ?_
  refine vp_callSi (va_Run.run (va_runV (As := [.int x, .int y]) (rest := [.int (minI ((stackF σ x y) + z) 9), .int y, .int x, .ref (a 0)]) ⟨hx, hb, hml, hown, hts⟩ (c_X2_turnsOf l D cI a σ x y) (cwV 2 hts gX2_addEffect_X2_turnsOf rfl rfl rfl (by decide +kernel) ⟨Nat.le_of_ble_eq_true rfl, Nat.le_of_ble_eq_true rfl⟩) ⟨preR_blind, va_recv hK hP (ci := 2) (q0 := 0) rfl rfl, preR_of hP hK hE [.ref (a 0), .int x, .int y]⟩ rfl rfl hl.1 rfl (lv_room (Nat.le_of_ble_eq_true rfl)) dX2_addEffect_19 ⟨Nat.zero_le _, Nat.zero_le _⟩)) (fun r hr9 => ?_)
  subst hr9
  refine lv_iload hx hb dX2_addEffect_22 (lv_at hl 4 rfl) ?_
  refine va_mmax hx hb (hml.trans hl.1.symm) hown (hts (.methodLink RX2 66 Lib.Math.max.name) (by decide +kernel)) (hts (.static Lib.Math.max.name) (by decide +kernel)) (hts (.initialized "java/lang/Math") (by decide +kernel)) (hts (.code Lib.Math.max.name Lib.Math.max.code 2 (some .int)) (by decide +kernel)) (Nat.le_of_ble_eq_true rfl) (Nat.le_of_ble_eq_true rfl) (Nat.zero_le _) (Nat.zero_le _) dX2_addEffect_24 ?_
  have hFc := va_free (wc := sW cI a σ) hD hS hA [0, 1, 2, 3, 4, 5] rfl
  refine va_callv (va_runV (As := [.int x, .int y, .int (minI ((stackF σ x y) + z) 9), .int (maxI (turnsF σ x y) v)]) (rest := []) ⟨hx, hb, hml, hown, hts⟩ (c_X2_putEffect l D cI _ a σ x y (minI ((stackF σ x y) + z) 9) (maxI (turnsF σ x y) v)) (cwV 4 hts gX2_addEffect_X2_putEffect rfl rfl rfl (by decide +kernel) ⟨Nat.le_of_ble_eq_true rfl, Nat.le_of_ble_eq_true rfl⟩) ⟨preM_blind, va_recv hK hP (ci := 2) (q0 := 0) rfl rfl, preM_of hP hK hE hD [.ref (a 0), .int x, .int y, .int (minI ((stackF σ x y) + z) 9), .int (maxI (turnsF σ x y) v)]⟩ rfl rfl hl.1 rfl (lv_room (Nat.le_of_ble_eq_true rfl)) dX2_addEffect_27 ⟨Nat.zero_le _, Nat.zero_le _⟩) hS (fun q _ h => hFc q h) hFc (fun u t H1 locs ht hvm hw hB hz1 hk1 hS => ?_)
  obtain ⟨hP1, hK1, hD1⟩ := hB
  rw [ht] at hP1
  subst hw
  obtain ⟨hP, hD⟩ := va_join (wr := []) (w1 := sW cI a (putEffectF σ x y (minI ((stackF σ x y) + z) 9) (maxI (turnsF σ x y) v))) hP hD [0, 1, 2, 3, 4, 5] [] rfl rfl (by decide) (by decide) hk1 hFc hP1 hD1
  generalize H1 = H at hP hS ⊢
  have hP : va_P D vwCl (sW cI a (putEffectF σ x y (minI ((stackF σ x y) + z) 9) (maxI (turnsF σ x y) v))) H := hP
  have hD : va_D A (sW cI a (putEffectF σ x y (minI ((stackF σ x y) + z) 9) (maxI (turnsF σ x y) v))) := hD
  have hP9 := hP
  have hD9 := hD
  exact W.vret hx hb hr (fun t ht hW => ⟨⟨(putEffectF σ x y (minI ((stackF σ x y) + z) 9) (maxI (turnsF σ x y) v)), rfl, by first | rfl | (simp only [addEffectF]; done) | (simp only [addEffectF]; rfl) | (simp [addEffectF]; done) | (simp [addEffectF]; rfl), by rw [ht]; exact hP9, va_K.moved hW.alike hK, hD9⟩, hS.F ht⟩) hS.2.2 dX2_addEffect_30

set_option maxHeartbeats 4000000 in
set_option maxRecDepth 100000 in
theorem c_X2_takeLife (l : Launch) (D : va_G) (cI : ClassId) (sz : Nat) (a : Nat → Nat) (σ : SS) (x y : Int32) : Met l yX2_takeLife wsX2_takeLife ({ frames := 1, cells := 0, slots := 0, locals := 24 } : Room) (va_Pc [.ref (a 0), .int x, .int y] (preM D cI (sW cI a σ) sz)) (va_Qi (fun (r : Int32) (u : SS) => r = tookF σ x y ∧ u = takeF σ x y) (fun (u : SS) => posM D cI (va_A (sW cI a σ) sz) (sW cI a u)) (va_A (sW cI a σ) sz)) 0 0 (va_A (sW cI a σ) sz) := by
  refine Met.ofW (cc := cX2_takeLife) (maxL := 5) (ret := (some .int)) (by decide) rfl ?_
  intro p e s m args below meth c s₁ B hml hv
  obtain ⟨rfl, hsz, hP, hK, hE, hD0⟩ := hv
  have hx := B.exec
  have hb := B.bytes
  have hr := B.returns
  have hts := atoms_spec (ws := wsX2_takeLife) B.pre
  have hown : s.vm.findClass RX2 = some m.cls := findClass_of_methodNamed B.named
  have hlocks := B.notSynchronized
  subst hsz
  have hD := hD0.self (sz := s.heap.size)
  generalize hAe : va_A (sW cI a σ) s.heap.size = A at hD ⊢
  have hA : ∀ q : Nat, s.heap.size ≤ q → A q := fun q h => by rw [← hAe]; exact Or.inr h
  have hS : va_S A s.heap s.heap [] := va_S.rf
  have hP : va_P D vwCl (sW cI a σ) s.heap := hP
  have hl := lv_entry ([.ref (a 0), .int x, .int y]) (n := 5) (Nat.le_of_ble_eq_true rfl)
  rw [lg_entry_eq]
  generalize (lg_sl ([.ref (a 0), .int x, .int y]) ++ List.replicate (5 - (lg_sl ([.ref (a 0), .int x, .int y])).length) Slot.unset).toArray = ls at hl ⊢
  have hl : lv_has ls 5 [(0, .ref (a 0)), (1, .int x), (2, .int y)] := hl
  refine lv_aload_n hx hb dX2_takeLife_0 rfl (lv_at hl 0 rfl) ?_
  refine lv_iload_n hx hb dX2_takeLife_1 rfl (lv_at hl 1 rfl) ?_
  refine lv_iconst (v := 2) hx hb dX2_takeLife_2 (by decide) ?_
  refine vp_callSi (va_Run.run (va_runV (As := [.int x, .int 2]) (rest := []) ⟨hx, hb, hml, hown, hts⟩ (c_X2_trait l D cI a σ x 2) (cwV 2 hts gX2_takeLife_X2_trait rfl rfl rfl (by decide +kernel) ⟨Nat.le_of_ble_eq_true rfl, Nat.le_of_ble_eq_true rfl⟩) ⟨preR_blind, va_recv hK hP (ci := 2) (q0 := 0) rfl rfl, preR_of hP hK hE [.ref (a 0), .int x, .int 2]⟩ rfl rfl hl.1 rfl (lv_room (Nat.le_of_ble_eq_true rfl)) dX2_takeLife_3 ⟨Nat.zero_le _, Nat.zero_le _⟩)) (fun r hr9 => ?_)
  subst hr9
  refine lv_istore_n (lv' := [(3, .int (traitF σ x 2)), (0, .ref (a 0)), (1, .int x), (2, .int y)]) hx hb dX2_takeLife_6 rfl hl (by decide) rfl (fun ls hl => ?_)
  refine lv_iload_n hx hb dX2_takeLife_7 rfl (lv_at hl 3 rfl) ?_
  refine lv_iload_n hx hb dX2_takeLife_8 rfl (lv_at hl 0 rfl) ?_
  refine va_mmin hx hb (hml.trans hl.1.symm) hown (hts (.methodLink RX2 95 Lib.Math.min.name) (by decide +kernel)) (hts (.static Lib.Math.min.name) (by decide +kernel)) (hts (.initialized "java/lang/Math") (by decide +kernel)) (hts (.code Lib.Math.min.name Lib.Math.min.code 2 (some .int)) (by decide +kernel)) (Nat.le_of_ble_eq_true rfl) (Nat.le_of_ble_eq_true rfl) (Nat.zero_le _) (Nat.zero_le _) dX2_takeLife_9 ?_
  refine lv_istore (lv' := [(4, .int (minI y (traitF σ x 2))), (3, .int (traitF σ x 2)), (0, .ref (a 0)), (1, .int x), (2, .int y)]) hx hb dX2_takeLife_12 hl (by decide) rfl (fun ls hl => ?_)
  refine lv_aload_n hx hb dX2_takeLife_14 rfl (lv_at hl 2 rfl) ?_
  refine lv_iload_n hx hb dX2_takeLife_15 rfl (lv_at hl 3 rfl) ?_
  refine lv_iconst (v := 2) hx hb dX2_takeLife_16 (by decide) ?_
  refine lv_iload_n hx hb dX2_takeLife_17 rfl (lv_at hl 1 rfl) ?_
  refine lv_iload hx hb dX2_takeLife_18 (lv_at hl 0 rfl) ?_
  refine lv_isub hx hb dX2_takeLife_20 ?_
  have hFc := va_free (wc := sW cI a σ) hD hS hA [0, 1, 2, 3, 4, 5] rfl
  refine va_callv (va_runV (As := [.int x, .int 2, .int ((traitF σ x 2) - (minI y (traitF σ x 2)))]) (rest := []) ⟨hx, hb, hml, hown, hts⟩ (c_X2_putTrait l D cI _ a σ x 2 ((traitF σ x 2) - (minI y (traitF σ x 2)))) (cwV 3 hts gX2_takeLife_X2_putTrait rfl rfl rfl (by decide +kernel) ⟨Nat.le_of_ble_eq_true rfl, Nat.le_of_ble_eq_true rfl⟩) ⟨preM_blind, va_recv hK hP (ci := 2) (q0 := 0) rfl rfl, preM_of hP hK hE hD [.ref (a 0), .int x, .int 2, .int ((traitF σ x 2) - (minI y (traitF σ x 2)))]⟩ rfl rfl hl.1 rfl (lv_room (Nat.le_of_ble_eq_true rfl)) dX2_takeLife_21 ⟨Nat.zero_le _, Nat.zero_le _⟩) hS (fun q _ h => hFc q h) hFc (fun u t H1 locs ht hvm hw hB hz1 hk1 hS => ?_)
  obtain ⟨hP1, hK1, hD1⟩ := hB
  rw [ht] at hP1
  subst hw
  obtain ⟨hP, hD⟩ := va_join (wr := []) (w1 := sW cI a (putTraitF σ x 2 ((traitF σ x 2) - (minI y (traitF σ x 2))))) hP hD [0, 1, 2, 3, 4, 5] [] rfl rfl (by decide) (by decide) hk1 hFc hP1 hD1
  generalize H1 = H at hP hS ⊢
  have hP : va_P D vwCl (sW cI a (putTraitF σ x 2 ((traitF σ x 2) - (minI y (traitF σ x 2))))) H := hP
  have hD : va_D A (sW cI a (putTraitF σ x 2 ((traitF σ x 2) - (minI y (traitF σ x 2))))) := hD
  refine lv_iload_n hx hb dX2_takeLife_24 rfl (lv_at hl 1 rfl) ?_
  refine lv_iload hx hb dX2_takeLife_25 (lv_at hl 0 rfl) ?_
  refine lv_isub hx hb dX2_takeLife_27 ?_
  refine lv_if_ne (tgt := 38) hx hb dX2_takeLife_28 (by decide) (fun c_28 => ?_) (fun c_28 => ?_)
  · refine lv_iload hx hb dX2_takeLife_38 (lv_at hl 0 rfl) ?_
    have hP9 := hP
    have hD9 := hD
    exact W.iret (v := (minI y (traitF σ x 2))) hx hb hr (fun t ht hW => ⟨⟨(minI y (traitF σ x 2)), (putTraitF σ x 2 ((traitF σ x 2) - (minI y (traitF σ x 2)))), rfl, by first | rfl | (simp only [takeF, tookF, if_neg c_28]; done) | (simp only [takeF, tookF, if_neg c_28]; rfl) | (simp [takeF, tookF, c_28]; done) | (simp [takeF, tookF, c_28]; rfl), by rw [ht]; exact hP9, va_K.moved hW.alike hK, hD9⟩, hS.F ht⟩) hS.2.2 dX2_takeLife_40
  · refine lv_aload_n hx hb dX2_takeLife_31 rfl (lv_at hl 2 rfl) ?_
    refine lv_iload_n hx hb dX2_takeLife_32 rfl (lv_at hl 3 rfl) ?_
    refine lv_iconst (v := 1) hx hb dX2_takeLife_33 (by decide) ?_
    refine lv_iconst (v := (-1)) hx hb dX2_takeLife_34 (by decide) ?_
    have hFc := va_free (wc := sW cI a (putTraitF σ x 2 ((traitF σ x 2) - (minI y (traitF σ x 2))))) hD hS hA [0, 1, 2, 3, 4, 5] rfl
    refine va_callv (va_runV (As := [.int x, .int 1, .int (-1)]) (rest := []) ⟨hx, hb, hml, hown, hts⟩ (c_X2_putTrait l D cI _ a (putTraitF σ x 2 ((traitF σ x 2) - (minI y (traitF σ x 2)))) x 1 (-1)) (cwV 3 hts gX2_takeLife_X2_putTrait rfl rfl rfl (by decide +kernel) ⟨Nat.le_of_ble_eq_true rfl, Nat.le_of_ble_eq_true rfl⟩) ⟨preM_blind, va_recv hK hP (ci := 2) (q0 := 0) rfl rfl, preM_of hP hK hE hD [.ref (a 0), .int x, .int 1, .int (-1)]⟩ rfl rfl hl.1 rfl (lv_room (Nat.le_of_ble_eq_true rfl)) dX2_takeLife_35 ⟨Nat.zero_le _, Nat.zero_le _⟩) hS (fun q _ h => hFc q h) hFc (fun u t H1 locs ht hvm hw hB hz1 hk1 hS => ?_)
    obtain ⟨hP1, hK1, hD1⟩ := hB
    rw [ht] at hP1
    subst hw
    obtain ⟨hP, hD⟩ := va_join (wr := []) (w1 := sW cI a (putTraitF (putTraitF σ x 2 ((traitF σ x 2) - (minI y (traitF σ x 2)))) x 1 (-1))) hP hD [0, 1, 2, 3, 4, 5] [] rfl rfl (by decide) (by decide) hk1 hFc hP1 hD1
    generalize H1 = H at hP hS ⊢
    have hP : va_P D vwCl (sW cI a (putTraitF (putTraitF σ x 2 ((traitF σ x 2) - (minI y (traitF σ x 2)))) x 1 (-1))) H := hP
    have hD : va_D A (sW cI a (putTraitF (putTraitF σ x 2 ((traitF σ x 2) - (minI y (traitF σ x 2)))) x 1 (-1))) := hD
    refine lv_iload hx hb dX2_takeLife_38 (lv_at hl 0 rfl) ?_
    have hP9 := hP
    have hD9 := hD
    exact W.iret (v := (minI y (traitF σ x 2))) hx hb hr (fun t ht hW => ⟨⟨(minI y (traitF σ x 2)), (putTraitF (putTraitF σ x 2 ((traitF σ x 2) - (minI y (traitF σ x 2)))) x 1 (-1)), rfl, by first | rfl | (simp only [takeF, tookF, if_pos c_28]; done) | (simp only [takeF, tookF, if_pos c_28]; rfl) | (simp [takeF, tookF, c_28]; done) | (simp [takeF, tookF, c_28]; rfl), by rw [ht]; exact hP9, va_K.moved hW.alike hK, hD9⟩, hS.F ht⟩) hS.2.2 dX2_takeLife_40

