set_option maxHeartbeats 4000000 in
set_option maxRecDepth 100000 in
theorem c_X4_on (l : Launch) (hst : l.stackTraces = false) (D : va_G) (cI : ClassId) (sz : Nat) (h t0 l0 m0 : Nat) (a : Nat → Nat) (σ : SS) (x : Int32) (hn : s_n σ ≤ 10) : vx_Met l yX4_on wsX4_on ({ frames := 6, cells := 1, slots := 6, locals := 82 } : Room) (va_Pc [.ref h, .int x] (preX D cI (wW h (a 0) t0 l0 m0 ++ sW cI a σ) sz)) (va_Qi (fun (r : Int32) (u : SS) => cellT x = 0 ∧ r = onF σ x ∧ u = σ) (fun (u : SS) => posM D cI (va_A (wW h (a 0) t0 l0 m0 ++ sW cI a σ) sz) (wW h (a 0) t0 l0 m0 ++ sW cI a u)) (va_A (wW h (a 0) t0 l0 m0 ++ sW cI a σ) sz)) (thrX (cellT x) nmI D cI (va_A (wW h (a 0) t0 l0 m0 ++ sW cI a σ) sz) (wW h (a 0) t0 l0 m0 ++ sW cI a σ)) 1 6 (va_A (wW h (a 0) t0 l0 m0 ++ sW cI a σ) sz) := by
  refine vx_ofW (cc := cX4_on) (maxL := 2) (ret := (some .int)) (by decide) rfl ?_
  intro p e s m args below meth c s₁ B hml hno hv
  obtain ⟨rfl, hsz, hP, hK, hXV, hD0, hTX⟩ := hv
  have hE := hXV.1
  have hx := B.exec
  have hb := B.bytes
  have hr := B.returns
  have hts := atoms_spec (ws := wsX4_on) B.pre
  have hown : s.vm.findClass RX4 = some m.cls := findClass_of_methodNamed B.named
  have hlocks := B.notSynchronized
  subst hsz
  have hD := hD0.self (sz := s.heap.size)
  generalize hAe : va_A (wW h (a 0) t0 l0 m0 ++ sW cI a σ) s.heap.size = A at hD hTX ⊢
  have hA : ∀ q : Nat, s.heap.size ≤ q → A q := fun q h => by rw [← hAe]; exact Or.inr h
  have hS : va_S A s.heap s.heap [] := va_S.rf
  have hP : va_P D vwCl (wW h (a 0) t0 l0 m0 ++ sW cI a σ) s.heap := hP
  have hl := lv_entry ([.ref h, .int x]) (n := 2) (Nat.le_of_ble_eq_true rfl)
  rw [lg_entry_eq]
  generalize (lg_sl ([.ref h, .int x]) ++ List.replicate (2 - (lg_sl ([.ref h, .int x])).length) Slot.unset).toArray = ls at hl ⊢
  have hl : lv_has ls 2 [(0, .ref h), (1, .int x)] := hl
  refine lv_iload_n hx hb dX4_on_0 rfl (lv_at hl 1 rfl) ?_
  refine vp_callSi (va_Run.run (va_runS (As := [.int x]) (rest := []) ⟨hx, hb, hml, hown, hts⟩ (c_X4_isCell l x) (va_cwS 1 hts gX4_on_X4_isCell rfl rfl rfl (by decide +kernel) ⟨Nat.le_of_ble_eq_true rfl, Nat.le_of_ble_eq_true rfl⟩) ⟨fun _ _ _ _ q => q, fun _ _ _ => ⟨rfl, trivial⟩⟩ rfl rfl hl.1 rfl (lv_room (Nat.le_of_ble_eq_true rfl)) dX4_on_1 ⟨Nat.zero_le _, Nat.zero_le _⟩)) (fun r hr9 => ?_)
  subst hr9
  refine w_bnz (tgt := 17) hx hb dX4_on_4 (by decide) (fun c_4 => ?_) (fun c_4 => ?_)
  · refine lv_aload_n hx hb dX4_on_17 rfl (lv_at hl 0 rfl) ?_
    refine va_get (D := D) (ci := 4) (v := .ref (a 0)) (C := RX4) (T := TX4) (N := 4) hx hb hts (by decide +kernel) hown hK hP 0 rfl rfl 0 (by decide) (hts (.fieldLink RX4 12 "Warren" "state" "LWarren$State;") (by decide +kernel)) (fun _ h9 => h9) rfl dX4_on_18 ?_
    refine lv_iload_n hx hb dX4_on_21 rfl (lv_at hl 1 rfl) ?_
    refine vp_callSi (va_Run.run (va_runV (As := [.int x]) (rest := []) ⟨hx, hb, hml, hown, hts⟩ (c_X2_whoIsOn l D cI a σ x hn) (cwV 1 hts gX4_on_X2_whoIsOn rfl rfl rfl (by decide +kernel) ⟨Nat.le_of_ble_eq_true rfl, Nat.le_of_ble_eq_true rfl⟩) ⟨preR_blind, va_recv hK hP (ci := 2) (q0 := 1) rfl rfl, preR_of (hP.sub (ws' := sW cI a σ) [1, 2, 3, 4, 5, 6] rfl) hK hE [.ref (a 0), .int x]⟩ rfl rfl hl.1 rfl (lv_room (Nat.le_of_ble_eq_true rfl)) dX4_on_22 ⟨Nat.zero_le _, Nat.zero_le _⟩)) (fun r hr9 => ?_)
    subst hr9
    have hP9 := hP
    have hD9 := hD
    refine W.widen (k := 1) (n := 6) (Nat.le_of_ble_eq_true rfl) (Nat.le_of_ble_eq_true rfl) ?_
    refine vx_ret ?_
    exact W.iret (v := (onF σ x)) hx hb hr (fun T9 ht hW => ⟨⟨(onF σ x), σ, rfl, ⟨by first | (simp only [cellT, c_4, Bool.false_eq_true, if_false, if_true]; done) | (simp [cellT, c_4]; done), by first | rfl | (simp [c_4]; done) | (simp [c_4]; rfl), by first | rfl | (simp [c_4]; done)⟩, by rw [ht]; exact hP9, va_K.moved hW.alike hK, hD9⟩, hS.F ht⟩) hS.2.2 dX4_on_25
  · have hT : cellT x = 1 := by first | (simp only [cellT, c_4, Bool.false_eq_true, if_false, if_true]; done) | (simp [cellT, c_4]; done)
    obtain ⟨sa, hstr⟩ := hXV.2.1 _ (List.mem_of_getElem? (i := 1) (a := (54, "no such cell")) rfl)
    have hat : ∀ w ∈ vx_atS RX4 56 "java/lang/IndexOutOfBoundsException" ["java/lang/RuntimeException", "java/lang/Exception"], w.before _ s = true := vx_hat (B := [.castable "java/lang/IndexOutOfBoundsException" "java/lang/IndexOutOfBoundsException", decl_1, decl_2, decl_3]) (fun w h => hts w (List.mem_cons_of_mem _ (List.mem_append_right _ h))) (by decide +kernel) (vx_c (va_Nw.use rfl hXV.2.2.2.2.1) (vx_c (va_Nw.use rfl hXV.2.2.2.2.2.1) (vx_c (va_Nw.use rfl hXV.2.2.2.2.2.2.1) (vx_c (va_Nw.use rfl hXV.2.2.2.2.2.2.2.1) vx_n))))
    exact vx_throwS (own := RX4) (cls := "java/lang/IndexOutOfBoundsException") (text := "no such cell") (names := ["java/lang/RuntimeException", "java/lang/Exception"]) (ik := 52) (is := 54) (ic := 56) (sa := sa) (A := A) hx hb hst hown (by decide +kernel) (by decide +kernel) (hts (.classLink RX4 52 "java/lang/IndexOutOfBoundsException") (by decide +kernel)) (hts (.initialized "java/lang/IndexOutOfBoundsException") (by decide +kernel)) hstr hat (by decide +kernel) hTX.1 hTX.2 hS (hl.1.trans hml.symm) dX4_on_7 dX4_on_10 dX4_on_11 dX4_on_13 dX4_on_16 (fun x hx9 => (hno x hx9).elim) (Nat.le_of_ble_eq_true rfl) (Nat.le_of_ble_eq_true rfl) (Nat.le_of_ble_eq_true rfl) (Nat.le_of_ble_eq_true rfl) hlocks (thr_of (by rw [hT]; decide) (by rw [hT]; rfl) hP hK hD hS) hS.2.2 (Nat.le_of_ble_eq_true rfl) (Nat.le_of_ble_eq_true rfl)

set_option maxHeartbeats 4000000 in
set_option maxRecDepth 100000 in
theorem c_X4_sees (l : Launch) (hst : l.stackTraces = false) (D : va_G) (cI : ClassId) (sz : Nat) (h t0 l0 m0 : Nat) (a : Nat → Nat) (σ : SS) (x y : Int32) : vx_Met l yX4_sees wsX4_sees ({ frames := 6, cells := 1, slots := 6, locals := 82 } : Room) (va_Pc [.ref h, .int x, .int y] (preX D cI (wW h (a 0) t0 l0 m0 ++ sW cI a σ) sz)) (va_Qi (fun (r : Int32) (u : SS) => seesT x y = 0 ∧ r = bi (seenB σ x y) ∧ u = σ) (fun (u : SS) => posM D cI (va_A (wW h (a 0) t0 l0 m0 ++ sW cI a σ) sz) (wW h (a 0) t0 l0 m0 ++ sW cI a u)) (va_A (wW h (a 0) t0 l0 m0 ++ sW cI a σ) sz)) (thrX (seesT x y) nmI D cI (va_A (wW h (a 0) t0 l0 m0 ++ sW cI a σ) sz) (wW h (a 0) t0 l0 m0 ++ sW cI a σ)) 1 6 (va_A (wW h (a 0) t0 l0 m0 ++ sW cI a σ) sz) := by
  refine vx_ofW (cc := cX4_sees) (maxL := 3) (ret := (some .boolean)) (by decide) rfl ?_
  intro p e s m args below meth c s₁ B hml hno hv
  obtain ⟨rfl, hsz, hP, hK, hXV, hD0, hTX⟩ := hv
  have hE := hXV.1
  have hx := B.exec
  have hb := B.bytes
  have hr := B.returns
  have hts := atoms_spec (ws := wsX4_sees) B.pre
  have hown : s.vm.findClass RX4 = some m.cls := findClass_of_methodNamed B.named
  have hlocks := B.notSynchronized
  subst hsz
  have hD := hD0.self (sz := s.heap.size)
  generalize hAe : va_A (wW h (a 0) t0 l0 m0 ++ sW cI a σ) s.heap.size = A at hD hTX ⊢
  have hA : ∀ q : Nat, s.heap.size ≤ q → A q := fun q h => by rw [← hAe]; exact Or.inr h
  have hS : va_S A s.heap s.heap [] := va_S.rf
  have hP : va_P D vwCl (wW h (a 0) t0 l0 m0 ++ sW cI a σ) s.heap := hP
  have hl := lv_entry ([.ref h, .int x, .int y]) (n := 3) (Nat.le_of_ble_eq_true rfl)
  rw [lg_entry_eq]
  generalize (lg_sl ([.ref h, .int x, .int y]) ++ List.replicate (3 - (lg_sl ([.ref h, .int x, .int y])).length) Slot.unset).toArray = ls at hl ⊢
  have hl : lv_has ls 3 [(0, .ref h), (1, .int x), (2, .int y)] := hl
  refine lv_iload_n hx hb dX4_sees_0 rfl (lv_at hl 1 rfl) ?_
  refine vp_callSi (va_Run.run (va_runS (As := [.int x]) (rest := []) ⟨hx, hb, hml, hown, hts⟩ (c_X4_isCell l x) (va_cwS 1 hts gX4_sees_X4_isCell rfl rfl rfl (by decide +kernel) ⟨Nat.le_of_ble_eq_true rfl, Nat.le_of_ble_eq_true rfl⟩) ⟨fun _ _ _ _ q => q, fun _ _ _ => ⟨rfl, trivial⟩⟩ rfl rfl hl.1 rfl (lv_room (Nat.le_of_ble_eq_true rfl)) dX4_sees_1 ⟨Nat.zero_le _, Nat.zero_le _⟩)) (fun r hr9 => ?_)
  subst hr9
  refine w_bz (tgt := 14) hx hb dX4_sees_4 (by decide) (fun c_4 => ?_) (fun c_4 => ?_)
  · have hT : seesT x y = 1 := by first | (simp only [seesT, c_4, Bool.false_eq_true, if_false, if_true]; done) | (simp [seesT, c_4]; done)
    obtain ⟨sa, hstr⟩ := hXV.2.1 _ (List.mem_of_getElem? (i := 1) (a := (54, "no such cell")) rfl)
    have hat : ∀ w ∈ vx_atS RX4 56 "java/lang/IndexOutOfBoundsException" ["java/lang/RuntimeException", "java/lang/Exception"], w.before _ s = true := vx_hat (B := [.castable "java/lang/IndexOutOfBoundsException" "java/lang/IndexOutOfBoundsException", decl_1, decl_2, decl_3]) (fun w h => hts w (List.mem_cons_of_mem _ (List.mem_append_right _ h))) (by decide +kernel) (vx_c (va_Nw.use rfl hXV.2.2.2.2.1) (vx_c (va_Nw.use rfl hXV.2.2.2.2.2.1) (vx_c (va_Nw.use rfl hXV.2.2.2.2.2.2.1) (vx_c (va_Nw.use rfl hXV.2.2.2.2.2.2.2.1) vx_n))))
    exact vx_throwS (own := RX4) (cls := "java/lang/IndexOutOfBoundsException") (text := "no such cell") (names := ["java/lang/RuntimeException", "java/lang/Exception"]) (ik := 52) (is := 54) (ic := 56) (sa := sa) (A := A) hx hb hst hown (by decide +kernel) (by decide +kernel) (hts (.classLink RX4 52 "java/lang/IndexOutOfBoundsException") (by decide +kernel)) (hts (.initialized "java/lang/IndexOutOfBoundsException") (by decide +kernel)) hstr hat (by decide +kernel) hTX.1 hTX.2 hS (hl.1.trans hml.symm) dX4_sees_14 dX4_sees_17 dX4_sees_18 dX4_sees_20 dX4_sees_23 (fun x hx9 => (hno x hx9).elim) (Nat.le_of_ble_eq_true rfl) (Nat.le_of_ble_eq_true rfl) (Nat.le_of_ble_eq_true rfl) (Nat.le_of_ble_eq_true rfl) hlocks (thr_of (by rw [hT]; decide) (by rw [hT]; rfl) hP hK hD hS) hS.2.2 (Nat.le_of_ble_eq_true rfl) (Nat.le_of_ble_eq_true rfl)
  · refine lv_iload_n hx hb dX4_sees_7 rfl (lv_at hl 2 rfl) ?_
    refine vp_callSi (va_Run.run (va_runS (As := [.int y]) (rest := []) ⟨hx, hb, hml, hown, hts⟩ (c_X4_isCell l y) (va_cwS 1 hts gX4_sees_X4_isCell rfl rfl rfl (by decide +kernel) ⟨Nat.le_of_ble_eq_true rfl, Nat.le_of_ble_eq_true rfl⟩) ⟨fun _ _ _ _ q => q, fun _ _ _ => ⟨rfl, trivial⟩⟩ rfl rfl hl.1 rfl (lv_room (Nat.le_of_ble_eq_true rfl)) dX4_sees_8 ⟨Nat.zero_le _, Nat.zero_le _⟩)) (fun r hr9 => ?_)
    subst hr9
    refine w_bnz (tgt := 24) hx hb dX4_sees_11 (by decide) (fun c_11 => ?_) (fun c_11 => ?_)
    · refine lv_aload_n hx hb dX4_sees_24 rfl (lv_at hl 0 rfl) ?_
      refine va_get (D := D) (ci := 4) (v := .ref (a 0)) (C := RX4) (T := TX4) (N := 4) hx hb hts (by decide +kernel) hown hK hP 0 rfl rfl 0 (by decide) (hts (.fieldLink RX4 12 "Warren" "state" "LWarren$State;") (by decide +kernel)) (fun _ h9 => h9) rfl dX4_sees_25 ?_
      refine lv_iload_n hx hb dX4_sees_28 rfl (lv_at hl 1 rfl) ?_
      refine lv_iload_n hx hb dX4_sees_29 rfl (lv_at hl 2 rfl) ?_
      refine vp_callSi (va_Run.run (va_runV (As := [.int x, .int y]) (rest := []) ⟨hx, hb, hml, hown, hts⟩ (c_X2_isSeenFrom l D cI a σ x y) (cwV 2 hts gX4_sees_X2_isSeenFrom rfl rfl rfl (by decide +kernel) ⟨Nat.le_of_ble_eq_true rfl, Nat.le_of_ble_eq_true rfl⟩) ⟨preR_blind, va_recv hK hP (ci := 2) (q0 := 1) rfl rfl, preR_of (hP.sub (ws' := sW cI a σ) [1, 2, 3, 4, 5, 6] rfl) hK hE [.ref (a 0), .int x, .int y]⟩ rfl rfl hl.1 rfl (lv_room (Nat.le_of_ble_eq_true rfl)) dX4_sees_30 ⟨Nat.zero_le _, Nat.zero_le _⟩)) (fun r hr9 => ?_)
      subst hr9
      have hP9 := hP
      have hD9 := hD
      refine W.widen (k := 1) (n := 6) (Nat.le_of_ble_eq_true rfl) (Nat.le_of_ble_eq_true rfl) ?_
      refine vx_ret ?_
      exact W.zret (v := (bi (seenB σ x y))) hx hb hr (bi_nar _) (fun T9 ht hW => ⟨⟨(bi (seenB σ x y)), σ, rfl, ⟨by first | (simp only [seesT, c_4, c_11, Bool.false_eq_true, if_false, if_true]; done) | (simp [seesT, c_4, c_11]; done), by first | rfl | (simp [c_4, c_11]; done) | (simp [c_4, c_11]; rfl), by first | rfl | (simp [c_4, c_11]; done)⟩, by rw [ht]; exact hP9, va_K.moved hW.alike hK, hD9⟩, hS.F ht⟩) hS.2.2 dX4_sees_33
    · have hT : seesT x y = 1 := by first | (simp only [seesT, c_4, c_11, Bool.false_eq_true, if_false, if_true]; done) | (simp [seesT, c_4, c_11]; done)
      obtain ⟨sa, hstr⟩ := hXV.2.1 _ (List.mem_of_getElem? (i := 1) (a := (54, "no such cell")) rfl)
      have hat : ∀ w ∈ vx_atS RX4 56 "java/lang/IndexOutOfBoundsException" ["java/lang/RuntimeException", "java/lang/Exception"], w.before _ s = true := vx_hat (B := [.castable "java/lang/IndexOutOfBoundsException" "java/lang/IndexOutOfBoundsException", decl_1, decl_2, decl_3]) (fun w h => hts w (List.mem_cons_of_mem _ (List.mem_append_right _ h))) (by decide +kernel) (vx_c (va_Nw.use rfl hXV.2.2.2.2.1) (vx_c (va_Nw.use rfl hXV.2.2.2.2.2.1) (vx_c (va_Nw.use rfl hXV.2.2.2.2.2.2.1) (vx_c (va_Nw.use rfl hXV.2.2.2.2.2.2.2.1) vx_n))))
      exact vx_throwS (own := RX4) (cls := "java/lang/IndexOutOfBoundsException") (text := "no such cell") (names := ["java/lang/RuntimeException", "java/lang/Exception"]) (ik := 52) (is := 54) (ic := 56) (sa := sa) (A := A) hx hb hst hown (by decide +kernel) (by decide +kernel) (hts (.classLink RX4 52 "java/lang/IndexOutOfBoundsException") (by decide +kernel)) (hts (.initialized "java/lang/IndexOutOfBoundsException") (by decide +kernel)) hstr hat (by decide +kernel) hTX.1 hTX.2 hS (hl.1.trans hml.symm) dX4_sees_14 dX4_sees_17 dX4_sees_18 dX4_sees_20 dX4_sees_23 (fun x hx9 => (hno x hx9).elim) (Nat.le_of_ble_eq_true rfl) (Nat.le_of_ble_eq_true rfl) (Nat.le_of_ble_eq_true rfl) (Nat.le_of_ble_eq_true rfl) hlocks (thr_of (by rw [hT]; decide) (by rw [hT]; rfl) hP hK hD hS) hS.2.2 (Nat.le_of_ble_eq_true rfl) (Nat.le_of_ble_eq_true rfl)

set_option maxHeartbeats 4000000 in
set_option maxRecDepth 100000 in
theorem c_X4_set (l : Launch) (hst : l.stackTraces = false) (D : va_G) (cI : ClassId) (sz : Nat) (h t0 l0 m0 : Nat) (a : Nat → Nat) (σ : SS) (x y : Int32) (hn : s_n σ ≤ 10) : vx_Met l yX4_set wsX4_set ({ frames := 6, cells := 1, slots := 6, locals := 82 } : Room) (va_Pc [.ref h, .int x, .int y] (preX D cI (wW h (a 0) t0 l0 m0 ++ sW cI a σ) sz)) (va_Qi (fun (r : Int32) (u : SS) => setT σ x y = 0 ∧ r = kindF σ x ∧ u = putKindF σ x y) (fun (u : SS) => posM D cI (va_A (wW h (a 0) t0 l0 m0 ++ sW cI a σ) sz) (wW h (a 0) t0 l0 m0 ++ sW cI a u)) (va_A (wW h (a 0) t0 l0 m0 ++ sW cI a σ) sz)) (thrX (setT σ x y) nmIAS D cI (va_A (wW h (a 0) t0 l0 m0 ++ sW cI a σ) sz) (wW h (a 0) t0 l0 m0 ++ sW cI a σ)) 1 6 (va_A (wW h (a 0) t0 l0 m0 ++ sW cI a σ) sz) := by
  refine vx_ofW (cc := cX4_set) (maxL := 4) (ret := (some .int)) (by decide) rfl ?_
  intro p e s m args below meth c s₁ B hml hno hv
  obtain ⟨rfl, hsz, hP, hK, hXV, hD0, hTX⟩ := hv
  have hE := hXV.1
  have hx := B.exec
  have hb := B.bytes
  have hr := B.returns
  have hts := atoms_spec (ws := wsX4_set) B.pre
  have hown : s.vm.findClass RX4 = some m.cls := findClass_of_methodNamed B.named
  have hlocks := B.notSynchronized
  subst hsz
  have hD := hD0.self (sz := s.heap.size)
  generalize hAe : va_A (wW h (a 0) t0 l0 m0 ++ sW cI a σ) s.heap.size = A at hD hTX ⊢
  have hA : ∀ q : Nat, s.heap.size ≤ q → A q := fun q h => by rw [← hAe]; exact Or.inr h
  have hS : va_S A s.heap s.heap [] := va_S.rf
  have hP : va_P D vwCl (wW h (a 0) t0 l0 m0 ++ sW cI a σ) s.heap := hP
  have hl := lv_entry ([.ref h, .int x, .int y]) (n := 4) (Nat.le_of_ble_eq_true rfl)
  rw [lg_entry_eq]
  generalize (lg_sl ([.ref h, .int x, .int y]) ++ List.replicate (4 - (lg_sl ([.ref h, .int x, .int y])).length) Slot.unset).toArray = ls at hl ⊢
  have hl : lv_has ls 4 [(0, .ref h), (1, .int x), (2, .int y)] := hl
  refine lv_iload_n hx hb dX4_set_0 rfl (lv_at hl 1 rfl) ?_
  refine vp_callSi (va_Run.run (va_runS (As := [.int x]) (rest := []) ⟨hx, hb, hml, hown, hts⟩ (c_X4_isCell l x) (va_cwS 1 hts gX4_set_X4_isCell rfl rfl rfl (by decide +kernel) ⟨Nat.le_of_ble_eq_true rfl, Nat.le_of_ble_eq_true rfl⟩) ⟨fun _ _ _ _ q => q, fun _ _ _ => ⟨rfl, trivial⟩⟩ rfl rfl hl.1 rfl (lv_room (Nat.le_of_ble_eq_true rfl)) dX4_set_1 ⟨Nat.zero_le _, Nat.zero_le _⟩)) (fun r hr9 => ?_)
  subst hr9
  refine w_bnz (tgt := 17) hx hb dX4_set_4 (by decide) (fun c_4 => ?_) (fun c_4 => ?_)
  · refine lv_iload_n hx hb dX4_set_17 rfl (lv_at hl 2 rfl) ?_
    refine lv_iconst (v := 0) hx hb dX4_set_18 (by decide) ?_
    refine lv_iconst (v := 3) hx hb dX4_set_19 (by decide) ?_
    refine vp_callSi (va_Run.run (va_runS (As := [.int y, .int 0, .int 3]) (rest := []) ⟨hx, hb, hml, hown, hts⟩ (c_X4_isWithin l y 0 3) (va_cwS 3 hts gX4_set_X4_isWithin rfl rfl rfl (by decide +kernel) ⟨Nat.le_of_ble_eq_true rfl, Nat.le_of_ble_eq_true rfl⟩) ⟨fun _ _ _ _ q => q, fun _ _ _ => ⟨rfl, trivial⟩⟩ rfl rfl hl.1 rfl (lv_room (Nat.le_of_ble_eq_true rfl)) dX4_set_20 ⟨Nat.zero_le _, Nat.zero_le _⟩)) (fun r hr9 => ?_)
    subst hr9
    refine w_bz (tgt := 38) hx hb dX4_set_23 (by decide) (fun c_23 => ?_) (fun c_23 => ?_)
    · have hT : setT σ x y = 2 := by first | (simp only [setT, setT2, c_4, c_23, Bool.false_eq_true, if_false, if_true]; done) | (simp [setT, setT2, c_4, c_23]; done)
      obtain ⟨sa, hstr⟩ := hXV.2.1 _ (List.mem_of_getElem? (i := 2) (a := (60, "no such kind there")) rfl)
      have hat : ∀ w ∈ vx_atS RX4 41 "java/lang/IllegalArgumentException" ["java/lang/RuntimeException", "java/lang/Exception"], w.before _ s = true := vx_hat (B := [.castable "java/lang/IllegalArgumentException" "java/lang/IllegalArgumentException", decl_1, decl_2, decl_3]) (fun w h => hts w (List.mem_cons_of_mem _ (List.mem_append_left _ (List.mem_append_right _ h)))) (by decide +kernel) (vx_c (va_Nw.use rfl hXV.2.2.1) (vx_c (va_Nw.use rfl hXV.2.2.2.2.2.1) (vx_c (va_Nw.use rfl hXV.2.2.2.2.2.2.1) (vx_c (va_Nw.use rfl hXV.2.2.2.2.2.2.2.1) vx_n))))
      exact vx_throwS (own := RX4) (cls := "java/lang/IllegalArgumentException") (text := "no such kind there") (names := ["java/lang/RuntimeException", "java/lang/Exception"]) (ik := 37) (is := 60) (ic := 41) (sa := sa) (A := A) hx hb hst hown (by decide +kernel) (by decide +kernel) (hts (.classLink RX4 37 "java/lang/IllegalArgumentException") (by decide +kernel)) (hts (.initialized "java/lang/IllegalArgumentException") (by decide +kernel)) hstr hat (by decide +kernel) hTX.1 hTX.2 hS (hl.1.trans hml.symm) dX4_set_38 dX4_set_41 dX4_set_42 dX4_set_44 dX4_set_47 (fun x hx9 => (hno x hx9).elim) (Nat.le_of_ble_eq_true rfl) (Nat.le_of_ble_eq_true rfl) (Nat.le_of_ble_eq_true rfl) (Nat.le_of_ble_eq_true rfl) hlocks (thr_of (by rw [hT]; decide) (by rw [hT]; rfl) hP hK hD hS) hS.2.2 (Nat.le_of_ble_eq_true rfl) (Nat.le_of_ble_eq_true rfl)
    · refine lv_iload_n hx hb dX4_set_26 rfl (lv_at hl 1 rfl) ?_
      refine vp_callSi (va_Run.run (va_runS (As := [.int x]) (rest := []) ⟨hx, hb, hml, hown, hts⟩ (c_X4_isEdge l x) (va_cwS 1 hts gX4_set_X4_isEdge rfl rfl rfl (by decide +kernel) ⟨Nat.le_of_ble_eq_true rfl, Nat.le_of_ble_eq_true rfl⟩) ⟨fun _ _ _ _ q => q, fun _ _ _ => ⟨rfl, trivial⟩⟩ rfl rfl hl.1 rfl (lv_room (Nat.le_of_ble_eq_true rfl)) dX4_set_27 ⟨Nat.zero_le _, Nat.zero_le _⟩)) (fun r hr9 => ?_)
      subst hr9
      refine w_bz (tgt := 48) hx hb dX4_set_30 (by decide) (fun c_30 => ?_) (fun c_30 => ?_)
      · refine lv_iload_n hx hb dX4_set_48 rfl (lv_at hl 2 rfl) ?_
        refine vp_callSi (va_Run.run (va_runS (As := [.int y]) (rest := []) ⟨hx, hb, hml, hown, hts⟩ (c_X4_stopsSight l y) (va_cwS 1 hts gX4_set_X4_stopsSight rfl rfl rfl (by decide +kernel) ⟨Nat.le_of_ble_eq_true rfl, Nat.le_of_ble_eq_true rfl⟩) ⟨fun _ _ _ _ q => q, fun _ _ _ => ⟨rfl, trivial⟩⟩ rfl rfl hl.1 rfl (lv_room (Nat.le_of_ble_eq_true rfl)) dX4_set_49 ⟨Nat.zero_le _, Nat.zero_le _⟩)) (fun r hr9 => ?_)
        subst hr9
        refine w_bz (tgt := 77) hx hb dX4_set_52 (by decide) (fun c_52 => ?_) (fun c_52 => ?_)
        · refine lv_aload_n hx hb dX4_set_77 rfl (lv_at hl 0 rfl) ?_
          refine va_get (D := D) (ci := 4) (v := .ref (a 0)) (C := RX4) (T := TX4) (N := 4) hx hb hts (by decide +kernel) hown hK hP 0 rfl rfl 0 (by decide) (hts (.fieldLink RX4 12 "Warren" "state" "LWarren$State;") (by decide +kernel)) (fun _ h9 => h9) rfl dX4_set_78 ?_
          refine lv_iload_n hx hb dX4_set_81 rfl (lv_at hl 1 rfl) ?_
          refine vp_callSi (va_Run.run (va_runV (As := [.int x]) (rest := []) ⟨hx, hb, hml, hown, hts⟩ (c_X2_kindAt l D cI a σ x) (cwV 1 hts gX4_set_X2_kindAt rfl rfl rfl (by decide +kernel) ⟨Nat.le_of_ble_eq_true rfl, Nat.le_of_ble_eq_true rfl⟩) ⟨preR_blind, va_recv hK hP (ci := 2) (q0 := 1) rfl rfl, preR_of (hP.sub (ws' := sW cI a σ) [1, 2, 3, 4, 5, 6] rfl) hK hE [.ref (a 0), .int x]⟩ rfl rfl hl.1 rfl (lv_room (Nat.le_of_ble_eq_true rfl)) dX4_set_82 ⟨Nat.zero_le _, Nat.zero_le _⟩)) (fun r hr9 => ?_)
          subst hr9
          refine lv_istore_n (lv' := [(3, .int (kindF σ x)), (0, .ref h), (1, .int x), (2, .int y)]) hx hb dX4_set_85 rfl hl (by decide) rfl (fun ls hl => ?_)
          refine lv_aload_n hx hb dX4_set_86 rfl (lv_at hl 1 rfl) ?_
          refine va_get (D := D) (ci := 4) (v := .ref (a 0)) (C := RX4) (T := TX4) (N := 4) hx hb hts (by decide +kernel) hown hK hP 0 rfl rfl 0 (by decide) (hts (.fieldLink RX4 12 "Warren" "state" "LWarren$State;") (by decide +kernel)) (fun _ h9 => h9) rfl dX4_set_87 ?_
          refine lv_iload_n hx hb dX4_set_90 rfl (lv_at hl 2 rfl) ?_
          refine lv_iload_n hx hb dX4_set_91 rfl (lv_at hl 3 rfl) ?_
          have hFc := va_free (wc := sW cI a σ) hD hS hA [1, 2, 3, 4, 5, 6] rfl
          refine va_callv (va_runV (As := [.int x, .int y]) (rest := []) ⟨hx, hb, hml, hown, hts⟩ (c_X2_putKind l D cI _ a σ x y) (cwV 2 hts gX4_set_X2_putKind rfl rfl rfl (by decide +kernel) ⟨Nat.le_of_ble_eq_true rfl, Nat.le_of_ble_eq_true rfl⟩) ⟨preM_blind, va_recv hK hP (ci := 2) (q0 := 1) rfl rfl, preM_of (hP.sub (ws' := sW cI a σ) [1, 2, 3, 4, 5, 6] rfl) hK hE (hD.sub (ws' := sW cI a σ) [1, 2, 3, 4, 5, 6] (by decide) rfl) [.ref (a 0), .int x, .int y]⟩ rfl rfl hl.1 rfl (lv_room (Nat.le_of_ble_eq_true rfl)) dX4_set_92 ⟨Nat.le_of_ble_eq_true rfl, Nat.le_of_ble_eq_true rfl⟩) hS (fun q _ h => hFc q h) hFc (fun u t9 H1 locs ht hvm hw hB hz1 hk1 hS => ?_)
          obtain ⟨hP1, hK1, hD1⟩ := hB
          rw [ht] at hP1
          subst hw
          obtain ⟨hP, hD⟩ := va_join (wr := wW h (a 0) t0 l0 m0) (w1 := sW cI a (putKindF σ x y)) hP hD [1, 2, 3, 4, 5, 6] [0] rfl rfl (by decide) (by decide) hk1 hFc hP1 hD1
          generalize H1 = H at hP hS ⊢
          have hP : va_P D vwCl (wW h (a 0) t0 l0 m0 ++ sW cI a (putKindF σ x y)) H := hP
          have hD : va_D A (wW h (a 0) t0 l0 m0 ++ sW cI a (putKindF σ x y)) := hD
          refine lv_iload_n hx hb dX4_set_95 rfl (lv_at hl 0 rfl) ?_
          have hP9 := hP
          have hD9 := hD
          refine W.widen (k := 1) (n := 6) (Nat.le_of_ble_eq_true rfl) (Nat.le_of_ble_eq_true rfl) ?_
          refine vx_ret ?_
          exact W.iret (v := (kindF σ x)) hx hb hr (fun T9 ht hW => ⟨⟨(kindF σ x), (putKindF σ x y), rfl, ⟨by first | (simp only [setT, setT2, c_4, c_23, c_30, c_52, Bool.false_eq_true, if_false, if_true]; done) | (simp [setT, setT2, c_4, c_23, c_30, c_52]; done), by first | rfl | (simp [c_4, c_23, c_30, c_52]; done) | (simp [c_4, c_23, c_30, c_52]; rfl), by first | rfl | (simp [c_4, c_23, c_30, c_52]; done)⟩, by rw [ht]; exact hP9, va_K.moved hW.alike hK, hD9⟩, hS.F ht⟩) hS.2.2 dX4_set_96
        · refine lv_aload_n hx hb dX4_set_55 rfl (lv_at hl 0 rfl) ?_
          refine va_get (D := D) (ci := 4) (v := .ref (a 0)) (C := RX4) (T := TX4) (N := 4) hx hb hts (by decide +kernel) hown hK hP 0 rfl rfl 0 (by decide) (hts (.fieldLink RX4 12 "Warren" "state" "LWarren$State;") (by decide +kernel)) (fun _ h9 => h9) rfl dX4_set_56 ?_
          refine lv_iload_n hx hb dX4_set_59 rfl (lv_at hl 1 rfl) ?_
          refine vp_callSi (va_Run.run (va_runV (As := [.int x]) (rest := []) ⟨hx, hb, hml, hown, hts⟩ (c_X2_whoIsOn l D cI a σ x hn) (cwV 1 hts gX4_set_X2_whoIsOn rfl rfl rfl (by decide +kernel) ⟨Nat.le_of_ble_eq_true rfl, Nat.le_of_ble_eq_true rfl⟩) ⟨preR_blind, va_recv hK hP (ci := 2) (q0 := 1) rfl rfl, preR_of (hP.sub (ws' := sW cI a σ) [1, 2, 3, 4, 5, 6] rfl) hK hE [.ref (a 0), .int x]⟩ rfl rfl hl.1 rfl (lv_room (Nat.le_of_ble_eq_true rfl)) dX4_set_60 ⟨Nat.zero_le _, Nat.zero_le _⟩)) (fun r hr9 => ?_)
          subst hr9
          refine lv_iconst (v := (-1)) hx hb dX4_set_63 (by decide) ?_
          refine lv_icmp_eq (tgt := 77) hx hb dX4_set_64 (by decide) (fun c_64 => ?_) (fun c_64 => ?_)
          · refine lv_aload_n hx hb dX4_set_77 rfl (lv_at hl 0 rfl) ?_
            refine va_get (D := D) (ci := 4) (v := .ref (a 0)) (C := RX4) (T := TX4) (N := 4) hx hb hts (by decide +kernel) hown hK hP 0 rfl rfl 0 (by decide) (hts (.fieldLink RX4 12 "Warren" "state" "LWarren$State;") (by decide +kernel)) (fun _ h9 => h9) rfl dX4_set_78 ?_
            refine lv_iload_n hx hb dX4_set_81 rfl (lv_at hl 1 rfl) ?_
            refine vp_callSi (va_Run.run (va_runV (As := [.int x]) (rest := []) ⟨hx, hb, hml, hown, hts⟩ (c_X2_kindAt l D cI a σ x) (cwV 1 hts gX4_set_X2_kindAt rfl rfl rfl (by decide +kernel) ⟨Nat.le_of_ble_eq_true rfl, Nat.le_of_ble_eq_true rfl⟩) ⟨preR_blind, va_recv hK hP (ci := 2) (q0 := 1) rfl rfl, preR_of (hP.sub (ws' := sW cI a σ) [1, 2, 3, 4, 5, 6] rfl) hK hE [.ref (a 0), .int x]⟩ rfl rfl hl.1 rfl (lv_room (Nat.le_of_ble_eq_true rfl)) dX4_set_82 ⟨Nat.zero_le _, Nat.zero_le _⟩)) (fun r hr9 => ?_)
            subst hr9
            refine lv_istore_n (lv' := [(3, .int (kindF σ x)), (0, .ref h), (1, .int x), (2, .int y)]) hx hb dX4_set_85 rfl hl (by decide) rfl (fun ls hl => ?_)
            refine lv_aload_n hx hb dX4_set_86 rfl (lv_at hl 1 rfl) ?_
            refine va_get (D := D) (ci := 4) (v := .ref (a 0)) (C := RX4) (T := TX4) (N := 4) hx hb hts (by decide +kernel) hown hK hP 0 rfl rfl 0 (by decide) (hts (.fieldLink RX4 12 "Warren" "state" "LWarren$State;") (by decide +kernel)) (fun _ h9 => h9) rfl dX4_set_87 ?_
            refine lv_iload_n hx hb dX4_set_90 rfl (lv_at hl 2 rfl) ?_
            refine lv_iload_n hx hb dX4_set_91 rfl (lv_at hl 3 rfl) ?_
            have hFc := va_free (wc := sW cI a σ) hD hS hA [1, 2, 3, 4, 5, 6] rfl
            refine va_callv (va_runV (As := [.int x, .int y]) (rest := []) ⟨hx, hb, hml, hown, hts⟩ (c_X2_putKind l D cI _ a σ x y) (cwV 2 hts gX4_set_X2_putKind rfl rfl rfl (by decide +kernel) ⟨Nat.le_of_ble_eq_true rfl, Nat.le_of_ble_eq_true rfl⟩) ⟨preM_blind, va_recv hK hP (ci := 2) (q0 := 1) rfl rfl, preM_of (hP.sub (ws' := sW cI a σ) [1, 2, 3, 4, 5, 6] rfl) hK hE (hD.sub (ws' := sW cI a σ) [1, 2, 3, 4, 5, 6] (by decide) rfl) [.ref (a 0), .int x, .int y]⟩ rfl rfl hl.1 rfl (lv_room (Nat.le_of_ble_eq_true rfl)) dX4_set_92 ⟨Nat.le_of_ble_eq_true rfl, Nat.le_of_ble_eq_true rfl⟩) hS (fun q _ h => hFc q h) hFc (fun u t9 H1 locs ht hvm hw hB hz1 hk1 hS => ?_)
            obtain ⟨hP1, hK1, hD1⟩ := hB
            rw [ht] at hP1
            subst hw
            obtain ⟨hP, hD⟩ := va_join (wr := wW h (a 0) t0 l0 m0) (w1 := sW cI a (putKindF σ x y)) hP hD [1, 2, 3, 4, 5, 6] [0] rfl rfl (by decide) (by decide) hk1 hFc hP1 hD1
            generalize H1 = H at hP hS ⊢
            have hP : va_P D vwCl (wW h (a 0) t0 l0 m0 ++ sW cI a (putKindF σ x y)) H := hP
            have hD : va_D A (wW h (a 0) t0 l0 m0 ++ sW cI a (putKindF σ x y)) := hD
            refine lv_iload_n hx hb dX4_set_95 rfl (lv_at hl 0 rfl) ?_
            have hP9 := hP
            have hD9 := hD
            refine W.widen (k := 1) (n := 6) (Nat.le_of_ble_eq_true rfl) (Nat.le_of_ble_eq_true rfl) ?_
            refine vx_ret ?_
            exact W.iret (v := (kindF σ x)) hx hb hr (fun T9 ht hW => ⟨⟨(kindF σ x), (putKindF σ x y), rfl, ⟨by first | (simp only [setT, setT2, c_4, c_23, c_30, c_52, if_pos c_64, Bool.false_eq_true, if_false, if_true]; done) | (simp [setT, setT2, c_4, c_23, c_30, c_52, c_64]; done), by first | rfl | (simp [c_4, c_23, c_30, c_52, c_64]; done) | (simp [c_4, c_23, c_30, c_52, c_64]; rfl), by first | rfl | (simp [c_4, c_23, c_30, c_52, c_64]; done)⟩, by rw [ht]; exact hP9, va_K.moved hW.alike hK, hD9⟩, hS.F ht⟩) hS.2.2 dX4_set_96
          · have hT : setT σ x y = 3 := by first | (simp only [setT, setT2, c_4, c_23, c_30, c_52, if_neg c_64, Bool.false_eq_true, if_false, if_true]; done) | (simp [setT, setT2, c_4, c_23, c_30, c_52, c_64]; done)
            obtain ⟨sa, hstr⟩ := hXV.2.1 _ (List.mem_of_getElem? (i := 3) (a := (71, "a being is on it")) rfl)
            have hat : ∀ w ∈ vx_atS RX4 73 "java/lang/IllegalStateException" ["java/lang/RuntimeException", "java/lang/Exception"], w.before _ s = true := vx_hat (B := [.castable "java/lang/IllegalStateException" "java/lang/IllegalStateException", decl_1, decl_2, decl_3]) (fun w h => hts w (List.mem_cons_of_mem _ (List.mem_append_right _ h))) (by decide +kernel) (vx_c (va_Nw.use rfl hXV.2.2.2.1) (vx_c (va_Nw.use rfl hXV.2.2.2.2.2.1) (vx_c (va_Nw.use rfl hXV.2.2.2.2.2.2.1) (vx_c (va_Nw.use rfl hXV.2.2.2.2.2.2.2.1) vx_n))))
            exact vx_throwS (own := RX4) (cls := "java/lang/IllegalStateException") (text := "a being is on it") (names := ["java/lang/RuntimeException", "java/lang/Exception"]) (ik := 69) (is := 71) (ic := 73) (sa := sa) (A := A) hx hb hst hown (by decide +kernel) (by decide +kernel) (hts (.classLink RX4 69 "java/lang/IllegalStateException") (by decide +kernel)) (hts (.initialized "java/lang/IllegalStateException") (by decide +kernel)) hstr hat (by decide +kernel) hTX.1 hTX.2 hS (hl.1.trans hml.symm) dX4_set_67 dX4_set_70 dX4_set_71 dX4_set_73 dX4_set_76 (fun x hx9 => (hno x hx9).elim) (Nat.le_of_ble_eq_true rfl) (Nat.le_of_ble_eq_true rfl) (Nat.le_of_ble_eq_true rfl) (Nat.le_of_ble_eq_true rfl) hlocks (thr_of (by rw [hT]; decide) (by rw [hT]; rfl) hP hK hD hS) hS.2.2 (Nat.le_of_ble_eq_true rfl) (Nat.le_of_ble_eq_true rfl)
      · refine lv_iload_n hx hb dX4_set_33 rfl (lv_at hl 2 rfl) ?_
        refine lv_iconst (v := 1) hx hb dX4_set_34 (by decide) ?_
        refine lv_icmp_eq (tgt := 48) hx hb dX4_set_35 (by decide) (fun c_35 => ?_) (fun c_35 => ?_)
        · refine lv_iload_n hx hb dX4_set_48 rfl (lv_at hl 2 rfl) ?_
          refine vp_callSi (va_Run.run (va_runS (As := [.int y]) (rest := []) ⟨hx, hb, hml, hown, hts⟩ (c_X4_stopsSight l y) (va_cwS 1 hts gX4_set_X4_stopsSight rfl rfl rfl (by decide +kernel) ⟨Nat.le_of_ble_eq_true rfl, Nat.le_of_ble_eq_true rfl⟩) ⟨fun _ _ _ _ q => q, fun _ _ _ => ⟨rfl, trivial⟩⟩ rfl rfl hl.1 rfl (lv_room (Nat.le_of_ble_eq_true rfl)) dX4_set_49 ⟨Nat.zero_le _, Nat.zero_le _⟩)) (fun r hr9 => ?_)
          subst hr9
          refine w_bz (tgt := 77) hx hb dX4_set_52 (by decide) (fun c_52 => ?_) (fun c_52 => ?_)
          · refine lv_aload_n hx hb dX4_set_77 rfl (lv_at hl 0 rfl) ?_
            refine va_get (D := D) (ci := 4) (v := .ref (a 0)) (C := RX4) (T := TX4) (N := 4) hx hb hts (by decide +kernel) hown hK hP 0 rfl rfl 0 (by decide) (hts (.fieldLink RX4 12 "Warren" "state" "LWarren$State;") (by decide +kernel)) (fun _ h9 => h9) rfl dX4_set_78 ?_
            refine lv_iload_n hx hb dX4_set_81 rfl (lv_at hl 1 rfl) ?_
            refine vp_callSi (va_Run.run (va_runV (As := [.int x]) (rest := []) ⟨hx, hb, hml, hown, hts⟩ (c_X2_kindAt l D cI a σ x) (cwV 1 hts gX4_set_X2_kindAt rfl rfl rfl (by decide +kernel) ⟨Nat.le_of_ble_eq_true rfl, Nat.le_of_ble_eq_true rfl⟩) ⟨preR_blind, va_recv hK hP (ci := 2) (q0 := 1) rfl rfl, preR_of (hP.sub (ws' := sW cI a σ) [1, 2, 3, 4, 5, 6] rfl) hK hE [.ref (a 0), .int x]⟩ rfl rfl hl.1 rfl (lv_room (Nat.le_of_ble_eq_true rfl)) dX4_set_82 ⟨Nat.zero_le _, Nat.zero_le _⟩)) (fun r hr9 => ?_)
            subst hr9
            refine lv_istore_n (lv' := [(3, .int (kindF σ x)), (0, .ref h), (1, .int x), (2, .int y)]) hx hb dX4_set_85 rfl hl (by decide) rfl (fun ls hl => ?_)
            refine lv_aload_n hx hb dX4_set_86 rfl (lv_at hl 1 rfl) ?_
            refine va_get (D := D) (ci := 4) (v := .ref (a 0)) (C := RX4) (T := TX4) (N := 4) hx hb hts (by decide +kernel) hown hK hP 0 rfl rfl 0 (by decide) (hts (.fieldLink RX4 12 "Warren" "state" "LWarren$State;") (by decide +kernel)) (fun _ h9 => h9) rfl dX4_set_87 ?_
            refine lv_iload_n hx hb dX4_set_90 rfl (lv_at hl 2 rfl) ?_
            refine lv_iload_n hx hb dX4_set_91 rfl (lv_at hl 3 rfl) ?_
            have hFc := va_free (wc := sW cI a σ) hD hS hA [1, 2, 3, 4, 5, 6] rfl
            refine va_callv (va_runV (As := [.int x, .int y]) (rest := []) ⟨hx, hb, hml, hown, hts⟩ (c_X2_putKind l D cI _ a σ x y) (cwV 2 hts gX4_set_X2_putKind rfl rfl rfl (by decide +kernel) ⟨Nat.le_of_ble_eq_true rfl, Nat.le_of_ble_eq_true rfl⟩) ⟨preM_blind, va_recv hK hP (ci := 2) (q0 := 1) rfl rfl, preM_of (hP.sub (ws' := sW cI a σ) [1, 2, 3, 4, 5, 6] rfl) hK hE (hD.sub (ws' := sW cI a σ) [1, 2, 3, 4, 5, 6] (by decide) rfl) [.ref (a 0), .int x, .int y]⟩ rfl rfl hl.1 rfl (lv_room (Nat.le_of_ble_eq_true rfl)) dX4_set_92 ⟨Nat.le_of_ble_eq_true rfl, Nat.le_of_ble_eq_true rfl⟩) hS (fun q _ h => hFc q h) hFc (fun u t9 H1 locs ht hvm hw hB hz1 hk1 hS => ?_)
            obtain ⟨hP1, hK1, hD1⟩ := hB
            rw [ht] at hP1
            subst hw
            obtain ⟨hP, hD⟩ := va_join (wr := wW h (a 0) t0 l0 m0) (w1 := sW cI a (putKindF σ x y)) hP hD [1, 2, 3, 4, 5, 6] [0] rfl rfl (by decide) (by decide) hk1 hFc hP1 hD1
            generalize H1 = H at hP hS ⊢
            have hP : va_P D vwCl (wW h (a 0) t0 l0 m0 ++ sW cI a (putKindF σ x y)) H := hP
            have hD : va_D A (wW h (a 0) t0 l0 m0 ++ sW cI a (putKindF σ x y)) := hD
            refine lv_iload_n hx hb dX4_set_95 rfl (lv_at hl 0 rfl) ?_
            have hP9 := hP
            have hD9 := hD
            refine W.widen (k := 1) (n := 6) (Nat.le_of_ble_eq_true rfl) (Nat.le_of_ble_eq_true rfl) ?_
            refine vx_ret ?_
            exact W.iret (v := (kindF σ x)) hx hb hr (fun T9 ht hW => ⟨⟨(kindF σ x), (putKindF σ x y), rfl, ⟨by first | (simp only [setT, setT2, c_4, c_23, c_30, if_pos c_35, c_52, Bool.false_eq_true, if_false, if_true]; done) | (simp [setT, setT2, c_4, c_23, c_30, c_35, c_52]; done), by first | rfl | (simp [c_4, c_23, c_30, c_35, c_52]; done) | (simp [c_4, c_23, c_30, c_35, c_52]; rfl), by first | rfl | (simp [c_4, c_23, c_30, c_35, c_52]; done)⟩, by rw [ht]; exact hP9, va_K.moved hW.alike hK, hD9⟩, hS.F ht⟩) hS.2.2 dX4_set_96
          · refine lv_aload_n hx hb dX4_set_55 rfl (lv_at hl 0 rfl) ?_
            refine va_get (D := D) (ci := 4) (v := .ref (a 0)) (C := RX4) (T := TX4) (N := 4) hx hb hts (by decide +kernel) hown hK hP 0 rfl rfl 0 (by decide) (hts (.fieldLink RX4 12 "Warren" "state" "LWarren$State;") (by decide +kernel)) (fun _ h9 => h9) rfl dX4_set_56 ?_
            refine lv_iload_n hx hb dX4_set_59 rfl (lv_at hl 1 rfl) ?_
            refine vp_callSi (va_Run.run (va_runV (As := [.int x]) (rest := []) ⟨hx, hb, hml, hown, hts⟩ (c_X2_whoIsOn l D cI a σ x hn) (cwV 1 hts gX4_set_X2_whoIsOn rfl rfl rfl (by decide +kernel) ⟨Nat.le_of_ble_eq_true rfl, Nat.le_of_ble_eq_true rfl⟩) ⟨preR_blind, va_recv hK hP (ci := 2) (q0 := 1) rfl rfl, preR_of (hP.sub (ws' := sW cI a σ) [1, 2, 3, 4, 5, 6] rfl) hK hE [.ref (a 0), .int x]⟩ rfl rfl hl.1 rfl (lv_room (Nat.le_of_ble_eq_true rfl)) dX4_set_60 ⟨Nat.zero_le _, Nat.zero_le _⟩)) (fun r hr9 => ?_)
            subst hr9
            refine lv_iconst (v := (-1)) hx hb dX4_set_63 (by decide) ?_
            refine lv_icmp_eq (tgt := 77) hx hb dX4_set_64 (by decide) (fun c_64 => ?_) (fun c_64 => ?_)
            · refine lv_aload_n hx hb dX4_set_77 rfl (lv_at hl 0 rfl) ?_
              refine va_get (D := D) (ci := 4) (v := .ref (a 0)) (C := RX4) (T := TX4) (N := 4) hx hb hts (by decide +kernel) hown hK hP 0 rfl rfl 0 (by decide) (hts (.fieldLink RX4 12 "Warren" "state" "LWarren$State;") (by decide +kernel)) (fun _ h9 => h9) rfl dX4_set_78 ?_
              refine lv_iload_n hx hb dX4_set_81 rfl (lv_at hl 1 rfl) ?_
              refine vp_callSi (va_Run.run (va_runV (As := [.int x]) (rest := []) ⟨hx, hb, hml, hown, hts⟩ (c_X2_kindAt l D cI a σ x) (cwV 1 hts gX4_set_X2_kindAt rfl rfl rfl (by decide +kernel) ⟨Nat.le_of_ble_eq_true rfl, Nat.le_of_ble_eq_true rfl⟩) ⟨preR_blind, va_recv hK hP (ci := 2) (q0 := 1) rfl rfl, preR_of (hP.sub (ws' := sW cI a σ) [1, 2, 3, 4, 5, 6] rfl) hK hE [.ref (a 0), .int x]⟩ rfl rfl hl.1 rfl (lv_room (Nat.le_of_ble_eq_true rfl)) dX4_set_82 ⟨Nat.zero_le _, Nat.zero_le _⟩)) (fun r hr9 => ?_)
              subst hr9
              refine lv_istore_n (lv' := [(3, .int (kindF σ x)), (0, .ref h), (1, .int x), (2, .int y)]) hx hb dX4_set_85 rfl hl (by decide) rfl (fun ls hl => ?_)
              refine lv_aload_n hx hb dX4_set_86 rfl (lv_at hl 1 rfl) ?_
              refine va_get (D := D) (ci := 4) (v := .ref (a 0)) (C := RX4) (T := TX4) (N := 4) hx hb hts (by decide +kernel) hown hK hP 0 rfl rfl 0 (by decide) (hts (.fieldLink RX4 12 "Warren" "state" "LWarren$State;") (by decide +kernel)) (fun _ h9 => h9) rfl dX4_set_87 ?_
              refine lv_iload_n hx hb dX4_set_90 rfl (lv_at hl 2 rfl) ?_
              refine lv_iload_n hx hb dX4_set_91 rfl (lv_at hl 3 rfl) ?_
              have hFc := va_free (wc := sW cI a σ) hD hS hA [1, 2, 3, 4, 5, 6] rfl
              refine va_callv (va_runV (As := [.int x, .int y]) (rest := []) ⟨hx, hb, hml, hown, hts⟩ (c_X2_putKind l D cI _ a σ x y) (cwV 2 hts gX4_set_X2_putKind rfl rfl rfl (by decide +kernel) ⟨Nat.le_of_ble_eq_true rfl, Nat.le_of_ble_eq_true rfl⟩) ⟨preM_blind, va_recv hK hP (ci := 2) (q0 := 1) rfl rfl, preM_of (hP.sub (ws' := sW cI a σ) [1, 2, 3, 4, 5, 6] rfl) hK hE (hD.sub (ws' := sW cI a σ) [1, 2, 3, 4, 5, 6] (by decide) rfl) [.ref (a 0), .int x, .int y]⟩ rfl rfl hl.1 rfl (lv_room (Nat.le_of_ble_eq_true rfl)) dX4_set_92 ⟨Nat.le_of_ble_eq_true rfl, Nat.le_of_ble_eq_true rfl⟩) hS (fun q _ h => hFc q h) hFc (fun u t9 H1 locs ht hvm hw hB hz1 hk1 hS => ?_)
              obtain ⟨hP1, hK1, hD1⟩ := hB
              rw [ht] at hP1
              subst hw
              obtain ⟨hP, hD⟩ := va_join (wr := wW h (a 0) t0 l0 m0) (w1 := sW cI a (putKindF σ x y)) hP hD [1, 2, 3, 4, 5, 6] [0] rfl rfl (by decide) (by decide) hk1 hFc hP1 hD1
              generalize H1 = H at hP hS ⊢
              have hP : va_P D vwCl (wW h (a 0) t0 l0 m0 ++ sW cI a (putKindF σ x y)) H := hP
              have hD : va_D A (wW h (a 0) t0 l0 m0 ++ sW cI a (putKindF σ x y)) := hD
              refine lv_iload_n hx hb dX4_set_95 rfl (lv_at hl 0 rfl) ?_
              have hP9 := hP
              have hD9 := hD
              refine W.widen (k := 1) (n := 6) (Nat.le_of_ble_eq_true rfl) (Nat.le_of_ble_eq_true rfl) ?_
              refine vx_ret ?_
              exact W.iret (v := (kindF σ x)) hx hb hr (fun T9 ht hW => ⟨⟨(kindF σ x), (putKindF σ x y), rfl, ⟨by first | (simp only [setT, setT2, c_4, c_23, c_30, if_pos c_35, c_52, if_pos c_64, Bool.false_eq_true, if_false, if_true]; done) | (simp [setT, setT2, c_4, c_23, c_30, c_35, c_52, c_64]; done), by first | rfl | (simp [c_4, c_23, c_30, c_35, c_52, c_64]; done) | (simp [c_4, c_23, c_30, c_35, c_52, c_64]; rfl), by first | rfl | (simp [c_4, c_23, c_30, c_35, c_52, c_64]; done)⟩, by rw [ht]; exact hP9, va_K.moved hW.alike hK, hD9⟩, hS.F ht⟩) hS.2.2 dX4_set_96
            · have hT : setT σ x y = 3 := by first | (simp only [setT, setT2, c_4, c_23, c_30, if_pos c_35, c_52, if_neg c_64, Bool.false_eq_true, if_false, if_true]; done) | (simp [setT, setT2, c_4, c_23, c_30, c_35, c_52, c_64]; done)
              obtain ⟨sa, hstr⟩ := hXV.2.1 _ (List.mem_of_getElem? (i := 3) (a := (71, "a being is on it")) rfl)
              have hat : ∀ w ∈ vx_atS RX4 73 "java/lang/IllegalStateException" ["java/lang/RuntimeException", "java/lang/Exception"], w.before _ s = true := vx_hat (B := [.castable "java/lang/IllegalStateException" "java/lang/IllegalStateException", decl_1, decl_2, decl_3]) (fun w h => hts w (List.mem_cons_of_mem _ (List.mem_append_right _ h))) (by decide +kernel) (vx_c (va_Nw.use rfl hXV.2.2.2.1) (vx_c (va_Nw.use rfl hXV.2.2.2.2.2.1) (vx_c (va_Nw.use rfl hXV.2.2.2.2.2.2.1) (vx_c (va_Nw.use rfl hXV.2.2.2.2.2.2.2.1) vx_n))))
              exact vx_throwS (own := RX4) (cls := "java/lang/IllegalStateException") (text := "a being is on it") (names := ["java/lang/RuntimeException", "java/lang/Exception"]) (ik := 69) (is := 71) (ic := 73) (sa := sa) (A := A) hx hb hst hown (by decide +kernel) (by decide +kernel) (hts (.classLink RX4 69 "java/lang/IllegalStateException") (by decide +kernel)) (hts (.initialized "java/lang/IllegalStateException") (by decide +kernel)) hstr hat (by decide +kernel) hTX.1 hTX.2 hS (hl.1.trans hml.symm) dX4_set_67 dX4_set_70 dX4_set_71 dX4_set_73 dX4_set_76 (fun x hx9 => (hno x hx9).elim) (Nat.le_of_ble_eq_true rfl) (Nat.le_of_ble_eq_true rfl) (Nat.le_of_ble_eq_true rfl) (Nat.le_of_ble_eq_true rfl) hlocks (thr_of (by rw [hT]; decide) (by rw [hT]; rfl) hP hK hD hS) hS.2.2 (Nat.le_of_ble_eq_true rfl) (Nat.le_of_ble_eq_true rfl)
        · have hT : setT σ x y = 2 := by first | (simp only [setT, setT2, c_4, c_23, c_30, if_neg c_35, Bool.false_eq_true, if_false, if_true]; done) | (simp [setT, setT2, c_4, c_23, c_30, c_35]; done)
          obtain ⟨sa, hstr⟩ := hXV.2.1 _ (List.mem_of_getElem? (i := 2) (a := (60, "no such kind there")) rfl)
          have hat : ∀ w ∈ vx_atS RX4 41 "java/lang/IllegalArgumentException" ["java/lang/RuntimeException", "java/lang/Exception"], w.before _ s = true := vx_hat (B := [.castable "java/lang/IllegalArgumentException" "java/lang/IllegalArgumentException", decl_1, decl_2, decl_3]) (fun w h => hts w (List.mem_cons_of_mem _ (List.mem_append_left _ (List.mem_append_right _ h)))) (by decide +kernel) (vx_c (va_Nw.use rfl hXV.2.2.1) (vx_c (va_Nw.use rfl hXV.2.2.2.2.2.1) (vx_c (va_Nw.use rfl hXV.2.2.2.2.2.2.1) (vx_c (va_Nw.use rfl hXV.2.2.2.2.2.2.2.1) vx_n))))
          exact vx_throwS (own := RX4) (cls := "java/lang/IllegalArgumentException") (text := "no such kind there") (names := ["java/lang/RuntimeException", "java/lang/Exception"]) (ik := 37) (is := 60) (ic := 41) (sa := sa) (A := A) hx hb hst hown (by decide +kernel) (by decide +kernel) (hts (.classLink RX4 37 "java/lang/IllegalArgumentException") (by decide +kernel)) (hts (.initialized "java/lang/IllegalArgumentException") (by decide +kernel)) hstr hat (by decide +kernel) hTX.1 hTX.2 hS (hl.1.trans hml.symm) dX4_set_38 dX4_set_41 dX4_set_42 dX4_set_44 dX4_set_47 (fun x hx9 => (hno x hx9).elim) (Nat.le_of_ble_eq_true rfl) (Nat.le_of_ble_eq_true rfl) (Nat.le_of_ble_eq_true rfl) (Nat.le_of_ble_eq_true rfl) hlocks (thr_of (by rw [hT]; decide) (by rw [hT]; rfl) hP hK hD hS) hS.2.2 (Nat.le_of_ble_eq_true rfl) (Nat.le_of_ble_eq_true rfl)
  · have hT : setT σ x y = 1 := by first | (simp only [setT, setT2, c_4, Bool.false_eq_true, if_false, if_true]; done) | (simp [setT, setT2, c_4]; done)
    obtain ⟨sa, hstr⟩ := hXV.2.1 _ (List.mem_of_getElem? (i := 1) (a := (54, "no such cell")) rfl)
    have hat : ∀ w ∈ vx_atS RX4 56 "java/lang/IndexOutOfBoundsException" ["java/lang/RuntimeException", "java/lang/Exception"], w.before _ s = true := vx_hat (B := [.castable "java/lang/IndexOutOfBoundsException" "java/lang/IndexOutOfBoundsException", decl_1, decl_2, decl_3]) (fun w h => hts w (List.mem_cons_of_mem _ (List.mem_append_left _ (List.mem_append_left _ (List.mem_append_right _ h))))) (by decide +kernel) (vx_c (va_Nw.use rfl hXV.2.2.2.2.1) (vx_c (va_Nw.use rfl hXV.2.2.2.2.2.1) (vx_c (va_Nw.use rfl hXV.2.2.2.2.2.2.1) (vx_c (va_Nw.use rfl hXV.2.2.2.2.2.2.2.1) vx_n))))
    exact vx_throwS (own := RX4) (cls := "java/lang/IndexOutOfBoundsException") (text := "no such cell") (names := ["java/lang/RuntimeException", "java/lang/Exception"]) (ik := 52) (is := 54) (ic := 56) (sa := sa) (A := A) hx hb hst hown (by decide +kernel) (by decide +kernel) (hts (.classLink RX4 52 "java/lang/IndexOutOfBoundsException") (by decide +kernel)) (hts (.initialized "java/lang/IndexOutOfBoundsException") (by decide +kernel)) hstr hat (by decide +kernel) hTX.1 hTX.2 hS (hl.1.trans hml.symm) dX4_set_7 dX4_set_10 dX4_set_11 dX4_set_13 dX4_set_16 (fun x hx9 => (hno x hx9).elim) (Nat.le_of_ble_eq_true rfl) (Nat.le_of_ble_eq_true rfl) (Nat.le_of_ble_eq_true rfl) (Nat.le_of_ble_eq_true rfl) hlocks (thr_of (by rw [hT]; decide) (by rw [hT]; rfl) hP hK hD hS) hS.2.2 (Nat.le_of_ble_eq_true rfl) (Nat.le_of_ble_eq_true rfl)

set_option maxHeartbeats 4000000 in
set_option maxRecDepth 100000 in
theorem c_X4_come (l : Launch) (hst : l.stackTraces = false) (D : va_G) (cI : ClassId) (sz : Nat) (h t0 l0 m0 : Nat) (a : Nat → Nat) (σ : SS) (x y z : Int32) (hn : s_n σ ≤ 10) : vx_Met l yX4_come wsX4_come ({ frames := 6, cells := 1, slots := 6, locals := 120 } : Room) (va_Pc [.ref h, .int x, .int y, .int z] (preX D cI (wW h (a 0) t0 l0 m0 ++ sW cI a σ) sz)) (va_Qi (fun (r : Int32) (u : SS) => comeT σ x y z = 0 ∧ r = nI (s_n σ) ∧ u = addF σ x y z) (fun (u : SS) => posM D cI (va_A (wW h (a 0) t0 l0 m0 ++ sW cI a σ) sz) (wW h (a 0) t0 l0 m0 ++ sW cI a u)) (va_A (wW h (a 0) t0 l0 m0 ++ sW cI a σ) sz)) (thrX (comeT σ x y z) nmIAS D cI (va_A (wW h (a 0) t0 l0 m0 ++ sW cI a σ) sz) (wW h (a 0) t0 l0 m0 ++ sW cI a σ)) 1 6 (va_A (wW h (a 0) t0 l0 m0 ++ sW cI a σ) sz) := by
  refine vx_ofW (cc := cX4_come) (maxL := 4) (ret := (some .int)) (by decide) rfl ?_
  intro p e s m args below meth c s₁ B hml hno hv
  obtain ⟨rfl, hsz, hP, hK, hXV, hD0, hTX⟩ := hv
  have hE := hXV.1
  have hx := B.exec
  have hb := B.bytes
  have hr := B.returns
  have hts := atoms_spec (ws := wsX4_come) B.pre
  have hown : s.vm.findClass RX4 = some m.cls := findClass_of_methodNamed B.named
  have hlocks := B.notSynchronized
  subst hsz
  have hD := hD0.self (sz := s.heap.size)
  generalize hAe : va_A (wW h (a 0) t0 l0 m0 ++ sW cI a σ) s.heap.size = A at hD hTX ⊢
  have hA : ∀ q : Nat, s.heap.size ≤ q → A q := fun q h => by rw [← hAe]; exact Or.inr h
  have hS : va_S A s.heap s.heap [] := va_S.rf
  have hP : va_P D vwCl (wW h (a 0) t0 l0 m0 ++ sW cI a σ) s.heap := hP
  have hl := lv_entry ([.ref h, .int x, .int y, .int z]) (n := 4) (Nat.le_of_ble_eq_true rfl)
  rw [lg_entry_eq]
  generalize (lg_sl ([.ref h, .int x, .int y, .int z]) ++ List.replicate (4 - (lg_sl ([.ref h, .int x, .int y, .int z])).length) Slot.unset).toArray = ls at hl ⊢
  have hl : lv_has ls 4 [(0, .ref h), (1, .int x), (2, .int y), (3, .int z)] := hl
  refine lv_iload_n hx hb dX4_come_0 rfl (lv_at hl 2 rfl) ?_
  refine vp_callSi (va_Run.run (va_runS (As := [.int y]) (rest := []) ⟨hx, hb, hml, hown, hts⟩ (c_X4_isCell l y) (va_cwS 1 hts gX4_come_X4_isCell rfl rfl rfl (by decide +kernel) ⟨Nat.le_of_ble_eq_true rfl, Nat.le_of_ble_eq_true rfl⟩) ⟨fun _ _ _ _ q => q, fun _ _ _ => ⟨rfl, trivial⟩⟩ rfl rfl hl.1 rfl (lv_room (Nat.le_of_ble_eq_true rfl)) dX4_come_1 ⟨Nat.zero_le _, Nat.zero_le _⟩)) (fun r hr9 => ?_)
  subst hr9
  refine w_bnz (tgt := 17) hx hb dX4_come_4 (by decide) (fun c_4 => ?_) (fun c_4 => ?_)
  · refine lv_iload_n hx hb dX4_come_17 rfl (lv_at hl 1 rfl) ?_
    refine vp_callSi (va_Run.run (va_runS (As := [.int x]) (rest := []) ⟨hx, hb, hml, hown, hts⟩ (c_X4_isSide l x) (va_cwS 1 hts gX4_come_X4_isSide rfl rfl rfl (by decide +kernel) ⟨Nat.le_of_ble_eq_true rfl, Nat.le_of_ble_eq_true rfl⟩) ⟨fun _ _ _ _ q => q, fun _ _ _ => ⟨rfl, trivial⟩⟩ rfl rfl hl.1 rfl (lv_room (Nat.le_of_ble_eq_true rfl)) dX4_come_18 ⟨Nat.zero_le _, Nat.zero_le _⟩)) (fun r hr9 => ?_)
    subst hr9
    refine w_bz (tgt := 34) hx hb dX4_come_21 (by decide) (fun c_21 => ?_) (fun c_21 => ?_)
    · have hT : comeT σ x y z = 2 := by first | (simp only [comeT, comeT2, c_4, c_21, Bool.false_eq_true, if_false, if_true]; done) | (simp [comeT, comeT2, c_4, c_21]; done)
      obtain ⟨sa, hstr⟩ := hXV.2.1 _ (List.mem_of_getElem? (i := 5) (a := (93, "no such side or life")) rfl)
      have hat : ∀ w ∈ vx_atS RX4 41 "java/lang/IllegalArgumentException" ["java/lang/RuntimeException", "java/lang/Exception"], w.before _ s = true := vx_hat (B := [.castable "java/lang/IllegalArgumentException" "java/lang/IllegalArgumentException", decl_1, decl_2, decl_3]) (fun w h => hts w (List.mem_cons_of_mem _ (List.mem_append_left _ (List.mem_append_right _ h)))) (by decide +kernel) (vx_c (va_Nw.use rfl hXV.2.2.1) (vx_c (va_Nw.use rfl hXV.2.2.2.2.2.1) (vx_c (va_Nw.use rfl hXV.2.2.2.2.2.2.1) (vx_c (va_Nw.use rfl hXV.2.2.2.2.2.2.2.1) vx_n))))
      exact vx_throwS (own := RX4) (cls := "java/lang/IllegalArgumentException") (text := "no such side or life") (names := ["java/lang/RuntimeException", "java/lang/Exception"]) (ik := 37) (is := 93) (ic := 41) (sa := sa) (A := A) hx hb hst hown (by decide +kernel) (by decide +kernel) (hts (.classLink RX4 37 "java/lang/IllegalArgumentException") (by decide +kernel)) (hts (.initialized "java/lang/IllegalArgumentException") (by decide +kernel)) hstr hat (by decide +kernel) hTX.1 hTX.2 hS (hl.1.trans hml.symm) dX4_come_34 dX4_come_37 dX4_come_38 dX4_come_40 dX4_come_43 (fun x hx9 => (hno x hx9).elim) (Nat.le_of_ble_eq_true rfl) (Nat.le_of_ble_eq_true rfl) (Nat.le_of_ble_eq_true rfl) (Nat.le_of_ble_eq_true rfl) hlocks (thr_of (by rw [hT]; decide) (by rw [hT]; rfl) hP hK hD hS) hS.2.2 (Nat.le_of_ble_eq_true rfl) (Nat.le_of_ble_eq_true rfl)
    · refine lv_iload_n hx hb dX4_come_24 rfl (lv_at hl 3 rfl) ?_
      refine lv_iconst (v := 1) hx hb dX4_come_25 (by decide) ?_
      refine lv_bipush (v := 60) hx hb dX4_come_26 (by decide) ?_
      refine vp_callSi (va_Run.run (va_runS (As := [.int z, .int 1, .int 60]) (rest := []) ⟨hx, hb, hml, hown, hts⟩ (c_X4_isWithin l z 1 60) (va_cwS 3 hts gX4_come_X4_isWithin rfl rfl rfl (by decide +kernel) ⟨Nat.le_of_ble_eq_true rfl, Nat.le_of_ble_eq_true rfl⟩) ⟨fun _ _ _ _ q => q, fun _ _ _ => ⟨rfl, trivial⟩⟩ rfl rfl hl.1 rfl (lv_room (Nat.le_of_ble_eq_true rfl)) dX4_come_28 ⟨Nat.zero_le _, Nat.zero_le _⟩)) (fun r hr9 => ?_)
      subst hr9
      refine w_bnz (tgt := 44) hx hb dX4_come_31 (by decide) (fun c_31 => ?_) (fun c_31 => ?_)
      · refine lv_aload_n hx hb dX4_come_44 rfl (lv_at hl 0 rfl) ?_
        refine va_get (D := D) (ci := 4) (v := .ref (a 0)) (C := RX4) (T := TX4) (N := 4) hx hb hts (by decide +kernel) hown hK hP 0 rfl rfl 0 (by decide) (hts (.fieldLink RX4 12 "Warren" "state" "LWarren$State;") (by decide +kernel)) (fun _ h9 => h9) rfl dX4_come_45 ?_
        refine lv_iload_n hx hb dX4_come_48 rfl (lv_at hl 2 rfl) ?_
        refine vp_callSi (va_Run.run (va_runV (As := [.int y]) (rest := []) ⟨hx, hb, hml, hown, hts⟩ (c_X2_kindAt l D cI a σ y) (cwV 1 hts gX4_come_X2_kindAt rfl rfl rfl (by decide +kernel) ⟨Nat.le_of_ble_eq_true rfl, Nat.le_of_ble_eq_true rfl⟩) ⟨preR_blind, va_recv hK hP (ci := 2) (q0 := 1) rfl rfl, preR_of (hP.sub (ws' := sW cI a σ) [1, 2, 3, 4, 5, 6] rfl) hK hE [.ref (a 0), .int y]⟩ rfl rfl hl.1 rfl (lv_room (Nat.le_of_ble_eq_true rfl)) dX4_come_49 ⟨Nat.zero_le _, Nat.zero_le _⟩)) (fun r hr9 => ?_)
        subst hr9
        refine vp_callSi (va_Run.run (va_runS (As := [.int (kindF σ y)]) (rest := []) ⟨hx, hb, hml, hown, hts⟩ (c_X4_stopsSight l (kindF σ y)) (va_cwS 1 hts gX4_come_X4_stopsSight rfl rfl rfl (by decide +kernel) ⟨Nat.le_of_ble_eq_true rfl, Nat.le_of_ble_eq_true rfl⟩) ⟨fun _ _ _ _ q => q, fun _ _ _ => ⟨rfl, trivial⟩⟩ rfl rfl hl.1 rfl (lv_room (Nat.le_of_ble_eq_true rfl)) dX4_come_52 ⟨Nat.zero_le _, Nat.zero_le _⟩)) (fun r hr9 => ?_)
        subst hr9
        refine w_bnz (tgt := 80) hx hb dX4_come_55 (by decide) (fun c_55 => ?_) (fun c_55 => ?_)
        · have hT : comeT σ x y z = 3 := by first | (simp only [comeT, comeT2, c_4, c_21, c_31, c_55, Bool.false_eq_true, if_false, if_true]; done) | (simp [comeT, comeT2, c_4, c_21, c_31, c_55]; done)
          obtain ⟨sa, hstr⟩ := hXV.2.1 _ (List.mem_of_getElem? (i := 6) (a := (99, "it cannot be there, or there were 10")) rfl)
          have hat : ∀ w ∈ vx_atS RX4 73 "java/lang/IllegalStateException" ["java/lang/RuntimeException", "java/lang/Exception"], w.before _ s = true := vx_hat (B := [.castable "java/lang/IllegalStateException" "java/lang/IllegalStateException", decl_1, decl_2, decl_3]) (fun w h => hts w (List.mem_cons_of_mem _ (List.mem_append_right _ h))) (by decide +kernel) (vx_c (va_Nw.use rfl hXV.2.2.2.1) (vx_c (va_Nw.use rfl hXV.2.2.2.2.2.1) (vx_c (va_Nw.use rfl hXV.2.2.2.2.2.2.1) (vx_c (va_Nw.use rfl hXV.2.2.2.2.2.2.2.1) vx_n))))
          exact vx_throwS (own := RX4) (cls := "java/lang/IllegalStateException") (text := "it cannot be there, or there were 10") (names := ["java/lang/RuntimeException", "java/lang/Exception"]) (ik := 69) (is := 99) (ic := 73) (sa := sa) (A := A) hx hb hst hown (by decide +kernel) (by decide +kernel) (hts (.classLink RX4 69 "java/lang/IllegalStateException") (by decide +kernel)) (hts (.initialized "java/lang/IllegalStateException") (by decide +kernel)) hstr hat (by decide +kernel) hTX.1 hTX.2 hS (hl.1.trans hml.symm) dX4_come_80 dX4_come_83 dX4_come_84 dX4_come_86 dX4_come_89 (fun x hx9 => (hno x hx9).elim) (Nat.le_of_ble_eq_true rfl) (Nat.le_of_ble_eq_true rfl) (Nat.le_of_ble_eq_true rfl) (Nat.le_of_ble_eq_true rfl) hlocks (thr_of (by rw [hT]; decide) (by rw [hT]; rfl) hP hK hD hS) hS.2.2 (Nat.le_of_ble_eq_true rfl) (Nat.le_of_ble_eq_true rfl)
        · refine lv_aload_n hx hb dX4_come_58 rfl (lv_at hl 0 rfl) ?_
          refine va_get (D := D) (ci := 4) (v := .ref (a 0)) (C := RX4) (T := TX4) (N := 4) hx hb hts (by decide +kernel) hown hK hP 0 rfl rfl 0 (by decide) (hts (.fieldLink RX4 12 "Warren" "state" "LWarren$State;") (by decide +kernel)) (fun _ h9 => h9) rfl dX4_come_59 ?_
          refine lv_iload_n hx hb dX4_come_62 rfl (lv_at hl 2 rfl) ?_
          refine vp_callSi (va_Run.run (va_runV (As := [.int y]) (rest := []) ⟨hx, hb, hml, hown, hts⟩ (c_X2_whoIsOn l D cI a σ y hn) (cwV 1 hts gX4_come_X2_whoIsOn rfl rfl rfl (by decide +kernel) ⟨Nat.le_of_ble_eq_true rfl, Nat.le_of_ble_eq_true rfl⟩) ⟨preR_blind, va_recv hK hP (ci := 2) (q0 := 1) rfl rfl, preR_of (hP.sub (ws' := sW cI a σ) [1, 2, 3, 4, 5, 6] rfl) hK hE [.ref (a 0), .int y]⟩ rfl rfl hl.1 rfl (lv_room (Nat.le_of_ble_eq_true rfl)) dX4_come_63 ⟨Nat.zero_le _, Nat.zero_le _⟩)) (fun r hr9 => ?_)
          subst hr9
          refine lv_iconst (v := (-1)) hx hb dX4_come_66 (by decide) ?_
          refine lv_icmp_ne (tgt := 80) hx hb dX4_come_67 (by decide) (fun c_67 => ?_) (fun c_67 => ?_)
          · have hT : comeT σ x y z = 3 := by first | (simp only [comeT, comeT2, c_4, c_21, c_31, c_55, if_neg c_67, Bool.false_eq_true, if_false, if_true]; done) | (simp [comeT, comeT2, c_4, c_21, c_31, c_55, c_67]; done)
            obtain ⟨sa, hstr⟩ := hXV.2.1 _ (List.mem_of_getElem? (i := 6) (a := (99, "it cannot be there, or there were 10")) rfl)
            have hat : ∀ w ∈ vx_atS RX4 73 "java/lang/IllegalStateException" ["java/lang/RuntimeException", "java/lang/Exception"], w.before _ s = true := vx_hat (B := [.castable "java/lang/IllegalStateException" "java/lang/IllegalStateException", decl_1, decl_2, decl_3]) (fun w h => hts w (List.mem_cons_of_mem _ (List.mem_append_right _ h))) (by decide +kernel) (vx_c (va_Nw.use rfl hXV.2.2.2.1) (vx_c (va_Nw.use rfl hXV.2.2.2.2.2.1) (vx_c (va_Nw.use rfl hXV.2.2.2.2.2.2.1) (vx_c (va_Nw.use rfl hXV.2.2.2.2.2.2.2.1) vx_n))))
            exact vx_throwS (own := RX4) (cls := "java/lang/IllegalStateException") (text := "it cannot be there, or there were 10") (names := ["java/lang/RuntimeException", "java/lang/Exception"]) (ik := 69) (is := 99) (ic := 73) (sa := sa) (A := A) hx hb hst hown (by decide +kernel) (by decide +kernel) (hts (.classLink RX4 69 "java/lang/IllegalStateException") (by decide +kernel)) (hts (.initialized "java/lang/IllegalStateException") (by decide +kernel)) hstr hat (by decide +kernel) hTX.1 hTX.2 hS (hl.1.trans hml.symm) dX4_come_80 dX4_come_83 dX4_come_84 dX4_come_86 dX4_come_89 (fun x hx9 => (hno x hx9).elim) (Nat.le_of_ble_eq_true rfl) (Nat.le_of_ble_eq_true rfl) (Nat.le_of_ble_eq_true rfl) (Nat.le_of_ble_eq_true rfl) hlocks (thr_of (by rw [hT]; decide) (by rw [hT]; rfl) hP hK hD hS) hS.2.2 (Nat.le_of_ble_eq_true rfl) (Nat.le_of_ble_eq_true rfl)
          · refine lv_aload_n hx hb dX4_come_70 rfl (lv_at hl 0 rfl) ?_
            refine va_get (D := D) (ci := 4) (v := .ref (a 0)) (C := RX4) (T := TX4) (N := 4) hx hb hts (by decide +kernel) hown hK hP 0 rfl rfl 0 (by decide) (hts (.fieldLink RX4 12 "Warren" "state" "LWarren$State;") (by decide +kernel)) (fun _ h9 => h9) rfl dX4_come_71 ?_
            refine vp_callSi (va_Run.run (va_runV (As := []) (rest := []) ⟨hx, hb, hml, hown, hts⟩ (c_X2_hasRoom l D cI a σ ) (cwV 0 hts gX4_come_X2_hasRoom rfl rfl rfl (by decide +kernel) ⟨Nat.le_of_ble_eq_true rfl, Nat.le_of_ble_eq_true rfl⟩) ⟨preR_blind, va_recv hK hP (ci := 2) (q0 := 1) rfl rfl, preR_of (hP.sub (ws' := sW cI a σ) [1, 2, 3, 4, 5, 6] rfl) hK hE [.ref (a 0)]⟩ rfl rfl hl.1 rfl (lv_room (Nat.le_of_ble_eq_true rfl)) dX4_come_74 ⟨Nat.zero_le _, Nat.zero_le _⟩)) (fun r hr9 => ?_)
            subst hr9
            refine w_bnz (tgt := 90) hx hb dX4_come_77 (by decide) (fun c_77 => ?_) (fun c_77 => ?_)
            · refine lv_aload_n hx hb dX4_come_90 rfl (lv_at hl 0 rfl) ?_
              refine va_get (D := D) (ci := 4) (v := .ref (a 0)) (C := RX4) (T := TX4) (N := 4) hx hb hts (by decide +kernel) hown hK hP 0 rfl rfl 0 (by decide) (hts (.fieldLink RX4 12 "Warren" "state" "LWarren$State;") (by decide +kernel)) (fun _ h9 => h9) rfl dX4_come_91 ?_
              refine lv_iload_n hx hb dX4_come_94 rfl (lv_at hl 1 rfl) ?_
              refine lv_iload_n hx hb dX4_come_95 rfl (lv_at hl 2 rfl) ?_
              refine lv_iload_n hx hb dX4_come_96 rfl (lv_at hl 3 rfl) ?_
              have hFc := va_free (wc := sW cI a σ) hD hS hA [1, 2, 3, 4, 5, 6] rfl
              refine va_calli (va_runV (As := [.int x, .int y, .int z]) (rest := []) ⟨hx, hb, hml, hown, hts⟩ (c_X2_addBeing l D cI _ a σ x y z hn) (cwV 3 hts gX4_come_X2_addBeing rfl rfl rfl (by decide +kernel) ⟨Nat.le_of_ble_eq_true rfl, Nat.le_of_ble_eq_true rfl⟩) ⟨preM_blind, va_recv hK hP (ci := 2) (q0 := 1) rfl rfl, preM_of (hP.sub (ws' := sW cI a σ) [1, 2, 3, 4, 5, 6] rfl) hK hE (hD.sub (ws' := sW cI a σ) [1, 2, 3, 4, 5, 6] (by decide) rfl) [.ref (a 0), .int x, .int y, .int z]⟩ rfl rfl hl.1 rfl (lv_room (Nat.le_of_ble_eq_true rfl)) dX4_come_97 ⟨Nat.le_of_ble_eq_true rfl, Nat.le_of_ble_eq_true rfl⟩) hS (fun q _ h => hFc q h) hFc (fun r u t9 H1 locs ht hvm hw hB hz1 hk1 hS => ?_)
              obtain ⟨hP1, hK1, hD1⟩ := hB
              rw [ht] at hP1
              obtain ⟨rfl, rfl⟩ := hw
              obtain ⟨hP, hD⟩ := va_join (wr := wW h (a 0) t0 l0 m0) (w1 := sW cI a (addF σ x y z)) hP hD [1, 2, 3, 4, 5, 6] [0] rfl rfl (by decide) (by decide) hk1 hFc hP1 hD1
              generalize H1 = H at hP hS ⊢
              have hP : va_P D vwCl (wW h (a 0) t0 l0 m0 ++ sW cI a (addF σ x y z)) H := hP
              have hD : va_D A (wW h (a 0) t0 l0 m0 ++ sW cI a (addF σ x y z)) := hD
              have hP9 := hP
              have hD9 := hD
              refine W.widen (k := 1) (n := 6) (Nat.le_of_ble_eq_true rfl) (Nat.le_of_ble_eq_true rfl) ?_
              refine vx_ret ?_
              exact W.iret (v := (newNo σ x y z)) hx hb hr (fun T9 ht hW => ⟨⟨(newNo σ x y z), (addF σ x y z), rfl, ⟨by first | (simp only [comeT, comeT2, c_4, c_21, c_31, c_55, if_pos c_67, c_77, Bool.false_eq_true, if_false, if_true]; done) | (simp [comeT, comeT2, c_4, c_21, c_31, c_55, c_67, c_77]; done), by first | rfl | (simp [newNo, c_4, c_21, c_31, c_55, c_67, c_77]; done) | (simp [newNo, c_4, c_21, c_31, c_55, c_67, c_77]; rfl), by first | rfl | (simp [newNo, c_4, c_21, c_31, c_55, c_67, c_77]; done)⟩, by rw [ht]; exact hP9, va_K.moved hW.alike hK, hD9⟩, hS.F ht⟩) hS.2.2 dX4_come_100
            · have hT : comeT σ x y z = 3 := by first | (simp only [comeT, comeT2, c_4, c_21, c_31, c_55, if_pos c_67, c_77, Bool.false_eq_true, if_false, if_true]; done) | (simp [comeT, comeT2, c_4, c_21, c_31, c_55, c_67, c_77]; done)
              obtain ⟨sa, hstr⟩ := hXV.2.1 _ (List.mem_of_getElem? (i := 6) (a := (99, "it cannot be there, or there were 10")) rfl)
              have hat : ∀ w ∈ vx_atS RX4 73 "java/lang/IllegalStateException" ["java/lang/RuntimeException", "java/lang/Exception"], w.before _ s = true := vx_hat (B := [.castable "java/lang/IllegalStateException" "java/lang/IllegalStateException", decl_1, decl_2, decl_3]) (fun w h => hts w (List.mem_cons_of_mem _ (List.mem_append_right _ h))) (by decide +kernel) (vx_c (va_Nw.use rfl hXV.2.2.2.1) (vx_c (va_Nw.use rfl hXV.2.2.2.2.2.1) (vx_c (va_Nw.use rfl hXV.2.2.2.2.2.2.1) (vx_c (va_Nw.use rfl hXV.2.2.2.2.2.2.2.1) vx_n))))
              exact vx_throwS (own := RX4) (cls := "java/lang/IllegalStateException") (text := "it cannot be there, or there were 10") (names := ["java/lang/RuntimeException", "java/lang/Exception"]) (ik := 69) (is := 99) (ic := 73) (sa := sa) (A := A) hx hb hst hown (by decide +kernel) (by decide +kernel) (hts (.classLink RX4 69 "java/lang/IllegalStateException") (by decide +kernel)) (hts (.initialized "java/lang/IllegalStateException") (by decide +kernel)) hstr hat (by decide +kernel) hTX.1 hTX.2 hS (hl.1.trans hml.symm) dX4_come_80 dX4_come_83 dX4_come_84 dX4_come_86 dX4_come_89 (fun x hx9 => (hno x hx9).elim) (Nat.le_of_ble_eq_true rfl) (Nat.le_of_ble_eq_true rfl) (Nat.le_of_ble_eq_true rfl) (Nat.le_of_ble_eq_true rfl) hlocks (thr_of (by rw [hT]; decide) (by rw [hT]; rfl) hP hK hD hS) hS.2.2 (Nat.le_of_ble_eq_true rfl) (Nat.le_of_ble_eq_true rfl)
      · have hT : comeT σ x y z = 2 := by first | (simp only [comeT, comeT2, c_4, c_21, c_31, Bool.false_eq_true, if_false, if_true]; done) | (simp [comeT, comeT2, c_4, c_21, c_31]; done)
        obtain ⟨sa, hstr⟩ := hXV.2.1 _ (List.mem_of_getElem? (i := 5) (a := (93, "no such side or life")) rfl)
        have hat : ∀ w ∈ vx_atS RX4 41 "java/lang/IllegalArgumentException" ["java/lang/RuntimeException", "java/lang/Exception"], w.before _ s = true := vx_hat (B := [.castable "java/lang/IllegalArgumentException" "java/lang/IllegalArgumentException", decl_1, decl_2, decl_3]) (fun w h => hts w (List.mem_cons_of_mem _ (List.mem_append_left _ (List.mem_append_right _ h)))) (by decide +kernel) (vx_c (va_Nw.use rfl hXV.2.2.1) (vx_c (va_Nw.use rfl hXV.2.2.2.2.2.1) (vx_c (va_Nw.use rfl hXV.2.2.2.2.2.2.1) (vx_c (va_Nw.use rfl hXV.2.2.2.2.2.2.2.1) vx_n))))
        exact vx_throwS (own := RX4) (cls := "java/lang/IllegalArgumentException") (text := "no such side or life") (names := ["java/lang/RuntimeException", "java/lang/Exception"]) (ik := 37) (is := 93) (ic := 41) (sa := sa) (A := A) hx hb hst hown (by decide +kernel) (by decide +kernel) (hts (.classLink RX4 37 "java/lang/IllegalArgumentException") (by decide +kernel)) (hts (.initialized "java/lang/IllegalArgumentException") (by decide +kernel)) hstr hat (by decide +kernel) hTX.1 hTX.2 hS (hl.1.trans hml.symm) dX4_come_34 dX4_come_37 dX4_come_38 dX4_come_40 dX4_come_43 (fun x hx9 => (hno x hx9).elim) (Nat.le_of_ble_eq_true rfl) (Nat.le_of_ble_eq_true rfl) (Nat.le_of_ble_eq_true rfl) (Nat.le_of_ble_eq_true rfl) hlocks (thr_of (by rw [hT]; decide) (by rw [hT]; rfl) hP hK hD hS) hS.2.2 (Nat.le_of_ble_eq_true rfl) (Nat.le_of_ble_eq_true rfl)
  · have hT : comeT σ x y z = 1 := by first | (simp only [comeT, comeT2, c_4, Bool.false_eq_true, if_false, if_true]; done) | (simp [comeT, comeT2, c_4]; done)
    obtain ⟨sa, hstr⟩ := hXV.2.1 _ (List.mem_of_getElem? (i := 1) (a := (54, "no such cell")) rfl)
    have hat : ∀ w ∈ vx_atS RX4 56 "java/lang/IndexOutOfBoundsException" ["java/lang/RuntimeException", "java/lang/Exception"], w.before _ s = true := vx_hat (B := [.castable "java/lang/IndexOutOfBoundsException" "java/lang/IndexOutOfBoundsException", decl_1, decl_2, decl_3]) (fun w h => hts w (List.mem_cons_of_mem _ (List.mem_append_left _ (List.mem_append_left _ (List.mem_append_right _ h))))) (by decide +kernel) (vx_c (va_Nw.use rfl hXV.2.2.2.2.1) (vx_c (va_Nw.use rfl hXV.2.2.2.2.2.1) (vx_c (va_Nw.use rfl hXV.2.2.2.2.2.2.1) (vx_c (va_Nw.use rfl hXV.2.2.2.2.2.2.2.1) vx_n))))
    exact vx_throwS (own := RX4) (cls := "java/lang/IndexOutOfBoundsException") (text := "no such cell") (names := ["java/lang/RuntimeException", "java/lang/Exception"]) (ik := 52) (is := 54) (ic := 56) (sa := sa) (A := A) hx hb hst hown (by decide +kernel) (by decide +kernel) (hts (.classLink RX4 52 "java/lang/IndexOutOfBoundsException") (by decide +kernel)) (hts (.initialized "java/lang/IndexOutOfBoundsException") (by decide +kernel)) hstr hat (by decide +kernel) hTX.1 hTX.2 hS (hl.1.trans hml.symm) dX4_come_7 dX4_come_10 dX4_come_11 dX4_come_13 dX4_come_16 (fun x hx9 => (hno x hx9).elim) (Nat.le_of_ble_eq_true rfl) (Nat.le_of_ble_eq_true rfl) (Nat.le_of_ble_eq_true rfl) (Nat.le_of_ble_eq_true rfl) hlocks (thr_of (by rw [hT]; decide) (by rw [hT]; rfl) hP hK hD hS) hS.2.2 (Nat.le_of_ble_eq_true rfl) (Nat.le_of_ble_eq_true rfl)

set_option maxHeartbeats 4000000 in
set_option maxRecDepth 100000 in
theorem c_X4_become (l : Launch) (hst : l.stackTraces = false) (D : va_G) (cI : ClassId) (sz : Nat) (h t0 l0 m0 : Nat) (a : Nat → Nat) (σ : SS) (x y z v : Int32) : vx_Met l yX4_become wsX4_become ({ frames := 6, cells := 1, slots := 6, locals := 82 } : Room) (va_Pc [.ref h, .int x, .int y, .int z, .int v] (preX D cI (wW h (a 0) t0 l0 m0 ++ sW cI a σ) sz)) (va_Qi (fun (r : Int32) (u : SS) => becomeT σ x y z v = 0 ∧ r = traitF σ x 4 ∧ u = becomeF σ x y z v) (fun (u : SS) => posM D cI (va_A (wW h (a 0) t0 l0 m0 ++ sW cI a σ) sz) (wW h (a 0) t0 l0 m0 ++ sW cI a u)) (va_A (wW h (a 0) t0 l0 m0 ++ sW cI a σ) sz)) (thrX (becomeT σ x y z v) nmIA D cI (va_A (wW h (a 0) t0 l0 m0 ++ sW cI a σ) sz) (wW h (a 0) t0 l0 m0 ++ sW cI a σ)) 1 6 (va_A (wW h (a 0) t0 l0 m0 ++ sW cI a σ) sz) := by
  refine vx_ofW (cc := cX4_become) (maxL := 6) (ret := (some .int)) (by decide) rfl ?_
  intro p e s m args below meth c s₁ B hml hno hv
  obtain ⟨rfl, hsz, hP, hK, hXV, hD0, hTX⟩ := hv
  have hE := hXV.1
  have hx := B.exec
  have hb := B.bytes
  have hr := B.returns
  have hts := atoms_spec (ws := wsX4_become) B.pre
  have hown : s.vm.findClass RX4 = some m.cls := findClass_of_methodNamed B.named
  have hlocks := B.notSynchronized
  subst hsz
  have hD := hD0.self (sz := s.heap.size)
  generalize hAe : va_A (wW h (a 0) t0 l0 m0 ++ sW cI a σ) s.heap.size = A at hD hTX ⊢
  have hA : ∀ q : Nat, s.heap.size ≤ q → A q := fun q h => by rw [← hAe]; exact Or.inr h
  have hS : va_S A s.heap s.heap [] := va_S.rf
  have hP : va_P D vwCl (wW h (a 0) t0 l0 m0 ++ sW cI a σ) s.heap := hP
  have hl := lv_entry ([.ref h, .int x, .int y, .int z, .int v]) (n := 6) (Nat.le_of_ble_eq_true rfl)
  rw [lg_entry_eq]
  generalize (lg_sl ([.ref h, .int x, .int y, .int z, .int v]) ++ List.replicate (6 - (lg_sl ([.ref h, .int x, .int y, .int z, .int v])).length) Slot.unset).toArray = ls at hl ⊢
  have hl : lv_has ls 6 [(0, .ref h), (1, .int x), (2, .int y), (3, .int z), (4, .int v)] := hl
  refine lv_aload_n hx hb dX4_become_0 rfl (lv_at hl 0 rfl) ?_
  refine va_get (D := D) (ci := 4) (v := .ref (a 0)) (C := RX4) (T := TX4) (N := 4) hx hb hts (by decide +kernel) hown hK hP 0 rfl rfl 0 (by decide) (hts (.fieldLink RX4 12 "Warren" "state" "LWarren$State;") (by decide +kernel)) (fun _ h9 => h9) rfl dX4_become_1 ?_
  refine lv_iload_n hx hb dX4_become_4 rfl (lv_at hl 1 rfl) ?_
  refine vp_callSi (va_Run.run (va_runV (As := [.int x]) (rest := []) ⟨hx, hb, hml, hown, hts⟩ (c_X2_isBeing l D cI a σ x) (cwV 1 hts gX4_become_X2_isBeing rfl rfl rfl (by decide +kernel) ⟨Nat.le_of_ble_eq_true rfl, Nat.le_of_ble_eq_true rfl⟩) ⟨preR_blind, va_recv hK hP (ci := 2) (q0 := 1) rfl rfl, preR_of (hP.sub (ws' := sW cI a σ) [1, 2, 3, 4, 5, 6] rfl) hK hE [.ref (a 0), .int x]⟩ rfl rfl hl.1 rfl (lv_room (Nat.le_of_ble_eq_true rfl)) dX4_become_5 ⟨Nat.zero_le _, Nat.zero_le _⟩)) (fun r hr9 => ?_)
  subst hr9
  refine w_bnz (tgt := 21) hx hb dX4_become_8 (by decide) (fun c_8 => ?_) (fun c_8 => ?_)
  · refine lv_iload_n hx hb dX4_become_21 rfl (lv_at hl 2 rfl) ?_
    refine lv_iconst (v := 0) hx hb dX4_become_22 (by decide) ?_
    refine lv_bipush (v := 20) hx hb dX4_become_23 (by decide) ?_
    refine vp_callSi (va_Run.run (va_runS (As := [.int y, .int 0, .int 20]) (rest := []) ⟨hx, hb, hml, hown, hts⟩ (c_X4_isWithin l y 0 20) (va_cwS 3 hts gX4_become_X4_isWithin rfl rfl rfl (by decide +kernel) ⟨Nat.le_of_ble_eq_true rfl, Nat.le_of_ble_eq_true rfl⟩) ⟨fun _ _ _ _ q => q, fun _ _ _ => ⟨rfl, trivial⟩⟩ rfl rfl hl.1 rfl (lv_room (Nat.le_of_ble_eq_true rfl)) dX4_become_25 ⟨Nat.zero_le _, Nat.zero_le _⟩)) (fun r hr9 => ?_)
    subst hr9
    refine w_bz (tgt := 51) hx hb dX4_become_28 (by decide) (fun c_28 => ?_) (fun c_28 => ?_)
    · have hT : becomeT σ x y z v = 2 := by first | (simp only [becomeT, c_8, c_28, Bool.false_eq_true, if_false, if_true]; done) | (simp [becomeT, c_8, c_28]; done)
      obtain ⟨sa, hstr⟩ := hXV.2.1 _ (List.mem_of_getElem? (i := 8) (a := (110, "no such force, guard or speed")) rfl)
      have hat : ∀ w ∈ vx_atS RX4 41 "java/lang/IllegalArgumentException" ["java/lang/RuntimeException", "java/lang/Exception"], w.before _ s = true := vx_hat (B := [.castable "java/lang/IllegalArgumentException" "java/lang/IllegalArgumentException", decl_1, decl_2, decl_3]) (fun w h => hts w (List.mem_cons_of_mem _ (List.mem_append_right _ h))) (by decide +kernel) (vx_c (va_Nw.use rfl hXV.2.2.1) (vx_c (va_Nw.use rfl hXV.2.2.2.2.2.1) (vx_c (va_Nw.use rfl hXV.2.2.2.2.2.2.1) (vx_c (va_Nw.use rfl hXV.2.2.2.2.2.2.2.1) vx_n))))
      exact vx_throwS (own := RX4) (cls := "java/lang/IllegalArgumentException") (text := "no such force, guard or speed") (names := ["java/lang/RuntimeException", "java/lang/Exception"]) (ik := 37) (is := 110) (ic := 41) (sa := sa) (A := A) hx hb hst hown (by decide +kernel) (by decide +kernel) (hts (.classLink RX4 37 "java/lang/IllegalArgumentException") (by decide +kernel)) (hts (.initialized "java/lang/IllegalArgumentException") (by decide +kernel)) hstr hat (by decide +kernel) hTX.1 hTX.2 hS (hl.1.trans hml.symm) dX4_become_51 dX4_become_54 dX4_become_55 dX4_become_57 dX4_become_60 (fun x hx9 => (hno x hx9).elim) (Nat.le_of_ble_eq_true rfl) (Nat.le_of_ble_eq_true rfl) (Nat.le_of_ble_eq_true rfl) (Nat.le_of_ble_eq_true rfl) hlocks (thr_of (by rw [hT]; decide) (by rw [hT]; rfl) hP hK hD hS) hS.2.2 (Nat.le_of_ble_eq_true rfl) (Nat.le_of_ble_eq_true rfl)
    · refine lv_iload_n hx hb dX4_become_31 rfl (lv_at hl 3 rfl) ?_
      refine lv_iconst (v := 0) hx hb dX4_become_32 (by decide) ?_
      refine lv_bipush (v := 20) hx hb dX4_become_33 (by decide) ?_
      refine vp_callSi (va_Run.run (va_runS (As := [.int z, .int 0, .int 20]) (rest := []) ⟨hx, hb, hml, hown, hts⟩ (c_X4_isWithin l z 0 20) (va_cwS 3 hts gX4_become_X4_isWithin rfl rfl rfl (by decide +kernel) ⟨Nat.le_of_ble_eq_true rfl, Nat.le_of_ble_eq_true rfl⟩) ⟨fun _ _ _ _ q => q, fun _ _ _ => ⟨rfl, trivial⟩⟩ rfl rfl hl.1 rfl (lv_room (Nat.le_of_ble_eq_true rfl)) dX4_become_35 ⟨Nat.zero_le _, Nat.zero_le _⟩)) (fun r hr9 => ?_)
      subst hr9
      refine w_bz (tgt := 51) hx hb dX4_become_38 (by decide) (fun c_38 => ?_) (fun c_38 => ?_)
      · have hT : becomeT σ x y z v = 2 := by first | (simp only [becomeT, c_8, c_28, c_38, Bool.false_eq_true, if_false, if_true]; done) | (simp [becomeT, c_8, c_28, c_38]; done)
        obtain ⟨sa, hstr⟩ := hXV.2.1 _ (List.mem_of_getElem? (i := 8) (a := (110, "no such force, guard or speed")) rfl)
        have hat : ∀ w ∈ vx_atS RX4 41 "java/lang/IllegalArgumentException" ["java/lang/RuntimeException", "java/lang/Exception"], w.before _ s = true := vx_hat (B := [.castable "java/lang/IllegalArgumentException" "java/lang/IllegalArgumentException", decl_1, decl_2, decl_3]) (fun w h => hts w (List.mem_cons_of_mem _ (List.mem_append_right _ h))) (by decide +kernel) (vx_c (va_Nw.use rfl hXV.2.2.1) (vx_c (va_Nw.use rfl hXV.2.2.2.2.2.1) (vx_c (va_Nw.use rfl hXV.2.2.2.2.2.2.1) (vx_c (va_Nw.use rfl hXV.2.2.2.2.2.2.2.1) vx_n))))
        exact vx_throwS (own := RX4) (cls := "java/lang/IllegalArgumentException") (text := "no such force, guard or speed") (names := ["java/lang/RuntimeException", "java/lang/Exception"]) (ik := 37) (is := 110) (ic := 41) (sa := sa) (A := A) hx hb hst hown (by decide +kernel) (by decide +kernel) (hts (.classLink RX4 37 "java/lang/IllegalArgumentException") (by decide +kernel)) (hts (.initialized "java/lang/IllegalArgumentException") (by decide +kernel)) hstr hat (by decide +kernel) hTX.1 hTX.2 hS (hl.1.trans hml.symm) dX4_become_51 dX4_become_54 dX4_become_55 dX4_become_57 dX4_become_60 (fun x hx9 => (hno x hx9).elim) (Nat.le_of_ble_eq_true rfl) (Nat.le_of_ble_eq_true rfl) (Nat.le_of_ble_eq_true rfl) (Nat.le_of_ble_eq_true rfl) hlocks (thr_of (by rw [hT]; decide) (by rw [hT]; rfl) hP hK hD hS) hS.2.2 (Nat.le_of_ble_eq_true rfl) (Nat.le_of_ble_eq_true rfl)
      · refine lv_iload hx hb dX4_become_41 (lv_at hl 4 rfl) ?_
        refine lv_iconst (v := 1) hx hb dX4_become_43 (by decide) ?_
        refine lv_iconst (v := 4) hx hb dX4_become_44 (by decide) ?_
        refine vp_callSi (va_Run.run (va_runS (As := [.int v, .int 1, .int 4]) (rest := []) ⟨hx, hb, hml, hown, hts⟩ (c_X4_isWithin l v 1 4) (va_cwS 3 hts gX4_become_X4_isWithin rfl rfl rfl (by decide +kernel) ⟨Nat.le_of_ble_eq_true rfl, Nat.le_of_ble_eq_true rfl⟩) ⟨fun _ _ _ _ q => q, fun _ _ _ => ⟨rfl, trivial⟩⟩ rfl rfl hl.1 rfl (lv_room (Nat.le_of_ble_eq_true rfl)) dX4_become_45 ⟨Nat.zero_le _, Nat.zero_le _⟩)) (fun r hr9 => ?_)
        subst hr9
        refine w_bnz (tgt := 61) hx hb dX4_become_48 (by decide) (fun c_48 => ?_) (fun c_48 => ?_)
        · refine lv_aload_n hx hb dX4_become_61 rfl (lv_at hl 0 rfl) ?_
          refine va_get (D := D) (ci := 4) (v := .ref (a 0)) (C := RX4) (T := TX4) (N := 4) hx hb hts (by decide +kernel) hown hK hP 0 rfl rfl 0 (by decide) (hts (.fieldLink RX4 12 "Warren" "state" "LWarren$State;") (by decide +kernel)) (fun _ h9 => h9) rfl dX4_become_62 ?_
          refine lv_iload_n hx hb dX4_become_65 rfl (lv_at hl 1 rfl) ?_
          refine lv_iconst (v := 4) hx hb dX4_become_66 (by decide) ?_
          refine vp_callSi (va_Run.run (va_runV (As := [.int x, .int 4]) (rest := []) ⟨hx, hb, hml, hown, hts⟩ (c_X2_trait l D cI a σ x 4) (cwV 2 hts gX4_become_X2_trait rfl rfl rfl (by decide +kernel) ⟨Nat.le_of_ble_eq_true rfl, Nat.le_of_ble_eq_true rfl⟩) ⟨preR_blind, va_recv hK hP (ci := 2) (q0 := 1) rfl rfl, preR_of (hP.sub (ws' := sW cI a σ) [1, 2, 3, 4, 5, 6] rfl) hK hE [.ref (a 0), .int x, .int 4]⟩ rfl rfl hl.1 rfl (lv_room (Nat.le_of_ble_eq_true rfl)) dX4_become_67 ⟨Nat.zero_le _, Nat.zero_le _⟩)) (fun r hr9 => ?_)
          subst hr9
          refine lv_istore (lv' := [(5, .int (traitF σ x 4)), (0, .ref h), (1, .int x), (2, .int y), (3, .int z), (4, .int v)]) hx hb dX4_become_70 hl (by decide) rfl (fun ls hl => ?_)
          refine lv_aload_n hx hb dX4_become_72 rfl (lv_at hl 1 rfl) ?_
          refine va_get (D := D) (ci := 4) (v := .ref (a 0)) (C := RX4) (T := TX4) (N := 4) hx hb hts (by decide +kernel) hown hK hP 0 rfl rfl 0 (by decide) (hts (.fieldLink RX4 12 "Warren" "state" "LWarren$State;") (by decide +kernel)) (fun _ h9 => h9) rfl dX4_become_73 ?_
          refine lv_iload_n hx hb dX4_become_76 rfl (lv_at hl 2 rfl) ?_
          refine lv_iconst (v := 4) hx hb dX4_become_77 (by decide) ?_
          refine lv_iload_n hx hb dX4_become_78 rfl (lv_at hl 3 rfl) ?_
          have hFc := va_free (wc := sW cI a σ) hD hS hA [1, 2, 3, 4, 5, 6] rfl
          refine va_callv (va_runV (As := [.int x, .int 4, .int y]) (rest := []) ⟨hx, hb, hml, hown, hts⟩ (c_X2_putTrait l D cI _ a σ x 4 y) (cwV 3 hts gX4_become_X2_putTrait rfl rfl rfl (by decide +kernel) ⟨Nat.le_of_ble_eq_true rfl, Nat.le_of_ble_eq_true rfl⟩) ⟨preM_blind, va_recv hK hP (ci := 2) (q0 := 1) rfl rfl, preM_of (hP.sub (ws' := sW cI a σ) [1, 2, 3, 4, 5, 6] rfl) hK hE (hD.sub (ws' := sW cI a σ) [1, 2, 3, 4, 5, 6] (by decide) rfl) [.ref (a 0), .int x, .int 4, .int y]⟩ rfl rfl hl.1 rfl (lv_room (Nat.le_of_ble_eq_true rfl)) dX4_become_79 ⟨Nat.le_of_ble_eq_true rfl, Nat.le_of_ble_eq_true rfl⟩) hS (fun q _ h => hFc q h) hFc (fun u t9 H1 locs ht hvm hw hB hz1 hk1 hS => ?_)
          obtain ⟨hP1, hK1, hD1⟩ := hB
          rw [ht] at hP1
          subst hw
          obtain ⟨hP, hD⟩ := va_join (wr := wW h (a 0) t0 l0 m0) (w1 := sW cI a (putTraitF σ x 4 y)) hP hD [1, 2, 3, 4, 5, 6] [0] rfl rfl (by decide) (by decide) hk1 hFc hP1 hD1
          generalize H1 = H at hP hS ⊢
          have hP : va_P D vwCl (wW h (a 0) t0 l0 m0 ++ sW cI a (putTraitF σ x 4 y)) H := hP
          have hD : va_D A (wW h (a 0) t0 l0 m0 ++ sW cI a (putTraitF σ x 4 y)) := hD
          refine lv_aload_n hx hb dX4_become_82 rfl (lv_at hl 1 rfl) ?_
          refine va_get (D := D) (ci := 4) (v := .ref (a 0)) (C := RX4) (T := TX4) (N := 4) hx hb hts (by decide +kernel) hown hK hP 0 rfl rfl 0 (by decide) (hts (.fieldLink RX4 12 "Warren" "state" "LWarren$State;") (by decide +kernel)) (fun _ h9 => h9) rfl dX4_become_83 ?_
          refine lv_iload_n hx hb dX4_become_86 rfl (lv_at hl 2 rfl) ?_
          refine lv_iconst (v := 5) hx hb dX4_become_87 (by decide) ?_
          refine lv_iload_n hx hb dX4_become_88 rfl (lv_at hl 4 rfl) ?_
          have hFc := va_free (wc := sW cI a (putTraitF σ x 4 y)) hD hS hA [1, 2, 3, 4, 5, 6] rfl
          refine va_callv (va_runV (As := [.int x, .int 5, .int z]) (rest := []) ⟨hx, hb, hml, hown, hts⟩ (c_X2_putTrait l D cI _ a (putTraitF σ x 4 y) x 5 z) (cwV 3 hts gX4_become_X2_putTrait rfl rfl rfl (by decide +kernel) ⟨Nat.le_of_ble_eq_true rfl, Nat.le_of_ble_eq_true rfl⟩) ⟨preM_blind, va_recv hK hP (ci := 2) (q0 := 1) rfl rfl, preM_of (hP.sub (ws' := sW cI a (putTraitF σ x 4 y)) [1, 2, 3, 4, 5, 6] rfl) hK hE (hD.sub (ws' := sW cI a (putTraitF σ x 4 y)) [1, 2, 3, 4, 5, 6] (by decide) rfl) [.ref (a 0), .int x, .int 5, .int z]⟩ rfl rfl hl.1 rfl (lv_room (Nat.le_of_ble_eq_true rfl)) dX4_become_89 ⟨Nat.le_of_ble_eq_true rfl, Nat.le_of_ble_eq_true rfl⟩) hS (fun q _ h => hFc q h) hFc (fun u t9 H1 locs ht hvm hw hB hz1 hk1 hS => ?_)
          obtain ⟨hP1, hK1, hD1⟩ := hB
          rw [ht] at hP1
          subst hw
          obtain ⟨hP, hD⟩ := va_join (wr := wW h (a 0) t0 l0 m0) (w1 := sW cI a (putTraitF (putTraitF σ x 4 y) x 5 z)) hP hD [1, 2, 3, 4, 5, 6] [0] rfl rfl (by decide) (by decide) hk1 hFc hP1 hD1
          generalize H1 = H at hP hS ⊢
          have hP : va_P D vwCl (wW h (a 0) t0 l0 m0 ++ sW cI a (putTraitF (putTraitF σ x 4 y) x 5 z)) H := hP
          have hD : va_D A (wW h (a 0) t0 l0 m0 ++ sW cI a (putTraitF (putTraitF σ x 4 y) x 5 z)) := hD
          refine lv_aload_n hx hb dX4_become_92 rfl (lv_at hl 1 rfl) ?_
          refine va_get (D := D) (ci := 4) (v := .ref (a 0)) (C := RX4) (T := TX4) (N := 4) hx hb hts (by decide +kernel) hown hK hP 0 rfl rfl 0 (by decide) (hts (.fieldLink RX4 12 "Warren" "state" "LWarren$State;") (by decide +kernel)) (fun _ h9 => h9) rfl dX4_become_93 ?_
          refine lv_iload_n hx hb dX4_become_96 rfl (lv_at hl 2 rfl) ?_
          refine lv_bipush (v := 6) hx hb dX4_become_97 (by decide) ?_
          refine lv_iload hx hb dX4_become_99 (lv_at hl 5 rfl) ?_
          have hFc := va_free (wc := sW cI a (putTraitF (putTraitF σ x 4 y) x 5 z)) hD hS hA [1, 2, 3, 4, 5, 6] rfl
          refine va_callv (va_runV (As := [.int x, .int 6, .int v]) (rest := []) ⟨hx, hb, hml, hown, hts⟩ (c_X2_putTrait l D cI _ a (putTraitF (putTraitF σ x 4 y) x 5 z) x 6 v) (cwV 3 hts gX4_become_X2_putTrait rfl rfl rfl (by decide +kernel) ⟨Nat.le_of_ble_eq_true rfl, Nat.le_of_ble_eq_true rfl⟩) ⟨preM_blind, va_recv hK hP (ci := 2) (q0 := 1) rfl rfl, preM_of (hP.sub (ws' := sW cI a (putTraitF (putTraitF σ x 4 y) x 5 z)) [1, 2, 3, 4, 5, 6] rfl) hK hE (hD.sub (ws' := sW cI a (putTraitF (putTraitF σ x 4 y) x 5 z)) [1, 2, 3, 4, 5, 6] (by decide) rfl) [.ref (a 0), .int x, .int 6, .int v]⟩ rfl rfl hl.1 rfl (lv_room (Nat.le_of_ble_eq_true rfl)) dX4_become_101 ⟨Nat.le_of_ble_eq_true rfl, Nat.le_of_ble_eq_true rfl⟩) hS (fun q _ h => hFc q h) hFc (fun u t9 H1 locs ht hvm hw hB hz1 hk1 hS => ?_)
          obtain ⟨hP1, hK1, hD1⟩ := hB
          rw [ht] at hP1
          subst hw
          obtain ⟨hP, hD⟩ := va_join (wr := wW h (a 0) t0 l0 m0) (w1 := sW cI a (putTraitF (putTraitF (putTraitF σ x 4 y) x 5 z) x 6 v)) hP hD [1, 2, 3, 4, 5, 6] [0] rfl rfl (by decide) (by decide) hk1 hFc hP1 hD1
          generalize H1 = H at hP hS ⊢
          have hP : va_P D vwCl (wW h (a 0) t0 l0 m0 ++ sW cI a (putTraitF (putTraitF (putTraitF σ x 4 y) x 5 z) x 6 v)) H := hP
          have hD : va_D A (wW h (a 0) t0 l0 m0 ++ sW cI a (putTraitF (putTraitF (putTraitF σ x 4 y) x 5 z) x 6 v)) := hD
          refine lv_iload hx hb dX4_become_104 (lv_at hl 0 rfl) ?_
          have hP9 := hP
          have hD9 := hD
          refine W.widen (k := 1) (n := 6) (Nat.le_of_ble_eq_true rfl) (Nat.le_of_ble_eq_true rfl) ?_
          refine vx_ret ?_
          exact W.iret (v := (traitF σ x 4)) hx hb hr (fun T9 ht hW => ⟨⟨(traitF σ x 4), (putTraitF (putTraitF (putTraitF σ x 4 y) x 5 z) x 6 v), rfl, ⟨by first | (simp only [becomeT, c_8, c_28, c_38, c_48, Bool.false_eq_true, if_false, if_true]; done) | (simp [becomeT, c_8, c_28, c_38, c_48]; done), by first | rfl | (simp [becomeF, c_8, c_28, c_38, c_48]; done) | (simp [becomeF, c_8, c_28, c_38, c_48]; rfl), by first | rfl | (simp [becomeF, c_8, c_28, c_38, c_48]; done)⟩, by rw [ht]; exact hP9, va_K.moved hW.alike hK, hD9⟩, hS.F ht⟩) hS.2.2 dX4_become_106
        · have hT : becomeT σ x y z v = 2 := by first | (simp only [becomeT, c_8, c_28, c_38, c_48, Bool.false_eq_true, if_false, if_true]; done) | (simp [becomeT, c_8, c_28, c_38, c_48]; done)
          obtain ⟨sa, hstr⟩ := hXV.2.1 _ (List.mem_of_getElem? (i := 8) (a := (110, "no such force, guard or speed")) rfl)
          have hat : ∀ w ∈ vx_atS RX4 41 "java/lang/IllegalArgumentException" ["java/lang/RuntimeException", "java/lang/Exception"], w.before _ s = true := vx_hat (B := [.castable "java/lang/IllegalArgumentException" "java/lang/IllegalArgumentException", decl_1, decl_2, decl_3]) (fun w h => hts w (List.mem_cons_of_mem _ (List.mem_append_right _ h))) (by decide +kernel) (vx_c (va_Nw.use rfl hXV.2.2.1) (vx_c (va_Nw.use rfl hXV.2.2.2.2.2.1) (vx_c (va_Nw.use rfl hXV.2.2.2.2.2.2.1) (vx_c (va_Nw.use rfl hXV.2.2.2.2.2.2.2.1) vx_n))))
          exact vx_throwS (own := RX4) (cls := "java/lang/IllegalArgumentException") (text := "no such force, guard or speed") (names := ["java/lang/RuntimeException", "java/lang/Exception"]) (ik := 37) (is := 110) (ic := 41) (sa := sa) (A := A) hx hb hst hown (by decide +kernel) (by decide +kernel) (hts (.classLink RX4 37 "java/lang/IllegalArgumentException") (by decide +kernel)) (hts (.initialized "java/lang/IllegalArgumentException") (by decide +kernel)) hstr hat (by decide +kernel) hTX.1 hTX.2 hS (hl.1.trans hml.symm) dX4_become_51 dX4_become_54 dX4_become_55 dX4_become_57 dX4_become_60 (fun x hx9 => (hno x hx9).elim) (Nat.le_of_ble_eq_true rfl) (Nat.le_of_ble_eq_true rfl) (Nat.le_of_ble_eq_true rfl) (Nat.le_of_ble_eq_true rfl) hlocks (thr_of (by rw [hT]; decide) (by rw [hT]; rfl) hP hK hD hS) hS.2.2 (Nat.le_of_ble_eq_true rfl) (Nat.le_of_ble_eq_true rfl)
  · have hT : becomeT σ x y z v = 1 := by first | (simp only [becomeT, c_8, Bool.false_eq_true, if_false, if_true]; done) | (simp [becomeT, c_8]; done)
    obtain ⟨sa, hstr⟩ := hXV.2.1 _ (List.mem_of_getElem? (i := 7) (a := (108, "no such being")) rfl)
    have hat : ∀ w ∈ vx_atS RX4 56 "java/lang/IndexOutOfBoundsException" ["java/lang/RuntimeException", "java/lang/Exception"], w.before _ s = true := vx_hat (B := [.castable "java/lang/IndexOutOfBoundsException" "java/lang/IndexOutOfBoundsException", decl_1, decl_2, decl_3]) (fun w h => hts w (List.mem_cons_of_mem _ (List.mem_append_left _ (List.mem_append_right _ h)))) (by decide +kernel) (vx_c (va_Nw.use rfl hXV.2.2.2.2.1) (vx_c (va_Nw.use rfl hXV.2.2.2.2.2.1) (vx_c (va_Nw.use rfl hXV.2.2.2.2.2.2.1) (vx_c (va_Nw.use rfl hXV.2.2.2.2.2.2.2.1) vx_n))))
    exact vx_throwS (own := RX4) (cls := "java/lang/IndexOutOfBoundsException") (text := "no such being") (names := ["java/lang/RuntimeException", "java/lang/Exception"]) (ik := 52) (is := 108) (ic := 56) (sa := sa) (A := A) hx hb hst hown (by decide +kernel) (by decide +kernel) (hts (.classLink RX4 52 "java/lang/IndexOutOfBoundsException") (by decide +kernel)) (hts (.initialized "java/lang/IndexOutOfBoundsException") (by decide +kernel)) hstr hat (by decide +kernel) hTX.1 hTX.2 hS (hl.1.trans hml.symm) dX4_become_11 dX4_become_14 dX4_become_15 dX4_become_17 dX4_become_20 (fun x hx9 => (hno x hx9).elim) (Nat.le_of_ble_eq_true rfl) (Nat.le_of_ble_eq_true rfl) (Nat.le_of_ble_eq_true rfl) (Nat.le_of_ble_eq_true rfl) hlocks (thr_of (by rw [hT]; decide) (by rw [hT]; rfl) hP hK hD hS) hS.2.2 (Nat.le_of_ble_eq_true rfl) (Nat.le_of_ble_eq_true rfl)

set_option maxHeartbeats 4000000 in
set_option maxRecDepth 100000 in
theorem c_X4_lay (l : Launch) (hst : l.stackTraces = false) (D : va_G) (cI : ClassId) (sz : Nat) (h t0 l0 m0 : Nat) (a : Nat → Nat) (σ : SS) (x y z v : Int32) : vx_Met l yX4_lay wsX4_lay ({ frames := 6, cells := 1, slots := 6, locals := 82 } : Room) (va_Pc [.ref h, .int x, .int y, .int z, .int v] (preX D cI (wW h (a 0) t0 l0 m0 ++ sW cI a σ) sz)) (va_Qi (fun (r : Int32) (u : SS) => layT σ x y z v = 0 ∧ r = stackF (addEffectF σ x y z v) x y ∧ u = addEffectF σ x y z v) (fun (u : SS) => posM D cI (va_A (wW h (a 0) t0 l0 m0 ++ sW cI a σ) sz) (wW h (a 0) t0 l0 m0 ++ sW cI a u)) (va_A (wW h (a 0) t0 l0 m0 ++ sW cI a σ) sz)) (thrX (layT σ x y z v) nmIAS D cI (va_A (wW h (a 0) t0 l0 m0 ++ sW cI a σ) sz) (wW h (a 0) t0 l0 m0 ++ sW cI a σ)) 1 6 (va_A (wW h (a 0) t0 l0 m0 ++ sW cI a σ) sz) := by
  refine vx_ofW (cc := cX4_lay) (maxL := 5) (ret := (some .int)) (by decide) rfl ?_
  intro p e s m args below meth c s₁ B hml hno hv
  obtain ⟨rfl, hsz, hP, hK, hXV, hD0, hTX⟩ := hv
  have hE := hXV.1
  have hx := B.exec
  have hb := B.bytes
  have hr := B.returns
  have hts := atoms_spec (ws := wsX4_lay) B.pre
  have hown : s.vm.findClass RX4 = some m.cls := findClass_of_methodNamed B.named
  have hlocks := B.notSynchronized
  subst hsz
  have hD := hD0.self (sz := s.heap.size)
  generalize hAe : va_A (wW h (a 0) t0 l0 m0 ++ sW cI a σ) s.heap.size = A at hD hTX ⊢
  have hA : ∀ q : Nat, s.heap.size ≤ q → A q := fun q h => by rw [← hAe]; exact Or.inr h
  have hS : va_S A s.heap s.heap [] := va_S.rf
  have hP : va_P D vwCl (wW h (a 0) t0 l0 m0 ++ sW cI a σ) s.heap := hP
  have hl := lv_entry ([.ref h, .int x, .int y, .int z, .int v]) (n := 5) (Nat.le_of_ble_eq_true rfl)
  rw [lg_entry_eq]
  generalize (lg_sl ([.ref h, .int x, .int y, .int z, .int v]) ++ List.replicate (5 - (lg_sl ([.ref h, .int x, .int y, .int z, .int v])).length) Slot.unset).toArray = ls at hl ⊢
  have hl : lv_has ls 5 [(0, .ref h), (1, .int x), (2, .int y), (3, .int z), (4, .int v)] := hl
  refine lv_aload_n hx hb dX4_lay_0 rfl (lv_at hl 0 rfl) ?_
  refine va_get (D := D) (ci := 4) (v := .ref (a 0)) (C := RX4) (T := TX4) (N := 4) hx hb hts (by decide +kernel) hown hK hP 0 rfl rfl 0 (by decide) (hts (.fieldLink RX4 12 "Warren" "state" "LWarren$State;") (by decide +kernel)) (fun _ h9 => h9) rfl dX4_lay_1 ?_
  refine lv_iload_n hx hb dX4_lay_4 rfl (lv_at hl 1 rfl) ?_
  refine vp_callSi (va_Run.run (va_runV (As := [.int x]) (rest := []) ⟨hx, hb, hml, hown, hts⟩ (c_X2_isBeing l D cI a σ x) (cwV 1 hts gX4_lay_X2_isBeing rfl rfl rfl (by decide +kernel) ⟨Nat.le_of_ble_eq_true rfl, Nat.le_of_ble_eq_true rfl⟩) ⟨preR_blind, va_recv hK hP (ci := 2) (q0 := 1) rfl rfl, preR_of (hP.sub (ws' := sW cI a σ) [1, 2, 3, 4, 5, 6] rfl) hK hE [.ref (a 0), .int x]⟩ rfl rfl hl.1 rfl (lv_room (Nat.le_of_ble_eq_true rfl)) dX4_lay_5 ⟨Nat.zero_le _, Nat.zero_le _⟩)) (fun r hr9 => ?_)
  subst hr9
  refine w_bnz (tgt := 21) hx hb dX4_lay_8 (by decide) (fun c_8 => ?_) (fun c_8 => ?_)
  · refine lv_iload_n hx hb dX4_lay_21 rfl (lv_at hl 2 rfl) ?_
    refine lv_iconst (v := 0) hx hb dX4_lay_22 (by decide) ?_
    refine lv_iconst (v := 4) hx hb dX4_lay_23 (by decide) ?_
    refine vp_callSi (va_Run.run (va_runS (As := [.int y, .int 0, .int 4]) (rest := []) ⟨hx, hb, hml, hown, hts⟩ (c_X4_isWithin l y 0 4) (va_cwS 3 hts gX4_lay_X4_isWithin rfl rfl rfl (by decide +kernel) ⟨Nat.le_of_ble_eq_true rfl, Nat.le_of_ble_eq_true rfl⟩) ⟨fun _ _ _ _ q => q, fun _ _ _ => ⟨rfl, trivial⟩⟩ rfl rfl hl.1 rfl (lv_room (Nat.le_of_ble_eq_true rfl)) dX4_lay_24 ⟨Nat.zero_le _, Nat.zero_le _⟩)) (fun r hr9 => ?_)
    subst hr9
    refine w_bz (tgt := 51) hx hb dX4_lay_27 (by decide) (fun c_27 => ?_) (fun c_27 => ?_)
    · have hT : layT σ x y z v = 2 := by first | (simp only [layT, c_8, c_27, Bool.false_eq_true, if_false, if_true]; done) | (simp [layT, c_8, c_27]; done)
      obtain ⟨sa, hstr⟩ := hXV.2.1 _ (List.mem_of_getElem? (i := 9) (a := (120, "no such effect, stack or turns")) rfl)
      have hat : ∀ w ∈ vx_atS RX4 41 "java/lang/IllegalArgumentException" ["java/lang/RuntimeException", "java/lang/Exception"], w.before _ s = true := vx_hat (B := [.castable "java/lang/IllegalArgumentException" "java/lang/IllegalArgumentException", decl_1, decl_2, decl_3]) (fun w h => hts w (List.mem_cons_of_mem _ (List.mem_append_left _ (List.mem_append_right _ h)))) (by decide +kernel) (vx_c (va_Nw.use rfl hXV.2.2.1) (vx_c (va_Nw.use rfl hXV.2.2.2.2.2.1) (vx_c (va_Nw.use rfl hXV.2.2.2.2.2.2.1) (vx_c (va_Nw.use rfl hXV.2.2.2.2.2.2.2.1) vx_n))))
      exact vx_throwS (own := RX4) (cls := "java/lang/IllegalArgumentException") (text := "no such effect, stack or turns") (names := ["java/lang/RuntimeException", "java/lang/Exception"]) (ik := 37) (is := 120) (ic := 41) (sa := sa) (A := A) hx hb hst hown (by decide +kernel) (by decide +kernel) (hts (.classLink RX4 37 "java/lang/IllegalArgumentException") (by decide +kernel)) (hts (.initialized "java/lang/IllegalArgumentException") (by decide +kernel)) hstr hat (by decide +kernel) hTX.1 hTX.2 hS (hl.1.trans hml.symm) dX4_lay_51 dX4_lay_54 dX4_lay_55 dX4_lay_57 dX4_lay_60 (fun x hx9 => (hno x hx9).elim) (Nat.le_of_ble_eq_true rfl) (Nat.le_of_ble_eq_true rfl) (Nat.le_of_ble_eq_true rfl) (Nat.le_of_ble_eq_true rfl) hlocks (thr_of (by rw [hT]; decide) (by rw [hT]; rfl) hP hK hD hS) hS.2.2 (Nat.le_of_ble_eq_true rfl) (Nat.le_of_ble_eq_true rfl)
    · refine lv_iload_n hx hb dX4_lay_30 rfl (lv_at hl 3 rfl) ?_
      refine lv_iconst (v := 1) hx hb dX4_lay_31 (by decide) ?_
      refine lv_bipush (v := 9) hx hb dX4_lay_32 (by decide) ?_
      refine vp_callSi (va_Run.run (va_runS (As := [.int z, .int 1, .int 9]) (rest := []) ⟨hx, hb, hml, hown, hts⟩ (c_X4_isWithin l z 1 9) (va_cwS 3 hts gX4_lay_X4_isWithin rfl rfl rfl (by decide +kernel) ⟨Nat.le_of_ble_eq_true rfl, Nat.le_of_ble_eq_true rfl⟩) ⟨fun _ _ _ _ q => q, fun _ _ _ => ⟨rfl, trivial⟩⟩ rfl rfl hl.1 rfl (lv_room (Nat.le_of_ble_eq_true rfl)) dX4_lay_34 ⟨Nat.zero_le _, Nat.zero_le _⟩)) (fun r hr9 => ?_)
      subst hr9
      refine w_bz (tgt := 51) hx hb dX4_lay_37 (by decide) (fun c_37 => ?_) (fun c_37 => ?_)
      · have hT : layT σ x y z v = 2 := by first | (simp only [layT, c_8, c_27, c_37, Bool.false_eq_true, if_false, if_true]; done) | (simp [layT, c_8, c_27, c_37]; done)
        obtain ⟨sa, hstr⟩ := hXV.2.1 _ (List.mem_of_getElem? (i := 9) (a := (120, "no such effect, stack or turns")) rfl)
        have hat : ∀ w ∈ vx_atS RX4 41 "java/lang/IllegalArgumentException" ["java/lang/RuntimeException", "java/lang/Exception"], w.before _ s = true := vx_hat (B := [.castable "java/lang/IllegalArgumentException" "java/lang/IllegalArgumentException", decl_1, decl_2, decl_3]) (fun w h => hts w (List.mem_cons_of_mem _ (List.mem_append_left _ (List.mem_append_right _ h)))) (by decide +kernel) (vx_c (va_Nw.use rfl hXV.2.2.1) (vx_c (va_Nw.use rfl hXV.2.2.2.2.2.1) (vx_c (va_Nw.use rfl hXV.2.2.2.2.2.2.1) (vx_c (va_Nw.use rfl hXV.2.2.2.2.2.2.2.1) vx_n))))
        exact vx_throwS (own := RX4) (cls := "java/lang/IllegalArgumentException") (text := "no such effect, stack or turns") (names := ["java/lang/RuntimeException", "java/lang/Exception"]) (ik := 37) (is := 120) (ic := 41) (sa := sa) (A := A) hx hb hst hown (by decide +kernel) (by decide +kernel) (hts (.classLink RX4 37 "java/lang/IllegalArgumentException") (by decide +kernel)) (hts (.initialized "java/lang/IllegalArgumentException") (by decide +kernel)) hstr hat (by decide +kernel) hTX.1 hTX.2 hS (hl.1.trans hml.symm) dX4_lay_51 dX4_lay_54 dX4_lay_55 dX4_lay_57 dX4_lay_60 (fun x hx9 => (hno x hx9).elim) (Nat.le_of_ble_eq_true rfl) (Nat.le_of_ble_eq_true rfl) (Nat.le_of_ble_eq_true rfl) (Nat.le_of_ble_eq_true rfl) hlocks (thr_of (by rw [hT]; decide) (by rw [hT]; rfl) hP hK hD hS) hS.2.2 (Nat.le_of_ble_eq_true rfl) (Nat.le_of_ble_eq_true rfl)
      · refine lv_iload hx hb dX4_lay_40 (lv_at hl 4 rfl) ?_
        refine lv_iconst (v := 1) hx hb dX4_lay_42 (by decide) ?_
        refine lv_bipush (v := 20) hx hb dX4_lay_43 (by decide) ?_
        refine vp_callSi (va_Run.run (va_runS (As := [.int v, .int 1, .int 20]) (rest := []) ⟨hx, hb, hml, hown, hts⟩ (c_X4_isWithin l v 1 20) (va_cwS 3 hts gX4_lay_X4_isWithin rfl rfl rfl (by decide +kernel) ⟨Nat.le_of_ble_eq_true rfl, Nat.le_of_ble_eq_true rfl⟩) ⟨fun _ _ _ _ q => q, fun _ _ _ => ⟨rfl, trivial⟩⟩ rfl rfl hl.1 rfl (lv_room (Nat.le_of_ble_eq_true rfl)) dX4_lay_45 ⟨Nat.zero_le _, Nat.zero_le _⟩)) (fun r hr9 => ?_)
        subst hr9
        refine w_bnz (tgt := 61) hx hb dX4_lay_48 (by decide) (fun c_48 => ?_) (fun c_48 => ?_)
        · refine lv_aload_n hx hb dX4_lay_61 rfl (lv_at hl 0 rfl) ?_
          refine va_get (D := D) (ci := 4) (v := .ref (a 0)) (C := RX4) (T := TX4) (N := 4) hx hb hts (by decide +kernel) hown hK hP 0 rfl rfl 0 (by decide) (hts (.fieldLink RX4 12 "Warren" "state" "LWarren$State;") (by decide +kernel)) (fun _ h9 => h9) rfl dX4_lay_62 ?_
          refine lv_iload_n hx hb dX4_lay_65 rfl (lv_at hl 1 rfl) ?_
          refine vp_callSi (va_Run.run (va_runV (As := [.int x]) (rest := []) ⟨hx, hb, hml, hown, hts⟩ (c_X2_isAlive l D cI a σ x) (cwV 1 hts gX4_lay_X2_isAlive rfl rfl rfl (by decide +kernel) ⟨Nat.le_of_ble_eq_true rfl, Nat.le_of_ble_eq_true rfl⟩) ⟨preR_blind, va_recv hK hP (ci := 2) (q0 := 1) rfl rfl, preR_of (hP.sub (ws' := sW cI a σ) [1, 2, 3, 4, 5, 6] rfl) hK hE [.ref (a 0), .int x]⟩ rfl rfl hl.1 rfl (lv_room (Nat.le_of_ble_eq_true rfl)) dX4_lay_66 ⟨Nat.zero_le _, Nat.zero_le _⟩)) (fun r hr9 => ?_)
          subst hr9
          refine w_bnz (tgt := 82) hx hb dX4_lay_69 (by decide) (fun c_69 => ?_) (fun c_69 => ?_)
          · refine lv_aload_n hx hb dX4_lay_82 rfl (lv_at hl 0 rfl) ?_
            refine va_get (D := D) (ci := 4) (v := .ref (a 0)) (C := RX4) (T := TX4) (N := 4) hx hb hts (by decide +kernel) hown hK hP 0 rfl rfl 0 (by decide) (hts (.fieldLink RX4 12 "Warren" "state" "LWarren$State;") (by decide +kernel)) (fun _ h9 => h9) rfl dX4_lay_83 ?_
            refine lv_iload_n hx hb dX4_lay_86 rfl (lv_at hl 1 rfl) ?_
            refine lv_iload_n hx hb dX4_lay_87 rfl (lv_at hl 2 rfl) ?_
            refine lv_iload_n hx hb dX4_lay_88 rfl (lv_at hl 3 rfl) ?_
            refine lv_iload hx hb dX4_lay_89 (lv_at hl 4 rfl) ?_
            have hFc := va_free (wc := sW cI a σ) hD hS hA [1, 2, 3, 4, 5, 6] rfl
            refine va_callv (va_runV (As := [.int x, .int y, .int z, .int v]) (rest := []) ⟨hx, hb, hml, hown, hts⟩ (c_X2_addEffect l D cI _ a σ x y z v) (cwV 4 hts gX4_lay_X2_addEffect rfl rfl rfl (by decide +kernel) ⟨Nat.le_of_ble_eq_true rfl, Nat.le_of_ble_eq_true rfl⟩) ⟨preM_blind, va_recv hK hP (ci := 2) (q0 := 1) rfl rfl, preM_of (hP.sub (ws' := sW cI a σ) [1, 2, 3, 4, 5, 6] rfl) hK hE (hD.sub (ws' := sW cI a σ) [1, 2, 3, 4, 5, 6] (by decide) rfl) [.ref (a 0), .int x, .int y, .int z, .int v]⟩ rfl rfl hl.1 rfl (lv_room (Nat.le_of_ble_eq_true rfl)) dX4_lay_91 ⟨Nat.le_of_ble_eq_true rfl, Nat.le_of_ble_eq_true rfl⟩) hS (fun q _ h => hFc q h) hFc (fun u t9 H1 locs ht hvm hw hB hz1 hk1 hS => ?_)
            obtain ⟨hP1, hK1, hD1⟩ := hB
            rw [ht] at hP1
            subst hw
            obtain ⟨hP, hD⟩ := va_join (wr := wW h (a 0) t0 l0 m0) (w1 := sW cI a (addEffectF σ x y z v)) hP hD [1, 2, 3, 4, 5, 6] [0] rfl rfl (by decide) (by decide) hk1 hFc hP1 hD1
            generalize H1 = H at hP hS ⊢
            have hP : va_P D vwCl (wW h (a 0) t0 l0 m0 ++ sW cI a (addEffectF σ x y z v)) H := hP
            have hD : va_D A (wW h (a 0) t0 l0 m0 ++ sW cI a (addEffectF σ x y z v)) := hD
            refine lv_aload_n hx hb dX4_lay_94 rfl (lv_at hl 0 rfl) ?_
            refine va_get (D := D) (ci := 4) (v := .ref (a 0)) (C := RX4) (T := TX4) (N := 4) hx hb hts (by decide +kernel) hown hK hP 0 rfl rfl 0 (by decide) (hts (.fieldLink RX4 12 "Warren" "state" "LWarren$State;") (by decide +kernel)) (fun _ h9 => h9) rfl dX4_lay_95 ?_
            refine lv_iload_n hx hb dX4_lay_98 rfl (lv_at hl 1 rfl) ?_
            refine lv_iload_n hx hb dX4_lay_99 rfl (lv_at hl 2 rfl) ?_
            refine vp_callSi (va_Run.run (va_runV (As := [.int x, .int y]) (rest := []) ⟨hx, hb, hml, hown, hts⟩ (c_X2_stackOf l D cI a (addEffectF σ x y z v) x y) (cwV 2 hts gX4_lay_X2_stackOf rfl rfl rfl (by decide +kernel) ⟨Nat.le_of_ble_eq_true rfl, Nat.le_of_ble_eq_true rfl⟩) ⟨preR_blind, va_recv hK hP (ci := 2) (q0 := 1) rfl rfl, preR_of (hP.sub (ws' := sW cI a (addEffectF σ x y z v)) [1, 2, 3, 4, 5, 6] rfl) hK hE [.ref (a 0), .int x, .int y]⟩ rfl rfl hl.1 rfl (lv_room (Nat.le_of_ble_eq_true rfl)) dX4_lay_100 ⟨Nat.zero_le _, Nat.zero_le _⟩)) (fun r hr9 => ?_)
            subst hr9
            have hP9 := hP
            have hD9 := hD
            refine W.widen (k := 1) (n := 6) (Nat.le_of_ble_eq_true rfl) (Nat.le_of_ble_eq_true rfl) ?_
            refine vx_ret ?_
            exact W.iret (v := (stackF (addEffectF σ x y z v) x y)) hx hb hr (fun T9 ht hW => ⟨⟨(stackF (addEffectF σ x y z v) x y), (addEffectF σ x y z v), rfl, ⟨by first | (simp only [layT, c_8, c_27, c_37, c_48, c_69, Bool.false_eq_true, if_false, if_true]; done) | (simp [layT, c_8, c_27, c_37, c_48, c_69]; done), by first | rfl | (simp [c_8, c_27, c_37, c_48, c_69]; done) | (simp [c_8, c_27, c_37, c_48, c_69]; rfl), by first | rfl | (simp [c_8, c_27, c_37, c_48, c_69]; done)⟩, by rw [ht]; exact hP9, va_K.moved hW.alike hK, hD9⟩, hS.F ht⟩) hS.2.2 dX4_lay_103
          · have hT : layT σ x y z v = 3 := by first | (simp only [layT, c_8, c_27, c_37, c_48, c_69, Bool.false_eq_true, if_false, if_true]; done) | (simp [layT, c_8, c_27, c_37, c_48, c_69]; done)
            obtain ⟨sa, hstr⟩ := hXV.2.1 _ (List.mem_of_getElem? (i := 10) (a := (125, "it is dead")) rfl)
            have hat : ∀ w ∈ vx_atS RX4 73 "java/lang/IllegalStateException" ["java/lang/RuntimeException", "java/lang/Exception"], w.before _ s = true := vx_hat (B := [.castable "java/lang/IllegalStateException" "java/lang/IllegalStateException", decl_1, decl_2, decl_3]) (fun w h => hts w (List.mem_cons_of_mem _ (List.mem_append_right _ h))) (by decide +kernel) (vx_c (va_Nw.use rfl hXV.2.2.2.1) (vx_c (va_Nw.use rfl hXV.2.2.2.2.2.1) (vx_c (va_Nw.use rfl hXV.2.2.2.2.2.2.1) (vx_c (va_Nw.use rfl hXV.2.2.2.2.2.2.2.1) vx_n))))
            exact vx_throwS (own := RX4) (cls := "java/lang/IllegalStateException") (text := "it is dead") (names := ["java/lang/RuntimeException", "java/lang/Exception"]) (ik := 69) (is := 125) (ic := 73) (sa := sa) (A := A) hx hb hst hown (by decide +kernel) (by decide +kernel) (hts (.classLink RX4 69 "java/lang/IllegalStateException") (by decide +kernel)) (hts (.initialized "java/lang/IllegalStateException") (by decide +kernel)) hstr hat (by decide +kernel) hTX.1 hTX.2 hS (hl.1.trans hml.symm) dX4_lay_72 dX4_lay_75 dX4_lay_76 dX4_lay_78 dX4_lay_81 (fun x hx9 => (hno x hx9).elim) (Nat.le_of_ble_eq_true rfl) (Nat.le_of_ble_eq_true rfl) (Nat.le_of_ble_eq_true rfl) (Nat.le_of_ble_eq_true rfl) hlocks (thr_of (by rw [hT]; decide) (by rw [hT]; rfl) hP hK hD hS) hS.2.2 (Nat.le_of_ble_eq_true rfl) (Nat.le_of_ble_eq_true rfl)
        · have hT : layT σ x y z v = 2 := by first | (simp only [layT, c_8, c_27, c_37, c_48, Bool.false_eq_true, if_false, if_true]; done) | (simp [layT, c_8, c_27, c_37, c_48]; done)
          obtain ⟨sa, hstr⟩ := hXV.2.1 _ (List.mem_of_getElem? (i := 9) (a := (120, "no such effect, stack or turns")) rfl)
          have hat : ∀ w ∈ vx_atS RX4 41 "java/lang/IllegalArgumentException" ["java/lang/RuntimeException", "java/lang/Exception"], w.before _ s = true := vx_hat (B := [.castable "java/lang/IllegalArgumentException" "java/lang/IllegalArgumentException", decl_1, decl_2, decl_3]) (fun w h => hts w (List.mem_cons_of_mem _ (List.mem_append_left _ (List.mem_append_right _ h)))) (by decide +kernel) (vx_c (va_Nw.use rfl hXV.2.2.1) (vx_c (va_Nw.use rfl hXV.2.2.2.2.2.1) (vx_c (va_Nw.use rfl hXV.2.2.2.2.2.2.1) (vx_c (va_Nw.use rfl hXV.2.2.2.2.2.2.2.1) vx_n))))
          exact vx_throwS (own := RX4) (cls := "java/lang/IllegalArgumentException") (text := "no such effect, stack or turns") (names := ["java/lang/RuntimeException", "java/lang/Exception"]) (ik := 37) (is := 120) (ic := 41) (sa := sa) (A := A) hx hb hst hown (by decide +kernel) (by decide +kernel) (hts (.classLink RX4 37 "java/lang/IllegalArgumentException") (by decide +kernel)) (hts (.initialized "java/lang/IllegalArgumentException") (by decide +kernel)) hstr hat (by decide +kernel) hTX.1 hTX.2 hS (hl.1.trans hml.symm) dX4_lay_51 dX4_lay_54 dX4_lay_55 dX4_lay_57 dX4_lay_60 (fun x hx9 => (hno x hx9).elim) (Nat.le_of_ble_eq_true rfl) (Nat.le_of_ble_eq_true rfl) (Nat.le_of_ble_eq_true rfl) (Nat.le_of_ble_eq_true rfl) hlocks (thr_of (by rw [hT]; decide) (by rw [hT]; rfl) hP hK hD hS) hS.2.2 (Nat.le_of_ble_eq_true rfl) (Nat.le_of_ble_eq_true rfl)
  · have hT : layT σ x y z v = 1 := by first | (simp only [layT, c_8, Bool.false_eq_true, if_false, if_true]; done) | (simp [layT, c_8]; done)
    obtain ⟨sa, hstr⟩ := hXV.2.1 _ (List.mem_of_getElem? (i := 7) (a := (108, "no such being")) rfl)
    have hat : ∀ w ∈ vx_atS RX4 56 "java/lang/IndexOutOfBoundsException" ["java/lang/RuntimeException", "java/lang/Exception"], w.before _ s = true := vx_hat (B := [.castable "java/lang/IndexOutOfBoundsException" "java/lang/IndexOutOfBoundsException", decl_1, decl_2, decl_3]) (fun w h => hts w (List.mem_cons_of_mem _ (List.mem_append_left _ (List.mem_append_left _ (List.mem_append_right _ h))))) (by decide +kernel) (vx_c (va_Nw.use rfl hXV.2.2.2.2.1) (vx_c (va_Nw.use rfl hXV.2.2.2.2.2.1) (vx_c (va_Nw.use rfl hXV.2.2.2.2.2.2.1) (vx_c (va_Nw.use rfl hXV.2.2.2.2.2.2.2.1) vx_n))))
    exact vx_throwS (own := RX4) (cls := "java/lang/IndexOutOfBoundsException") (text := "no such being") (names := ["java/lang/RuntimeException", "java/lang/Exception"]) (ik := 52) (is := 108) (ic := 56) (sa := sa) (A := A) hx hb hst hown (by decide +kernel) (by decide +kernel) (hts (.classLink RX4 52 "java/lang/IndexOutOfBoundsException") (by decide +kernel)) (hts (.initialized "java/lang/IndexOutOfBoundsException") (by decide +kernel)) hstr hat (by decide +kernel) hTX.1 hTX.2 hS (hl.1.trans hml.symm) dX4_lay_11 dX4_lay_14 dX4_lay_15 dX4_lay_17 dX4_lay_20 (fun x hx9 => (hno x hx9).elim) (Nat.le_of_ble_eq_true rfl) (Nat.le_of_ble_eq_true rfl) (Nat.le_of_ble_eq_true rfl) (Nat.le_of_ble_eq_true rfl) hlocks (thr_of (by rw [hT]; decide) (by rw [hT]; rfl) hP hK hD hS) hS.2.2 (Nat.le_of_ble_eq_true rfl) (Nat.le_of_ble_eq_true rfl)

set_option maxHeartbeats 4000000 in
set_option maxRecDepth 100000 in
theorem c_X4_answerOf (l : Launch) (D : va_G) (cI : ClassId) (h t0 l0 m0 : Nat) (a : Nat → Nat) (σ : SS) (x y : Int32) : Met l yX4_answerOf wsX4_answerOf ({ frames := 2, cells := 0, slots := 0, locals := 44 } : Room) (va_Pc [.ref h, .int x, .int y] (preR D cI (wW h (a 0) t0 l0 m0 ++ sW cI a σ))) (vp_Si (fun r => r = answerF σ x y)) 0 0 (fun _ => False) := by
  refine Met.ofW (cc := cX4_answerOf) (maxL := 3) (ret := (some .int)) (by decide) rfl ?_
  intro p e s m args below meth c s₁ B hml hv
  obtain ⟨rfl, hP, hK, hE⟩ := hv
  have hx := B.exec
  have hb := B.bytes
  have hr := B.returns
  have hts := atoms_spec (ws := wsX4_answerOf) B.pre
  have hown : s.vm.findClass RX4 = some m.cls := findClass_of_methodNamed B.named
  have hlocks := B.notSynchronized
  have hl := lv_entry ([.ref h, .int x, .int y]) (n := 3) (Nat.le_of_ble_eq_true rfl)
  rw [lg_entry_eq]
  generalize (lg_sl ([.ref h, .int x, .int y]) ++ List.replicate (3 - (lg_sl ([.ref h, .int x, .int y])).length) Slot.unset).toArray = ls at hl ⊢
  have hl : lv_has ls 3 [(0, .ref h), (1, .int x), (2, .int y)] := hl
  refine lv_iload_n hx hb dX4_answerOf_0 rfl (lv_at hl 2 rfl) ?_
  refine lv_bipush (v := 9) hx hb dX4_answerOf_1 (by decide) ?_
  refine lv_icmp_ne (tgt := 23) hx hb dX4_answerOf_3 (by decide) (fun c_3 => ?_) (fun c_3 => ?_)
  · refine lv_aload_n hx hb dX4_answerOf_23 rfl (lv_at hl 0 rfl) ?_
    refine va_get (D := D) (ci := 4) (v := .ref (a 0)) (C := RX4) (T := TX4) (N := 4) hx hb hts (by decide +kernel) hown hK hP 0 rfl rfl 0 (by decide) (hts (.fieldLink RX4 12 "Warren" "state" "LWarren$State;") (by decide +kernel)) (fun _ h9 => h9) rfl dX4_answerOf_24 ?_
    refine lv_iload_n hx hb dX4_answerOf_27 rfl (lv_at hl 1 rfl) ?_
    refine lv_iload_n hx hb dX4_answerOf_28 rfl (lv_at hl 2 rfl) ?_
    refine vp_callSi (va_Run.run (va_runV (As := [.int x, .int y]) (rest := []) ⟨hx, hb, hml, hown, hts⟩ (c_X2_trait l D cI a σ x y) (cwV 2 hts gX4_answerOf_X2_trait rfl rfl rfl (by decide +kernel) ⟨Nat.le_of_ble_eq_true rfl, Nat.le_of_ble_eq_true rfl⟩) ⟨preR_blind, va_recv hK hP (ci := 2) (q0 := 1) rfl rfl, preR_of (hP.sub (ws' := sW cI a σ) [1, 2, 3, 4, 5, 6] rfl) hK hE [.ref (a 0), .int x, .int y]⟩ rfl rfl hl.1 rfl (lv_room (Nat.le_of_ble_eq_true rfl)) dX4_answerOf_29 ⟨Nat.zero_le _, Nat.zero_le _⟩)) (fun r hr9 => ?_)
    subst hr9
    exact W.iret (v := (traitF σ x y)) hx hb hr (fun T9 ht _ => ⟨_, rfl, by first | rfl | (simp only [answerF, if_neg c_3]; done) | (simp only [answerF, if_neg c_3]; rfl) | (simp [answerF, c_3]; done) | (simp [answerF, c_3]; rfl), ht⟩) hnil dX4_answerOf_32
  · refine lv_aload_n hx hb dX4_answerOf_6 rfl (lv_at hl 0 rfl) ?_
    refine va_get (D := D) (ci := 4) (v := .ref (a 0)) (C := RX4) (T := TX4) (N := 4) hx hb hts (by decide +kernel) hown hK hP 0 rfl rfl 0 (by decide) (hts (.fieldLink RX4 12 "Warren" "state" "LWarren$State;") (by decide +kernel)) (fun _ h9 => h9) rfl dX4_answerOf_7 ?_
    refine lv_iload_n hx hb dX4_answerOf_10 rfl (lv_at hl 1 rfl) ?_
    refine vp_callSi (va_Run.run (va_runV (As := [.int x]) (rest := []) ⟨hx, hb, hml, hown, hts⟩ (c_X2_isAfraid l D cI a σ x) (cwV 1 hts gX4_answerOf_X2_isAfraid rfl rfl rfl (by decide +kernel) ⟨Nat.le_of_ble_eq_true rfl, Nat.le_of_ble_eq_true rfl⟩) ⟨preR_blind, va_recv hK hP (ci := 2) (q0 := 1) rfl rfl, preR_of (hP.sub (ws' := sW cI a σ) [1, 2, 3, 4, 5, 6] rfl) hK hE [.ref (a 0), .int x]⟩ rfl rfl hl.1 rfl (lv_room (Nat.le_of_ble_eq_true rfl)) dX4_answerOf_11 ⟨Nat.zero_le _, Nat.zero_le _⟩)) (fun r hr9 => ?_)
    subst hr9
    refine w_bz (tgt := 21) hx hb dX4_answerOf_14 (by decide) (fun c_14 => ?_) (fun c_14 => ?_)
    · refine lv_iconst (v := 0) hx hb dX4_answerOf_21 (by decide) ?_
      exact W.iret (v := 0) hx hb hr (fun T9 ht _ => ⟨_, rfl, by first | rfl | (simp only [answerF, if_pos c_3, c_14, Bool.false_eq_true, if_false, if_true]; done) | (simp only [answerF, if_pos c_3, c_14, Bool.false_eq_true, if_false, if_true]; rfl) | (simp [answerF, c_3, c_14]; done) | (simp [answerF, c_3, c_14]; rfl), ht⟩) hnil dX4_answerOf_22
    · refine lv_iconst (v := 1) hx hb dX4_answerOf_17 (by decide) ?_
      refine lv_goto (tgt := 22) hx hb dX4_answerOf_18 (by decide) ?_
      exact W.iret (v := 1) hx hb hr (fun T9 ht _ => ⟨_, rfl, by first | rfl | (simp only [answerF, if_pos c_3, c_14, Bool.false_eq_true, if_false, if_true]; done) | (simp only [answerF, if_pos c_3, c_14, Bool.false_eq_true, if_false, if_true]; rfl) | (simp [answerF, c_3, c_14]; done) | (simp [answerF, c_3, c_14]; rfl), ht⟩) hnil dX4_answerOf_22

set_option maxHeartbeats 4000000 in
set_option maxRecDepth 100000 in
theorem c_X4_of (l : Launch) (hst : l.stackTraces = false) (D : va_G) (cI : ClassId) (sz : Nat) (h t0 l0 m0 : Nat) (a : Nat → Nat) (σ : SS) (x y : Int32) : vx_Met l yX4_of wsX4_of ({ frames := 6, cells := 1, slots := 6, locals := 82 } : Room) (va_Pc [.ref h, .int x, .int y] (preX D cI (wW h (a 0) t0 l0 m0 ++ sW cI a σ) sz)) (va_Qi (fun (r : Int32) (u : SS) => ofT σ x y = 0 ∧ r = answerF σ x y ∧ u = σ) (fun (u : SS) => posM D cI (va_A (wW h (a 0) t0 l0 m0 ++ sW cI a σ) sz) (wW h (a 0) t0 l0 m0 ++ sW cI a u)) (va_A (wW h (a 0) t0 l0 m0 ++ sW cI a σ) sz)) (thrX (ofT σ x y) nmIA D cI (va_A (wW h (a 0) t0 l0 m0 ++ sW cI a σ) sz) (wW h (a 0) t0 l0 m0 ++ sW cI a σ)) 1 6 (va_A (wW h (a 0) t0 l0 m0 ++ sW cI a σ) sz) := by
  refine vx_ofW (cc := cX4_of) (maxL := 3) (ret := (some .int)) (by decide) rfl ?_
  intro p e s m args below meth c s₁ B hml hno hv
  obtain ⟨rfl, hsz, hP, hK, hXV, hD0, hTX⟩ := hv
  have hE := hXV.1
  have hx := B.exec
  have hb := B.bytes
  have hr := B.returns
  have hts := atoms_spec (ws := wsX4_of) B.pre
  have hown : s.vm.findClass RX4 = some m.cls := findClass_of_methodNamed B.named
  have hlocks := B.notSynchronized
  subst hsz
  have hD := hD0.self (sz := s.heap.size)
  generalize hAe : va_A (wW h (a 0) t0 l0 m0 ++ sW cI a σ) s.heap.size = A at hD hTX ⊢
  have hA : ∀ q : Nat, s.heap.size ≤ q → A q := fun q h => by rw [← hAe]; exact Or.inr h
  have hS : va_S A s.heap s.heap [] := va_S.rf
  have hP : va_P D vwCl (wW h (a 0) t0 l0 m0 ++ sW cI a σ) s.heap := hP
  have hl := lv_entry ([.ref h, .int x, .int y]) (n := 3) (Nat.le_of_ble_eq_true rfl)
  rw [lg_entry_eq]
  generalize (lg_sl ([.ref h, .int x, .int y]) ++ List.replicate (3 - (lg_sl ([.ref h, .int x, .int y])).length) Slot.unset).toArray = ls at hl ⊢
  have hl : lv_has ls 3 [(0, .ref h), (1, .int x), (2, .int y)] := hl
  refine lv_aload_n hx hb dX4_of_0 rfl (lv_at hl 0 rfl) ?_
  refine va_get (D := D) (ci := 4) (v := .ref (a 0)) (C := RX4) (T := TX4) (N := 4) hx hb hts (by decide +kernel) hown hK hP 0 rfl rfl 0 (by decide) (hts (.fieldLink RX4 12 "Warren" "state" "LWarren$State;") (by decide +kernel)) (fun _ h9 => h9) rfl dX4_of_1 ?_
  refine lv_iload_n hx hb dX4_of_4 rfl (lv_at hl 1 rfl) ?_
  refine vp_callSi (va_Run.run (va_runV (As := [.int x]) (rest := []) ⟨hx, hb, hml, hown, hts⟩ (c_X2_isBeing l D cI a σ x) (cwV 1 hts gX4_of_X2_isBeing rfl rfl rfl (by decide +kernel) ⟨Nat.le_of_ble_eq_true rfl, Nat.le_of_ble_eq_true rfl⟩) ⟨preR_blind, va_recv hK hP (ci := 2) (q0 := 1) rfl rfl, preR_of (hP.sub (ws' := sW cI a σ) [1, 2, 3, 4, 5, 6] rfl) hK hE [.ref (a 0), .int x]⟩ rfl rfl hl.1 rfl (lv_room (Nat.le_of_ble_eq_true rfl)) dX4_of_5 ⟨Nat.zero_le _, Nat.zero_le _⟩)) (fun r hr9 => ?_)
  subst hr9
  refine w_bnz (tgt := 21) hx hb dX4_of_8 (by decide) (fun c_8 => ?_) (fun c_8 => ?_)
  · refine lv_iload_n hx hb dX4_of_21 rfl (lv_at hl 2 rfl) ?_
    refine lv_iconst (v := 0) hx hb dX4_of_22 (by decide) ?_
    refine lv_bipush (v := 9) hx hb dX4_of_23 (by decide) ?_
    refine vp_callSi (va_Run.run (va_runS (As := [.int y, .int 0, .int 9]) (rest := []) ⟨hx, hb, hml, hown, hts⟩ (c_X4_isWithin l y 0 9) (va_cwS 3 hts gX4_of_X4_isWithin rfl rfl rfl (by decide +kernel) ⟨Nat.le_of_ble_eq_true rfl, Nat.le_of_ble_eq_true rfl⟩) ⟨fun _ _ _ _ q => q, fun _ _ _ => ⟨rfl, trivial⟩⟩ rfl rfl hl.1 rfl (lv_room (Nat.le_of_ble_eq_true rfl)) dX4_of_25 ⟨Nat.zero_le _, Nat.zero_le _⟩)) (fun r hr9 => ?_)
    subst hr9
    refine w_bnz (tgt := 41) hx hb dX4_of_28 (by decide) (fun c_28 => ?_) (fun c_28 => ?_)
    · refine lv_aload_n hx hb dX4_of_41 rfl (lv_at hl 0 rfl) ?_
      refine lv_iload_n hx hb dX4_of_42 rfl (lv_at hl 1 rfl) ?_
      refine lv_iload_n hx hb dX4_of_43 rfl (lv_at hl 2 rfl) ?_
      refine vp_callSi (va_Run.run (va_runV (As := [.int x, .int y]) (rest := []) ⟨hx, hb, hml, hown, hts⟩ (c_X4_answerOf l D cI h t0 l0 m0 a σ x y) (cwV 2 hts gX4_of_X4_answerOf rfl rfl rfl (by decide +kernel) ⟨Nat.le_of_ble_eq_true rfl, Nat.le_of_ble_eq_true rfl⟩) ⟨preR_blind, va_recv hK hP (ci := 4) (q0 := 0) rfl rfl, preR_of hP hK hE [.ref h, .int x, .int y]⟩ rfl rfl hl.1 rfl (lv_room (Nat.le_of_ble_eq_true rfl)) dX4_of_44 ⟨Nat.zero_le _, Nat.zero_le _⟩)) (fun r hr9 => ?_)
      subst hr9
      have hP9 := hP
      have hD9 := hD
      refine W.widen (k := 1) (n := 6) (Nat.le_of_ble_eq_true rfl) (Nat.le_of_ble_eq_true rfl) ?_
      refine vx_ret ?_
      exact W.iret (v := (answerF σ x y)) hx hb hr (fun T9 ht hW => ⟨⟨(answerF σ x y), σ, rfl, ⟨by first | (simp only [ofT, c_8, c_28, Bool.false_eq_true, if_false, if_true]; done) | (simp [ofT, c_8, c_28]; done), by first | rfl | (simp [c_8, c_28]; done) | (simp [c_8, c_28]; rfl), by first | rfl | (simp [c_8, c_28]; done)⟩, by rw [ht]; exact hP9, va_K.moved hW.alike hK, hD9⟩, hS.F ht⟩) hS.2.2 dX4_of_47
    · have hT : ofT σ x y = 2 := by first | (simp only [ofT, c_8, c_28, Bool.false_eq_true, if_false, if_true]; done) | (simp [ofT, c_8, c_28]; done)
      obtain ⟨sa, hstr⟩ := hXV.2.1 _ (List.mem_of_getElem? (i := 11) (a := (134, "no such thing to ask")) rfl)
      have hat : ∀ w ∈ vx_atS RX4 41 "java/lang/IllegalArgumentException" ["java/lang/RuntimeException", "java/lang/Exception"], w.before _ s = true := vx_hat (B := [.castable "java/lang/IllegalArgumentException" "java/lang/IllegalArgumentException", decl_1, decl_2, decl_3]) (fun w h => hts w (List.mem_cons_of_mem _ (List.mem_append_right _ h))) (by decide +kernel) (vx_c (va_Nw.use rfl hXV.2.2.1) (vx_c (va_Nw.use rfl hXV.2.2.2.2.2.1) (vx_c (va_Nw.use rfl hXV.2.2.2.2.2.2.1) (vx_c (va_Nw.use rfl hXV.2.2.2.2.2.2.2.1) vx_n))))
      exact vx_throwS (own := RX4) (cls := "java/lang/IllegalArgumentException") (text := "no such thing to ask") (names := ["java/lang/RuntimeException", "java/lang/Exception"]) (ik := 37) (is := 134) (ic := 41) (sa := sa) (A := A) hx hb hst hown (by decide +kernel) (by decide +kernel) (hts (.classLink RX4 37 "java/lang/IllegalArgumentException") (by decide +kernel)) (hts (.initialized "java/lang/IllegalArgumentException") (by decide +kernel)) hstr hat (by decide +kernel) hTX.1 hTX.2 hS (hl.1.trans hml.symm) dX4_of_31 dX4_of_34 dX4_of_35 dX4_of_37 dX4_of_40 (fun x hx9 => (hno x hx9).elim) (Nat.le_of_ble_eq_true rfl) (Nat.le_of_ble_eq_true rfl) (Nat.le_of_ble_eq_true rfl) (Nat.le_of_ble_eq_true rfl) hlocks (thr_of (by rw [hT]; decide) (by rw [hT]; rfl) hP hK hD hS) hS.2.2 (Nat.le_of_ble_eq_true rfl) (Nat.le_of_ble_eq_true rfl)
  · have hT : ofT σ x y = 1 := by first | (simp only [ofT, c_8, Bool.false_eq_true, if_false, if_true]; done) | (simp [ofT, c_8]; done)
    obtain ⟨sa, hstr⟩ := hXV.2.1 _ (List.mem_of_getElem? (i := 7) (a := (108, "no such being")) rfl)
    have hat : ∀ w ∈ vx_atS RX4 56 "java/lang/IndexOutOfBoundsException" ["java/lang/RuntimeException", "java/lang/Exception"], w.before _ s = true := vx_hat (B := [.castable "java/lang/IndexOutOfBoundsException" "java/lang/IndexOutOfBoundsException", decl_1, decl_2, decl_3]) (fun w h => hts w (List.mem_cons_of_mem _ (List.mem_append_left _ (List.mem_append_right _ h)))) (by decide +kernel) (vx_c (va_Nw.use rfl hXV.2.2.2.2.1) (vx_c (va_Nw.use rfl hXV.2.2.2.2.2.1) (vx_c (va_Nw.use rfl hXV.2.2.2.2.2.2.1) (vx_c (va_Nw.use rfl hXV.2.2.2.2.2.2.2.1) vx_n))))
    exact vx_throwS (own := RX4) (cls := "java/lang/IndexOutOfBoundsException") (text := "no such being") (names := ["java/lang/RuntimeException", "java/lang/Exception"]) (ik := 52) (is := 108) (ic := 56) (sa := sa) (A := A) hx hb hst hown (by decide +kernel) (by decide +kernel) (hts (.classLink RX4 52 "java/lang/IndexOutOfBoundsException") (by decide +kernel)) (hts (.initialized "java/lang/IndexOutOfBoundsException") (by decide +kernel)) hstr hat (by decide +kernel) hTX.1 hTX.2 hS (hl.1.trans hml.symm) dX4_of_11 dX4_of_14 dX4_of_15 dX4_of_17 dX4_of_20 (fun x hx9 => (hno x hx9).elim) (Nat.le_of_ble_eq_true rfl) (Nat.le_of_ble_eq_true rfl) (Nat.le_of_ble_eq_true rfl) (Nat.le_of_ble_eq_true rfl) hlocks (thr_of (by rw [hT]; decide) (by rw [hT]; rfl) hP hK hD hS) hS.2.2 (Nat.le_of_ble_eq_true rfl) (Nat.le_of_ble_eq_true rfl)

set_option maxHeartbeats 4000000 in
set_option maxRecDepth 100000 in
theorem c_X4_effect (l : Launch) (hst : l.stackTraces = false) (D : va_G) (cI : ClassId) (sz : Nat) (h t0 l0 m0 : Nat) (a : Nat → Nat) (σ : SS) (x y z : Int32) : vx_Met l yX4_effect wsX4_effect ({ frames := 6, cells := 1, slots := 6, locals := 82 } : Room) (va_Pc [.ref h, .int x, .int y, .int z] (preX D cI (wW h (a 0) t0 l0 m0 ++ sW cI a σ) sz)) (va_Qi (fun (r : Int32) (u : SS) => effectT σ x y = 0 ∧ r = effectF σ x y z ∧ u = σ) (fun (u : SS) => posM D cI (va_A (wW h (a 0) t0 l0 m0 ++ sW cI a σ) sz) (wW h (a 0) t0 l0 m0 ++ sW cI a u)) (va_A (wW h (a 0) t0 l0 m0 ++ sW cI a σ) sz)) (thrX (effectT σ x y) nmIA D cI (va_A (wW h (a 0) t0 l0 m0 ++ sW cI a σ) sz) (wW h (a 0) t0 l0 m0 ++ sW cI a σ)) 1 6 (va_A (wW h (a 0) t0 l0 m0 ++ sW cI a σ) sz) := by
  refine vx_ofW (cc := cX4_effect) (maxL := 4) (ret := (some .int)) (by decide) rfl ?_
  intro p e s m args below meth c s₁ B hml hno hv
  obtain ⟨rfl, hsz, hP, hK, hXV, hD0, hTX⟩ := hv
  have hE := hXV.1
  have hx := B.exec
  have hb := B.bytes
  have hr := B.returns
  have hts := atoms_spec (ws := wsX4_effect) B.pre
  have hown : s.vm.findClass RX4 = some m.cls := findClass_of_methodNamed B.named
  have hlocks := B.notSynchronized
  subst hsz
  have hD := hD0.self (sz := s.heap.size)
  generalize hAe : va_A (wW h (a 0) t0 l0 m0 ++ sW cI a σ) s.heap.size = A at hD hTX ⊢
  have hA : ∀ q : Nat, s.heap.size ≤ q → A q := fun q h => by rw [← hAe]; exact Or.inr h
  have hS : va_S A s.heap s.heap [] := va_S.rf
  have hP : va_P D vwCl (wW h (a 0) t0 l0 m0 ++ sW cI a σ) s.heap := hP
  have hl := lv_entry ([.ref h, .int x, .int y, .int z]) (n := 4) (Nat.le_of_ble_eq_true rfl)
  rw [lg_entry_eq]
  generalize (lg_sl ([.ref h, .int x, .int y, .int z]) ++ List.replicate (4 - (lg_sl ([.ref h, .int x, .int y, .int z])).length) Slot.unset).toArray = ls at hl ⊢
  have hl : lv_has ls 4 [(0, .ref h), (1, .int x), (2, .int y), (3, .int z)] := hl
  refine lv_aload_n hx hb dX4_effect_0 rfl (lv_at hl 0 rfl) ?_
  refine va_get (D := D) (ci := 4) (v := .ref (a 0)) (C := RX4) (T := TX4) (N := 4) hx hb hts (by decide +kernel) hown hK hP 0 rfl rfl 0 (by decide) (hts (.fieldLink RX4 12 "Warren" "state" "LWarren$State;") (by decide +kernel)) (fun _ h9 => h9) rfl dX4_effect_1 ?_
  refine lv_iload_n hx hb dX4_effect_4 rfl (lv_at hl 1 rfl) ?_
  refine vp_callSi (va_Run.run (va_runV (As := [.int x]) (rest := []) ⟨hx, hb, hml, hown, hts⟩ (c_X2_isBeing l D cI a σ x) (cwV 1 hts gX4_effect_X2_isBeing rfl rfl rfl (by decide +kernel) ⟨Nat.le_of_ble_eq_true rfl, Nat.le_of_ble_eq_true rfl⟩) ⟨preR_blind, va_recv hK hP (ci := 2) (q0 := 1) rfl rfl, preR_of (hP.sub (ws' := sW cI a σ) [1, 2, 3, 4, 5, 6] rfl) hK hE [.ref (a 0), .int x]⟩ rfl rfl hl.1 rfl (lv_room (Nat.le_of_ble_eq_true rfl)) dX4_effect_5 ⟨Nat.zero_le _, Nat.zero_le _⟩)) (fun r hr9 => ?_)
  subst hr9
  refine w_bnz (tgt := 21) hx hb dX4_effect_8 (by decide) (fun c_8 => ?_) (fun c_8 => ?_)
  · refine lv_iload_n hx hb dX4_effect_21 rfl (lv_at hl 2 rfl) ?_
    refine lv_iconst (v := 0) hx hb dX4_effect_22 (by decide) ?_
    refine lv_iconst (v := 4) hx hb dX4_effect_23 (by decide) ?_
    refine vp_callSi (va_Run.run (va_runS (As := [.int y, .int 0, .int 4]) (rest := []) ⟨hx, hb, hml, hown, hts⟩ (c_X4_isWithin l y 0 4) (va_cwS 3 hts gX4_effect_X4_isWithin rfl rfl rfl (by decide +kernel) ⟨Nat.le_of_ble_eq_true rfl, Nat.le_of_ble_eq_true rfl⟩) ⟨fun _ _ _ _ q => q, fun _ _ _ => ⟨rfl, trivial⟩⟩ rfl rfl hl.1 rfl (lv_room (Nat.le_of_ble_eq_true rfl)) dX4_effect_24 ⟨Nat.zero_le _, Nat.zero_le _⟩)) (fun r hr9 => ?_)
    subst hr9
    refine w_bnz (tgt := 40) hx hb dX4_effect_27 (by decide) (fun c_27 => ?_) (fun c_27 => ?_)
    · refine lv_iload_n hx hb dX4_effect_40 rfl (lv_at hl 3 rfl) ?_
      refine lv_if_eq (tgt := 56) hx hb dX4_effect_41 (by decide) (fun c_41 => ?_) (fun c_41 => ?_)
      · refine lv_aload_n hx hb dX4_effect_56 rfl (lv_at hl 0 rfl) ?_
        refine va_get (D := D) (ci := 4) (v := .ref (a 0)) (C := RX4) (T := TX4) (N := 4) hx hb hts (by decide +kernel) hown hK hP 0 rfl rfl 0 (by decide) (hts (.fieldLink RX4 12 "Warren" "state" "LWarren$State;") (by decide +kernel)) (fun _ h9 => h9) rfl dX4_effect_57 ?_
        refine lv_iload_n hx hb dX4_effect_60 rfl (lv_at hl 1 rfl) ?_
        refine lv_iload_n hx hb dX4_effect_61 rfl (lv_at hl 2 rfl) ?_
        refine vp_callSi (va_Run.run (va_runV (As := [.int x, .int y]) (rest := []) ⟨hx, hb, hml, hown, hts⟩ (c_X2_stackOf l D cI a σ x y) (cwV 2 hts gX4_effect_X2_stackOf rfl rfl rfl (by decide +kernel) ⟨Nat.le_of_ble_eq_true rfl, Nat.le_of_ble_eq_true rfl⟩) ⟨preR_blind, va_recv hK hP (ci := 2) (q0 := 1) rfl rfl, preR_of (hP.sub (ws' := sW cI a σ) [1, 2, 3, 4, 5, 6] rfl) hK hE [.ref (a 0), .int x, .int y]⟩ rfl rfl hl.1 rfl (lv_room (Nat.le_of_ble_eq_true rfl)) dX4_effect_62 ⟨Nat.zero_le _, Nat.zero_le _⟩)) (fun r hr9 => ?_)
        subst hr9
        have hP9 := hP
        have hD9 := hD
        refine W.widen (k := 1) (n := 6) (Nat.le_of_ble_eq_true rfl) (Nat.le_of_ble_eq_true rfl) ?_
        refine vx_ret ?_
        exact W.iret (v := (stackF σ x y)) hx hb hr (fun T9 ht hW => ⟨⟨(stackF σ x y), σ, rfl, ⟨by first | (simp only [effectT, c_8, c_27, if_pos c_41, Bool.false_eq_true, if_false, if_true]; done) | (simp [effectT, c_8, c_27, c_41]; done), by first | rfl | (simp [effectF, c_8, c_27, c_41]; done) | (simp [effectF, c_8, c_27, c_41]; rfl), by first | rfl | (simp [effectF, c_8, c_27, c_41]; done)⟩, by rw [ht]; exact hP9, va_K.moved hW.alike hK, hD9⟩, hS.F ht⟩) hS.2.2 dX4_effect_65
      · refine lv_aload_n hx hb dX4_effect_44 rfl (lv_at hl 0 rfl) ?_
        refine va_get (D := D) (ci := 4) (v := .ref (a 0)) (C := RX4) (T := TX4) (N := 4) hx hb hts (by decide +kernel) hown hK hP 0 rfl rfl 0 (by decide) (hts (.fieldLink RX4 12 "Warren" "state" "LWarren$State;") (by decide +kernel)) (fun _ h9 => h9) rfl dX4_effect_45 ?_
        refine lv_iload_n hx hb dX4_effect_48 rfl (lv_at hl 1 rfl) ?_
        refine lv_iload_n hx hb dX4_effect_49 rfl (lv_at hl 2 rfl) ?_
        refine vp_callSi (va_Run.run (va_runV (As := [.int x, .int y]) (rest := []) ⟨hx, hb, hml, hown, hts⟩ (c_X2_turnsOf l D cI a σ x y) (cwV 2 hts gX4_effect_X2_turnsOf rfl rfl rfl (by decide +kernel) ⟨Nat.le_of_ble_eq_true rfl, Nat.le_of_ble_eq_true rfl⟩) ⟨preR_blind, va_recv hK hP (ci := 2) (q0 := 1) rfl rfl, preR_of (hP.sub (ws' := sW cI a σ) [1, 2, 3, 4, 5, 6] rfl) hK hE [.ref (a 0), .int x, .int y]⟩ rfl rfl hl.1 rfl (lv_room (Nat.le_of_ble_eq_true rfl)) dX4_effect_50 ⟨Nat.zero_le _, Nat.zero_le _⟩)) (fun r hr9 => ?_)
        subst hr9
        refine lv_goto (tgt := 65) hx hb dX4_effect_53 (by decide) ?_
        have hP9 := hP
        have hD9 := hD
        refine W.widen (k := 1) (n := 6) (Nat.le_of_ble_eq_true rfl) (Nat.le_of_ble_eq_true rfl) ?_
        refine vx_ret ?_
        exact W.iret (v := (turnsF σ x y)) hx hb hr (fun T9 ht hW => ⟨⟨(turnsF σ x y), σ, rfl, ⟨by first | (simp only [effectT, c_8, c_27, if_neg c_41, Bool.false_eq_true, if_false, if_true]; done) | (simp [effectT, c_8, c_27, c_41]; done), by first | rfl | (simp [effectF, c_8, c_27, c_41]; done) | (simp [effectF, c_8, c_27, c_41]; rfl), by first | rfl | (simp [effectF, c_8, c_27, c_41]; done)⟩, by rw [ht]; exact hP9, va_K.moved hW.alike hK, hD9⟩, hS.F ht⟩) hS.2.2 dX4_effect_65
    · have hT : effectT σ x y = 2 := by first | (simp only [effectT, c_8, c_27, Bool.false_eq_true, if_false, if_true]; done) | (simp [effectT, c_8, c_27]; done)
      obtain ⟨sa, hstr⟩ := hXV.2.1 _ (List.mem_of_getElem? (i := 12) (a := (139, "no such effect")) rfl)
      have hat : ∀ w ∈ vx_atS RX4 41 "java/lang/IllegalArgumentException" ["java/lang/RuntimeException", "java/lang/Exception"], w.before _ s = true := vx_hat (B := [.castable "java/lang/IllegalArgumentException" "java/lang/IllegalArgumentException", decl_1, decl_2, decl_3]) (fun w h => hts w (List.mem_cons_of_mem _ (List.mem_append_right _ h))) (by decide +kernel) (vx_c (va_Nw.use rfl hXV.2.2.1) (vx_c (va_Nw.use rfl hXV.2.2.2.2.2.1) (vx_c (va_Nw.use rfl hXV.2.2.2.2.2.2.1) (vx_c (va_Nw.use rfl hXV.2.2.2.2.2.2.2.1) vx_n))))
      exact vx_throwS (own := RX4) (cls := "java/lang/IllegalArgumentException") (text := "no such effect") (names := ["java/lang/RuntimeException", "java/lang/Exception"]) (ik := 37) (is := 139) (ic := 41) (sa := sa) (A := A) hx hb hst hown (by decide +kernel) (by decide +kernel) (hts (.classLink RX4 37 "java/lang/IllegalArgumentException") (by decide +kernel)) (hts (.initialized "java/lang/IllegalArgumentException") (by decide +kernel)) hstr hat (by decide +kernel) hTX.1 hTX.2 hS (hl.1.trans hml.symm) dX4_effect_30 dX4_effect_33 dX4_effect_34 dX4_effect_36 dX4_effect_39 (fun x hx9 => (hno x hx9).elim) (Nat.le_of_ble_eq_true rfl) (Nat.le_of_ble_eq_true rfl) (Nat.le_of_ble_eq_true rfl) (Nat.le_of_ble_eq_true rfl) hlocks (thr_of (by rw [hT]; decide) (by rw [hT]; rfl) hP hK hD hS) hS.2.2 (Nat.le_of_ble_eq_true rfl) (Nat.le_of_ble_eq_true rfl)
  · have hT : effectT σ x y = 1 := by first | (simp only [effectT, c_8, Bool.false_eq_true, if_false, if_true]; done) | (simp [effectT, c_8]; done)
    obtain ⟨sa, hstr⟩ := hXV.2.1 _ (List.mem_of_getElem? (i := 7) (a := (108, "no such being")) rfl)
    have hat : ∀ w ∈ vx_atS RX4 56 "java/lang/IndexOutOfBoundsException" ["java/lang/RuntimeException", "java/lang/Exception"], w.before _ s = true := vx_hat (B := [.castable "java/lang/IndexOutOfBoundsException" "java/lang/IndexOutOfBoundsException", decl_1, decl_2, decl_3]) (fun w h => hts w (List.mem_cons_of_mem _ (List.mem_append_left _ (List.mem_append_right _ h)))) (by decide +kernel) (vx_c (va_Nw.use rfl hXV.2.2.2.2.1) (vx_c (va_Nw.use rfl hXV.2.2.2.2.2.1) (vx_c (va_Nw.use rfl hXV.2.2.2.2.2.2.1) (vx_c (va_Nw.use rfl hXV.2.2.2.2.2.2.2.1) vx_n))))
    exact vx_throwS (own := RX4) (cls := "java/lang/IndexOutOfBoundsException") (text := "no such being") (names := ["java/lang/RuntimeException", "java/lang/Exception"]) (ik := 52) (is := 108) (ic := 56) (sa := sa) (A := A) hx hb hst hown (by decide +kernel) (by decide +kernel) (hts (.classLink RX4 52 "java/lang/IndexOutOfBoundsException") (by decide +kernel)) (hts (.initialized "java/lang/IndexOutOfBoundsException") (by decide +kernel)) hstr hat (by decide +kernel) hTX.1 hTX.2 hS (hl.1.trans hml.symm) dX4_effect_11 dX4_effect_14 dX4_effect_15 dX4_effect_17 dX4_effect_20 (fun x hx9 => (hno x hx9).elim) (Nat.le_of_ble_eq_true rfl) (Nat.le_of_ble_eq_true rfl) (Nat.le_of_ble_eq_true rfl) (Nat.le_of_ble_eq_true rfl) hlocks (thr_of (by rw [hT]; decide) (by rw [hT]; rfl) hP hK hD hS) hS.2.2 (Nat.le_of_ble_eq_true rfl) (Nat.le_of_ble_eq_true rfl)

set_option maxHeartbeats 4000000 in
set_option maxRecDepth 100000 in
theorem c_X4_target (l : Launch) (hst : l.stackTraces = false) (D : va_G) (cI : ClassId) (sz : Nat) (h t0 l0 m0 : Nat) (a : Nat → Nat) (σ : SS) (x : Int32) (hn : s_n σ ≤ 10) : vx_Met l yX4_target wsX4_target ({ frames := 6, cells := 1, slots := 6, locals := 96 } : Room) (va_Pc [.ref h, .int x] (preX D cI (wW h (a 0) t0 l0 m0 ++ sW cI a σ) sz)) (va_Qi (fun (r : Int32) (u : SS) => targetT σ x = 0 ∧ r = targetF σ x ∧ u = σ) (fun (u : SS) => posM D cI (va_A (wW h (a 0) t0 l0 m0 ++ sW cI a σ) sz) (wW h (a 0) t0 l0 m0 ++ sW cI a u)) (va_A (wW h (a 0) t0 l0 m0 ++ sW cI a σ) sz)) (thrX (targetT σ x) nmI D cI (va_A (wW h (a 0) t0 l0 m0 ++ sW cI a σ) sz) (wW h (a 0) t0 l0 m0 ++ sW cI a σ)) 1 6 (va_A (wW h (a 0) t0 l0 m0 ++ sW cI a σ) sz) := by
  refine vx_ofW (cc := cX4_target) (maxL := 2) (ret := (some .int)) (by decide) rfl ?_
  intro p e s m args below meth c s₁ B hml hno hv
  obtain ⟨rfl, hsz, hP, hK, hXV, hD0, hTX⟩ := hv
  have hE := hXV.1
  have hx := B.exec
  have hb := B.bytes
  have hr := B.returns
  have hts := atoms_spec (ws := wsX4_target) B.pre
  have hown : s.vm.findClass RX4 = some m.cls := findClass_of_methodNamed B.named
  have hlocks := B.notSynchronized
  subst hsz
  have hD := hD0.self (sz := s.heap.size)
  generalize hAe : va_A (wW h (a 0) t0 l0 m0 ++ sW cI a σ) s.heap.size = A at hD hTX ⊢
  have hA : ∀ q : Nat, s.heap.size ≤ q → A q := fun q h => by rw [← hAe]; exact Or.inr h
  have hS : va_S A s.heap s.heap [] := va_S.rf
  have hP : va_P D vwCl (wW h (a 0) t0 l0 m0 ++ sW cI a σ) s.heap := hP
  have hl := lv_entry ([.ref h, .int x]) (n := 2) (Nat.le_of_ble_eq_true rfl)
  rw [lg_entry_eq]
  generalize (lg_sl ([.ref h, .int x]) ++ List.replicate (2 - (lg_sl ([.ref h, .int x])).length) Slot.unset).toArray = ls at hl ⊢
  have hl : lv_has ls 2 [(0, .ref h), (1, .int x)] := hl
  refine lv_aload_n hx hb dX4_target_0 rfl (lv_at hl 0 rfl) ?_
  refine va_get (D := D) (ci := 4) (v := .ref (a 0)) (C := RX4) (T := TX4) (N := 4) hx hb hts (by decide +kernel) hown hK hP 0 rfl rfl 0 (by decide) (hts (.fieldLink RX4 12 "Warren" "state" "LWarren$State;") (by decide +kernel)) (fun _ h9 => h9) rfl dX4_target_1 ?_
  refine lv_iload_n hx hb dX4_target_4 rfl (lv_at hl 1 rfl) ?_
  refine vp_callSi (va_Run.run (va_runV (As := [.int x]) (rest := []) ⟨hx, hb, hml, hown, hts⟩ (c_X2_isBeing l D cI a σ x) (cwV 1 hts gX4_target_X2_isBeing rfl rfl rfl (by decide +kernel) ⟨Nat.le_of_ble_eq_true rfl, Nat.le_of_ble_eq_true rfl⟩) ⟨preR_blind, va_recv hK hP (ci := 2) (q0 := 1) rfl rfl, preR_of (hP.sub (ws' := sW cI a σ) [1, 2, 3, 4, 5, 6] rfl) hK hE [.ref (a 0), .int x]⟩ rfl rfl hl.1 rfl (lv_room (Nat.le_of_ble_eq_true rfl)) dX4_target_5 ⟨Nat.zero_le _, Nat.zero_le _⟩)) (fun r hr9 => ?_)
  subst hr9
  refine w_bnz (tgt := 21) hx hb dX4_target_8 (by decide) (fun c_8 => ?_) (fun c_8 => ?_)
  · refine lv_aload_n hx hb dX4_target_21 rfl (lv_at hl 0 rfl) ?_
    refine va_get (D := D) (ci := 4) (v := .ref (a 0)) (C := RX4) (T := TX4) (N := 4) hx hb hts (by decide +kernel) hown hK hP 0 rfl rfl 0 (by decide) (hts (.fieldLink RX4 12 "Warren" "state" "LWarren$State;") (by decide +kernel)) (fun _ h9 => h9) rfl dX4_target_22 ?_
    refine lv_iload_n hx hb dX4_target_25 rfl (lv_at hl 1 rfl) ?_
    refine vp_callSi (va_Run.run (va_runV (As := [.int x]) (rest := []) ⟨hx, hb, hml, hown, hts⟩ (c_X2_targetOf l D cI a σ x hn) (cwV 1 hts gX4_target_X2_targetOf rfl rfl rfl (by decide +kernel) ⟨Nat.le_of_ble_eq_true rfl, Nat.le_of_ble_eq_true rfl⟩) ⟨preR_blind, va_recv hK hP (ci := 2) (q0 := 1) rfl rfl, preR_of (hP.sub (ws' := sW cI a σ) [1, 2, 3, 4, 5, 6] rfl) hK hE [.ref (a 0), .int x]⟩ rfl rfl hl.1 rfl (lv_room (Nat.le_of_ble_eq_true rfl)) dX4_target_26 ⟨Nat.zero_le _, Nat.zero_le _⟩)) (fun r hr9 => ?_)
    subst hr9
    have hP9 := hP
    have hD9 := hD
    refine W.widen (k := 1) (n := 6) (Nat.le_of_ble_eq_true rfl) (Nat.le_of_ble_eq_true rfl) ?_
    refine vx_ret ?_
    exact W.iret (v := (targetF σ x)) hx hb hr (fun T9 ht hW => ⟨⟨(targetF σ x), σ, rfl, ⟨by first | (simp only [targetT, c_8, Bool.false_eq_true, if_false, if_true]; done) | (simp [targetT, c_8]; done), by first | rfl | (simp [c_8]; done) | (simp [c_8]; rfl), by first | rfl | (simp [c_8]; done)⟩, by rw [ht]; exact hP9, va_K.moved hW.alike hK, hD9⟩, hS.F ht⟩) hS.2.2 dX4_target_29
  · have hT : targetT σ x = 1 := by first | (simp only [targetT, c_8, Bool.false_eq_true, if_false, if_true]; done) | (simp [targetT, c_8]; done)
    obtain ⟨sa, hstr⟩ := hXV.2.1 _ (List.mem_of_getElem? (i := 7) (a := (108, "no such being")) rfl)
    have hat : ∀ w ∈ vx_atS RX4 56 "java/lang/IndexOutOfBoundsException" ["java/lang/RuntimeException", "java/lang/Exception"], w.before _ s = true := vx_hat (B := [.castable "java/lang/IndexOutOfBoundsException" "java/lang/IndexOutOfBoundsException", decl_1, decl_2, decl_3]) (fun w h => hts w (List.mem_cons_of_mem _ (List.mem_append_right _ h))) (by decide +kernel) (vx_c (va_Nw.use rfl hXV.2.2.2.2.1) (vx_c (va_Nw.use rfl hXV.2.2.2.2.2.1) (vx_c (va_Nw.use rfl hXV.2.2.2.2.2.2.1) (vx_c (va_Nw.use rfl hXV.2.2.2.2.2.2.2.1) vx_n))))
    exact vx_throwS (own := RX4) (cls := "java/lang/IndexOutOfBoundsException") (text := "no such being") (names := ["java/lang/RuntimeException", "java/lang/Exception"]) (ik := 52) (is := 108) (ic := 56) (sa := sa) (A := A) hx hb hst hown (by decide +kernel) (by decide +kernel) (hts (.classLink RX4 52 "java/lang/IndexOutOfBoundsException") (by decide +kernel)) (hts (.initialized "java/lang/IndexOutOfBoundsException") (by decide +kernel)) hstr hat (by decide +kernel) hTX.1 hTX.2 hS (hl.1.trans hml.symm) dX4_target_11 dX4_target_14 dX4_target_15 dX4_target_17 dX4_target_20 (fun x hx9 => (hno x hx9).elim) (Nat.le_of_ble_eq_true rfl) (Nat.le_of_ble_eq_true rfl) (Nat.le_of_ble_eq_true rfl) (Nat.le_of_ble_eq_true rfl) hlocks (thr_of (by rw [hT]; decide) (by rw [hT]; rfl) hP hK hD hS) hS.2.2 (Nat.le_of_ble_eq_true rfl) (Nat.le_of_ble_eq_true rfl)

set_option maxHeartbeats 4000000 in
set_option maxRecDepth 100000 in
theorem c_X4_hit (l : Launch) (hst : l.stackTraces = false) (D : va_G) (cI : ClassId) (sz : Nat) (h t0 l0 m0 : Nat) (a : Nat → Nat) (σ : SS) (x y : Int32) : vx_Met l yX4_hit wsX4_hit ({ frames := 6, cells := 1, slots := 6, locals := 82 } : Room) (va_Pc [.ref h, .int x, .int y] (preX D cI (wW h (a 0) t0 l0 m0 ++ sW cI a σ) sz)) (va_Qi (fun (r : Int32) (u : SS) => hitT σ x y = 0 ∧ r = hitF σ x y ∧ u = σ) (fun (u : SS) => posM D cI (va_A (wW h (a 0) t0 l0 m0 ++ sW cI a σ) sz) (wW h (a 0) t0 l0 m0 ++ sW cI a u)) (va_A (wW h (a 0) t0 l0 m0 ++ sW cI a σ) sz)) (thrX (hitT σ x y) nmI D cI (va_A (wW h (a 0) t0 l0 m0 ++ sW cI a σ) sz) (wW h (a 0) t0 l0 m0 ++ sW cI a σ)) 1 6 (va_A (wW h (a 0) t0 l0 m0 ++ sW cI a σ) sz) := by
  refine vx_ofW (cc := cX4_hit) (maxL := 3) (ret := (some .int)) (by decide) rfl ?_
  intro p e s m args below meth c s₁ B hml hno hv
  obtain ⟨rfl, hsz, hP, hK, hXV, hD0, hTX⟩ := hv
  have hE := hXV.1
  have hx := B.exec
  have hb := B.bytes
  have hr := B.returns
  have hts := atoms_spec (ws := wsX4_hit) B.pre
  have hown : s.vm.findClass RX4 = some m.cls := findClass_of_methodNamed B.named
  have hlocks := B.notSynchronized
  subst hsz
  have hD := hD0.self (sz := s.heap.size)
  generalize hAe : va_A (wW h (a 0) t0 l0 m0 ++ sW cI a σ) s.heap.size = A at hD hTX ⊢
  have hA : ∀ q : Nat, s.heap.size ≤ q → A q := fun q h => by rw [← hAe]; exact Or.inr h
  have hS : va_S A s.heap s.heap [] := va_S.rf
  have hP : va_P D vwCl (wW h (a 0) t0 l0 m0 ++ sW cI a σ) s.heap := hP
  have hl := lv_entry ([.ref h, .int x, .int y]) (n := 3) (Nat.le_of_ble_eq_true rfl)
  rw [lg_entry_eq]
  generalize (lg_sl ([.ref h, .int x, .int y]) ++ List.replicate (3 - (lg_sl ([.ref h, .int x, .int y])).length) Slot.unset).toArray = ls at hl ⊢
  have hl : lv_has ls 3 [(0, .ref h), (1, .int x), (2, .int y)] := hl
  refine lv_aload_n hx hb dX4_hit_0 rfl (lv_at hl 0 rfl) ?_
  refine va_get (D := D) (ci := 4) (v := .ref (a 0)) (C := RX4) (T := TX4) (N := 4) hx hb hts (by decide +kernel) hown hK hP 0 rfl rfl 0 (by decide) (hts (.fieldLink RX4 12 "Warren" "state" "LWarren$State;") (by decide +kernel)) (fun _ h9 => h9) rfl dX4_hit_1 ?_
  refine lv_iload_n hx hb dX4_hit_4 rfl (lv_at hl 1 rfl) ?_
  refine vp_callSi (va_Run.run (va_runV (As := [.int x]) (rest := []) ⟨hx, hb, hml, hown, hts⟩ (c_X2_isBeing l D cI a σ x) (cwV 1 hts gX4_hit_X2_isBeing rfl rfl rfl (by decide +kernel) ⟨Nat.le_of_ble_eq_true rfl, Nat.le_of_ble_eq_true rfl⟩) ⟨preR_blind, va_recv hK hP (ci := 2) (q0 := 1) rfl rfl, preR_of (hP.sub (ws' := sW cI a σ) [1, 2, 3, 4, 5, 6] rfl) hK hE [.ref (a 0), .int x]⟩ rfl rfl hl.1 rfl (lv_room (Nat.le_of_ble_eq_true rfl)) dX4_hit_5 ⟨Nat.zero_le _, Nat.zero_le _⟩)) (fun r hr9 => ?_)
  subst hr9
  refine w_bz (tgt := 22) hx hb dX4_hit_8 (by decide) (fun c_8 => ?_) (fun c_8 => ?_)
  · have hT : hitT σ x y = 1 := by first | (simp only [hitT, c_8, Bool.false_eq_true, if_false, if_true]; done) | (simp [hitT, c_8]; done)
    obtain ⟨sa, hstr⟩ := hXV.2.1 _ (List.mem_of_getElem? (i := 7) (a := (108, "no such being")) rfl)
    have hat : ∀ w ∈ vx_atS RX4 56 "java/lang/IndexOutOfBoundsException" ["java/lang/RuntimeException", "java/lang/Exception"], w.before _ s = true := vx_hat (B := [.castable "java/lang/IndexOutOfBoundsException" "java/lang/IndexOutOfBoundsException", decl_1, decl_2, decl_3]) (fun w h => hts w (List.mem_cons_of_mem _ (List.mem_append_right _ h))) (by decide +kernel) (vx_c (va_Nw.use rfl hXV.2.2.2.2.1) (vx_c (va_Nw.use rfl hXV.2.2.2.2.2.1) (vx_c (va_Nw.use rfl hXV.2.2.2.2.2.2.1) (vx_c (va_Nw.use rfl hXV.2.2.2.2.2.2.2.1) vx_n))))
    exact vx_throwS (own := RX4) (cls := "java/lang/IndexOutOfBoundsException") (text := "no such being") (names := ["java/lang/RuntimeException", "java/lang/Exception"]) (ik := 52) (is := 108) (ic := 56) (sa := sa) (A := A) hx hb hst hown (by decide +kernel) (by decide +kernel) (hts (.classLink RX4 52 "java/lang/IndexOutOfBoundsException") (by decide +kernel)) (hts (.initialized "java/lang/IndexOutOfBoundsException") (by decide +kernel)) hstr hat (by decide +kernel) hTX.1 hTX.2 hS (hl.1.trans hml.symm) dX4_hit_22 dX4_hit_25 dX4_hit_26 dX4_hit_28 dX4_hit_31 (fun x hx9 => (hno x hx9).elim) (Nat.le_of_ble_eq_true rfl) (Nat.le_of_ble_eq_true rfl) (Nat.le_of_ble_eq_true rfl) (Nat.le_of_ble_eq_true rfl) hlocks (thr_of (by rw [hT]; decide) (by rw [hT]; rfl) hP hK hD hS) hS.2.2 (Nat.le_of_ble_eq_true rfl) (Nat.le_of_ble_eq_true rfl)
  · refine lv_aload_n hx hb dX4_hit_11 rfl (lv_at hl 0 rfl) ?_
    refine va_get (D := D) (ci := 4) (v := .ref (a 0)) (C := RX4) (T := TX4) (N := 4) hx hb hts (by decide +kernel) hown hK hP 0 rfl rfl 0 (by decide) (hts (.fieldLink RX4 12 "Warren" "state" "LWarren$State;") (by decide +kernel)) (fun _ h9 => h9) rfl dX4_hit_12 ?_
    refine lv_iload_n hx hb dX4_hit_15 rfl (lv_at hl 2 rfl) ?_
    refine vp_callSi (va_Run.run (va_runV (As := [.int y]) (rest := []) ⟨hx, hb, hml, hown, hts⟩ (c_X2_isBeing l D cI a σ y) (cwV 1 hts gX4_hit_X2_isBeing rfl rfl rfl (by decide +kernel) ⟨Nat.le_of_ble_eq_true rfl, Nat.le_of_ble_eq_true rfl⟩) ⟨preR_blind, va_recv hK hP (ci := 2) (q0 := 1) rfl rfl, preR_of (hP.sub (ws' := sW cI a σ) [1, 2, 3, 4, 5, 6] rfl) hK hE [.ref (a 0), .int y]⟩ rfl rfl hl.1 rfl (lv_room (Nat.le_of_ble_eq_true rfl)) dX4_hit_16 ⟨Nat.zero_le _, Nat.zero_le _⟩)) (fun r hr9 => ?_)
    subst hr9
    refine w_bnz (tgt := 32) hx hb dX4_hit_19 (by decide) (fun c_19 => ?_) (fun c_19 => ?_)
    · refine lv_aload_n hx hb dX4_hit_32 rfl (lv_at hl 0 rfl) ?_
      refine va_get (D := D) (ci := 4) (v := .ref (a 0)) (C := RX4) (T := TX4) (N := 4) hx hb hts (by decide +kernel) hown hK hP 0 rfl rfl 0 (by decide) (hts (.fieldLink RX4 12 "Warren" "state" "LWarren$State;") (by decide +kernel)) (fun _ h9 => h9) rfl dX4_hit_33 ?_
      refine lv_iload_n hx hb dX4_hit_36 rfl (lv_at hl 1 rfl) ?_
      refine lv_iload_n hx hb dX4_hit_37 rfl (lv_at hl 2 rfl) ?_
      refine vp_callSi (va_Run.run (va_runV (As := [.int x, .int y]) (rest := []) ⟨hx, hb, hml, hown, hts⟩ (c_X2_hitOf l D cI a σ x y) (cwV 2 hts gX4_hit_X2_hitOf rfl rfl rfl (by decide +kernel) ⟨Nat.le_of_ble_eq_true rfl, Nat.le_of_ble_eq_true rfl⟩) ⟨preR_blind, va_recv hK hP (ci := 2) (q0 := 1) rfl rfl, preR_of (hP.sub (ws' := sW cI a σ) [1, 2, 3, 4, 5, 6] rfl) hK hE [.ref (a 0), .int x, .int y]⟩ rfl rfl hl.1 rfl (lv_room (Nat.le_of_ble_eq_true rfl)) dX4_hit_38 ⟨Nat.zero_le _, Nat.zero_le _⟩)) (fun r hr9 => ?_)
      subst hr9
      have hP9 := hP
      have hD9 := hD
      refine W.widen (k := 1) (n := 6) (Nat.le_of_ble_eq_true rfl) (Nat.le_of_ble_eq_true rfl) ?_
      refine vx_ret ?_
      exact W.iret (v := (hitF σ x y)) hx hb hr (fun T9 ht hW => ⟨⟨(hitF σ x y), σ, rfl, ⟨by first | (simp only [hitT, c_8, c_19, Bool.false_eq_true, if_false, if_true]; done) | (simp [hitT, c_8, c_19]; done), by first | rfl | (simp [c_8, c_19]; done) | (simp [c_8, c_19]; rfl), by first | rfl | (simp [c_8, c_19]; done)⟩, by rw [ht]; exact hP9, va_K.moved hW.alike hK, hD9⟩, hS.F ht⟩) hS.2.2 dX4_hit_41
    · have hT : hitT σ x y = 1 := by first | (simp only [hitT, c_8, c_19, Bool.false_eq_true, if_false, if_true]; done) | (simp [hitT, c_8, c_19]; done)
      obtain ⟨sa, hstr⟩ := hXV.2.1 _ (List.mem_of_getElem? (i := 7) (a := (108, "no such being")) rfl)
      have hat : ∀ w ∈ vx_atS RX4 56 "java/lang/IndexOutOfBoundsException" ["java/lang/RuntimeException", "java/lang/Exception"], w.before _ s = true := vx_hat (B := [.castable "java/lang/IndexOutOfBoundsException" "java/lang/IndexOutOfBoundsException", decl_1, decl_2, decl_3]) (fun w h => hts w (List.mem_cons_of_mem _ (List.mem_append_right _ h))) (by decide +kernel) (vx_c (va_Nw.use rfl hXV.2.2.2.2.1) (vx_c (va_Nw.use rfl hXV.2.2.2.2.2.1) (vx_c (va_Nw.use rfl hXV.2.2.2.2.2.2.1) (vx_c (va_Nw.use rfl hXV.2.2.2.2.2.2.2.1) vx_n))))
      exact vx_throwS (own := RX4) (cls := "java/lang/IndexOutOfBoundsException") (text := "no such being") (names := ["java/lang/RuntimeException", "java/lang/Exception"]) (ik := 52) (is := 108) (ic := 56) (sa := sa) (A := A) hx hb hst hown (by decide +kernel) (by decide +kernel) (hts (.classLink RX4 52 "java/lang/IndexOutOfBoundsException") (by decide +kernel)) (hts (.initialized "java/lang/IndexOutOfBoundsException") (by decide +kernel)) hstr hat (by decide +kernel) hTX.1 hTX.2 hS (hl.1.trans hml.symm) dX4_hit_22 dX4_hit_25 dX4_hit_26 dX4_hit_28 dX4_hit_31 (fun x hx9 => (hno x hx9).elim) (Nat.le_of_ble_eq_true rfl) (Nat.le_of_ble_eq_true rfl) (Nat.le_of_ble_eq_true rfl) (Nat.le_of_ble_eq_true rfl) hlocks (thr_of (by rw [hT]; decide) (by rw [hT]; rfl) hP hK hD hS) hS.2.2 (Nat.le_of_ble_eq_true rfl) (Nat.le_of_ble_eq_true rfl)

set_option maxHeartbeats 4000000 in
set_option maxRecDepth 100000 in
theorem c_X4_danger (l : Launch) (hst : l.stackTraces = false) (D : va_G) (cI : ClassId) (sz : Nat) (h t0 l0 m0 : Nat) (a : Nat → Nat) (σ : SS) (x y : Int32) (hn : s_n σ ≤ 10) : vx_Met l yX4_danger wsX4_danger ({ frames := 6, cells := 1, slots := 6, locals := 94 } : Room) (va_Pc [.ref h, .int x, .int y] (preX D cI (wW h (a 0) t0 l0 m0 ++ sW cI a σ) sz)) (va_Qi (fun (r : Int32) (u : SS) => knowsT x y = 0 ∧ r = watchF σ x y ∧ u = σ) (fun (u : SS) => posM D cI (va_A (wW h (a 0) t0 l0 m0 ++ sW cI a σ) sz) (wW h (a 0) t0 l0 m0 ++ sW cI a u)) (va_A (wW h (a 0) t0 l0 m0 ++ sW cI a σ) sz)) (thrX (knowsT x y) nmAI D cI (va_A (wW h (a 0) t0 l0 m0 ++ sW cI a σ) sz) (wW h (a 0) t0 l0 m0 ++ sW cI a σ)) 1 6 (va_A (wW h (a 0) t0 l0 m0 ++ sW cI a σ) sz) := by
  refine vx_ofW (cc := cX4_danger) (maxL := 3) (ret := (some .int)) (by decide) rfl ?_
  intro p e s m args below meth c s₁ B hml hno hv
  obtain ⟨rfl, hsz, hP, hK, hXV, hD0, hTX⟩ := hv
  have hE := hXV.1
  have hx := B.exec
  have hb := B.bytes
  have hr := B.returns
  have hts := atoms_spec (ws := wsX4_danger) B.pre
  have hown : s.vm.findClass RX4 = some m.cls := findClass_of_methodNamed B.named
  have hlocks := B.notSynchronized
  subst hsz
  have hD := hD0.self (sz := s.heap.size)
  generalize hAe : va_A (wW h (a 0) t0 l0 m0 ++ sW cI a σ) s.heap.size = A at hD hTX ⊢
  have hA : ∀ q : Nat, s.heap.size ≤ q → A q := fun q h => by rw [← hAe]; exact Or.inr h
  have hS : va_S A s.heap s.heap [] := va_S.rf
  have hP : va_P D vwCl (wW h (a 0) t0 l0 m0 ++ sW cI a σ) s.heap := hP
  have hl := lv_entry ([.ref h, .int x, .int y]) (n := 3) (Nat.le_of_ble_eq_true rfl)
  rw [lg_entry_eq]
  generalize (lg_sl ([.ref h, .int x, .int y]) ++ List.replicate (3 - (lg_sl ([.ref h, .int x, .int y])).length) Slot.unset).toArray = ls at hl ⊢
  have hl : lv_has ls 3 [(0, .ref h), (1, .int x), (2, .int y)] := hl
  refine lv_iload_n hx hb dX4_danger_0 rfl (lv_at hl 1 rfl) ?_
  refine vp_callSi (va_Run.run (va_runS (As := [.int x]) (rest := []) ⟨hx, hb, hml, hown, hts⟩ (c_X4_isSide l x) (va_cwS 1 hts gX4_danger_X4_isSide rfl rfl rfl (by decide +kernel) ⟨Nat.le_of_ble_eq_true rfl, Nat.le_of_ble_eq_true rfl⟩) ⟨fun _ _ _ _ q => q, fun _ _ _ => ⟨rfl, trivial⟩⟩ rfl rfl hl.1 rfl (lv_room (Nat.le_of_ble_eq_true rfl)) dX4_danger_1 ⟨Nat.zero_le _, Nat.zero_le _⟩)) (fun r hr9 => ?_)
  subst hr9
  refine w_bnz (tgt := 17) hx hb dX4_danger_4 (by decide) (fun c_4 => ?_) (fun c_4 => ?_)
  · refine lv_iload_n hx hb dX4_danger_17 rfl (lv_at hl 2 rfl) ?_
    refine vp_callSi (va_Run.run (va_runS (As := [.int y]) (rest := []) ⟨hx, hb, hml, hown, hts⟩ (c_X4_isCell l y) (va_cwS 1 hts gX4_danger_X4_isCell rfl rfl rfl (by decide +kernel) ⟨Nat.le_of_ble_eq_true rfl, Nat.le_of_ble_eq_true rfl⟩) ⟨fun _ _ _ _ q => q, fun _ _ _ => ⟨rfl, trivial⟩⟩ rfl rfl hl.1 rfl (lv_room (Nat.le_of_ble_eq_true rfl)) dX4_danger_18 ⟨Nat.zero_le _, Nat.zero_le _⟩)) (fun r hr9 => ?_)
    subst hr9
    refine w_bnz (tgt := 34) hx hb dX4_danger_21 (by decide) (fun c_21 => ?_) (fun c_21 => ?_)
    · refine lv_aload_n hx hb dX4_danger_34 rfl (lv_at hl 0 rfl) ?_
      refine va_get (D := D) (ci := 4) (v := .ref (a 0)) (C := RX4) (T := TX4) (N := 4) hx hb hts (by decide +kernel) hown hK hP 0 rfl rfl 0 (by decide) (hts (.fieldLink RX4 12 "Warren" "state" "LWarren$State;") (by decide +kernel)) (fun _ h9 => h9) rfl dX4_danger_35 ?_
      refine lv_iload_n hx hb dX4_danger_38 rfl (lv_at hl 1 rfl) ?_
      refine lv_iload_n hx hb dX4_danger_39 rfl (lv_at hl 2 rfl) ?_
      refine vp_callSi (va_Run.run (va_runV (As := [.int x, .int y]) (rest := []) ⟨hx, hb, hml, hown, hts⟩ (c_X2_watchersOf l D cI a σ x y hn) (cwV 2 hts gX4_danger_X2_watchersOf rfl rfl rfl (by decide +kernel) ⟨Nat.le_of_ble_eq_true rfl, Nat.le_of_ble_eq_true rfl⟩) ⟨preR_blind, va_recv hK hP (ci := 2) (q0 := 1) rfl rfl, preR_of (hP.sub (ws' := sW cI a σ) [1, 2, 3, 4, 5, 6] rfl) hK hE [.ref (a 0), .int x, .int y]⟩ rfl rfl hl.1 rfl (lv_room (Nat.le_of_ble_eq_true rfl)) dX4_danger_40 ⟨Nat.zero_le _, Nat.zero_le _⟩)) (fun r hr9 => ?_)
      subst hr9
      have hP9 := hP
      have hD9 := hD
      refine W.widen (k := 1) (n := 6) (Nat.le_of_ble_eq_true rfl) (Nat.le_of_ble_eq_true rfl) ?_
      refine vx_ret ?_
      exact W.iret (v := (watchF σ x y)) hx hb hr (fun T9 ht hW => ⟨⟨(watchF σ x y), σ, rfl, ⟨by first | (simp only [knowsT, c_4, c_21, Bool.false_eq_true, if_false, if_true]; done) | (simp [knowsT, c_4, c_21]; done), by first | rfl | (simp [c_4, c_21]; done) | (simp [c_4, c_21]; rfl), by first | rfl | (simp [c_4, c_21]; done)⟩, by rw [ht]; exact hP9, va_K.moved hW.alike hK, hD9⟩, hS.F ht⟩) hS.2.2 dX4_danger_43
    · have hT : knowsT x y = 2 := by first | (simp only [knowsT, c_4, c_21, Bool.false_eq_true, if_false, if_true]; done) | (simp [knowsT, c_4, c_21]; done)
      obtain ⟨sa, hstr⟩ := hXV.2.1 _ (List.mem_of_getElem? (i := 1) (a := (54, "no such cell")) rfl)
      have hat : ∀ w ∈ vx_atS RX4 56 "java/lang/IndexOutOfBoundsException" ["java/lang/RuntimeException", "java/lang/Exception"], w.before _ s = true := vx_hat (B := [.castable "java/lang/IndexOutOfBoundsException" "java/lang/IndexOutOfBoundsException", decl_1, decl_2, decl_3]) (fun w h => hts w (List.mem_cons_of_mem _ (List.mem_append_right _ h))) (by decide +kernel) (vx_c (va_Nw.use rfl hXV.2.2.2.2.1) (vx_c (va_Nw.use rfl hXV.2.2.2.2.2.1) (vx_c (va_Nw.use rfl hXV.2.2.2.2.2.2.1) (vx_c (va_Nw.use rfl hXV.2.2.2.2.2.2.2.1) vx_n))))
      exact vx_throwS (own := RX4) (cls := "java/lang/IndexOutOfBoundsException") (text := "no such cell") (names := ["java/lang/RuntimeException", "java/lang/Exception"]) (ik := 52) (is := 54) (ic := 56) (sa := sa) (A := A) hx hb hst hown (by decide +kernel) (by decide +kernel) (hts (.classLink RX4 52 "java/lang/IndexOutOfBoundsException") (by decide +kernel)) (hts (.initialized "java/lang/IndexOutOfBoundsException") (by decide +kernel)) hstr hat (by decide +kernel) hTX.1 hTX.2 hS (hl.1.trans hml.symm) dX4_danger_24 dX4_danger_27 dX4_danger_28 dX4_danger_30 dX4_danger_33 (fun x hx9 => (hno x hx9).elim) (Nat.le_of_ble_eq_true rfl) (Nat.le_of_ble_eq_true rfl) (Nat.le_of_ble_eq_true rfl) (Nat.le_of_ble_eq_true rfl) hlocks (thr_of (by rw [hT]; decide) (by rw [hT]; rfl) hP hK hD hS) hS.2.2 (Nat.le_of_ble_eq_true rfl) (Nat.le_of_ble_eq_true rfl)
  · have hT : knowsT x y = 1 := by first | (simp only [knowsT, c_4, Bool.false_eq_true, if_false, if_true]; done) | (simp [knowsT, c_4]; done)
    obtain ⟨sa, hstr⟩ := hXV.2.1 _ (List.mem_of_getElem? (i := 4) (a := (88, "no such side")) rfl)
    have hat : ∀ w ∈ vx_atS RX4 41 "java/lang/IllegalArgumentException" ["java/lang/RuntimeException", "java/lang/Exception"], w.before _ s = true := vx_hat (B := [.castable "java/lang/IllegalArgumentException" "java/lang/IllegalArgumentException", decl_1, decl_2, decl_3]) (fun w h => hts w (List.mem_cons_of_mem _ (List.mem_append_left _ (List.mem_append_right _ h)))) (by decide +kernel) (vx_c (va_Nw.use rfl hXV.2.2.1) (vx_c (va_Nw.use rfl hXV.2.2.2.2.2.1) (vx_c (va_Nw.use rfl hXV.2.2.2.2.2.2.1) (vx_c (va_Nw.use rfl hXV.2.2.2.2.2.2.2.1) vx_n))))
    exact vx_throwS (own := RX4) (cls := "java/lang/IllegalArgumentException") (text := "no such side") (names := ["java/lang/RuntimeException", "java/lang/Exception"]) (ik := 37) (is := 88) (ic := 41) (sa := sa) (A := A) hx hb hst hown (by decide +kernel) (by decide +kernel) (hts (.classLink RX4 37 "java/lang/IllegalArgumentException") (by decide +kernel)) (hts (.initialized "java/lang/IllegalArgumentException") (by decide +kernel)) hstr hat (by decide +kernel) hTX.1 hTX.2 hS (hl.1.trans hml.symm) dX4_danger_7 dX4_danger_10 dX4_danger_11 dX4_danger_13 dX4_danger_16 (fun x hx9 => (hno x hx9).elim) (Nat.le_of_ble_eq_true rfl) (Nat.le_of_ble_eq_true rfl) (Nat.le_of_ble_eq_true rfl) (Nat.le_of_ble_eq_true rfl) hlocks (thr_of (by rw [hT]; decide) (by rw [hT]; rfl) hP hK hD hS) hS.2.2 (Nat.le_of_ble_eq_true rfl) (Nat.le_of_ble_eq_true rfl)

