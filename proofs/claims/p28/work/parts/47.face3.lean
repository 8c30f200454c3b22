set_option maxHeartbeats 4000000 in
set_option maxRecDepth 100000 in
theorem c_X4_dig (l : Launch) (hst : l.stackTraces = false) (D : va_G) (cI : ClassId) (sz : Nat) (h t0 l0 m0 : Nat) (a : Nat → Nat) (σ : SS) (x y z v : Int32) : vx_Met l yX4_dig wsX4_dig ({ frames := 6, cells := 1, slots := 6, locals := 82 } : Room) (va_Pc [.ref h, .int x, .int y, .int z, .int v] (preX D cI (wW h (a 0) t0 l0 m0 ++ sW cI a σ) sz)) (va_Qi (fun (r : Int32) (u : SS) => digT x y z v = 0 ∧ r = (digA σ x y z v).2 ∧ u = (digA σ x y z v).1) (fun (u : SS) => posM D cI (va_A (wW h (a 0) t0 l0 m0 ++ sW cI a σ) sz) (wW h (a 0) t0 l0 m0 ++ sW cI a u)) (va_A (wW h (a 0) t0 l0 m0 ++ sW cI a σ) sz)) (thrX (digT x y z v) nmA D cI (va_A (wW h (a 0) t0 l0 m0 ++ sW cI a σ) sz) (wW h (a 0) t0 l0 m0 ++ sW cI a σ)) 1 6 (va_A (wW h (a 0) t0 l0 m0 ++ sW cI a σ) sz) := by
  refine vx_ofW (cc := cX4_dig) (maxL := 5) (ret := (some .int)) (by decide) rfl ?_
  intro p e s m args below meth c s₁ B hml hno hv
  obtain ⟨rfl, hsz, hP, hK, hXV, hD0, hTX⟩ := hv
  have hE := hXV.1
  have hx := B.exec
  have hb := B.bytes
  have hr := B.returns
  have hts := atoms_spec (ws := wsX4_dig) B.pre
  have hown : s.vm.findClass RX4 = some m.cls := findClass_of_methodNamed B.named
  have hlocks := B.notSynchronized
  subst hsz
  have hD := hD0.self (sz := s.heap.size)
  generalize hAe : va_A (wW h (a 0) t0 l0 m0 ++ sW cI a σ) s.heap.size = A at hD hTX ⊢
  have hA : ∀ q : Nat, s.heap.size ≤ q → A q := fun q h => by rw [← hAe]; exact Or.inr h
  have hS : va_S A s.heap s.heap [] := va_S.rf
  have hP : va_P D vwCl (wW h (a 0) t0 l0 m0 ++ sW cI a σ) s.heap := hP
  have hl := lv_entry ([.ref h, .int x, .int y, .int z, .int v]) (n := 5) (Nat.le_of_ble_eq_true rfl)
  rw [lg_entry_eq]
  generalize (lg_sl ([.ref h, .int x, .int y, .int z, .int v]) ++ List.replicate (5 - (lg_sl ([.ref h, .int x, .int y, .int z, .int v])).length) Slot.unset).toArray = ls at hl ⊢
  have hl : lv_has ls 5 [(0, .ref h), (1, .int x), (2, .int y), (3, .int z), (4, .int v)] := hl
  refine lv_iload_n hx hb dX4_dig_0 rfl (lv_at hl 1 rfl) ?_
  refine lv_iconst (v := 0) hx hb dX4_dig_1 (by decide) ?_
  refine lv_bipush (v := 15) hx hb dX4_dig_2 (by decide) ?_
  refine vp_callSi (va_Run.run (va_runS (As := [.int x, .int 0, .int 15]) (rest := []) ⟨hx, hb, hml, hown, hts⟩ (c_X4_isWithin l x 0 15) (va_cwS 3 hts gX4_dig_X4_isWithin rfl rfl rfl (by decide +kernel) ⟨Nat.le_of_ble_eq_true rfl, Nat.le_of_ble_eq_true rfl⟩) ⟨fun _ _ _ _ q => q, fun _ _ _ => ⟨rfl, trivial⟩⟩ rfl rfl hl.1 rfl (lv_room (Nat.le_of_ble_eq_true rfl)) dX4_dig_4 ⟨Nat.zero_le _, Nat.zero_le _⟩)) (fun r hr9 => ?_)
  subst hr9
  refine w_bz (tgt := 45) hx hb dX4_dig_7 (by decide) (fun c_7 => ?_) (fun c_7 => ?_)
  · have hT : digT x y z v = 1 := by first | rfl | (simp only [digT, c_7, Bool.false_eq_true, if_false, if_true]; done) | (simp [digT, c_7]; done)
    obtain ⟨sa, hstr⟩ := hXV.2.1 _ (List.mem_of_getElem? (i := 0) (a := (39, "the room is not on the map")) rfl)
    have hat : ∀ w ∈ vx_atS RX4 41 "java/lang/IllegalArgumentException" ["java/lang/RuntimeException", "java/lang/Exception"], w.before _ s = true := vx_hat (B := [.castable "java/lang/IllegalArgumentException" "java/lang/IllegalArgumentException", decl_1, decl_2, decl_3]) (fun w h => hts w (List.mem_cons_of_mem _ (List.mem_append_right _ h))) (by decide +kernel) (vx_c (va_Nw.use rfl hXV.2.2.1) (vx_c (va_Nw.use rfl hXV.2.2.2.2.2.1) (vx_c (va_Nw.use rfl hXV.2.2.2.2.2.2.1) (vx_c (va_Nw.use rfl hXV.2.2.2.2.2.2.2.1) vx_n))))
    exact vx_throwS (own := RX4) (cls := "java/lang/IllegalArgumentException") (text := "the room is not on the map") (names := ["java/lang/RuntimeException", "java/lang/Exception"]) (ik := 37) (is := 39) (ic := 41) (sa := sa) (A := A) hx hb hst hown (by decide +kernel) (by decide +kernel) (hts (.classLink RX4 37 "java/lang/IllegalArgumentException") (by decide +kernel)) (hts (.initialized "java/lang/IllegalArgumentException") (by decide +kernel)) hstr hat (by decide +kernel) hTX.1 hTX.2 hS (hl.1.trans hml.symm) dX4_dig_45 dX4_dig_48 dX4_dig_49 dX4_dig_51 dX4_dig_54 (fun x hx9 => (hno x hx9).elim) (Nat.le_of_ble_eq_true rfl) (Nat.le_of_ble_eq_true rfl) (Nat.le_of_ble_eq_true rfl) (Nat.le_of_ble_eq_true rfl) hlocks (thr_of (by rw [hT]; decide) (by rw [hT]; rfl) hP hK hD hS) hS.2.2 (Nat.le_of_ble_eq_true rfl) (Nat.le_of_ble_eq_true rfl)
  · refine lv_iload_n hx hb dX4_dig_10 rfl (lv_at hl 2 rfl) ?_
    refine lv_iconst (v := 0) hx hb dX4_dig_11 (by decide) ?_
    refine lv_bipush (v := 9) hx hb dX4_dig_12 (by decide) ?_
    refine vp_callSi (va_Run.run (va_runS (As := [.int y, .int 0, .int 9]) (rest := []) ⟨hx, hb, hml, hown, hts⟩ (c_X4_isWithin l y 0 9) (va_cwS 3 hts gX4_dig_X4_isWithin rfl rfl rfl (by decide +kernel) ⟨Nat.le_of_ble_eq_true rfl, Nat.le_of_ble_eq_true rfl⟩) ⟨fun _ _ _ _ q => q, fun _ _ _ => ⟨rfl, trivial⟩⟩ rfl rfl hl.1 rfl (lv_room (Nat.le_of_ble_eq_true rfl)) dX4_dig_14 ⟨Nat.zero_le _, Nat.zero_le _⟩)) (fun r hr9 => ?_)
    subst hr9
    refine w_bz (tgt := 45) hx hb dX4_dig_17 (by decide) (fun c_17 => ?_) (fun c_17 => ?_)
    · have hT : digT x y z v = 1 := by first | rfl | (simp only [digT, c_7, c_17, Bool.false_eq_true, if_false, if_true]; done) | (simp [digT, c_7, c_17]; done)
      obtain ⟨sa, hstr⟩ := hXV.2.1 _ (List.mem_of_getElem? (i := 0) (a := (39, "the room is not on the map")) rfl)
      have hat : ∀ w ∈ vx_atS RX4 41 "java/lang/IllegalArgumentException" ["java/lang/RuntimeException", "java/lang/Exception"], w.before _ s = true := vx_hat (B := [.castable "java/lang/IllegalArgumentException" "java/lang/IllegalArgumentException", decl_1, decl_2, decl_3]) (fun w h => hts w (List.mem_cons_of_mem _ (List.mem_append_right _ h))) (by decide +kernel) (vx_c (va_Nw.use rfl hXV.2.2.1) (vx_c (va_Nw.use rfl hXV.2.2.2.2.2.1) (vx_c (va_Nw.use rfl hXV.2.2.2.2.2.2.1) (vx_c (va_Nw.use rfl hXV.2.2.2.2.2.2.2.1) vx_n))))
      exact vx_throwS (own := RX4) (cls := "java/lang/IllegalArgumentException") (text := "the room is not on the map") (names := ["java/lang/RuntimeException", "java/lang/Exception"]) (ik := 37) (is := 39) (ic := 41) (sa := sa) (A := A) hx hb hst hown (by decide +kernel) (by decide +kernel) (hts (.classLink RX4 37 "java/lang/IllegalArgumentException") (by decide +kernel)) (hts (.initialized "java/lang/IllegalArgumentException") (by decide +kernel)) hstr hat (by decide +kernel) hTX.1 hTX.2 hS (hl.1.trans hml.symm) dX4_dig_45 dX4_dig_48 dX4_dig_49 dX4_dig_51 dX4_dig_54 (fun x hx9 => (hno x hx9).elim) (Nat.le_of_ble_eq_true rfl) (Nat.le_of_ble_eq_true rfl) (Nat.le_of_ble_eq_true rfl) (Nat.le_of_ble_eq_true rfl) hlocks (thr_of (by rw [hT]; decide) (by rw [hT]; rfl) hP hK hD hS) hS.2.2 (Nat.le_of_ble_eq_true rfl) (Nat.le_of_ble_eq_true rfl)
    · refine lv_iload_n hx hb dX4_dig_20 rfl (lv_at hl 3 rfl) ?_
      refine lv_iconst (v := 1) hx hb dX4_dig_21 (by decide) ?_
      refine lv_bipush (v := 16) hx hb dX4_dig_22 (by decide) ?_
      refine lv_iload_n hx hb dX4_dig_24 rfl (lv_at hl 1 rfl) ?_
      refine lv_isub hx hb dX4_dig_25 ?_
      refine vp_callSi (va_Run.run (va_runS (As := [.int z, .int 1, .int (16 - x)]) (rest := []) ⟨hx, hb, hml, hown, hts⟩ (c_X4_isWithin l z 1 (16 - x)) (va_cwS 3 hts gX4_dig_X4_isWithin rfl rfl rfl (by decide +kernel) ⟨Nat.le_of_ble_eq_true rfl, Nat.le_of_ble_eq_true rfl⟩) ⟨fun _ _ _ _ q => q, fun _ _ _ => ⟨rfl, trivial⟩⟩ rfl rfl hl.1 rfl (lv_room (Nat.le_of_ble_eq_true rfl)) dX4_dig_26 ⟨Nat.zero_le _, Nat.zero_le _⟩)) (fun r hr9 => ?_)
      subst hr9
      refine w_bz (tgt := 45) hx hb dX4_dig_29 (by decide) (fun c_29 => ?_) (fun c_29 => ?_)
      · have hT : digT x y z v = 1 := by first | rfl | (simp only [digT, c_7, c_17, c_29, Bool.false_eq_true, if_false, if_true]; done) | (simp [digT, c_7, c_17, c_29]; done)
        obtain ⟨sa, hstr⟩ := hXV.2.1 _ (List.mem_of_getElem? (i := 0) (a := (39, "the room is not on the map")) rfl)
        have hat : ∀ w ∈ vx_atS RX4 41 "java/lang/IllegalArgumentException" ["java/lang/RuntimeException", "java/lang/Exception"], w.before _ s = true := vx_hat (B := [.castable "java/lang/IllegalArgumentException" "java/lang/IllegalArgumentException", decl_1, decl_2, decl_3]) (fun w h => hts w (List.mem_cons_of_mem _ (List.mem_append_right _ h))) (by decide +kernel) (vx_c (va_Nw.use rfl hXV.2.2.1) (vx_c (va_Nw.use rfl hXV.2.2.2.2.2.1) (vx_c (va_Nw.use rfl hXV.2.2.2.2.2.2.1) (vx_c (va_Nw.use rfl hXV.2.2.2.2.2.2.2.1) vx_n))))
        exact vx_throwS (own := RX4) (cls := "java/lang/IllegalArgumentException") (text := "the room is not on the map") (names := ["java/lang/RuntimeException", "java/lang/Exception"]) (ik := 37) (is := 39) (ic := 41) (sa := sa) (A := A) hx hb hst hown (by decide +kernel) (by decide +kernel) (hts (.classLink RX4 37 "java/lang/IllegalArgumentException") (by decide +kernel)) (hts (.initialized "java/lang/IllegalArgumentException") (by decide +kernel)) hstr hat (by decide +kernel) hTX.1 hTX.2 hS (hl.1.trans hml.symm) dX4_dig_45 dX4_dig_48 dX4_dig_49 dX4_dig_51 dX4_dig_54 (fun x hx9 => (hno x hx9).elim) (Nat.le_of_ble_eq_true rfl) (Nat.le_of_ble_eq_true rfl) (Nat.le_of_ble_eq_true rfl) (Nat.le_of_ble_eq_true rfl) hlocks (thr_of (by rw [hT]; decide) (by rw [hT]; rfl) hP hK hD hS) hS.2.2 (Nat.le_of_ble_eq_true rfl) (Nat.le_of_ble_eq_true rfl)
      · refine lv_iload hx hb dX4_dig_32 (lv_at hl 4 rfl) ?_
        refine lv_iconst (v := 1) hx hb dX4_dig_34 (by decide) ?_
        refine lv_bipush (v := 10) hx hb dX4_dig_35 (by decide) ?_
        refine lv_iload_n hx hb dX4_dig_37 rfl (lv_at hl 2 rfl) ?_
        refine lv_isub hx hb dX4_dig_38 ?_
        refine vp_callSi (va_Run.run (va_runS (As := [.int v, .int 1, .int (10 - y)]) (rest := []) ⟨hx, hb, hml, hown, hts⟩ (c_X4_isWithin l v 1 (10 - y)) (va_cwS 3 hts gX4_dig_X4_isWithin rfl rfl rfl (by decide +kernel) ⟨Nat.le_of_ble_eq_true rfl, Nat.le_of_ble_eq_true rfl⟩) ⟨fun _ _ _ _ q => q, fun _ _ _ => ⟨rfl, trivial⟩⟩ rfl rfl hl.1 rfl (lv_room (Nat.le_of_ble_eq_true rfl)) dX4_dig_39 ⟨Nat.zero_le _, Nat.zero_le _⟩)) (fun r hr9 => ?_)
        subst hr9
        refine w_bnz (tgt := 55) hx hb dX4_dig_42 (by decide) (fun c_42 => ?_) (fun c_42 => ?_)
        · obtain ⟨X, Y, W9, Hh, rfl, rfl, rfl, rfl, hxw, hyh, -⟩ := dig_args c_7 c_17 c_29 c_42
          refine lv_aload_n hx hb dX4_dig_55 rfl (lv_at hl 0 rfl) ?_
          refine va_get (D := D) (ci := 4) (v := .ref (a 0)) (C := RX4) (T := TX4) (N := 4) hx hb hts (by decide +kernel) hown hK hP 0 rfl rfl 0 (by decide) (hts (.fieldLink RX4 12 "Warren" "state" "LWarren$State;") (by decide +kernel)) (fun _ h9 => h9) rfl dX4_dig_56 ?_
          refine lv_iload_n hx hb dX4_dig_59 rfl (lv_at hl 1 rfl) ?_
          refine lv_iload_n hx hb dX4_dig_60 rfl (lv_at hl 2 rfl) ?_
          refine lv_iload_n hx hb dX4_dig_61 rfl (lv_at hl 3 rfl) ?_
          refine lv_iload hx hb dX4_dig_62 (lv_at hl 4 rfl) ?_
          have hFc := va_free (wc := sW cI a σ) hD hS hA [1, 2, 3, 4, 5, 6] rfl
          refine va_calli (va_runV (As := [.int (nI X), .int (nI Y), .int (nI W9), .int (nI Hh)]) (rest := []) ⟨hx, hb, hml, hown, hts⟩ (c_X2_digRoom l D cI _ a σ X Y W9 Hh hxw hyh) (cwV 4 hts gX4_dig_X2_digRoom rfl rfl rfl (by decide +kernel) ⟨Nat.le_of_ble_eq_true rfl, Nat.le_of_ble_eq_true rfl⟩) ⟨preM_blind, va_recv hK hP (ci := 2) (q0 := 1) rfl rfl, preM_of (hP.sub (ws' := sW cI a σ) [1, 2, 3, 4, 5, 6] rfl) hK hE (hD.sub (ws' := sW cI a σ) [1, 2, 3, 4, 5, 6] (by decide) rfl) [.ref (a 0), .int (nI X), .int (nI Y), .int (nI W9), .int (nI Hh)]⟩ rfl rfl hl.1 rfl (lv_room (Nat.le_of_ble_eq_true rfl)) dX4_dig_64 ⟨Nat.le_of_ble_eq_true rfl, Nat.le_of_ble_eq_true rfl⟩) hS (fun q _ h => hFc q h) hFc (fun r u t9 H1 locs ht hvm hw hB hz1 hk1 hS => ?_)
          obtain ⟨hP1, hK1, hD1⟩ := hB
          rw [ht] at hP1
          obtain ⟨rfl, rfl⟩ := hw
          obtain ⟨hP, hD⟩ := va_join (wr := wW h (a 0) t0 l0 m0) (w1 := sW cI a ((digF σ X Y W9 Hh).1)) hP hD [1, 2, 3, 4, 5, 6] [0] rfl rfl (by decide) (by decide) hk1 hFc hP1 hD1
          generalize H1 = H at hP hS ⊢
          have hP : va_P D vwCl (wW h (a 0) t0 l0 m0 ++ sW cI a ((digF σ X Y W9 Hh).1)) H := hP
          have hD : va_D A (wW h (a 0) t0 l0 m0 ++ sW cI a ((digF σ X Y W9 Hh).1)) := hD
          have hP9 := hP
          have hD9 := hD
          refine W.widen (k := 1) (n := 6) (Nat.le_of_ble_eq_true rfl) (Nat.le_of_ble_eq_true rfl) ?_
          refine vx_ret ?_
          exact W.iret (v := (digF σ X Y W9 Hh).2) hx hb hr (fun T9 ht hW => ⟨⟨(digF σ X Y W9 Hh).2, (digF σ X Y W9 Hh).1, rfl, ⟨by first | rfl | (simp only [digT, c_7, c_17, c_29, c_42, Bool.false_eq_true, if_false, if_true]; done) | (simp [digT, c_7, c_17, c_29, c_42]; done), by rw [digA_n σ hxw hyh], by rw [digA_n σ hxw hyh]⟩, by rw [ht]; exact hP9, va_K.moved hW.alike hK, hD9⟩, hS.F ht⟩) hS.2.2 dX4_dig_67
        · have hT : digT x y z v = 1 := by first | rfl | (simp only [digT, c_7, c_17, c_29, c_42, Bool.false_eq_true, if_false, if_true]; done) | (simp [digT, c_7, c_17, c_29, c_42]; done)
          obtain ⟨sa, hstr⟩ := hXV.2.1 _ (List.mem_of_getElem? (i := 0) (a := (39, "the room is not on the map")) rfl)
          have hat : ∀ w ∈ vx_atS RX4 41 "java/lang/IllegalArgumentException" ["java/lang/RuntimeException", "java/lang/Exception"], w.before _ s = true := vx_hat (B := [.castable "java/lang/IllegalArgumentException" "java/lang/IllegalArgumentException", decl_1, decl_2, decl_3]) (fun w h => hts w (List.mem_cons_of_mem _ (List.mem_append_right _ h))) (by decide +kernel) (vx_c (va_Nw.use rfl hXV.2.2.1) (vx_c (va_Nw.use rfl hXV.2.2.2.2.2.1) (vx_c (va_Nw.use rfl hXV.2.2.2.2.2.2.1) (vx_c (va_Nw.use rfl hXV.2.2.2.2.2.2.2.1) vx_n))))
          exact vx_throwS (own := RX4) (cls := "java/lang/IllegalArgumentException") (text := "the room is not on the map") (names := ["java/lang/RuntimeException", "java/lang/Exception"]) (ik := 37) (is := 39) (ic := 41) (sa := sa) (A := A) hx hb hst hown (by decide +kernel) (by decide +kernel) (hts (.classLink RX4 37 "java/lang/IllegalArgumentException") (by decide +kernel)) (hts (.initialized "java/lang/IllegalArgumentException") (by decide +kernel)) hstr hat (by decide +kernel) hTX.1 hTX.2 hS (hl.1.trans hml.symm) dX4_dig_45 dX4_dig_48 dX4_dig_49 dX4_dig_51 dX4_dig_54 (fun x hx9 => (hno x hx9).elim) (Nat.le_of_ble_eq_true rfl) (Nat.le_of_ble_eq_true rfl) (Nat.le_of_ble_eq_true rfl) (Nat.le_of_ble_eq_true rfl) hlocks (thr_of (by rw [hT]; decide) (by rw [hT]; rfl) hP hK hD hS) hS.2.2 (Nat.le_of_ble_eq_true rfl) (Nat.le_of_ble_eq_true rfl)
set_option maxHeartbeats 4000000 in
set_option maxRecDepth 100000 in
theorem c_X4_many (l : Launch) (hst : l.stackTraces = false) (D : va_G) (cI : ClassId) (sz : Nat) (h t0 l0 m0 : Nat) (a : Nat → Nat) (σ : SS) (mc : Int32) (e0 g : Nat) (x : Int32) (hn : s_n σ ≤ 10) : vx_Met l yX4_many wsX4_many ({ frames := 6, cells := 1, slots := 6, locals := 88 } : Room) (va_Pc [.ref h, .int x] (preX D cI (wW h (a 0) t0 l0 m0 ++ sW cI a σ ++ wL l0 mc e0 g) sz)) (va_Qi (fun (r : Int32) (u : SS) => manyT x = 0 ∧ r = countF σ g x ∧ u = σ) (fun (u : SS) => posM D cI (va_A (wW h (a 0) t0 l0 m0 ++ sW cI a σ ++ wL l0 mc e0 g) sz) (wW h (a 0) t0 l0 m0 ++ sW cI a u ++ wL l0 mc e0 g)) (va_A (wW h (a 0) t0 l0 m0 ++ sW cI a σ ++ wL l0 mc e0 g) sz)) (thrX (manyT x) nmA D cI (va_A (wW h (a 0) t0 l0 m0 ++ sW cI a σ ++ wL l0 mc e0 g) sz) (wW h (a 0) t0 l0 m0 ++ sW cI a σ ++ wL l0 mc e0 g)) 1 6 (va_A (wW h (a 0) t0 l0 m0 ++ sW cI a σ ++ wL l0 mc e0 g) sz) := by
  refine vx_ofW (cc := cX4_many) (maxL := 2) (ret := (some .int)) (by decide) rfl ?_
  intro p e s m args below meth c s₁ B hml hno hv
  obtain ⟨rfl, hsz, hP, hK, hXV, hD0, hTX⟩ := hv
  have hE := hXV.1
  have hx := B.exec
  have hb := B.bytes
  have hr := B.returns
  have hts := atoms_spec (ws := wsX4_many) B.pre
  have hown : s.vm.findClass RX4 = some m.cls := findClass_of_methodNamed B.named
  have hlocks := B.notSynchronized
  subst hsz
  have hD := hD0.self (sz := s.heap.size)
  generalize hAe : va_A (wW h (a 0) t0 l0 m0 ++ sW cI a σ ++ wL l0 mc e0 g) s.heap.size = A at hD hTX ⊢
  have hA : ∀ q : Nat, s.heap.size ≤ q → A q := fun q h => by rw [← hAe]; exact Or.inr h
  have hS : va_S A s.heap s.heap [] := va_S.rf
  have hP : va_P D vwCl (wW h (a 0) t0 l0 m0 ++ sW cI a σ ++ wL l0 mc e0 g) s.heap := hP
  have hl := lv_entry ([.ref h, .int x]) (n := 2) (Nat.le_of_ble_eq_true rfl)
  rw [lg_entry_eq]
  generalize (lg_sl ([.ref h, .int x]) ++ List.replicate (2 - (lg_sl ([.ref h, .int x])).length) Slot.unset).toArray = ls at hl ⊢
  have hl : lv_has ls 2 [(0, .ref h), (1, .int x)] := hl
  refine lv_iload_n hx hb dX4_many_0 rfl (lv_at hl 1 rfl) ?_
  refine lv_iconst (v := 0) hx hb dX4_many_1 (by decide) ?_
  refine lv_bipush (v := 8) hx hb dX4_many_2 (by decide) ?_
  refine vp_callSi (va_Run.run (va_runS (As := [.int x, .int 0, .int 8]) (rest := []) ⟨hx, hb, hml, hown, hts⟩ (c_X4_isWithin l x 0 8) (va_cwS 3 hts gX4_many_X4_isWithin rfl rfl rfl (by decide +kernel) ⟨Nat.le_of_ble_eq_true rfl, Nat.le_of_ble_eq_true rfl⟩) ⟨fun _ _ _ _ q => q, fun _ _ _ => ⟨rfl, trivial⟩⟩ rfl rfl hl.1 rfl (lv_room (Nat.le_of_ble_eq_true rfl)) dX4_many_4 ⟨Nat.zero_le _, Nat.zero_le _⟩)) (fun r hr9 => ?_)
  subst hr9
  refine w_bnz (tgt := 20) hx hb dX4_many_7 (by decide) (fun c_7 => ?_) (fun c_7 => ?_)
  · obtain ⟨j, hj, rfl⟩ := within_0 (n := 8) (by decide) c_7
    refine lv_aload_n hx hb dX4_many_20 rfl (lv_at hl 0 rfl) ?_
    refine lv_iload_n hx hb dX4_many_21 rfl (lv_at hl 1 rfl) ?_
    refine vp_callSi (va_Run.run (va_runV (As := [.int (nI j)]) (rest := []) ⟨hx, hb, hml, hown, hts⟩ (c_X4_countOf l D cI h t0 l0 m0 a σ mc e0 g j hn hj) (cwV 1 hts gX4_many_X4_countOf rfl rfl rfl (by decide +kernel) ⟨Nat.le_of_ble_eq_true rfl, Nat.le_of_ble_eq_true rfl⟩) ⟨preF_blind, va_recv hK hP (ci := 4) (q0 := 0) rfl rfl, preF_of hP hK hE hXV.2.2.2.2.2.2.2.2 [.ref h, .int (nI j)]⟩ rfl rfl hl.1 rfl (lv_room (Nat.le_of_ble_eq_true rfl)) dX4_many_22 ⟨Nat.zero_le _, Nat.zero_le _⟩)) (fun r hr9 => ?_)
    subst hr9
    have hP9 := hP
    have hD9 := hD
    refine W.widen (k := 1) (n := 6) (Nat.le_of_ble_eq_true rfl) (Nat.le_of_ble_eq_true rfl) ?_
    refine vx_ret ?_
    exact W.iret (v := (countF σ g (nI j))) hx hb hr (fun T9 ht hW => ⟨⟨(countF σ g (nI j)), σ, rfl, ⟨by first | rfl | (simp only [manyT, c_7, Bool.false_eq_true, if_false, if_true]; done) | (simp [manyT, c_7]; done), rfl, rfl⟩, by rw [ht]; exact hP9, va_K.moved hW.alike hK, hD9⟩, hS.F ht⟩) hS.2.2 dX4_many_25
  · have hT : manyT x = 1 := by first | rfl | (simp only [manyT, c_7, Bool.false_eq_true, if_false, if_true]; done) | (simp [manyT, c_7]; done)
    obtain ⟨sa, hstr⟩ := hXV.2.1 _ (List.mem_of_getElem? (i := 13) (a := (144, "no such thing to count")) rfl)
    have hat : ∀ w ∈ vx_atS RX4 41 "java/lang/IllegalArgumentException" ["java/lang/RuntimeException", "java/lang/Exception"], w.before _ s = true := vx_hat (B := [.castable "java/lang/IllegalArgumentException" "java/lang/IllegalArgumentException", decl_1, decl_2, decl_3]) (fun w h => hts w (List.mem_cons_of_mem _ (List.mem_append_right _ h))) (by decide +kernel) (vx_c (va_Nw.use rfl hXV.2.2.1) (vx_c (va_Nw.use rfl hXV.2.2.2.2.2.1) (vx_c (va_Nw.use rfl hXV.2.2.2.2.2.2.1) (vx_c (va_Nw.use rfl hXV.2.2.2.2.2.2.2.1) vx_n))))
    exact vx_throwS (own := RX4) (cls := "java/lang/IllegalArgumentException") (text := "no such thing to count") (names := ["java/lang/RuntimeException", "java/lang/Exception"]) (ik := 37) (is := 144) (ic := 41) (sa := sa) (A := A) hx hb hst hown (by decide +kernel) (by decide +kernel) (hts (.classLink RX4 37 "java/lang/IllegalArgumentException") (by decide +kernel)) (hts (.initialized "java/lang/IllegalArgumentException") (by decide +kernel)) hstr hat (by decide +kernel) hTX.1 hTX.2 hS (hl.1.trans hml.symm) dX4_many_10 dX4_many_13 dX4_many_14 dX4_many_16 dX4_many_19 (fun x hx9 => (hno x hx9).elim) (Nat.le_of_ble_eq_true rfl) (Nat.le_of_ble_eq_true rfl) (Nat.le_of_ble_eq_true rfl) (Nat.le_of_ble_eq_true rfl) hlocks (thr_of (by rw [hT]; decide) (by rw [hT]; rfl) hP hK hD hS) hS.2.2 (Nat.le_of_ble_eq_true rfl) (Nat.le_of_ble_eq_true rfl)
