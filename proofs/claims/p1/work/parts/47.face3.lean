set_option maxHeartbeats 4000000 in
set_option maxRecDepth 100000 in
theorem c_X4_dig (l : Launch) (hst : l.stackTraces = false) (D : va_G) (cI : ClassId) (sz : Nat) (h t0 l0 m0 : Nat) (a : Nat → Nat) (σ : SS) (x y z v : Int32) : vx_Met l yX4_dig wsX4_dig ({ frames := 6, cells := 1, slots := 6, locals := 82 } : Room) (va_Pc [.ref h, .int x, .int y, .int z, .int v] (preX D cI (wW h (a 0) t0 l0 m0 ++ sW cI a σ) sz)) (va_Qi (fun (r : Int32) (u : SS) => digT x y z v = 0 ∧ r = (digA σ x y z v).2 ∧ u = (digA σ x y z v).1) (fun (u : SS) => posM D cI (va_A (wW h (a 0) t0 l0 m0 ++ sW cI a σ) sz) (wW h (a 0) t0 l0 m0 ++ sW cI a u)) (va_A (wW h (a 0) t0 l0 m0 ++ sW cI a σ) sz)) (thrX (digT x y z v) nmA D cI (va_A (wW h (a 0) t0 l0 m0 ++ sW cI a σ) sz) (wW h (a 0) t0 l0 m0 ++ sW cI a σ)) 1 6 (va_A (wW h (a 0) t0 l0 m0 ++ sW cI a σ) sz) := by
  refine vx_ofW (cc := cX4_dig) (maxL := 5) (ret := (some .int)) (by decide) rfl ?_
  intro p e s m args below meth c s₁ B hml hno hv
  obtain ⟨rfl, hsz, hP, hK, hXV, hD0, hTX⟩ := hv
  have hE := hXV.1
  have hx := B.exec
  have hb := B.bytes
  have hr := B.returns
  have hts := atoms_spec (ws := wsX4_dig) B.pre
  have hown : s.vm.findClass RX4 = some m.cls := findClass_of_methodNamed B.named
  have hlocks := B.notSynchronized
  subst hsz
  have hD := hD0.self (sz := s.heap.size)
  generalize hAe : va_A (wW h (a 0) t0 l0 m0 ++ sW cI a σ) s.heap.size = A at hD hTX ⊢
  have hA : ∀ q : Nat, s.heap.size ≤ q → A q := fun q h => by rw [← hAe]; exact Or.inr h
  have hS : va_S A s.heap s.heap [] := va_S.rf
  have hP : va_P D vwCl (wW h (a 0) t0 l0 m0 ++ sW cI a σ) s.heap := hP
  have hl := lv_entry ([.ref h, .int x, .int y, .int z, .int v]) (n := 5) (Nat.le_of_ble_eq_true rfl)
  rw [lg_entry_eq]
  generalize (lg_sl ([.ref h, .int x, .int y, .int z, .int v]) ++ List.replicate (5 - (lg_sl ([.ref h, .int x, .int y, .int z, .int v])).length) Slot.unset).toArray = ls at hl ⊢
  have hl : lv_has ls 5 [(0, .ref h), (1, .int x), (2, .int y), (3, .int z), (4, .int v)] := hl
  refine lv_iload_n hx hb dX4_dig_0 rfl (lv_at hl 1 rfl) ?_
  refine lv_iconst (v := 0) hx hb dX4_dig_1 (by decide) ?_
  refine lv_bipush (v := 15) hx hb dX4_dig_2 (by decide) ?_
  refine vp_callSi (va_Run.run (va_runS (As := [.int x, .int 0, .int 15]) (rest := []) ⟨hx, hb, hml, hown, hts⟩ (c_X4_isWithin l x 0 15) (va_cwS 3 hts gX4_dig_X4_isWithin rfl rfl rfl (by decide +kernel) ⟨Nat.le_of_ble_eq_true rfl, Nat.le_of_ble_eq_true rfl⟩) ⟨fun _ _ _ _ q => q, fun _ _ _ => ⟨rfl, trivial⟩⟩ rfl rfl hl.1 rfl (lv_room (Nat.le_of_ble_eq_true rfl)) dX4_dig_4 ⟨Nat.zero_le _, Nat.zero_le _⟩)) (fun r hr9 => ?_)
  subst hr9
  refine w_bz (tgt := 45) hx hb dX4_dig_7 (by decide) (fun c_7 => ?_) (fun c_7 => ?_)
  · have hT : digT x y z v = 1 := by first | rfl | (simp only [digT, c_7, Bool.false_eq_true, if_false, if_true]; done) | (simp [digT, c_7]; done)
    obtain ⟨sa, hstr⟩ := hXV.2.1 _ (List.mem_of_getElem? (i := 0) (a := (39, "the room is not on the map")) rfl)
    have hat : ∀ w ∈ vx_atS RX4 41 "java/lang/IllegalArgumentException" ["java/lang/RuntimeException", "java/lang/Exception"], w.before _ s = true := vx_hat (B := [.castable "java/lang/IllegalArgumentException" "java/lang/IllegalArgumentException", decl_1, decl_2, decl_3]) (fun w h => hts w (List.mem_cons_of_mem _ (List.mem_append_right _ h))) (by decide +kernel) (vx_c (va_Nw.use rfl hXV.2.2.1) (vx_c (va_Nw.use rfl hXV.2.2.2.2.2.1) (vx_c (va_Nw.use rfl hXV.2.2.2.2.2.2.1) (vx_c (va_Nw.use rfl hXV.2.2.2.2.2.2.2.1) vx_n))))
    exact vx_throwS (own := RX4) (cls := "java/lang/IllegalArgumentException") (text := "the room is not on the map") (names := ["java/lang/RuntimeException", "java/lang/Exception"]) (ik := 37) (is := 39) (ic := 41) (sa := sa) (A := A) hx hb hst hown (by decide +kernel) (by decide +kernel) (hts (.classLink RX4 37 "java/lang/IllegalArgumentException") (by decide +kernel)) (hts (.initialized "java/lang/IllegalArgumentException") (by decide +kernel)) hstr hat (by decide +kernel) hTX.1 hTX.2 hS (hl.1.trans hml.symm) dX4_dig_45 dX4_dig_48 dX4_dig_49 dX4_dig_51 dX4_dig_54 (fun x hx9 => (hno x hx9).elim) (Nat.le_of_ble_eq_true rfl) (Nat.le_of_ble_eq_true rfl) (Nat.le_of_ble_eq_true rfl) (Nat.le_of_ble_eq_true rfl) hlocks (thr_of (by rw [hT]; decide) (by rw [hT]; rfl) hP hK hD hS) hS.2.2 (Nat.le_of_ble_eq_true rfl) (Nat.le_of_ble_eq_true rfl)
  · refine lv_iload_n hx hb dX4_dig_10 rfl (lv_at hl 2 rfl) ?_
    refine lv_iconst (v := 0) hx hb dX4_dig_11 (by decide) ?_
    refine lv_bipush (v := 9) hx hb dX4_dig_12 (by decide) ?_
    refine vp_callSi (va_Run.run (va_runS (As := [.int y, .int 0, .int 9]) (rest := []) ⟨hx, hb, hml, hown, hts⟩ (c_X4_isWithin l y 0 9) (va_cwS 3 hts gX4_dig_X4_isWithin rfl rfl rfl (by decide +kernel) ⟨Nat.le_of_ble_eq_true rfl, Nat.le_of_ble_eq_true rfl⟩) ⟨fun _ _ _ _ q => q, fun _ _ _ => ⟨rfl, trivial⟩⟩ rfl rfl hl.1 rfl (lv_room (Nat.le_of_ble_eq_true rfl)) dX4_dig_14 ⟨Nat.zero_le _, Nat.zero_le _⟩)) (fun r hr9 => ?_)
    subst hr9
    refine w_bz (tgt := 45) hx hb dX4_dig_17 (by decide) (fun c_17 => ?_) (fun c_17 => ?_)
    · have hT : digT x y z v = 1 := by first | rfl | (simp only [digT, c_7, c_17, Bool.false_eq_true, if_false, if_true]; done) | (simp [digT, c_7, c_17]; done)
      obtain ⟨sa, hstr⟩ := hXV.2.1 _ (List.mem_of_getElem? (i := 0) (a := (39, "the room is not on the map")) rfl)
      have hat : ∀ w ∈ vx_atS RX4 41 "java/lang/IllegalArgumentException" ["java/lang/RuntimeException", "java/lang/Exception"], w.before _ s = true := vx_hat (B := [.castable "java/lang/IllegalArgumentException" "java/lang/IllegalArgumentException", decl_1, decl_2, decl_3]) (fun w h => hts w (List.mem_cons_of_mem _ (List.mem_append_right _ h))) (by decide +kernel) (vx_c (va_Nw.use rfl hXV.2.2.1) (vx_c (va_Nw.use rfl hXV.2.2.2.2.2.1) (vx_c (va_Nw.use rfl hXV.2.2.2.2.2.2.1) (vx_c (va_Nw.use rfl hXV.2.2.2.2.2.2.2.1) vx_n))))
      exact vx_throwS (own := RX4) (cls := "java/lang/IllegalArgumentException") (text := "the room is not on the map") (names := ["java/lang/RuntimeException", "java/lang/Exception"]) (ik := 37) (is := 39) (ic := 41) (sa := sa) (A := A) hx hb hst hown (by decide +kernel) (by decide +kernel) (hts (.classLink RX4 37 "java/lang/IllegalArgumentException") (by decide +kernel)) (hts (.initialized "java/lang/IllegalArgumentException") (by decide +kernel)) hstr hat (by decide +kernel) hTX.1 hTX.2 hS (hl.1.trans hml.symm) dX4_dig_45 dX4_dig_48 dX4_dig_49 dX4_dig_51 dX4_dig_54 (fun x hx9 => (hno x hx9).elim) (Nat.le_of_ble_eq_true rfl) (Nat.le_of_ble_eq_true rfl) (Nat.le_of_ble_eq_true rfl) (Nat.le_of_ble_eq_true rfl) hlocks (thr_of (by rw [hT]; decide) (by rw [hT]; rfl) hP hK hD hS) hS.2.2 (Nat.le_of_ble_eq_true rfl) (Nat.le_of_ble_eq_true rfl)
    · refine lv_iload_n hx hb dX4_dig_20 rfl (lv_at hl 3 rfl) ?_
      refine lv_iconst (v := 1) hx hb dX4_dig_21 (by decide) ?_
      refine lv_bipush (v := 16) hx hb dX4_dig_22 (by decide) ?_
      refine lv_iload_n hx hb dX4_dig_24 rfl (lv_at hl 1 rfl) ?_
      refine lv_isub hx hb dX4_dig_25 ?_
      refine vp_callSi (va_Run.run (va_runS (As := [.int z, .int 1, .int (16 - x)]) (rest := []) ⟨hx, hb, hml, hown, hts⟩ (c_X4_isWithin l z 1 (16 - x)) (va_cwS 3 hts gX4_dig_X4_isWithin rfl rfl rfl (by decide +kernel) ⟨Nat.le_of_ble_eq_true rfl, Nat.le_of_ble_eq_true rfl⟩) ⟨fun _ _ _ _ q => q, fun _ _ _ => ⟨rfl, trivial⟩⟩ rfl rfl hl.1 rfl (lv_room (Nat.le_of_ble_eq_true rfl)) dX4_dig_26 ⟨Nat.zero_le _, Nat.zero_le _⟩)) (fun r hr9 => ?_)
      subst hr9
      refine w_bz (tgt := 45) hx hb dX4_dig_29 (by decide) (fun c_29 => ?_) (fun c_29 => ?_)
      · have hT : digT x y z v = 1 := by first | rfl | (simp only [digT, c_7, c_17, c_29, Bool.false_eq_true, if_false, if_true]; done) | (simp [digT, c_7, c_17, c_29]; done)
        obtain ⟨sa, hstr⟩ := hXV.2.1 _ (List.mem_of_getElem? (i := 0) (a := (39, "the room is not on the map")) rfl)
        have hat : ∀ w ∈ vx_atS RX4 41 "java/lang/IllegalArgumentException" ["java/lang/RuntimeException", "java/lang/Exception"], w.before _ s = true := vx_hat (B := [.castable "java/lang/IllegalArgumentException" "java/lang/IllegalArgumentException", decl_1, decl_2, decl_3]) (fun w h => hts w (List.mem_cons_of_mem _ (List.mem_append_right _ h))) (by decide +kernel) (vx_c (va_Nw.use rfl hXV.2.2.1) (vx_c (va_Nw.use rfl hXV.2.2.2.2.2.1) (vx_c (va_Nw.use rfl hXV.2.2.2.2.2.2.1) (vx_c (va_Nw.use rfl hXV.2.2.2.2.2.2.2.1) vx_n))))
        exact vx_throwS (own := RX4) (cls := "java/lang/IllegalArgumentException") (text := "the room is not on the map") (names := ["java/lang/RuntimeException", "java/lang/Exception"]) (ik := 37) (is := 39) (ic := 41) (sa := sa) (A := A) hx hb hst hown (by decide +kernel) (by decide +kernel) (hts (.classLink RX4 37 "java/lang/IllegalArgumentException") (by decide +kernel)) (hts (.initialized "java/lang/IllegalArgumentException") (by decide +kernel)) hstr hat (by decide +kernel) hTX.1 hTX.2 hS (hl.1.trans hml.symm) dX4_dig_45 dX4_dig_48 dX4_dig_49 dX4_dig_51 dX4_dig_54 (fun x hx9 => (hno x hx9).elim) (Nat.le_of_ble_eq_true rfl) (Nat.le_of_ble_eq_true rfl) (Nat.le_of_ble_eq_true rfl) (Nat.le_of_ble_eq_true rfl) hlocks (thr_of (by rw [hT]; decide) (by rw [hT]; rfl) hP hK hD hS) hS.2.2 (Nat.le_of_ble_eq_true rfl) (Nat.le_of_ble_eq_true rfl)
      · refine lv_iload hx hb dX4_dig_32 (lv_at hl 4 rfl) ?_
        refine lv_iconst (v := 1) hx hb dX4_dig_34 (by decide) ?_
        refine lv_bipush (v := 10) hx hb dX4_dig_35 (by decide) ?_
        refine lv_iload_n hx hb dX4_dig_37 rfl (lv_at hl 2 rfl) ?_
        refine lv_isub hx hb dX4_dig_38 ?_
        refine vp_callSi (va_Run.run (va_runS (As := [.int v, .int 1, .int (10 - y)]) (rest := []) ⟨hx, hb, hml, hown, hts⟩ (c_X4_isWithin l v 1 (10 - y)) (va_cwS 3 hts gX4_dig_X4_isWithin rfl rfl rfl (by decide +kernel) ⟨Nat.le_of_ble_eq_true rfl, Nat.le_of_ble_eq_true rfl⟩) ⟨fun _ _ _ _ q => q, fun _ _ _ => ⟨rfl, trivial⟩⟩ rfl rfl hl.1 rfl (lv_room (Nat.le_of_ble_eq_true rfl)) dX4_dig_39 ⟨Nat.zero_le _, Nat.zero_le _⟩)) (fun r hr9 => ?_)
        subst hr9
        refine w_bnz (tgt := 55) hx hb dX4_dig_42 (by decide) (fun c_42 => ?_) (fun c_42 => ?_)
        · obtain ⟨X, Y, W9, Hh, rfl, rfl, rfl, rfl, hxw, hyh, -⟩ := dig_args c_7 c_17 c_29 c_42
          refine lv_aload_n hx hb dX4_dig_55 rfl (lv_at hl 0 rfl) ?_
          refine va_get (D := D) (ci := 4) (v := .ref (a 0)) (C := RX4) (T := TX4) (N := 4) hx hb hts (by decide +kernel) hown hK hP 0 rfl rfl 0 (by decide) (hts (.fieldLink RX4 12 "Warren" "state" "LWarren$State;") (by decide +kernel)) (fun _ h9 => h9) rfl dX4_dig_56 ?_
          refine lv_iload_n hx hb dX4_dig_59 rfl (lv_at hl 1 rfl) ?_
          refine lv_iload_n hx hb dX4_dig_60 rfl (lv_at hl 2 rfl) ?_
          refine lv_iload_n hx hb dX4_dig_61 rfl (lv_at hl 3 rfl) ?_
          refine lv_iload hx hb dX4_dig_62 (lv_at hl 4 rfl) ?_
          have hFc := va_free (wc := sW cI a σ) hD hS hA [1, 2, 3, 4, 5, 6] rfl
          refine va_calli (va_runV (As := [.int (nI X), .int (nI Y), .int (nI W9), .int (nI Hh)]) (rest := []) ⟨hx, hb, hml, hown, hts⟩ (c_X2_digRoom l D cI _ a σ X Y W9 Hh hxw hyh) (cwV 4 hts gX4_dig_X2_digRoom rfl rfl rfl (by decide +kernel) ⟨Nat.le_of_ble_eq_true rfl, Nat.le_of_ble_eq_true rfl⟩) ⟨preM_blind, va_recv hK hP (ci := 2) (q0 := 1) rfl rfl, preM_of (hP.sub (ws' := sW cI a σ) [1, 2, 3, 4, 5, 6] rfl) hK hE (hD.sub (ws' := sW cI a σ) [1, 2, 3, 4, 5, 6] (by decide) rfl) [.ref (a 0), .int (nI X), .int (nI Y), .int (nI W9), .int (nI Hh)]⟩ rfl rfl hl.1 rfl (lv_room (Nat.le_of_ble_eq_true rfl)) dX4_dig_64 ⟨Nat.le_of_ble_eq_true rfl, Nat.le_of_ble_eq_true rfl⟩) hS (fun q _ h => hFc q h) hFc (fun r u t9 H1 locs ht hvm hw hB hz1 hk1 hS => ?_)
          obtain ⟨hP1, hK1, hD1⟩ := hB
          rw [ht] at hP1
          obtain ⟨rfl, rfl⟩ := hw
          obtain ⟨hP, hD⟩ := va_join (wr := wW h (a 0) t0 l0 m0) (w1 := sW cI a ((digF σ X Y W9 Hh).1)) hP hD [1, 2, 3, 4, 5, 6] [0] rfl rfl (by decide) (by decide) hk1 hFc hP1 hD1
          generalize H1 = H at hP hS ⊢
          have hP : va_P D vwCl (wW h (a 0) t0 l0 m0 ++ sW cI a ((digF σ X Y W9 Hh).1)) H := hP
          have hD : va_D A (wW h (a 0) t0 l0 m0 ++ sW cI a ((digF σ X Y W9 Hh).1)) := hD
          have hP9 := hP
          have hD9 := hD
          refine W.widen (k := 1) (n := 6) (Nat.le_of_ble_eq_true rfl) (Nat.le_of_ble_eq_true rfl) ?_
          refine vx_ret ?_
          exact W.iret (v := (digF σ X Y W9 Hh).2) hx hb hr (fun T9 ht hW => ⟨⟨(digF σ X Y W9 Hh).2, (digF σ X Y W9 Hh).1, rfl, ⟨by first | rfl | (simp only [digT, c_7, c_17, c_29, c_42, Bool.false_eq_true, if_false, if_true]; done) | (simp [digT, c_7, c_17, c_29, c_42]; done), by rw [digA_n σ hxw hyh], by rw [digA_n σ hxw hyh]⟩, by rw [ht]; exact hP9, va_K.moved hW.alike hK, hD9⟩, hS.F ht⟩) hS.2.2 dX4_dig_67
        · have hT : digT x y z v = 1 := by first | rfl | (simp only [digT, c_7, c_17, c_29, c_42, Bool.false_eq_true, if_false, if_true]; done) | (simp [digT, c_7, c_17, c_29, c_42]; done)
          obtain ⟨sa, hstr⟩ := hXV.2.1 _ (List.mem_of_getElem? (i := 0) (a := (39, "the room is not on the map")) rfl)
          have hat : ∀ w ∈ vx_atS RX4 41 "java/lang/IllegalArgumentException" ["java/lang/RuntimeException", "java/lang/Exception"], w.before _ s = true := vx_hat (B := [.castable "java/lang/IllegalArgumentException" "java/lang/IllegalArgumentException", decl_1, decl_2, decl_3]) (fun w h => hts w (List.mem_cons_of_mem _ (List.mem_append_right _ h))) (by decide +kernel) (vx_c (va_Nw.use rfl hXV.2.2.1) (vx_c (va_Nw.use rfl hXV.2.2.2.2.2.1) (vx_c (va_Nw.use rfl hXV.2.2.2.2.2.2.1) (vx_c (va_Nw.use rfl hXV.2.2.2.2.2.2.2.1) vx_n))))
          exact vx_throwS (own := RX4) (cls := "java/lang/IllegalArgumentException") (text := "the room is not on the map") (names := ["java/lang/RuntimeException", "java/lang/Exception"]) (ik := 37) (is := 39) (ic := 41) (sa := sa) (A := A) hx hb hst hown (by decide +kernel) (by decide +kernel) (hts (.classLink RX4 37 "java/lang/IllegalArgumentException") (by decide +kernel)) (hts (.initialized "java/lang/IllegalArgumentException") (by decide +kernel)) hstr hat (by decide +kernel) hTX.1 hTX.2 hS (hl.1.trans hml.symm) dX4_dig_45 dX4_dig_48 dX4_dig_49 dX4_dig_51 dX4_dig_54 (fun x hx9 => (hno x hx9).elim) (Nat.le_of_ble_eq_true rfl) (Nat.le_of_ble_eq_true rfl) (Nat.le_of_ble_eq_true rfl) (Nat.le_of_ble_eq_true rfl) hlocks (thr_of (by rw [hT]; decide) (by rw [hT]; rfl) hP hK hD hS) hS.2.2 (Nat.le_of_ble_eq_true rfl) (Nat.le_of_ble_eq_true rfl)

set_option maxHeartbeats 4000000 in
set_option maxRecDepth 100000 in
theorem c_X4_many (l : Launch) (hst : l.stackTraces = false) (D : va_G) (cI : ClassId) (sz : Nat) (h t0 l0 m0 : Nat) (a : Nat → Nat) (σ : SS) (mc : Int32) (e0 g : Nat) (x : Int32) (hn : s_n σ ≤ 10) : vx_Met l yX4_many wsX4_many ({ frames := 6, cells := 1, slots := 6, locals := 88 } : Room) (va_Pc [.ref h, .int x] (preX D cI (wW h (a 0) t0 l0 m0 ++ sW cI a σ ++ wL l0 mc e0 g) sz)) (va_Qi (fun (r : Int32) (u : SS) => manyT x = 0 ∧ r = countF σ g x ∧ u = σ) (fun (u : SS) => posM D cI (va_A (wW h (a 0) t0 l0 m0 ++ sW cI a σ ++ wL l0 mc e0 g) sz) (wW h (a 0) t0 l0 m0 ++ sW cI a u ++ wL l0 mc e0 g)) (va_A (wW h (a 0) t0 l0 m0 ++ sW cI a σ ++ wL l0 mc e0 g) sz)) (thrX (manyT x) nmA D cI (va_A (wW h (a 0) t0 l0 m0 ++ sW cI a σ ++ wL l0 mc e0 g) sz) (wW h (a 0) t0 l0 m0 ++ sW cI a σ ++ wL l0 mc e0 g)) 1 6 (va_A (wW h (a 0) t0 l0 m0 ++ sW cI a σ ++ wL l0 mc e0 g) sz) := by
  refine vx_ofW (cc := cX4_many) (maxL := 2) (ret := (some .int)) (by decide) rfl ?_
  intro p e s m args below meth c s₁ B hml hno hv
  obtain ⟨rfl, hsz, hP, hK, hXV, hD0, hTX⟩ := hv
  have hE := hXV.1
  have hx := B.exec
  have hb := B.bytes
  have hr := B.returns
  have hts := atoms_spec (ws := wsX4_many) B.pre
  have hown : s.vm.findClass RX4 = some m.cls := findClass_of_methodNamed B.named
  have hlocks := B.notSynchronized
  subst hsz
  have hD := hD0.self (sz := s.heap.size)
  generalize hAe : va_A (wW h (a 0) t0 l0 m0 ++ sW cI a σ ++ wL l0 mc e0 g) s.heap.size = A at hD hTX ⊢
  have hA : ∀ q : Nat, s.heap.size ≤ q → A q := fun q h => by rw [← hAe]; exact Or.inr h
  have hS : va_S A s.heap s.heap [] := va_S.rf
  have hP : va_P D vwCl (wW h (a 0) t0 l0 m0 ++ sW cI a σ ++ wL l0 mc e0 g) s.heap := hP
  have hl := lv_entry ([.ref h, .int x]) (n := 2) (Nat.le_of_ble_eq_true rfl)
  rw [lg_entry_eq]
  generalize (lg_sl ([.ref h, .int x]) ++ List.replicate (2 - (lg_sl ([.ref h, .int x])).length) Slot.unset).toArray = ls at hl ⊢
  have hl : lv_has ls 2 [(0, .ref h), (1, .int x)] := hl
  refine lv_iload_n hx hb dX4_many_0 rfl (lv_at hl 1 rfl) ?_
  refine lv_iconst (v := 0) hx hb dX4_many_1 (by decide) ?_
  refine lv_bipush (v := 8) hx hb dX4_many_2 (by decide) ?_
  refine vp_callSi (va_Run.run (va_runS (As := [.int x, .int 0, .int 8]) (rest := []) ⟨hx, hb, hml, hown, hts⟩ (c_X4_isWithin l x 0 8) (va_cwS 3 hts gX4_many_X4_isWithin rfl rfl rfl (by decide +kernel) ⟨Nat.le_of_ble_eq_true rfl, Nat.le_of_ble_eq_true rfl⟩) ⟨fun _ _ _ _ q => q, fun _ _ _ => ⟨rfl, trivial⟩⟩ rfl rfl hl.1 rfl (lv_room (Nat.le_of_ble_eq_true rfl)) dX4_many_4 ⟨Nat.zero_le _, Nat.zero_le _⟩)) (fun r hr9 => ?_)
  subst hr9
  refine w_bnz (tgt := 20) hx hb dX4_many_7 (by decide) (fun c_7 => ?_) (fun c_7 => ?_)
  · obtain ⟨j, hj, rfl⟩ := within_0 (n := 8) (by decide) c_7
    refine lv_aload_n hx hb dX4_many_20 rfl (lv_at hl 0 rfl) ?_
    refine lv_iload_n hx hb dX4_many_21 rfl (lv_at hl 1 rfl) ?_
    refine vp_callSi (va_Run.run (va_runV (As := [.int (nI j)]) (rest := []) ⟨hx, hb, hml, hown, hts⟩ (c_X4_countOf l D cI h t0 l0 m0 a σ mc e0 g j hn hj) (cwV 1 hts gX4_many_X4_countOf rfl rfl rfl (by decide +kernel) ⟨Nat.le_of_ble_eq_true rfl, Nat.le_of_ble_eq_true rfl⟩) ⟨preF_blind, va_recv hK hP (ci := 4) (q0 := 0) rfl rfl, preF_of hP hK hE hXV.2.2.2.2.2.2.2.2 [.ref h, .int (nI j)]⟩ rfl rfl hl.1 rfl (lv_room (Nat.le_of_ble_eq_true rfl)) dX4_many_22 ⟨Nat.zero_le _, Nat.zero_le _⟩)) (fun r hr9 => ?_)
    subst hr9
    have hP9 := hP
    have hD9 := hD
    refine W.widen (k := 1) (n := 6) (Nat.le_of_ble_eq_true rfl) (Nat.le_of_ble_eq_true rfl) ?_
    refine vx_ret ?_
    exact W.iret (v := (countF σ g (nI j))) hx hb hr (fun T9 ht hW => ⟨⟨(countF σ g (nI j)), σ, rfl, ⟨by first | rfl | (simp only [manyT, c_7, Bool.false_eq_true, if_false, if_true]; done) | (simp [manyT, c_7]; done), rfl, rfl⟩, by rw [ht]; exact hP9, va_K.moved hW.alike hK, hD9⟩, hS.F ht⟩) hS.2.2 dX4_many_25
  · have hT : manyT x = 1 := by first | rfl | (simp only [manyT, c_7, Bool.false_eq_true, if_false, if_true]; done) | (simp [manyT, c_7]; done)
    obtain ⟨sa, hstr⟩ := hXV.2.1 _ (List.mem_of_getElem? (i := 13) (a := (144, "no such thing to count")) rfl)
    have hat : ∀ w ∈ vx_atS RX4 41 "java/lang/IllegalArgumentException" ["java/lang/RuntimeException", "java/lang/Exception"], w.before _ s = true := vx_hat (B := [.castable "java/lang/IllegalArgumentException" "java/lang/IllegalArgumentException", decl_1, decl_2, decl_3]) (fun w h => hts w (List.mem_cons_of_mem _ (List.mem_append_right _ h))) (by decide +kernel) (vx_c (va_Nw.use rfl hXV.2.2.1) (vx_c (va_Nw.use rfl hXV.2.2.2.2.2.1) (vx_c (va_Nw.use rfl hXV.2.2.2.2.2.2.1) (vx_c (va_Nw.use rfl hXV.2.2.2.2.2.2.2.1) vx_n))))
    exact vx_throwS (own := RX4) (cls := "java/lang/IllegalArgumentException") (text := "no such thing to count") (names := ["java/lang/RuntimeException", "java/lang/Exception"]) (ik := 37) (is := 144) (ic := 41) (sa := sa) (A := A) hx hb hst hown (by decide +kernel) (by decide +kernel) (hts (.classLink RX4 37 "java/lang/IllegalArgumentException") (by decide +kernel)) (hts (.initialized "java/lang/IllegalArgumentException") (by decide +kernel)) hstr hat (by decide +kernel) hTX.1 hTX.2 hS (hl.1.trans hml.symm) dX4_many_10 dX4_many_13 dX4_many_14 dX4_many_16 dX4_many_19 (fun x hx9 => (hno x hx9).elim) (Nat.le_of_ble_eq_true rfl) (Nat.le_of_ble_eq_true rfl) (Nat.le_of_ble_eq_true rfl) (Nat.le_of_ble_eq_true rfl) hlocks (thr_of (by rw [hT]; decide) (by rw [hT]; rfl) hP hK hD hS) hS.2.2 (Nat.le_of_ble_eq_true rfl) (Nat.le_of_ble_eq_true rfl)

set_option maxHeartbeats 4000000 in
set_option maxRecDepth 100000 in
theorem c_X4_way_0 (l : Launch) (hst : l.stackTraces = false) (D : va_G) (cI : ClassId) (sz : Nat) (h t0 l0 m0 : Nat) (a : Nat → Nat) (σ : SS) (x y : Int32) (h0 : s_n σ = 0) : vx_Met l yX4_way wsX4_way ({ frames := 6, cells := 1, slots := 6, locals := 82 } : Room) (va_Pc [.ref h, .int x, .int y] (preX D cI (wW h (a 0) t0 l0 m0 ++ sW cI a σ) sz)) (va_Qi (fun (r : Int32) (u : SS) => False ∧ r = 0 ∧ u = σ) (fun (u : SS) => posM D cI (va_A (wW h (a 0) t0 l0 m0 ++ sW cI a σ) sz) (wW h (a 0) t0 l0 m0 ++ sW cI a u)) (va_A (wW h (a 0) t0 l0 m0 ++ sW cI a σ) sz)) (thrX (1) nmI D cI (va_A (wW h (a 0) t0 l0 m0 ++ sW cI a σ) sz) (wW h (a 0) t0 l0 m0 ++ sW cI a σ)) 1 6 (va_A (wW h (a 0) t0 l0 m0 ++ sW cI a σ) sz) := by
  refine vx_ofW (cc := cX4_way) (maxL := 3) (ret := (some .int)) (by decide) rfl ?_
  intro p e s m args below meth c s₁ B hml hno hv
  obtain ⟨rfl, hsz, hP, hK, hXV, hD0, hTX⟩ := hv
  have hE := hXV.1
  have hx := B.exec
  have hb := B.bytes
  have hr := B.returns
  have hts := atoms_spec (ws := wsX4_way) B.pre
  have hown : s.vm.findClass RX4 = some m.cls := findClass_of_methodNamed B.named
  have hlocks := B.notSynchronized
  subst hsz
  have hD := hD0.self (sz := s.heap.size)
  generalize hAe : va_A (wW h (a 0) t0 l0 m0 ++ sW cI a σ) s.heap.size = A at hD hTX ⊢
  have hA : ∀ q : Nat, s.heap.size ≤ q → A q := fun q h => by rw [← hAe]; exact Or.inr h
  have hS : va_S A s.heap s.heap [] := va_S.rf
  have hP : va_P D vwCl (wW h (a 0) t0 l0 m0 ++ sW cI a σ) s.heap := hP
  have hl := lv_entry ([.ref h, .int x, .int y]) (n := 3) (Nat.le_of_ble_eq_true rfl)
  rw [lg_entry_eq]
  generalize (lg_sl ([.ref h, .int x, .int y]) ++ List.replicate (3 - (lg_sl ([.ref h, .int x, .int y])).length) Slot.unset).toArray = ls at hl ⊢
  have hl : lv_has ls 3 [(0, .ref h), (1, .int x), (2, .int y)] := hl
  refine lv_aload_n hx hb dX4_way_0 rfl (lv_at hl 0 rfl) ?_
  refine va_get (D := D) (ci := 4) (v := .ref (a 0)) (C := RX4) (T := TX4) (N := 4) hx hb hts (by decide +kernel) hown hK hP 0 rfl rfl 0 (by decide) (hts (.fieldLink RX4 12 "Warren" "state" "LWarren$State;") (by decide +kernel)) (fun _ h9 => h9) rfl dX4_way_1 ?_
  refine lv_iload_n hx hb dX4_way_4 rfl (lv_at hl 1 rfl) ?_
  refine vp_callSi (va_Run.run (va_runV (As := [.int x]) (rest := []) ⟨hx, hb, hml, hown, hts⟩ (c_X2_isBeing l D cI a σ x) (cwV 1 hts gX4_way_X2_isBeing rfl rfl rfl (by decide +kernel) ⟨Nat.le_of_ble_eq_true rfl, Nat.le_of_ble_eq_true rfl⟩) ⟨preR_blind, va_recv hK hP (ci := 2) (q0 := 1) rfl rfl, preR_of (hP.sub (ws' := sW cI a σ) [1, 2, 3, 4, 5, 6] rfl) hK hE [.ref (a 0), .int x]⟩ rfl rfl hl.1 rfl (lv_room (Nat.le_of_ble_eq_true rfl)) dX4_way_5 ⟨Nat.zero_le _, Nat.zero_le _⟩)) (fun r hr9 => ?_)
  subst hr9
  refine w_bz (tgt := 18) hx hb dX4_way_8 (by decide) (fun c_8 => ?_) (fun c_8 => absurd c_8 ((by rw [being_0 h0]; decide)))
  have hT : 1 = 1 := by first | rfl | (simp only [c_8, Bool.false_eq_true, if_false, if_true]; done) | (simp [c_8]; done)
  obtain ⟨sa, hstr⟩ := hXV.2.1 _ (List.mem_of_getElem? (i := 17) (a := (175, "no such being or cell")) rfl)
  have hat : ∀ w ∈ vx_atS RX4 56 "java/lang/IndexOutOfBoundsException" ["java/lang/RuntimeException", "java/lang/Exception"], w.before _ s = true := vx_hat (B := [.castable "java/lang/IndexOutOfBoundsException" "java/lang/IndexOutOfBoundsException", decl_1, decl_2, decl_3]) (fun w h => hts w (List.mem_cons_of_mem _ (List.mem_append_right _ h))) (by decide +kernel) (vx_c (va_Nw.use rfl hXV.2.2.2.2.1) (vx_c (va_Nw.use rfl hXV.2.2.2.2.2.1) (vx_c (va_Nw.use rfl hXV.2.2.2.2.2.2.1) (vx_c (va_Nw.use rfl hXV.2.2.2.2.2.2.2.1) vx_n))))
  exact vx_throwS (own := RX4) (cls := "java/lang/IndexOutOfBoundsException") (text := "no such being or cell") (names := ["java/lang/RuntimeException", "java/lang/Exception"]) (ik := 52) (is := 175) (ic := 56) (sa := sa) (A := A) hx hb hst hown (by decide +kernel) (by decide +kernel) (hts (.classLink RX4 52 "java/lang/IndexOutOfBoundsException") (by decide +kernel)) (hts (.initialized "java/lang/IndexOutOfBoundsException") (by decide +kernel)) hstr hat (by decide +kernel) hTX.1 hTX.2 hS (hl.1.trans hml.symm) dX4_way_18 dX4_way_21 dX4_way_22 dX4_way_24 dX4_way_27 (fun x hx9 => (hno x hx9).elim) (Nat.le_of_ble_eq_true rfl) (Nat.le_of_ble_eq_true rfl) (Nat.le_of_ble_eq_true rfl) (Nat.le_of_ble_eq_true rfl) hlocks (thr_of (by rw [hT]; decide) (by rw [hT]; rfl) hP hK hD hS) hS.2.2 (Nat.le_of_ble_eq_true rfl) (Nat.le_of_ble_eq_true rfl)

set_option maxHeartbeats 4000000 in
set_option maxRecDepth 100000 in
theorem c_X4_worth_0 (l : Launch) (hst : l.stackTraces = false) (D : va_G) (cI : ClassId) (sz : Nat) (h t0 l0 m0 : Nat) (a : Nat → Nat) (σ : SS) (x y : Int32) (h0 : s_n σ = 0) : vx_Met l yX4_worth wsX4_worth ({ frames := 6, cells := 1, slots := 6, locals := 82 } : Room) (va_Pc [.ref h, .int x, .int y] (preX D cI (wW h (a 0) t0 l0 m0 ++ sW cI a σ) sz)) (va_Qi (fun (r : Int32) (u : SS) => False ∧ r = 0 ∧ u = σ) (fun (u : SS) => posM D cI (va_A (wW h (a 0) t0 l0 m0 ++ sW cI a σ) sz) (wW h (a 0) t0 l0 m0 ++ sW cI a u)) (va_A (wW h (a 0) t0 l0 m0 ++ sW cI a σ) sz)) (thrX (1) nmIA D cI (va_A (wW h (a 0) t0 l0 m0 ++ sW cI a σ) sz) (wW h (a 0) t0 l0 m0 ++ sW cI a σ)) 1 6 (va_A (wW h (a 0) t0 l0 m0 ++ sW cI a σ) sz) := by
  refine vx_ofW (cc := cX4_worth) (maxL := 3) (ret := (some .int)) (by decide) rfl ?_
  intro p e s m args below meth c s₁ B hml hno hv
  obtain ⟨rfl, hsz, hP, hK, hXV, hD0, hTX⟩ := hv
  have hE := hXV.1
  have hx := B.exec
  have hb := B.bytes
  have hr := B.returns
  have hts := atoms_spec (ws := wsX4_worth) B.pre
  have hown : s.vm.findClass RX4 = some m.cls := findClass_of_methodNamed B.named
  have hlocks := B.notSynchronized
  subst hsz
  have hD := hD0.self (sz := s.heap.size)
  generalize hAe : va_A (wW h (a 0) t0 l0 m0 ++ sW cI a σ) s.heap.size = A at hD hTX ⊢
  have hA : ∀ q : Nat, s.heap.size ≤ q → A q := fun q h => by rw [← hAe]; exact Or.inr h
  have hS : va_S A s.heap s.heap [] := va_S.rf
  have hP : va_P D vwCl (wW h (a 0) t0 l0 m0 ++ sW cI a σ) s.heap := hP
  have hl := lv_entry ([.ref h, .int x, .int y]) (n := 3) (Nat.le_of_ble_eq_true rfl)
  rw [lg_entry_eq]
  generalize (lg_sl ([.ref h, .int x, .int y]) ++ List.replicate (3 - (lg_sl ([.ref h, .int x, .int y])).length) Slot.unset).toArray = ls at hl ⊢
  have hl : lv_has ls 3 [(0, .ref h), (1, .int x), (2, .int y)] := hl
  refine lv_aload_n hx hb dX4_worth_0 rfl (lv_at hl 0 rfl) ?_
  refine va_get (D := D) (ci := 4) (v := .ref (a 0)) (C := RX4) (T := TX4) (N := 4) hx hb hts (by decide +kernel) hown hK hP 0 rfl rfl 0 (by decide) (hts (.fieldLink RX4 12 "Warren" "state" "LWarren$State;") (by decide +kernel)) (fun _ h9 => h9) rfl dX4_worth_1 ?_
  refine lv_iload_n hx hb dX4_worth_4 rfl (lv_at hl 1 rfl) ?_
  refine vp_callSi (va_Run.run (va_runV (As := [.int x]) (rest := []) ⟨hx, hb, hml, hown, hts⟩ (c_X2_isBeing l D cI a σ x) (cwV 1 hts gX4_worth_X2_isBeing rfl rfl rfl (by decide +kernel) ⟨Nat.le_of_ble_eq_true rfl, Nat.le_of_ble_eq_true rfl⟩) ⟨preR_blind, va_recv hK hP (ci := 2) (q0 := 1) rfl rfl, preR_of (hP.sub (ws' := sW cI a σ) [1, 2, 3, 4, 5, 6] rfl) hK hE [.ref (a 0), .int x]⟩ rfl rfl hl.1 rfl (lv_room (Nat.le_of_ble_eq_true rfl)) dX4_worth_5 ⟨Nat.zero_le _, Nat.zero_le _⟩)) (fun r hr9 => ?_)
  subst hr9
  refine w_bnz (tgt := 21) hx hb dX4_worth_8 (by decide) (fun c_8 => absurd c_8 ((by rw [being_0 h0]; decide))) (fun c_8 => ?_)
  have hT : 1 = 1 := by first | rfl | (simp only [c_8, Bool.false_eq_true, if_false, if_true]; done) | (simp [c_8]; done)
  obtain ⟨sa, hstr⟩ := hXV.2.1 _ (List.mem_of_getElem? (i := 7) (a := (108, "no such being")) rfl)
  have hat : ∀ w ∈ vx_atS RX4 56 "java/lang/IndexOutOfBoundsException" ["java/lang/RuntimeException", "java/lang/Exception"], w.before _ s = true := vx_hat (B := [.castable "java/lang/IndexOutOfBoundsException" "java/lang/IndexOutOfBoundsException", decl_1, decl_2, decl_3]) (fun w h => hts w (List.mem_cons_of_mem _ (List.mem_append_left _ (List.mem_append_right _ h)))) (by decide +kernel) (vx_c (va_Nw.use rfl hXV.2.2.2.2.1) (vx_c (va_Nw.use rfl hXV.2.2.2.2.2.1) (vx_c (va_Nw.use rfl hXV.2.2.2.2.2.2.1) (vx_c (va_Nw.use rfl hXV.2.2.2.2.2.2.2.1) vx_n))))
  exact vx_throwS (own := RX4) (cls := "java/lang/IndexOutOfBoundsException") (text := "no such being") (names := ["java/lang/RuntimeException", "java/lang/Exception"]) (ik := 52) (is := 108) (ic := 56) (sa := sa) (A := A) hx hb hst hown (by decide +kernel) (by decide +kernel) (hts (.classLink RX4 52 "java/lang/IndexOutOfBoundsException") (by decide +kernel)) (hts (.initialized "java/lang/IndexOutOfBoundsException") (by decide +kernel)) hstr hat (by decide +kernel) hTX.1 hTX.2 hS (hl.1.trans hml.symm) dX4_worth_11 dX4_worth_14 dX4_worth_15 dX4_worth_17 dX4_worth_20 (fun x hx9 => (hno x hx9).elim) (Nat.le_of_ble_eq_true rfl) (Nat.le_of_ble_eq_true rfl) (Nat.le_of_ble_eq_true rfl) (Nat.le_of_ble_eq_true rfl) hlocks (thr_of (by rw [hT]; decide) (by rw [hT]; rfl) hP hK hD hS) hS.2.2 (Nat.le_of_ble_eq_true rfl) (Nat.le_of_ble_eq_true rfl)

set_option maxHeartbeats 4000000 in
set_option maxRecDepth 100000 in
theorem c_X4_plan_0 (l : Launch) (hst : l.stackTraces = false) (D : va_G) (cI : ClassId) (sz : Nat) (h t0 l0 m0 : Nat) (a : Nat → Nat) (σ : SS) (x : Int32) (h0 : s_n σ = 0) : vx_Met l yX4_plan wsX4_plan ({ frames := 6, cells := 1, slots := 6, locals := 82 } : Room) (va_Pc [.ref h, .int x] (preX D cI (wW h (a 0) t0 l0 m0 ++ sW cI a σ) sz)) (va_Qi (fun (r : Int32) (u : SS) => False ∧ r = 0 ∧ u = σ) (fun (u : SS) => posM D cI (va_A (wW h (a 0) t0 l0 m0 ++ sW cI a σ) sz) (wW h (a 0) t0 l0 m0 ++ sW cI a u)) (va_A (wW h (a 0) t0 l0 m0 ++ sW cI a σ) sz)) (thrX (1) nmI D cI (va_A (wW h (a 0) t0 l0 m0 ++ sW cI a σ) sz) (wW h (a 0) t0 l0 m0 ++ sW cI a σ)) 1 6 (va_A (wW h (a 0) t0 l0 m0 ++ sW cI a σ) sz) := by
  refine vx_ofW (cc := cX4_plan) (maxL := 2) (ret := (some .int)) (by decide) rfl ?_
  intro p e s m args below meth c s₁ B hml hno hv
  obtain ⟨rfl, hsz, hP, hK, hXV, hD0, hTX⟩ := hv
  have hE := hXV.1
  have hx := B.exec
  have hb := B.bytes
  have hr := B.returns
  have hts := atoms_spec (ws := wsX4_plan) B.pre
  have hown : s.vm.findClass RX4 = some m.cls := findClass_of_methodNamed B.named
  have hlocks := B.notSynchronized
  subst hsz
  have hD := hD0.self (sz := s.heap.size)
  generalize hAe : va_A (wW h (a 0) t0 l0 m0 ++ sW cI a σ) s.heap.size = A at hD hTX ⊢
  have hA : ∀ q : Nat, s.heap.size ≤ q → A q := fun q h => by rw [← hAe]; exact Or.inr h
  have hS : va_S A s.heap s.heap [] := va_S.rf
  have hP : va_P D vwCl (wW h (a 0) t0 l0 m0 ++ sW cI a σ) s.heap := hP
  have hl := lv_entry ([.ref h, .int x]) (n := 2) (Nat.le_of_ble_eq_true rfl)
  rw [lg_entry_eq]
  generalize (lg_sl ([.ref h, .int x]) ++ List.replicate (2 - (lg_sl ([.ref h, .int x])).length) Slot.unset).toArray = ls at hl ⊢
  have hl : lv_has ls 2 [(0, .ref h), (1, .int x)] := hl
  refine lv_aload_n hx hb dX4_plan_0 rfl (lv_at hl 0 rfl) ?_
  refine va_get (D := D) (ci := 4) (v := .ref (a 0)) (C := RX4) (T := TX4) (N := 4) hx hb hts (by decide +kernel) hown hK hP 0 rfl rfl 0 (by decide) (hts (.fieldLink RX4 12 "Warren" "state" "LWarren$State;") (by decide +kernel)) (fun _ h9 => h9) rfl dX4_plan_1 ?_
  refine lv_iload_n hx hb dX4_plan_4 rfl (lv_at hl 1 rfl) ?_
  refine vp_callSi (va_Run.run (va_runV (As := [.int x]) (rest := []) ⟨hx, hb, hml, hown, hts⟩ (c_X2_isBeing l D cI a σ x) (cwV 1 hts gX4_plan_X2_isBeing rfl rfl rfl (by decide +kernel) ⟨Nat.le_of_ble_eq_true rfl, Nat.le_of_ble_eq_true rfl⟩) ⟨preR_blind, va_recv hK hP (ci := 2) (q0 := 1) rfl rfl, preR_of (hP.sub (ws' := sW cI a σ) [1, 2, 3, 4, 5, 6] rfl) hK hE [.ref (a 0), .int x]⟩ rfl rfl hl.1 rfl (lv_room (Nat.le_of_ble_eq_true rfl)) dX4_plan_5 ⟨Nat.zero_le _, Nat.zero_le _⟩)) (fun r hr9 => ?_)
  subst hr9
  refine w_bnz (tgt := 21) hx hb dX4_plan_8 (by decide) (fun c_8 => absurd c_8 ((by rw [being_0 h0]; decide))) (fun c_8 => ?_)
  have hT : 1 = 1 := by first | rfl | (simp only [c_8, Bool.false_eq_true, if_false, if_true]; done) | (simp [c_8]; done)
  obtain ⟨sa, hstr⟩ := hXV.2.1 _ (List.mem_of_getElem? (i := 7) (a := (108, "no such being")) rfl)
  have hat : ∀ w ∈ vx_atS RX4 56 "java/lang/IndexOutOfBoundsException" ["java/lang/RuntimeException", "java/lang/Exception"], w.before _ s = true := vx_hat (B := [.castable "java/lang/IndexOutOfBoundsException" "java/lang/IndexOutOfBoundsException", decl_1, decl_2, decl_3]) (fun w h => hts w (List.mem_cons_of_mem _ (List.mem_append_right _ h))) (by decide +kernel) (vx_c (va_Nw.use rfl hXV.2.2.2.2.1) (vx_c (va_Nw.use rfl hXV.2.2.2.2.2.1) (vx_c (va_Nw.use rfl hXV.2.2.2.2.2.2.1) (vx_c (va_Nw.use rfl hXV.2.2.2.2.2.2.2.1) vx_n))))
  exact vx_throwS (own := RX4) (cls := "java/lang/IndexOutOfBoundsException") (text := "no such being") (names := ["java/lang/RuntimeException", "java/lang/Exception"]) (ik := 52) (is := 108) (ic := 56) (sa := sa) (A := A) hx hb hst hown (by decide +kernel) (by decide +kernel) (hts (.classLink RX4 52 "java/lang/IndexOutOfBoundsException") (by decide +kernel)) (hts (.initialized "java/lang/IndexOutOfBoundsException") (by decide +kernel)) hstr hat (by decide +kernel) hTX.1 hTX.2 hS (hl.1.trans hml.symm) dX4_plan_11 dX4_plan_14 dX4_plan_15 dX4_plan_17 dX4_plan_20 (fun x hx9 => (hno x hx9).elim) (Nat.le_of_ble_eq_true rfl) (Nat.le_of_ble_eq_true rfl) (Nat.le_of_ble_eq_true rfl) (Nat.le_of_ble_eq_true rfl) hlocks (thr_of (by rw [hT]; decide) (by rw [hT]; rfl) hP hK hD hS) hS.2.2 (Nat.le_of_ble_eq_true rfl) (Nat.le_of_ble_eq_true rfl)

set_option maxHeartbeats 4000000 in
set_option maxRecDepth 100000 in
theorem c_X1_isPossible_0 (l : Launch) (D : va_G) (cI : ClassId) (a : Nat → Nat) (σ : SS) (x y : Int32) (hal : aliveB σ x = false) : Met l yX1_isPossible wsX1_isPossible ({ frames := 2, cells := 0, slots := 0, locals := 44 } : Room) (va_Pc [.ref (a 0), .int x, .int y] (preR D cI (sW cI a σ))) (vp_Si (fun r => r = 0)) 0 0 (fun _ => False) := by
  refine Met.ofW (cc := cX1_isPossible) (maxL := 3) (ret := (some .boolean)) (by decide) rfl ?_
  intro p e s m args below meth c s₁ B hml hv
  obtain ⟨rfl, hP, hK, hE⟩ := hv
  have hx := B.exec
  have hb := B.bytes
  have hr := B.returns
  have hts := atoms_spec (ws := wsX1_isPossible) B.pre
  have hown : s.vm.findClass RX1 = some m.cls := findClass_of_methodNamed B.named
  have hlocks := B.notSynchronized
  have hl := lv_entry ([.ref (a 0), .int x, .int y]) (n := 3) (Nat.le_of_ble_eq_true rfl)
  rw [lg_entry_eq]
  generalize (lg_sl ([.ref (a 0), .int x, .int y]) ++ List.replicate (3 - (lg_sl ([.ref (a 0), .int x, .int y])).length) Slot.unset).toArray = ls at hl ⊢
  have hl : lv_has ls 3 [(0, .ref (a 0)), (1, .int x), (2, .int y)] := hl
  refine lv_aload_n hx hb dX1_isPossible_0 rfl (lv_at hl 0 rfl) ?_
  refine lv_iload_n hx hb dX1_isPossible_1 rfl (lv_at hl 1 rfl) ?_
  refine vp_callSi (va_Run.run (va_runV (As := [.int x]) (rest := []) ⟨hx, hb, hml, hown, hts⟩ (c_X2_isAlive l D cI a σ x) (cwV 1 hts gX1_isPossible_X2_isAlive rfl rfl rfl (by decide +kernel) ⟨Nat.le_of_ble_eq_true rfl, Nat.le_of_ble_eq_true rfl⟩) ⟨preR_blind, va_recv hK hP (ci := 2) (q0 := 0) rfl rfl, preR_of hP hK hE [.ref (a 0), .int x]⟩ rfl rfl hl.1 rfl (lv_room (Nat.le_of_ble_eq_true rfl)) dX1_isPossible_2 ⟨Nat.zero_le _, Nat.zero_le _⟩)) (fun r hr9 => ?_)
  subst hr9
  refine w_bnz (tgt := 10) hx hb dX1_isPossible_5 (by decide) (fun c_5 => absurd c_5 ((by rw [hal]; decide))) (fun c_5 => ?_)
  refine lv_iconst (v := 0) hx hb dX1_isPossible_8 (by decide) ?_
  exact W.zret (v := 0) hx hb hr rfl (fun T9 ht _ => ⟨_, rfl, by first | rfl | (simp only [c_5, Bool.false_eq_true, if_false, if_true]; done) | (simp only [c_5, Bool.false_eq_true, if_false, if_true]; rfl) | (simp [c_5]; done) | (simp [c_5]; rfl), ht⟩) hnil dX1_isPossible_9

set_option maxHeartbeats 4000000 in
set_option maxRecDepth 100000 in
theorem c_X4_act_0 (l : Launch) (hst : l.stackTraces = false) (D : va_G) (cI : ClassId) (sz : Nat) (h t0 l0 m0 : Nat) (a : Nat → Nat) (σ : SS) (x : Int32) (h0 : s_n σ = 0) : vx_Met l yX4_act wsX4_act ({ frames := 6, cells := 1, slots := 6, locals := 82 } : Room) (va_Pc [.ref h, .int x] (preX D cI (wW h (a 0) t0 l0 m0 ++ sW cI a σ) sz)) (va_Qi (fun (r : Int32) (u : SS) => False ∧ r = 0 ∧ u = σ) (fun (u : SS) => posM D cI (va_A (wW h (a 0) t0 l0 m0 ++ sW cI a σ) sz) (wW h (a 0) t0 l0 m0 ++ sW cI a u)) (va_A (wW h (a 0) t0 l0 m0 ++ sW cI a σ) sz)) (thrX (actT0 x) nmAS D cI (va_A (wW h (a 0) t0 l0 m0 ++ sW cI a σ) sz) (wW h (a 0) t0 l0 m0 ++ sW cI a σ)) 1 6 (va_A (wW h (a 0) t0 l0 m0 ++ sW cI a σ) sz) := by
  refine vx_ofW (cc := cX4_act) (maxL := 3) (ret := (some .int)) (by decide) rfl ?_
  intro p e s m args below meth c s₁ B hml hno hv
  obtain ⟨rfl, hsz, hP, hK, hXV, hD0, hTX⟩ := hv
  have hE := hXV.1
  have hx := B.exec
  have hb := B.bytes
  have hr := B.returns
  have hts := atoms_spec (ws := wsX4_act) B.pre
  have hown : s.vm.findClass RX4 = some m.cls := findClass_of_methodNamed B.named
  have hlocks := B.notSynchronized
  subst hsz
  have hD := hD0.self (sz := s.heap.size)
  generalize hAe : va_A (wW h (a 0) t0 l0 m0 ++ sW cI a σ) s.heap.size = A at hD hTX ⊢
  have hA : ∀ q : Nat, s.heap.size ≤ q → A q := fun q h => by rw [← hAe]; exact Or.inr h
  have hS : va_S A s.heap s.heap [] := va_S.rf
  have hP : va_P D vwCl (wW h (a 0) t0 l0 m0 ++ sW cI a σ) s.heap := hP
  have hl := lv_entry ([.ref h, .int x]) (n := 3) (Nat.le_of_ble_eq_true rfl)
  rw [lg_entry_eq]
  generalize (lg_sl ([.ref h, .int x]) ++ List.replicate (3 - (lg_sl ([.ref h, .int x])).length) Slot.unset).toArray = ls at hl ⊢
  have hl : lv_has ls 3 [(0, .ref h), (1, .int x)] := hl
  refine lv_iload_n hx hb dX4_act_0 rfl (lv_at hl 1 rfl) ?_
  refine lv_iconst (v := 0) hx hb dX4_act_1 (by decide) ?_
  refine lv_bipush (v := 7) hx hb dX4_act_2 (by decide) ?_
  refine vp_callSi (va_Run.run (va_runS (As := [.int x, .int 0, .int 7]) (rest := []) ⟨hx, hb, hml, hown, hts⟩ (c_X4_isWithin l x 0 7) (va_cwS 3 hts gX4_act_X4_isWithin rfl rfl rfl (by decide +kernel) ⟨Nat.le_of_ble_eq_true rfl, Nat.le_of_ble_eq_true rfl⟩) ⟨fun _ _ _ _ q => q, fun _ _ _ => ⟨rfl, trivial⟩⟩ rfl rfl hl.1 rfl (lv_room (Nat.le_of_ble_eq_true rfl)) dX4_act_4 ⟨Nat.zero_le _, Nat.zero_le _⟩)) (fun r hr9 => ?_)
  subst hr9
  refine w_bnz (tgt := 20) hx hb dX4_act_7 (by decide) (fun c_7 => ?_) (fun c_7 => ?_)
  · refine lv_aload_n hx hb dX4_act_20 rfl (lv_at hl 0 rfl) ?_
    refine va_get (D := D) (ci := 4) (v := .ref (a 0)) (C := RX4) (T := TX4) (N := 4) hx hb hts (by decide +kernel) hown hK hP 0 rfl rfl 0 (by decide) (hts (.fieldLink RX4 12 "Warren" "state" "LWarren$State;") (by decide +kernel)) (fun _ h9 => h9) rfl dX4_act_21 ?_
    refine vp_callSi (va_Run.run (va_runV (As := []) (rest := []) ⟨hx, hb, hml, hown, hts⟩ (c_X2_whoseTurn l D cI a σ  (by omega)) (cwV 0 hts gX4_act_X2_whoseTurn rfl rfl rfl (by decide +kernel) ⟨Nat.le_of_ble_eq_true rfl, Nat.le_of_ble_eq_true rfl⟩) ⟨preR_blind, va_recv hK hP (ci := 2) (q0 := 1) rfl rfl, preR_of (hP.sub (ws' := sW cI a σ) [1, 2, 3, 4, 5, 6] rfl) hK hE [.ref (a 0)]⟩ rfl rfl hl.1 rfl (lv_room (Nat.le_of_ble_eq_true rfl)) dX4_act_24 ⟨Nat.zero_le _, Nat.zero_le _⟩)) (fun r hr9 => ?_)
    subst hr9
    rw [turn_0 h0]
    refine lv_istore_n (lv' := [(2, .int (-1)), (0, .ref h), (1, .int x)]) hx hb dX4_act_27 rfl hl (by decide) rfl (fun ls hl => ?_)
    refine lv_aload_n hx hb dX4_act_28 rfl (lv_at hl 1 rfl) ?_
    refine va_get (D := D) (ci := 4) (v := .ref (a 0)) (C := RX4) (T := TX4) (N := 4) hx hb hts (by decide +kernel) hown hK hP 0 rfl rfl 0 (by decide) (hts (.fieldLink RX4 12 "Warren" "state" "LWarren$State;") (by decide +kernel)) (fun _ h9 => h9) rfl dX4_act_29 ?_
    refine lv_iload_n hx hb dX4_act_32 rfl (lv_at hl 0 rfl) ?_
    refine lv_iload_n hx hb dX4_act_33 rfl (lv_at hl 2 rfl) ?_
    refine vp_callSi (va_Run.run (va_runS (As := [.ref (a 0), .int (-1), .int x]) (rest := []) ⟨hx, hb, hml, hown, hts⟩ (c_X1_isPossible_0 l D cI a σ (-1) x (alive_m1 σ)) (va_cwS 3 hts gX4_act_X1_isPossible rfl rfl rfl (by decide +kernel) ⟨Nat.le_of_ble_eq_true rfl, Nat.le_of_ble_eq_true rfl⟩) ⟨preR_blind, preR_of (hP.sub (ws' := sW cI a σ) [1, 2, 3, 4, 5, 6] rfl) hK hE [.ref (a 0), .int (-1), .int x]⟩ rfl rfl hl.1 rfl (lv_room (Nat.le_of_ble_eq_true rfl)) dX4_act_34 ⟨Nat.zero_le _, Nat.zero_le _⟩)) (fun r hr9 => ?_)
    subst hr9
    refine lv_if_ne (tgt := 50) hx hb dX4_act_37 (by decide) (fun z9 => absurd z9 (by decide)) (fun _ => ?_)
    have hT : actT0 x = 2 := by first | rfl | (simp only [actT0, c_7, Bool.false_eq_true, if_false, if_true]; done) | (simp [actT0, c_7]; done)
    obtain ⟨sa, hstr⟩ := hXV.2.1 _ (List.mem_of_getElem? (i := 15) (a := (161, "there is no turn, or it is not possible")) rfl)
    have hat : ∀ w ∈ vx_atS RX4 73 "java/lang/IllegalStateException" ["java/lang/RuntimeException", "java/lang/Exception"], w.before _ s = true := vx_hat (B := [.castable "java/lang/IllegalStateException" "java/lang/IllegalStateException", decl_1, decl_2, decl_3]) (fun w h => hts w (List.mem_cons_of_mem _ (List.mem_append_right _ h))) (by decide +kernel) (vx_c (va_Nw.use rfl hXV.2.2.2.1) (vx_c (va_Nw.use rfl hXV.2.2.2.2.2.1) (vx_c (va_Nw.use rfl hXV.2.2.2.2.2.2.1) (vx_c (va_Nw.use rfl hXV.2.2.2.2.2.2.2.1) vx_n))))
    exact vx_throwS (own := RX4) (cls := "java/lang/IllegalStateException") (text := "there is no turn, or it is not possible") (names := ["java/lang/RuntimeException", "java/lang/Exception"]) (ik := 69) (is := 161) (ic := 73) (sa := sa) (A := A) hx hb hst hown (by decide +kernel) (by decide +kernel) (hts (.classLink RX4 69 "java/lang/IllegalStateException") (by decide +kernel)) (hts (.initialized "java/lang/IllegalStateException") (by decide +kernel)) hstr hat (by decide +kernel) hTX.1 hTX.2 hS (hl.1.trans hml.symm) dX4_act_40 dX4_act_43 dX4_act_44 dX4_act_46 dX4_act_49 (fun x hx9 => (hno x hx9).elim) (Nat.le_of_ble_eq_true rfl) (Nat.le_of_ble_eq_true rfl) (Nat.le_of_ble_eq_true rfl) (Nat.le_of_ble_eq_true rfl) hlocks (thr_of (by rw [hT]; decide) (by rw [hT]; rfl) hP hK hD hS) hS.2.2 (Nat.le_of_ble_eq_true rfl) (Nat.le_of_ble_eq_true rfl)
  · have hT : actT0 x = 1 := by first | rfl | (simp only [actT0, c_7, Bool.false_eq_true, if_false, if_true]; done) | (simp [actT0, c_7]; done)
    obtain ⟨sa, hstr⟩ := hXV.2.1 _ (List.mem_of_getElem? (i := 14) (a := (149, "no such action")) rfl)
    have hat : ∀ w ∈ vx_atS RX4 41 "java/lang/IllegalArgumentException" ["java/lang/RuntimeException", "java/lang/Exception"], w.before _ s = true := vx_hat (B := [.castable "java/lang/IllegalArgumentException" "java/lang/IllegalArgumentException", decl_1, decl_2, decl_3]) (fun w h => hts w (List.mem_cons_of_mem _ (List.mem_append_left _ (List.mem_append_right _ h)))) (by decide +kernel) (vx_c (va_Nw.use rfl hXV.2.2.1) (vx_c (va_Nw.use rfl hXV.2.2.2.2.2.1) (vx_c (va_Nw.use rfl hXV.2.2.2.2.2.2.1) (vx_c (va_Nw.use rfl hXV.2.2.2.2.2.2.2.1) vx_n))))
    exact vx_throwS (own := RX4) (cls := "java/lang/IllegalArgumentException") (text := "no such action") (names := ["java/lang/RuntimeException", "java/lang/Exception"]) (ik := 37) (is := 149) (ic := 41) (sa := sa) (A := A) hx hb hst hown (by decide +kernel) (by decide +kernel) (hts (.classLink RX4 37 "java/lang/IllegalArgumentException") (by decide +kernel)) (hts (.initialized "java/lang/IllegalArgumentException") (by decide +kernel)) hstr hat (by decide +kernel) hTX.1 hTX.2 hS (hl.1.trans hml.symm) dX4_act_10 dX4_act_13 dX4_act_14 dX4_act_16 dX4_act_19 (fun x hx9 => (hno x hx9).elim) (Nat.le_of_ble_eq_true rfl) (Nat.le_of_ble_eq_true rfl) (Nat.le_of_ble_eq_true rfl) (Nat.le_of_ble_eq_true rfl) hlocks (thr_of (by rw [hT]; decide) (by rw [hT]; rfl) hP hK hD hS) hS.2.2 (Nat.le_of_ble_eq_true rfl) (Nat.le_of_ble_eq_true rfl)

set_option maxHeartbeats 4000000 in
set_option maxRecDepth 100000 in
theorem c_X4_play_0 (l : Launch) (D : va_G) (cI : ClassId) (h t0 l0 m0 : Nat) (a : Nat → Nat) (σ : SS) (x : Int32) (h0 : s_n σ = 0) : Met l yX4_play wsX4_play ({ frames := 3, cells := 0, slots := 0, locals := 67 } : Room) (va_Pc [.ref h, .int x] (preR D cI (wW h (a 0) t0 l0 m0 ++ sW cI a σ))) (vp_Si (fun r => r = 0)) 0 0 (fun _ => False) := by
  refine Met.ofW (cc := cX4_play) (maxL := 4) (ret := (some .int)) (by decide) rfl ?_
  intro p e s m args below meth c s₁ B hml hv
  obtain ⟨rfl, hP, hK, hE⟩ := hv
  have hx := B.exec
  have hb := B.bytes
  have hr := B.returns
  have hts := atoms_spec (ws := wsX4_play) B.pre
  have hown : s.vm.findClass RX4 = some m.cls := findClass_of_methodNamed B.named
  have hlocks := B.notSynchronized
  have hl := lv_entry ([.ref h, .int x]) (n := 4) (Nat.le_of_ble_eq_true rfl)
  rw [lg_entry_eq]
  generalize (lg_sl ([.ref h, .int x]) ++ List.replicate (4 - (lg_sl ([.ref h, .int x])).length) Slot.unset).toArray = ls at hl ⊢
  have hl : lv_has ls 4 [(0, .ref h), (1, .int x)] := hl
  refine lv_iconst (v := 0) hx hb dX4_play_0 (by decide) ?_
  refine lv_istore_n (lv' := [(2, .int 0), (0, .ref h), (1, .int x)]) hx hb dX4_play_1 rfl hl (by decide) rfl (fun ls hl => ?_)
  refine lv_iload_n hx hb dX4_play_2 rfl (lv_at hl 0 rfl) ?_
  refine lv_iload_n hx hb dX4_play_3 rfl (lv_at hl 2 rfl) ?_
  refine lv_icmp_ge (tgt := 71) hx hb dX4_play_4 (by decide) (fun c_4 => ?_) (fun c_4 => ?_)
  · refine lv_iload_n hx hb dX4_play_71 rfl (lv_at hl 0 rfl) ?_
    exact W.iret (v := 0) hx hb hr (fun T9 ht _ => ⟨_, rfl, rfl, ht⟩) hnil dX4_play_72
  · refine lv_aload_n hx hb dX4_play_7 rfl (lv_at hl 1 rfl) ?_
    refine va_get (D := D) (ci := 4) (v := .ref (a 0)) (C := RX4) (T := TX4) (N := 4) hx hb hts (by decide +kernel) hown hK hP 0 rfl rfl 0 (by decide) (hts (.fieldLink RX4 12 "Warren" "state" "LWarren$State;") (by decide +kernel)) (fun _ h9 => h9) rfl dX4_play_8 ?_
    refine lv_iconst (v := 0) hx hb dX4_play_11 (by decide) ?_
    refine vp_callSi (va_Run.run (va_runV (As := [.int 0]) (rest := []) ⟨hx, hb, hml, hown, hts⟩ (c_X2_living l D cI a σ 0 (by omega)) (cwV 1 hts gX4_play_X2_living rfl rfl rfl (by decide +kernel) ⟨Nat.le_of_ble_eq_true rfl, Nat.le_of_ble_eq_true rfl⟩) ⟨preR_blind, va_recv hK hP (ci := 2) (q0 := 1) rfl rfl, preR_of (hP.sub (ws' := sW cI a σ) [1, 2, 3, 4, 5, 6] rfl) hK hE [.ref (a 0), .int 0]⟩ rfl rfl hl.1 rfl (lv_room (Nat.le_of_ble_eq_true rfl)) dX4_play_12 ⟨Nat.zero_le _, Nat.zero_le _⟩)) (fun r hr9 => ?_)
    subst hr9
    refine lv_if_le (tgt := 71) hx hb dX4_play_15 (by decide) (fun c_15 => ?_) (fun c_15 => absurd ((by rw [living_0 h0]; decide)) c_15)
    refine lv_iload_n hx hb dX4_play_71 rfl (lv_at hl 0 rfl) ?_
    exact W.iret (v := 0) hx hb hr (fun T9 ht _ => ⟨_, rfl, rfl, ht⟩) hnil dX4_play_72

set_option maxHeartbeats 4000000 in
set_option maxRecDepth 100000 in
theorem c_X4_follow_0 (l : Launch) (hst : l.stackTraces = false) (D : va_G) (cI : ClassId) (sz : Nat) (h t0 l0 m0 : Nat) (a : Nat → Nat) (σ : SS) (x : Int32) (h0 : s_n σ = 0) : vx_Met l yX4_follow wsX4_follow ({ frames := 6, cells := 1, slots := 6, locals := 90 } : Room) (va_Pc [.ref h, .int x] (preX D cI (wW h (a 0) t0 l0 m0 ++ sW cI a σ) sz)) (va_Qi (fun (r : Int32) (u : SS) => followT x = 0 ∧ r = (0 : Int32) ∧ u = σ) (fun (u : SS) => posM D cI (va_A (wW h (a 0) t0 l0 m0 ++ sW cI a σ) sz) (wW h (a 0) t0 l0 m0 ++ sW cI a u)) (va_A (wW h (a 0) t0 l0 m0 ++ sW cI a σ) sz)) (thrX (followT x) nmA D cI (va_A (wW h (a 0) t0 l0 m0 ++ sW cI a σ) sz) (wW h (a 0) t0 l0 m0 ++ sW cI a σ)) 1 6 (va_A (wW h (a 0) t0 l0 m0 ++ sW cI a σ) sz) := by
  refine vx_ofW (cc := cX4_follow) (maxL := 2) (ret := (some .int)) (by decide) rfl ?_
  intro p e s m args below meth c s₁ B hml hno hv
  obtain ⟨rfl, hsz, hP, hK, hXV, hD0, hTX⟩ := hv
  have hE := hXV.1
  have hx := B.exec
  have hb := B.bytes
  have hr := B.returns
  have hts := atoms_spec (ws := wsX4_follow) B.pre
  have hown : s.vm.findClass RX4 = some m.cls := findClass_of_methodNamed B.named
  have hlocks := B.notSynchronized
  subst hsz
  have hD := hD0.self (sz := s.heap.size)
  generalize hAe : va_A (wW h (a 0) t0 l0 m0 ++ sW cI a σ) s.heap.size = A at hD hTX ⊢
  have hA : ∀ q : Nat, s.heap.size ≤ q → A q := fun q h => by rw [← hAe]; exact Or.inr h
  have hS : va_S A s.heap s.heap [] := va_S.rf
  have hP : va_P D vwCl (wW h (a 0) t0 l0 m0 ++ sW cI a σ) s.heap := hP
  have hl := lv_entry ([.ref h, .int x]) (n := 2) (Nat.le_of_ble_eq_true rfl)
  rw [lg_entry_eq]
  generalize (lg_sl ([.ref h, .int x]) ++ List.replicate (2 - (lg_sl ([.ref h, .int x])).length) Slot.unset).toArray = ls at hl ⊢
  have hl : lv_has ls 2 [(0, .ref h), (1, .int x)] := hl
  refine lv_iload_n hx hb dX4_follow_0 rfl (lv_at hl 1 rfl) ?_
  refine lv_iconst (v := 1) hx hb dX4_follow_1 (by decide) ?_
  refine lv_bipush (v := 40) hx hb dX4_follow_2 (by decide) ?_
  refine vp_callSi (va_Run.run (va_runS (As := [.int x, .int 1, .int 40]) (rest := []) ⟨hx, hb, hml, hown, hts⟩ (c_X4_isWithin l x 1 40) (va_cwS 3 hts gX4_follow_X4_isWithin rfl rfl rfl (by decide +kernel) ⟨Nat.le_of_ble_eq_true rfl, Nat.le_of_ble_eq_true rfl⟩) ⟨fun _ _ _ _ q => q, fun _ _ _ => ⟨rfl, trivial⟩⟩ rfl rfl hl.1 rfl (lv_room (Nat.le_of_ble_eq_true rfl)) dX4_follow_4 ⟨Nat.zero_le _, Nat.zero_le _⟩)) (fun r hr9 => ?_)
  subst hr9
  refine w_bnz (tgt := 20) hx hb dX4_follow_7 (by decide) (fun c_7 => ?_) (fun c_7 => ?_)
  · refine lv_aload_n hx hb dX4_follow_20 rfl (lv_at hl 0 rfl) ?_
    refine lv_iload_n hx hb dX4_follow_21 rfl (lv_at hl 1 rfl) ?_
    refine vp_callSi (va_Run.run (va_runV (As := [.int x]) (rest := []) ⟨hx, hb, hml, hown, hts⟩ (c_X4_play_0 l D cI h t0 l0 m0 a σ x h0) (cwV 1 hts gX4_follow_X4_play rfl rfl rfl (by decide +kernel) ⟨Nat.le_of_ble_eq_true rfl, Nat.le_of_ble_eq_true rfl⟩) ⟨preR_blind, va_recv hK hP (ci := 4) (q0 := 0) rfl rfl, preR_of hP hK hE [.ref h, .int x]⟩ rfl rfl hl.1 rfl (lv_room (Nat.le_of_ble_eq_true rfl)) dX4_follow_22 ⟨Nat.zero_le _, Nat.zero_le _⟩)) (fun r hr9 => ?_)
    subst hr9
    have hP9 := hP
    have hD9 := hD
    refine W.widen (k := 1) (n := 6) (Nat.le_of_ble_eq_true rfl) (Nat.le_of_ble_eq_true rfl) ?_
    refine vx_ret ?_
    exact W.iret (v := 0) hx hb hr (fun T9 ht hW => ⟨⟨0, σ, rfl, ⟨by first | rfl | (simp only [followT, c_7, Bool.false_eq_true, if_false, if_true]; done) | (simp [followT, c_7]; done), by first | rfl | (simp [c_7]; done) | (simp [c_7]; rfl), by first | rfl | (simp [c_7]; done)⟩, by rw [ht]; exact hP9, va_K.moved hW.alike hK, hD9⟩, hS.F ht⟩) hS.2.2 dX4_follow_25
  · have hT : followT x = 1 := by first | rfl | (simp only [followT, c_7, Bool.false_eq_true, if_false, if_true]; done) | (simp [followT, c_7]; done)
    obtain ⟨sa, hstr⟩ := hXV.2.1 _ (List.mem_of_getElem? (i := 16) (a := (167, "turns is not 1 to 40")) rfl)
    have hat : ∀ w ∈ vx_atS RX4 41 "java/lang/IllegalArgumentException" ["java/lang/RuntimeException", "java/lang/Exception"], w.before _ s = true := vx_hat (B := [.castable "java/lang/IllegalArgumentException" "java/lang/IllegalArgumentException", decl_1, decl_2, decl_3]) (fun w h => hts w (List.mem_cons_of_mem _ (List.mem_append_right _ h))) (by decide +kernel) (vx_c (va_Nw.use rfl hXV.2.2.1) (vx_c (va_Nw.use rfl hXV.2.2.2.2.2.1) (vx_c (va_Nw.use rfl hXV.2.2.2.2.2.2.1) (vx_c (va_Nw.use rfl hXV.2.2.2.2.2.2.2.1) vx_n))))
    exact vx_throwS (own := RX4) (cls := "java/lang/IllegalArgumentException") (text := "turns is not 1 to 40") (names := ["java/lang/RuntimeException", "java/lang/Exception"]) (ik := 37) (is := 167) (ic := 41) (sa := sa) (A := A) hx hb hst hown (by decide +kernel) (by decide +kernel) (hts (.classLink RX4 37 "java/lang/IllegalArgumentException") (by decide +kernel)) (hts (.initialized "java/lang/IllegalArgumentException") (by decide +kernel)) hstr hat (by decide +kernel) hTX.1 hTX.2 hS (hl.1.trans hml.symm) dX4_follow_10 dX4_follow_13 dX4_follow_14 dX4_follow_16 dX4_follow_19 (fun x hx9 => (hno x hx9).elim) (Nat.le_of_ble_eq_true rfl) (Nat.le_of_ble_eq_true rfl) (Nat.le_of_ble_eq_true rfl) (Nat.le_of_ble_eq_true rfl) hlocks (thr_of (by rw [hT]; decide) (by rw [hT]; rfl) hP hK hD hS) hS.2.2 (Nat.le_of_ble_eq_true rfl) (Nat.le_of_ble_eq_true rfl)

set_option maxHeartbeats 4000000 in
set_option maxRecDepth 100000 in
theorem c_X4_load_0 (l : Launch) (hst : l.stackTraces = false) (D : va_G) (cI : ClassId) (sz : Nat) (h t0 l0 m0 : Nat) (a : Nat → Nat) (σ : SS) (mc : Int32) (e0 : Nat) (x : Int32) : vx_Met l yX4_load wsX4_load ({ frames := 6, cells := 1, slots := 6, locals := 82 } : Room) (va_Pc [.ref h, .int x] (preX D cI (wW h (a 0) t0 l0 m0 ++ sW cI a σ ++ wL l0 mc e0 0) sz)) (va_Qi (fun (r : Int32) (u : SS) => False ∧ r = 0 ∧ u = σ) (fun (u : SS) => posM D cI (va_A (wW h (a 0) t0 l0 m0 ++ sW cI a σ ++ wL l0 mc e0 0) sz) (wW h (a 0) t0 l0 m0 ++ sW cI a u ++ wL l0 mc e0 0)) (va_A (wW h (a 0) t0 l0 m0 ++ sW cI a σ ++ wL l0 mc e0 0) sz)) (thrX (1) nmI D cI (va_A (wW h (a 0) t0 l0 m0 ++ sW cI a σ ++ wL l0 mc e0 0) sz) (wW h (a 0) t0 l0 m0 ++ sW cI a σ ++ wL l0 mc e0 0)) 1 6 (va_A (wW h (a 0) t0 l0 m0 ++ sW cI a σ ++ wL l0 mc e0 0) sz) := by
  refine vx_ofW (cc := cX4_load) (maxL := 2) (ret := (some .int)) (by decide) rfl ?_
  intro p e s m args below meth c s₁ B hml hno hv
  obtain ⟨rfl, hsz, hP, hK, hXV, hD0, hTX⟩ := hv
  have hE := hXV.1
  have hx := B.exec
  have hb := B.bytes
  have hr := B.returns
  have hts := atoms_spec (ws := wsX4_load) B.pre
  have hown : s.vm.findClass RX4 = some m.cls := findClass_of_methodNamed B.named
  have hlocks := B.notSynchronized
  subst hsz
  have hD := hD0.self (sz := s.heap.size)
  generalize hAe : va_A (wW h (a 0) t0 l0 m0 ++ sW cI a σ ++ wL l0 mc e0 0) s.heap.size = A at hD hTX ⊢
  have hA : ∀ q : Nat, s.heap.size ≤ q → A q := fun q h => by rw [← hAe]; exact Or.inr h
  have hS : va_S A s.heap s.heap [] := va_S.rf
  have hP : va_P D vwCl (wW h (a 0) t0 l0 m0 ++ sW cI a σ ++ wL l0 mc e0 0) s.heap := hP
  have hl := lv_entry ([.ref h, .int x]) (n := 2) (Nat.le_of_ble_eq_true rfl)
  rw [lg_entry_eq]
  generalize (lg_sl ([.ref h, .int x]) ++ List.replicate (2 - (lg_sl ([.ref h, .int x])).length) Slot.unset).toArray = ls at hl ⊢
  have hl : lv_has ls 2 [(0, .ref h), (1, .int x)] := hl
  refine lv_iload_n hx hb dX4_load_0 rfl (lv_at hl 1 rfl) ?_
  refine lv_if_lt (tgt := 17) hx hb dX4_load_1 (by decide) (fun c_1 => ?_) (fun c_1 => ?_)
  · have hT : 1 = 1 := by first | rfl | (simp only [if_pos c_1, Bool.false_eq_true, if_false, if_true]; done) | (simp [c_1]; done)
    obtain ⟨sa, hstr⟩ := hXV.2.1 _ (List.mem_of_getElem? (i := 19) (a := (205, "no such game")) rfl)
    have hat : ∀ w ∈ vx_atS RX4 56 "java/lang/IndexOutOfBoundsException" ["java/lang/RuntimeException", "java/lang/Exception"], w.before _ s = true := vx_hat (B := [.castable "java/lang/IndexOutOfBoundsException" "java/lang/IndexOutOfBoundsException", decl_1, decl_2, decl_3]) (fun w h => hts w (List.mem_cons_of_mem _ (List.mem_append_right _ h))) (by decide +kernel) (vx_c (va_Nw.use rfl hXV.2.2.2.2.1) (vx_c (va_Nw.use rfl hXV.2.2.2.2.2.1) (vx_c (va_Nw.use rfl hXV.2.2.2.2.2.2.1) (vx_c (va_Nw.use rfl hXV.2.2.2.2.2.2.2.1) vx_n))))
    exact vx_throwS (own := RX4) (cls := "java/lang/IndexOutOfBoundsException") (text := "no such game") (names := ["java/lang/RuntimeException", "java/lang/Exception"]) (ik := 52) (is := 205) (ic := 56) (sa := sa) (A := A) hx hb hst hown (by decide +kernel) (by decide +kernel) (hts (.classLink RX4 52 "java/lang/IndexOutOfBoundsException") (by decide +kernel)) (hts (.initialized "java/lang/IndexOutOfBoundsException") (by decide +kernel)) hstr hat (by decide +kernel) hTX.1 hTX.2 hS (hl.1.trans hml.symm) dX4_load_17 dX4_load_20 dX4_load_21 dX4_load_23 dX4_load_26 (fun x hx9 => (hno x hx9).elim) (Nat.le_of_ble_eq_true rfl) (Nat.le_of_ble_eq_true rfl) (Nat.le_of_ble_eq_true rfl) (Nat.le_of_ble_eq_true rfl) hlocks (thr_of (by rw [hT]; decide) (by rw [hT]; rfl) hP hK hD hS) hS.2.2 (Nat.le_of_ble_eq_true rfl) (Nat.le_of_ble_eq_true rfl)
  · refine lv_iload_n hx hb dX4_load_4 rfl (lv_at hl 1 rfl) ?_
    refine lv_aload_n hx hb dX4_load_5 rfl (lv_at hl 0 rfl) ?_
    refine va_get (D := D) (ci := 4) (v := .ref l0) (C := RX4) (T := TX4) (N := 4) hx hb hts (by decide +kernel) hown hK hP 0 rfl rfl 2 (by decide) (hts (.fieldLink RX4 22 "Warren" "saved" "Ljava/util/List;") (by decide +kernel)) (fun _ h9 => h9) rfl dX4_load_6 ?_
    refine va_csFi (va_runF (hK.1 0 _ rfl).2 (As := []) (rest := [.int x]) ⟨hx, hb, hml, hown, hts⟩ (c_Jx4a65c_size_8abf5 l D cI l0 mc e0 0) (va_cwF 0 hts gX4_load_Jx4a65c_size_8abf5_f190Jx4a65c rfl rfl rfl hXV.2.2.2.2.2.2.2.2.1 (by decide +kernel) ⟨Nat.le_of_ble_eq_true rfl, Nat.le_of_ble_eq_true rfl⟩) ⟨preR_blind, va_recv hK hP (ci := 0) (q0 := 7) rfl rfl, preR_of (hP.sub (ws' := wL l0 mc e0 0) [7] rfl) hK hE [.ref l0]⟩ rfl rfl hl.1 rfl (lv_room (Nat.le_of_ble_eq_true rfl)) dX4_load_9 ⟨Nat.zero_le _, Nat.zero_le _⟩) (fun r hr9 => ?_)
    subst hr9
    refine lv_icmp_lt (tgt := 27) hx hb dX4_load_14 (by decide) (fun c_14 => absurd c_14 ((by rw [nI_0]; exact c_1))) (fun c_14 => ?_)
    have hT : 1 = 1 := by first | rfl | (simp only [if_neg c_1, if_neg c_14, Bool.false_eq_true, if_false, if_true]; done) | (simp [c_1, c_14]; done)
    obtain ⟨sa, hstr⟩ := hXV.2.1 _ (List.mem_of_getElem? (i := 19) (a := (205, "no such game")) rfl)
    have hat : ∀ w ∈ vx_atS RX4 56 "java/lang/IndexOutOfBoundsException" ["java/lang/RuntimeException", "java/lang/Exception"], w.before _ s = true := vx_hat (B := [.castable "java/lang/IndexOutOfBoundsException" "java/lang/IndexOutOfBoundsException", decl_1, decl_2, decl_3]) (fun w h => hts w (List.mem_cons_of_mem _ (List.mem_append_right _ h))) (by decide +kernel) (vx_c (va_Nw.use rfl hXV.2.2.2.2.1) (vx_c (va_Nw.use rfl hXV.2.2.2.2.2.1) (vx_c (va_Nw.use rfl hXV.2.2.2.2.2.2.1) (vx_c (va_Nw.use rfl hXV.2.2.2.2.2.2.2.1) vx_n))))
    exact vx_throwS (own := RX4) (cls := "java/lang/IndexOutOfBoundsException") (text := "no such game") (names := ["java/lang/RuntimeException", "java/lang/Exception"]) (ik := 52) (is := 205) (ic := 56) (sa := sa) (A := A) hx hb hst hown (by decide +kernel) (by decide +kernel) (hts (.classLink RX4 52 "java/lang/IndexOutOfBoundsException") (by decide +kernel)) (hts (.initialized "java/lang/IndexOutOfBoundsException") (by decide +kernel)) hstr hat (by decide +kernel) hTX.1 hTX.2 hS (hl.1.trans hml.symm) dX4_load_17 dX4_load_20 dX4_load_21 dX4_load_23 dX4_load_26 (fun x hx9 => (hno x hx9).elim) (Nat.le_of_ble_eq_true rfl) (Nat.le_of_ble_eq_true rfl) (Nat.le_of_ble_eq_true rfl) (Nat.le_of_ble_eq_true rfl) hlocks (thr_of (by rw [hT]; decide) (by rw [hT]; rfl) hP hK hD hS) hS.2.2 (Nat.le_of_ble_eq_true rfl) (Nat.le_of_ble_eq_true rfl)

set_option maxHeartbeats 4000000 in
set_option maxRecDepth 100000 in
theorem c_X4_ahead_0 (l : Launch) (hst : l.stackTraces = false) (D : va_G) (cI : ClassId) (sz : Nat) (h l0 m0 : Nat) (a b : Nat → Nat) (σ τ : SS) (x : Int32) (h0 : s_n σ = 0) : vx_Met l yX4_ahead wsX4_ahead ({ frames := 6, cells := 1, slots := 6, locals := 90 } : Room) (va_Pc [.ref h, .int x] (preX D cI (wW h (a 0) (b 0) l0 m0 ++ sW cI a σ ++ sW cI b τ) sz)) (va_Qi (fun (r : Int32) (u : SS) => followT x = 0 ∧ r = 0 ∧ u = σ) (fun (u : SS) => posM D cI (va_A (wW h (a 0) (b 0) l0 m0 ++ sW cI a σ ++ sW cI b τ) sz) (wW h (a 0) (b 0) l0 m0 ++ sW cI a σ ++ sW cI b u)) (va_A (wW h (a 0) (b 0) l0 m0 ++ sW cI a σ ++ sW cI b τ) sz)) (thrX (followT x) nmA D cI (va_A (wW h (a 0) (b 0) l0 m0 ++ sW cI a σ ++ sW cI b τ) sz) (wW h (a 0) (b 0) l0 m0 ++ sW cI a σ ++ sW cI b τ)) 1 6 (va_A (wW h (a 0) (b 0) l0 m0 ++ sW cI a σ ++ sW cI b τ) sz) := by
  refine vx_ofW (cc := cX4_ahead) (maxL := 3) (ret := (some .int)) (by decide) rfl ?_
  intro p e s m args below meth c s₁ B hml hno hv
  obtain ⟨rfl, hsz, hP, hK, hXV, hD0, hTX⟩ := hv
  have hE := hXV.1
  have hx := B.exec
  have hb := B.bytes
  have hr := B.returns
  have hts := atoms_spec (ws := wsX4_ahead) B.pre
  have hown : s.vm.findClass RX4 = some m.cls := findClass_of_methodNamed B.named
  have hlocks := B.notSynchronized
  subst hsz
  have hD := hD0.self (sz := s.heap.size)
  generalize hAe : va_A (wW h (a 0) (b 0) l0 m0 ++ sW cI a σ ++ sW cI b τ) s.heap.size = A at hD hTX ⊢
  have hA : ∀ q : Nat, s.heap.size ≤ q → A q := fun q h => by rw [← hAe]; exact Or.inr h
  have hS : va_S A s.heap s.heap [] := va_S.rf
  have hP : va_P D vwCl (wW h (a 0) (b 0) l0 m0 ++ sW cI a σ ++ sW cI b τ) s.heap := hP
  have hl := lv_entry ([.ref h, .int x]) (n := 3) (Nat.le_of_ble_eq_true rfl)
  rw [lg_entry_eq]
  generalize (lg_sl ([.ref h, .int x]) ++ List.replicate (3 - (lg_sl ([.ref h, .int x])).length) Slot.unset).toArray = ls at hl ⊢
  have hl : lv_has ls 3 [(0, .ref h), (1, .int x)] := hl
  refine lv_iload_n hx hb dX4_ahead_0 rfl (lv_at hl 1 rfl) ?_
  refine lv_iconst (v := 1) hx hb dX4_ahead_1 (by decide) ?_
  refine lv_bipush (v := 40) hx hb dX4_ahead_2 (by decide) ?_
  refine vp_callSi (va_Run.run (va_runS (As := [.int x, .int 1, .int 40]) (rest := []) ⟨hx, hb, hml, hown, hts⟩ (c_X4_isWithin l x 1 40) (va_cwS 3 hts gX4_ahead_X4_isWithin rfl rfl rfl (by decide +kernel) ⟨Nat.le_of_ble_eq_true rfl, Nat.le_of_ble_eq_true rfl⟩) ⟨fun _ _ _ _ q => q, fun _ _ _ => ⟨rfl, trivial⟩⟩ rfl rfl hl.1 rfl (lv_room (Nat.le_of_ble_eq_true rfl)) dX4_ahead_4 ⟨Nat.zero_le _, Nat.zero_le _⟩)) (fun r hr9 => ?_)
  subst hr9
  refine w_bnz (tgt := 20) hx hb dX4_ahead_7 (by decide) (fun c_7 => ?_) (fun c_7 => ?_)
  · refine lv_aload_n hx hb dX4_ahead_20 rfl (lv_at hl 0 rfl) ?_
    refine va_get (D := D) (ci := 4) (v := .ref (a 0)) (C := RX4) (T := TX4) (N := 4) hx hb hts (by decide +kernel) hown hK hP 0 rfl rfl 0 (by decide) (hts (.fieldLink RX4 12 "Warren" "state" "LWarren$State;") (by decide +kernel)) (fun _ h9 => h9) rfl dX4_ahead_21 ?_
    refine lv_astore_n (lv' := [(2, .ref (a 0)), (0, .ref h), (1, .int x)]) hx hb dX4_ahead_24 rfl hl (by decide) rfl (fun ls hl => ?_)
    refine lv_aload_n hx hb dX4_ahead_25 rfl (lv_at hl 1 rfl) ?_
    refine va_get (D := D) (ci := 4) (v := .ref (b 0)) (C := RX4) (T := TX4) (N := 4) hx hb hts (by decide +kernel) hown hK hP 0 rfl rfl 1 (by decide) (hts (.fieldLink RX4 16 "Warren" "trial" "LWarren$State;") (by decide +kernel)) (fun _ h9 => h9) rfl dX4_ahead_26 ?_
    refine lv_aload_n hx hb dX4_ahead_29 rfl (lv_at hl 0 rfl) ?_
    have hFc := va_free (wc := sW cI b τ ++ sW cI a σ) hD hS hA [7, 8, 9, 10, 11, 12, 1, 2, 3, 4, 5, 6] rfl
    refine va_callv (va_runV (As := [.ref (a 0)]) (rest := []) ⟨hx, hb, hml, hown, hts⟩ (c_X2_copyFrom l D cI _ b τ a σ) (cwV 1 hts gX4_ahead_X2_copyFrom rfl rfl rfl (by decide +kernel) ⟨Nat.le_of_ble_eq_true rfl, Nat.le_of_ble_eq_true rfl⟩) ⟨preM_blind, va_recv hK hP (ci := 2) (q0 := 7) rfl rfl, preM_of (hP.sub (ws' := sW cI b τ ++ sW cI a σ) [7, 8, 9, 10, 11, 12, 1, 2, 3, 4, 5, 6] rfl) hK hE (hD.sub (ws' := sW cI b τ ++ sW cI a σ) [7, 8, 9, 10, 11, 12, 1, 2, 3, 4, 5, 6] (by decide) rfl) [.ref (b 0), .ref (a 0)]⟩ rfl rfl hl.1 rfl (lv_room (Nat.le_of_ble_eq_true rfl)) dX4_ahead_30 ⟨Nat.le_of_ble_eq_true rfl, Nat.le_of_ble_eq_true rfl⟩) hS (fun q _ h => hFc q h) hFc (fun u t9 H1 locs ht hvm hw hB hz1 hk1 hS => ?_)
    obtain ⟨hP1, hK1, hD1⟩ := hB
    rw [ht] at hP1
    replace hw := hw.symm
    subst hw
    obtain ⟨hP, hD⟩ := va_join (wr := wW h (a 0) (b 0) l0 m0) (w1 := sW cI b σ ++ sW cI a σ) hP hD [7, 8, 9, 10, 11, 12, 1, 2, 3, 4, 5, 6] [0] rfl rfl (by decide) (by decide) hk1 hFc hP1 hD1
    generalize H1 = H at hP hS ⊢
    have hP : va_P D vwCl (wW h (a 0) (b 0) l0 m0 ++ sW cI b σ ++ sW cI a σ) H := hP
    have hD : va_D A (wW h (a 0) (b 0) l0 m0 ++ sW cI b σ ++ sW cI a σ) := hD
    refine lv_aload_n hx hb dX4_ahead_33 rfl (lv_at hl 1 rfl) ?_
    refine lv_aload_n hx hb dX4_ahead_34 rfl (lv_at hl 1 rfl) ?_
    refine va_get (D := D) (ci := 4) (v := .ref (b 0)) (C := RX4) (T := TX4) (N := 4) hx hb hts (by decide +kernel) hown hK hP 0 rfl rfl 1 (by decide) (hts (.fieldLink RX4 16 "Warren" "trial" "LWarren$State;") (by decide +kernel)) (fun _ h9 => h9) rfl dX4_ahead_35 ?_
    refine va_put (D := D) (ci := 4) (v := .ref (b 0)) (ty := (.object "Warren$State")) (C := RX4) (T := TX4) (N := 4) hx hb hts (by decide +kernel) tyX4 tyX4_ok nmX4 hown hK hP hD hS 0 rfl rfl 0 (by decide) (hts (.fieldLink RX4 12 "Warren" "state" "LWarren$State;") (by decide +kernel)) (fun _ h9 => h9) rfl (by decide +kernel) rfl rfl (Nat.le_of_ble_eq_true rfl) dX4_ahead_38 (fun H locs hP hD hS => ?_)
    have hP : va_P D vwCl (wW h (b 0) (b 0) l0 m0 ++ sW cI b σ ++ sW cI a σ) H := hP
    have hD : va_D A (wW h (b 0) (b 0) l0 m0 ++ sW cI b σ ++ sW cI a σ) := hD
    refine lv_aload_n hx hb dX4_ahead_41 rfl (lv_at hl 1 rfl) ?_
    refine lv_iload_n hx hb dX4_ahead_42 rfl (lv_at hl 2 rfl) ?_
    refine vp_callSi (va_Run.run (va_runV (As := [.int x]) (rest := []) ⟨hx, hb, hml, hown, hts⟩ (c_X4_play_0 l D cI h (b 0) l0 m0 b σ x h0) (cwV 1 hts gX4_ahead_X4_play rfl rfl rfl (by decide +kernel) ⟨Nat.le_of_ble_eq_true rfl, Nat.le_of_ble_eq_true rfl⟩) ⟨preR_blind, va_recv hK hP (ci := 4) (q0 := 0) rfl rfl, preR_of (hP.sub (ws' := wW h (b 0) (b 0) l0 m0 ++ sW cI b σ) [0, 1, 2, 3, 4, 5, 6] rfl) hK hE [.ref h, .int x]⟩ rfl rfl hl.1 rfl (lv_room (Nat.le_of_ble_eq_true rfl)) dX4_ahead_43 ⟨Nat.zero_le _, Nat.zero_le _⟩)) (fun r hr9 => ?_)
    subst hr9
    refine lv_pop hx hb dX4_ahead_46 rfl ?_
    refine lv_aload_n hx hb dX4_ahead_47 rfl (lv_at hl 1 rfl) ?_
    refine lv_aload_n hx hb dX4_ahead_48 rfl (lv_at hl 0 rfl) ?_
    refine va_put (D := D) (ci := 4) (v := .ref (a 0)) (ty := (.object "Warren$State")) (C := RX4) (T := TX4) (N := 4) hx hb hts (by decide +kernel) tyX4 tyX4_ok nmX4 hown hK hP hD hS 0 rfl rfl 0 (by decide) (hts (.fieldLink RX4 12 "Warren" "state" "LWarren$State;") (by decide +kernel)) (fun _ h9 => h9) rfl (by decide +kernel) rfl rfl (Nat.le_of_ble_eq_true rfl) dX4_ahead_49 (fun H locs hP hD hS => ?_)
    have hP : va_P D vwCl (wW h (a 0) (b 0) l0 m0 ++ sW cI b σ ++ sW cI a σ) H := hP
    have hD : va_D A (wW h (a 0) (b 0) l0 m0 ++ sW cI b σ ++ sW cI a σ) := hD
    refine lv_aload_n hx hb dX4_ahead_52 rfl (lv_at hl 1 rfl) ?_
    refine va_get (D := D) (ci := 4) (v := .ref (b 0)) (C := RX4) (T := TX4) (N := 4) hx hb hts (by decide +kernel) hown hK hP 0 rfl rfl 1 (by decide) (hts (.fieldLink RX4 16 "Warren" "trial" "LWarren$State;") (by decide +kernel)) (fun _ h9 => h9) rfl dX4_ahead_53 ?_
    refine lv_iconst (v := 0) hx hb dX4_ahead_56 (by decide) ?_
    refine vp_callSi (va_Run.run (va_runV (As := [.int 0]) (rest := []) ⟨hx, hb, hml, hown, hts⟩ (c_X2_lifeOf l D cI b σ 0 (by omega)) (cwV 1 hts gX4_ahead_X2_lifeOf rfl rfl rfl (by decide +kernel) ⟨Nat.le_of_ble_eq_true rfl, Nat.le_of_ble_eq_true rfl⟩) ⟨preR_blind, va_recv hK hP (ci := 2) (q0 := 1) rfl rfl, preR_of (hP.sub (ws' := sW cI b σ) [1, 2, 3, 4, 5, 6] rfl) hK hE [.ref (b 0), .int 0]⟩ rfl rfl hl.1 rfl (lv_room (Nat.le_of_ble_eq_true rfl)) dX4_ahead_57 ⟨Nat.zero_le _, Nat.zero_le _⟩)) (fun r hr9 => ?_)
    subst hr9
    refine lv_aload_n hx hb dX4_ahead_60 rfl (lv_at hl 1 rfl) ?_
    refine va_get (D := D) (ci := 4) (v := .ref (b 0)) (C := RX4) (T := TX4) (N := 4) hx hb hts (by decide +kernel) hown hK hP 0 rfl rfl 1 (by decide) (hts (.fieldLink RX4 16 "Warren" "trial" "LWarren$State;") (by decide +kernel)) (fun _ h9 => h9) rfl dX4_ahead_61 ?_
    refine lv_iconst (v := 1) hx hb dX4_ahead_64 (by decide) ?_
    refine vp_callSi (va_Run.run (va_runV (As := [.int 1]) (rest := [.int (lifeF σ 0)]) ⟨hx, hb, hml, hown, hts⟩ (c_X2_lifeOf l D cI b σ 1 (by omega)) (cwV 1 hts gX4_ahead_X2_lifeOf rfl rfl rfl (by decide +kernel) ⟨Nat.le_of_ble_eq_true rfl, Nat.le_of_ble_eq_true rfl⟩) ⟨preR_blind, va_recv hK hP (ci := 2) (q0 := 1) rfl rfl, preR_of (hP.sub (ws' := sW cI b σ) [1, 2, 3, 4, 5, 6] rfl) hK hE [.ref (b 0), .int 1]⟩ rfl rfl hl.1 rfl (lv_room (Nat.le_of_ble_eq_true rfl)) dX4_ahead_65 ⟨Nat.zero_le _, Nat.zero_le _⟩)) (fun r hr9 => ?_)
    subst hr9
    refine lv_isub hx hb dX4_ahead_68 ?_
    have hP9 := hP.sub (ws' := wW h (a 0) (b 0) l0 m0 ++ sW cI a σ ++ sW cI b σ) [0, 7, 8, 9, 10, 11, 12, 1, 2, 3, 4, 5, 6] rfl
    have hD9 := hD.sub (ws' := wW h (a 0) (b 0) l0 m0 ++ sW cI a σ ++ sW cI b σ) [0, 7, 8, 9, 10, 11, 12, 1, 2, 3, 4, 5, 6] (by decide) rfl
    refine W.widen (k := 1) (n := 6) (Nat.le_of_ble_eq_true rfl) (Nat.le_of_ble_eq_true rfl) ?_
    refine vx_ret ?_
    exact W.iret (v := ((lifeF σ 0) - (lifeF σ 1))) hx hb hr (fun T9 ht hW => ⟨⟨((lifeF σ 0) - (lifeF σ 1)), σ, rfl, ⟨by first | rfl | (simp only [followT, c_7, Bool.false_eq_true, if_false, if_true]; done) | (simp [followT, c_7]; done), by rw [life_0 h0, life_0 h0]; rfl, rfl⟩, by rw [ht]; exact hP9, va_K.moved hW.alike hK, hD9⟩, hS.F ht⟩) hS.2.2 dX4_ahead_69
  · have hT : followT x = 1 := by first | rfl | (simp only [followT, c_7, Bool.false_eq_true, if_false, if_true]; done) | (simp [followT, c_7]; done)
    obtain ⟨sa, hstr⟩ := hXV.2.1 _ (List.mem_of_getElem? (i := 16) (a := (167, "turns is not 1 to 40")) rfl)
    have hat : ∀ w ∈ vx_atS RX4 41 "java/lang/IllegalArgumentException" ["java/lang/RuntimeException", "java/lang/Exception"], w.before _ s = true := vx_hat (B := [.castable "java/lang/IllegalArgumentException" "java/lang/IllegalArgumentException", decl_1, decl_2, decl_3]) (fun w h => hts w (List.mem_cons_of_mem _ (List.mem_append_right _ h))) (by decide +kernel) (vx_c (va_Nw.use rfl hXV.2.2.1) (vx_c (va_Nw.use rfl hXV.2.2.2.2.2.1) (vx_c (va_Nw.use rfl hXV.2.2.2.2.2.2.1) (vx_c (va_Nw.use rfl hXV.2.2.2.2.2.2.2.1) vx_n))))
    exact vx_throwS (own := RX4) (cls := "java/lang/IllegalArgumentException") (text := "turns is not 1 to 40") (names := ["java/lang/RuntimeException", "java/lang/Exception"]) (ik := 37) (is := 167) (ic := 41) (sa := sa) (A := A) hx hb hst hown (by decide +kernel) (by decide +kernel) (hts (.classLink RX4 37 "java/lang/IllegalArgumentException") (by decide +kernel)) (hts (.initialized "java/lang/IllegalArgumentException") (by decide +kernel)) hstr hat (by decide +kernel) hTX.1 hTX.2 hS (hl.1.trans hml.symm) dX4_ahead_10 dX4_ahead_13 dX4_ahead_14 dX4_ahead_16 dX4_ahead_19 (fun x hx9 => (hno x hx9).elim) (Nat.le_of_ble_eq_true rfl) (Nat.le_of_ble_eq_true rfl) (Nat.le_of_ble_eq_true rfl) (Nat.le_of_ble_eq_true rfl) hlocks (thr_of (by rw [hT]; decide) (by rw [hT]; rfl) hP hK hD hS) hS.2.2 (Nat.le_of_ble_eq_true rfl) (Nat.le_of_ble_eq_true rfl)

set_option maxHeartbeats 4000000 in
set_option maxRecDepth 100000 in
theorem c_X4_meanLife_0 (l : Launch) (D : va_G) (cI : ClassId) (h t0 l0 m0 : Nat) (a : Nat → Nat) (σ : SS) (h0 : s_n σ = 0) : Met l yX4_meanLife wsX4_meanLife ({ frames := 3, cells := 0, slots := 0, locals := 67 } : Room) (va_Pc [.ref h] (preR D cI (wW h (a 0) t0 l0 m0 ++ sW cI a σ))) (vp_Sd (fun r => r = FP.dconst0)) 0 0 (fun _ => False) := by
  refine Met.ofW (cc := cX4_meanLife) (maxL := 2) (ret := (some .double)) (by decide) rfl ?_
  intro p e s m args below meth c s₁ B hml hv
  obtain ⟨rfl, hP, hK, hE⟩ := hv
  have hx := B.exec
  have hb := B.bytes
  have hr := B.returns
  have hts := atoms_spec (ws := wsX4_meanLife) B.pre
  have hown : s.vm.findClass RX4 = some m.cls := findClass_of_methodNamed B.named
  have hlocks := B.notSynchronized
  have hl := lv_entry ([.ref h]) (n := 2) (Nat.le_of_ble_eq_true rfl)
  rw [lg_entry_eq]
  generalize (lg_sl ([.ref h]) ++ List.replicate (2 - (lg_sl ([.ref h])).length) Slot.unset).toArray = ls at hl ⊢
  have hl : lv_has ls 2 [(0, .ref h)] := hl
  refine lv_aload_n hx hb dX4_meanLife_0 rfl (lv_at hl 0 rfl) ?_
  refine va_get (D := D) (ci := 4) (v := .ref (a 0)) (C := RX4) (T := TX4) (N := 4) hx hb hts (by decide +kernel) hown hK hP 0 rfl rfl 0 (by decide) (hts (.fieldLink RX4 12 "Warren" "state" "LWarren$State;") (by decide +kernel)) (fun _ h9 => h9) rfl dX4_meanLife_1 ?_
  refine lv_iconst (v := 0) hx hb dX4_meanLife_4 (by decide) ?_
  refine vp_callSi (va_Run.run (va_runV (As := [.int 0]) (rest := []) ⟨hx, hb, hml, hown, hts⟩ (c_X2_living l D cI a σ 0 (by omega)) (cwV 1 hts gX4_meanLife_X2_living rfl rfl rfl (by decide +kernel) ⟨Nat.le_of_ble_eq_true rfl, Nat.le_of_ble_eq_true rfl⟩) ⟨preR_blind, va_recv hK hP (ci := 2) (q0 := 1) rfl rfl, preR_of (hP.sub (ws' := sW cI a σ) [1, 2, 3, 4, 5, 6] rfl) hK hE [.ref (a 0), .int 0]⟩ rfl rfl hl.1 rfl (lv_room (Nat.le_of_ble_eq_true rfl)) dX4_meanLife_5 ⟨Nat.zero_le _, Nat.zero_le _⟩)) (fun r hr9 => ?_)
  subst hr9
  refine lv_aload_n hx hb dX4_meanLife_8 rfl (lv_at hl 0 rfl) ?_
  refine va_get (D := D) (ci := 4) (v := .ref (a 0)) (C := RX4) (T := TX4) (N := 4) hx hb hts (by decide +kernel) hown hK hP 0 rfl rfl 0 (by decide) (hts (.fieldLink RX4 12 "Warren" "state" "LWarren$State;") (by decide +kernel)) (fun _ h9 => h9) rfl dX4_meanLife_9 ?_
  refine lv_iconst (v := 1) hx hb dX4_meanLife_12 (by decide) ?_
  refine vp_callSi (va_Run.run (va_runV (As := [.int 1]) (rest := [.int (livingF σ 0)]) ⟨hx, hb, hml, hown, hts⟩ (c_X2_living l D cI a σ 1 (by omega)) (cwV 1 hts gX4_meanLife_X2_living rfl rfl rfl (by decide +kernel) ⟨Nat.le_of_ble_eq_true rfl, Nat.le_of_ble_eq_true rfl⟩) ⟨preR_blind, va_recv hK hP (ci := 2) (q0 := 1) rfl rfl, preR_of (hP.sub (ws' := sW cI a σ) [1, 2, 3, 4, 5, 6] rfl) hK hE [.ref (a 0), .int 1]⟩ rfl rfl hl.1 rfl (lv_room (Nat.le_of_ble_eq_true rfl)) dX4_meanLife_13 ⟨Nat.zero_le _, Nat.zero_le _⟩)) (fun r hr9 => ?_)
  subst hr9
  refine lv_iadd hx hb dX4_meanLife_16 ?_
  rw [living_0 h0, living_0 h0, show (0 : Int32) + 0 = 0 from rfl]
  refine lv_istore_n (lv' := [(1, .int 0), (0, .ref h)]) hx hb dX4_meanLife_17 rfl hl (by decide) rfl (fun ls hl => ?_)
  refine lv_iload_n hx hb dX4_meanLife_18 rfl (lv_at hl 0 rfl) ?_
  refine lv_if_ne (tgt := 24) hx hb dX4_meanLife_19 (by decide) (fun z9 => absurd z9 (by decide)) (fun _ => ?_)
  refine lv_dconst0 hx hb dX4_meanLife_22 ?_
  exact W.dret (v := FP.dconst0) hx hb hr (fun T9 ht _ => ⟨_, rfl, rfl, ht⟩) hnil dX4_meanLife_23

set_option maxHeartbeats 4000000 in
set_option maxRecDepth 100000 in
theorem c_X4_digest_0 (l : Launch) (D : va_G) (cI : ClassId) (h t0 l0 m0 : Nat) (a : Nat → Nat) (σ : SS) (mc : Int32) (e0 g : Nat) (h0 : s_n σ = 0) : Met l yX4_digest wsX4_digest ({ frames := 4, cells := 0, slots := 0, locals := 88 } : Room) (va_Pc [.ref h] (preF D cI (wW h (a 0) t0 l0 m0 ++ sW cI a σ ++ wL l0 mc e0 g))) (vp_Sl (fun r => r = dig0 σ g)) 0 0 (fun _ => False) := by
  refine Met.ofW (cc := cX4_digest) (maxL := 4) (ret := (some .long)) (by decide) rfl ?_
  intro p e s m args below meth c s₁ B hml hv
  obtain ⟨rfl, ⟨hP, hK, hE⟩, hF⟩ := hv
  have hx := B.exec
  have hb := B.bytes
  have hr := B.returns
  have hts := atoms_spec (ws := wsX4_digest) B.pre
  have hown : s.vm.findClass RX4 = some m.cls := findClass_of_methodNamed B.named
  have hlocks := B.notSynchronized
  have hl := lv_entry ([.ref h]) (n := 4) (Nat.le_of_ble_eq_true rfl)
  rw [lg_entry_eq]
  generalize (lg_sl ([.ref h]) ++ List.replicate (4 - (lg_sl ([.ref h])).length) Slot.unset).toArray = ls at hl ⊢
  have hl : lv_has ls 4 [(0, .ref h)] := hl
  refine lv_ldc2 hx hb hown (hts (.constantLong RX4 223 (58090)) (by decide +kernel)) dX4_digest_0 ?_
  refine lv_lstore_n (lv' := [(1, .long (58090)), (0, .ref h)]) hx hb dX4_digest_3 rfl hl (by decide) rfl (fun ls hl => ?_)
  refine lv_iconst (v := 0) hx hb dX4_digest_4 (by decide) ?_
  refine lv_istore_n (lv' := [(3, .int 0), (1, .long (58090)), (0, .ref h)]) hx hb dX4_digest_5 rfl hl (by decide) rfl (fun ls hl => ?_)
  have L6 : ∀ (n k : Nat) (d : Int64) (hk : k + n = 9) (hsp : dig0 σ g = dgC σ 160 0 (dgW σ g n k d)) (ls : Array Slot), lv_has ls 4 [(3, .int (nI k)), (1, .long d), (0, .ref h)] → W p l e ({ frames := 4, cells := 0, slots := 0, locals := 88 } : Room) s m ([.ref h] : List Value).toArray below meth c s.heap [] 0 0 (MQ below (vp_Sl (fun r => r = dig0 σ g)) ([.ref h] : List Value).toArray s 0 0 (fun _ => False)) (F0 m 6 ls []) := by
    intro n
    induction n with
    | zero =>
      intro k d hk hsp ls hl
      refine lv_iload_n hx hb dX4_digest_6 rfl (lv_at hl 0 rfl) ?_
      refine lv_bipush (v := 8) hx hb dX4_digest_7 (by decide) ?_
      refine lv_icmp_gt (tgt := 31) hx hb dX4_digest_9 (by decide) (fun c_9 => ?_) (fun c_9 => absurd ((nI_lt (a := 8) (by omega) (by omega))) c_9)
      refine lv_iconst (v := 0) hx hb dX4_digest_31 (by decide) ?_
      refine lv_istore_n (lv' := [(3, .int 0), (1, .long d), (0, .ref h)]) hx hb dX4_digest_32 rfl hl (by decide) rfl (fun ls hl => ?_)
      have L33 : ∀ (n1 k1 : Nat) (d1 : Int64) (hk1 : k1 + n1 = 160) (hsp1 : dig0 σ g = dgC σ n1 k1 d1) (ls : Array Slot), lv_has ls 4 [(3, .int (nI k1)), (1, .long d1), (0, .ref h)] → W p l e ({ frames := 4, cells := 0, slots := 0, locals := 88 } : Room) s m ([.ref h] : List Value).toArray below meth c s.heap [] 0 0 (MQ below (vp_Sl (fun r => r = dig0 σ g)) ([.ref h] : List Value).toArray s 0 0 (fun _ => False)) (F0 m 33 ls []) := by
        intro n1
        induction n1 with
        | zero =>
          intro k1 d1 hk1 hsp1 ls hl
          refine lv_iload_n hx hb dX4_digest_33 rfl (lv_at hl 0 rfl) ?_
          refine lv_sipush (v := 160) hx hb dX4_digest_34 (by decide) ?_
          refine lv_icmp_ge (tgt := 62) hx hb dX4_digest_37 (by decide) (fun c_37 => ?_) (fun c_37 => absurd (nI_le (b := k1) (a := 160) (by omega) (by omega)) c_37)
          refine lv_iconst (v := 0) hx hb dX4_digest_62 (by decide) ?_
          refine lv_istore_n (lv' := [(3, .int 0), (1, .long d1), (0, .ref h)]) hx hb dX4_digest_63 rfl hl (by decide) rfl (fun ls hl => ?_)
          refine lv_iload_n hx hb dX4_digest_64 rfl (lv_at hl 0 rfl) ?_
          refine lv_bipush (v := 10) hx hb dX4_digest_65 (by decide) ?_
          refine lv_icmp_ge (tgt := 94) hx hb dX4_digest_67 (by decide) (fun c_67 => absurd c_67 ((by decide))) (fun c_67 => ?_)
          refine lv_aload_n hx hb dX4_digest_70 rfl (lv_at hl 2 rfl) ?_
          refine va_get (D := D) (ci := 4) (v := .ref (a 0)) (C := RX4) (T := TX4) (N := 4) hx hb hts (by decide +kernel) hown hK hP 0 rfl rfl 0 (by decide) (hts (.fieldLink RX4 12 "Warren" "state" "LWarren$State;") (by decide +kernel)) (fun _ h9 => h9) rfl dX4_digest_71 ?_
          refine lv_iload_n hx hb dX4_digest_74 rfl (lv_at hl 0 rfl) ?_
          refine vp_callSi (va_Run.run (va_runV (As := [.int 0]) (rest := []) ⟨hx, hb, hml, hown, hts⟩ (c_X2_isBeing l D cI a σ 0) (cwV 1 hts gX4_digest_X2_isBeing rfl rfl rfl (by decide +kernel) ⟨Nat.le_of_ble_eq_true rfl, Nat.le_of_ble_eq_true rfl⟩) ⟨preR_blind, va_recv hK hP (ci := 2) (q0 := 1) rfl rfl, preR_of (hP.sub (ws' := sW cI a σ) [1, 2, 3, 4, 5, 6] rfl) hK hE [.ref (a 0), .int 0]⟩ rfl rfl hl.1 rfl (lv_room (Nat.le_of_ble_eq_true rfl)) dX4_digest_75 ⟨Nat.zero_le _, Nat.zero_le _⟩)) (fun r hr9 => ?_)
          subst hr9
          refine w_bz (tgt := 94) hx hb dX4_digest_78 (by decide) (fun c_78 => ?_) (fun c_78 => absurd c_78 ((by rw [being_0 h0]; decide)))
          refine lv_aload_n hx hb dX4_digest_94 rfl (lv_at hl 2 rfl) ?_
          refine va_get (D := D) (ci := 4) (v := .ref (a 0)) (C := RX4) (T := TX4) (N := 4) hx hb hts (by decide +kernel) hown hK hP 0 rfl rfl 0 (by decide) (hts (.fieldLink RX4 12 "Warren" "state" "LWarren$State;") (by decide +kernel)) (fun _ h9 => h9) rfl dX4_digest_95 ?_
          refine vp_callSi (va_Run.run (va_runV (As := []) (rest := []) ⟨hx, hb, hml, hown, hts⟩ (c_X2_whoseTurn l D cI a σ  (by omega)) (cwV 0 hts gX4_digest_X2_whoseTurn rfl rfl rfl (by decide +kernel) ⟨Nat.le_of_ble_eq_true rfl, Nat.le_of_ble_eq_true rfl⟩) ⟨preR_blind, va_recv hK hP (ci := 2) (q0 := 1) rfl rfl, preR_of (hP.sub (ws' := sW cI a σ) [1, 2, 3, 4, 5, 6] rfl) hK hE [.ref (a 0)]⟩ rfl rfl hl.1 rfl (lv_room (Nat.le_of_ble_eq_true rfl)) dX4_digest_98 ⟨Nat.zero_le _, Nat.zero_le _⟩)) (fun r hr9 => ?_)
          subst hr9
          rw [turn_0 h0]
          refine lv_istore_n (lv' := [(3, .int (-1)), (1, .long d1), (0, .ref h)]) hx hb dX4_digest_101 rfl hl (by decide) rfl (fun ls hl => ?_)
          refine lv_iload_n hx hb dX4_digest_102 rfl (lv_at hl 0 rfl) ?_
          refine lv_iconst (v := (-1)) hx hb dX4_digest_103 (by decide) ?_
          refine lv_icmp_ne (tgt := 111) hx hb dX4_digest_104 (by decide) (fun c_104 => absurd c_104 ((by decide))) (fun c_104 => ?_)
          refine lv_lload_n hx hb dX4_digest_107 rfl (lv_at hl 1 rfl) ?_
          refine lv_goto (tgt := 135) hx hb dX4_digest_108 (by decide) ?_
          exact W.lret (v := d1) hx hb hr (fun T9 ht _ => ⟨_, rfl, by rw [hsp1]; rfl, ht⟩) hnil dX4_digest_135
        | succ n1 ih33 =>
          intro k1 d1 hk1 hsp1 ls hl
          refine lv_iload_n hx hb dX4_digest_33 rfl (lv_at hl 0 rfl) ?_
          refine lv_sipush (v := 160) hx hb dX4_digest_34 (by decide) ?_
          refine lv_icmp_ge (tgt := 62) hx hb dX4_digest_37 (by decide) (fun c_37 => absurd c_37 (nI_ge (b := 160) (by omega) (by omega))) (fun c_37 => ?_)
          refine lv_lload_n hx hb dX4_digest_40 rfl (lv_at hl 1 rfl) ?_
          refine lv_ldc2 hx hb hown (hts (.constantLong RX4 225 (31)) (by decide +kernel)) dX4_digest_41 ?_
          refine lv_lmul hx hb dX4_digest_44 ?_
          refine lv_aload_n hx hb dX4_digest_45 rfl (lv_at hl 2 rfl) ?_
          refine va_get (D := D) (ci := 4) (v := .ref (a 0)) (C := RX4) (T := TX4) (N := 4) hx hb hts (by decide +kernel) hown hK hP 0 rfl rfl 0 (by decide) (hts (.fieldLink RX4 12 "Warren" "state" "LWarren$State;") (by decide +kernel)) (fun _ h9 => h9) rfl dX4_digest_46 ?_
          refine lv_iload_n hx hb dX4_digest_49 rfl (lv_at hl 0 rfl) ?_
          refine vp_callSi (va_Run.run (va_runV (As := [.int (nI k1)]) (rest := [.long (d1 * (31))]) ⟨hx, hb, hml, hown, hts⟩ (c_X2_kindAt l D cI a σ (nI k1)) (cwV 1 hts gX4_digest_X2_kindAt rfl rfl rfl (by decide +kernel) ⟨Nat.le_of_ble_eq_true rfl, Nat.le_of_ble_eq_true rfl⟩) ⟨preR_blind, va_recv hK hP (ci := 2) (q0 := 1) rfl rfl, preR_of (hP.sub (ws' := sW cI a σ) [1, 2, 3, 4, 5, 6] rfl) hK hE [.ref (a 0), .int (nI k1)]⟩ rfl rfl hl.1 rfl (lv_room (Nat.le_of_ble_eq_true rfl)) dX4_digest_50 ⟨Nat.zero_le _, Nat.zero_le _⟩)) (fun r hr9 => ?_)
          subst hr9
          refine lv_i2l (v := (kindF σ (nI k1)).toInt64) hx hb dX4_digest_53 rfl ?_
          refine lv_ladd hx hb dX4_digest_54 ?_
          refine lv_lstore_n (lv' := [(1, .long ((d1 * (31)) + (kindF σ (nI k1)).toInt64)), (3, .int (nI k1)), (0, .ref h)]) hx hb dX4_digest_55 rfl hl (by decide) rfl (fun ls hl => ?_)
          refine lv_iinc (v := (nI (k1 + 1))) (lv' := [(3, .int (nI (k1 + 1))), (1, .long ((d1 * (31)) + (kindF σ (nI k1)).toInt64)), (0, .ref h)]) hx hb dX4_digest_56 hl (k := 1) rfl (nI_1 k1) (by decide) rfl (fun ls hl => ?_)
          refine lv_goto (tgt := 33) hx hb dX4_digest_59 (by decide) ?_
          exact ih33 (k1 + 1) ((d1 * (31)) + (kindF σ (nI k1)).toInt64) (by omega) (by rw [hsp1]; rfl) ls (lv_sub hl [0, 1, 2] rfl)
      exact L33 160 0 d (by omega) hsp ls (lv_sub hl [0, 1, 2] rfl)
    | succ n ih6 =>
      intro k d hk hsp ls hl
      refine lv_iload_n hx hb dX4_digest_6 rfl (lv_at hl 0 rfl) ?_
      refine lv_bipush (v := 8) hx hb dX4_digest_7 (by decide) ?_
      refine lv_icmp_gt (tgt := 31) hx hb dX4_digest_9 (by decide) (fun c_9 => absurd c_9 ((nI_nlt (b := k) (a := 8) (by omega) (by omega)))) (fun c_9 => ?_)
      refine lv_lload_n hx hb dX4_digest_12 rfl (lv_at hl 1 rfl) ?_
      refine lv_ldc2 hx hb hown (hts (.constantLong RX4 225 (31)) (by decide +kernel)) dX4_digest_13 ?_
      refine lv_lmul hx hb dX4_digest_16 ?_
      refine lv_aload_n hx hb dX4_digest_17 rfl (lv_at hl 2 rfl) ?_
      refine lv_iload_n hx hb dX4_digest_18 rfl (lv_at hl 0 rfl) ?_
      refine vp_callSi (va_Run.run (va_runV (As := [.int (nI k)]) (rest := [.long (d * (31))]) ⟨hx, hb, hml, hown, hts⟩ (c_X4_countOf l D cI h t0 l0 m0 a σ mc e0 g k (by omega) (by omega)) (cwV 1 hts gX4_digest_X4_countOf rfl rfl rfl (by decide +kernel) ⟨Nat.le_of_ble_eq_true rfl, Nat.le_of_ble_eq_true rfl⟩) ⟨preF_blind, va_recv hK hP (ci := 4) (q0 := 0) rfl rfl, preF_of hP hK hE hF [.ref h, .int (nI k)]⟩ rfl rfl hl.1 rfl (lv_room (Nat.le_of_ble_eq_true rfl)) dX4_digest_19 ⟨Nat.zero_le _, Nat.zero_le _⟩)) (fun r hr9 => ?_)
      subst hr9
      refine lv_i2l (v := (countF σ g (nI k)).toInt64) hx hb dX4_digest_22 rfl ?_
      refine lv_ladd hx hb dX4_digest_23 ?_
      refine lv_lstore_n (lv' := [(1, .long ((d * (31)) + (countF σ g (nI k)).toInt64)), (3, .int (nI k)), (0, .ref h)]) hx hb dX4_digest_24 rfl hl (by decide) rfl (fun ls hl => ?_)
      refine lv_iinc (v := (nI (k + 1))) (lv' := [(3, .int (nI (k + 1))), (1, .long ((d * (31)) + (countF σ g (nI k)).toInt64)), (0, .ref h)]) hx hb dX4_digest_25 hl (k := 1) rfl (nI_1 k) (by decide) rfl (fun ls hl => ?_)
      refine lv_goto (tgt := 6) hx hb dX4_digest_28 (by decide) ?_
      exact ih6 (k + 1) ((d * (31)) + (countF σ g (nI k)).toInt64) (by omega) (by rw [hsp]; rfl) ls (lv_sub hl [0, 1, 2] rfl)
  exact L6 9 0 58090 (by omega) rfl ls (lv_sub hl [0, 1, 2] rfl)

