-- ===== the face: plans, turns =====
set_option maxHeartbeats 4000000 in
set_option maxRecDepth 100000 in
theorem c_X4_way (l : Launch) (hst : l.stackTraces = false) (D : va_G) (cI : ClassId) (sz : Nat) (h t0 l0 m0 w0 : Nat) (a b : Nat → Nat) (σ : SS) (f : Nat → Int32) (ψ : YS) (x y : Int32) (t : Nat) (hn : s_n σ ≤ 10) : vx_Met l yX4_way wsX4_way ({ frames := 6, cells := 1, slots := 6, locals := 119 } : Room) (va_Pc [.ref h, .int x, .int y] (preXS D cI (wW h (a 0) t0 l0 m0 ++ sW cI a σ ++ mW cI m0 (b 0) w0 f ++ yW cI b ψ) sz t)) (va_Qi (fun (r : Int32) (u : (SS × (Nat → Int32) × YS)) => wayT σ x y = 0 ∧ r = wayF σ x y ∧ u.1 = σ) (fun (u : (SS × (Nat → Int32) × YS)) => posM D cI (va_A (wW h (a 0) t0 l0 m0 ++ sW cI a σ ++ mW cI m0 (b 0) w0 f ++ yW cI b ψ) sz) (wW h (a 0) t0 l0 m0 ++ sW cI a u.1 ++ mW cI m0 (b 0) w0 u.2.1 ++ yW cI b u.2.2)) (va_A (wW h (a 0) t0 l0 m0 ++ sW cI a σ ++ mW cI m0 (b 0) w0 f ++ yW cI b ψ) sz)) (thrX (wayT σ x y) nmI D cI (va_A (wW h (a 0) t0 l0 m0 ++ sW cI a σ ++ mW cI m0 (b 0) w0 f ++ yW cI b ψ) sz) (wW h (a 0) t0 l0 m0 ++ sW cI a σ ++ mW cI m0 (b 0) w0 f ++ yW cI b ψ)) 1 6 (va_A (wW h (a 0) t0 l0 m0 ++ sW cI a σ ++ mW cI m0 (b 0) w0 f ++ yW cI b ψ) sz) := by
  refine vx_ofW (cc := cX4_way) (maxL := 3) (ret := (some .int)) (by decide) rfl ?_
  intro p e s m args below meth c s₁ B hml hno hv
  obtain ⟨rfl, ⟨hsz, hP, hK, hXV, hD0, hTX⟩, hSX⟩ := hv
  have hE := hXV.1
  have hx := B.exec
  have hb := B.bytes
  have hr := B.returns
  have hts := atoms_spec (ws := wsX4_way) B.pre
  have hown : s.vm.findClass RX4 = some m.cls := findClass_of_methodNamed B.named
  have hlocks := B.notSynchronized
  subst hsz
  have hD := hD0.self (sz := s.heap.size)
  generalize hAe : va_A (wW h (a 0) t0 l0 m0 ++ sW cI a σ ++ mW cI m0 (b 0) w0 f ++ yW cI b ψ) s.heap.size = A at hD hTX hSX ⊢
  have hA : ∀ q : Nat, s.heap.size ≤ q → A q := fun q h => by rw [← hAe]; exact Or.inr h
  have hS : va_S A s.heap s.heap [] := va_S.rf
  have hP : va_P D vwCl (wW h (a 0) t0 l0 m0 ++ sW cI a σ ++ mW cI m0 (b 0) w0 f ++ yW cI b ψ) s.heap := hP
  have hl := lv_entry ([.ref h, .int x, .int y]) (n := 3) (Nat.le_of_ble_eq_true rfl)
  rw [lg_entry_eq]
  generalize (lg_sl ([.ref h, .int x, .int y]) ++ List.replicate (3 - (lg_sl ([.ref h, .int x, .int y])).length) Slot.unset).toArray = ls at hl ⊢
  have hl : lv_has ls 3 [(0, .ref h), (1, .int x), (2, .int y)] := hl
  refine lv_aload_n hx hb dX4_way_0 rfl (lv_at hl 0 rfl) ?_
  refine va_get (D := D) (ci := 4) (v := .ref (a 0)) (C := RX4) (T := TX4) (N := 4) hx hb hts (by decide +kernel) hown hK hP 0 rfl rfl 0 (by decide) (hts (.fieldLink RX4 12 "Warren" "state" "LWarren$State;") (by decide +kernel)) (fun _ h9 => h9) rfl dX4_way_1 ?_
  refine lv_iload_n hx hb dX4_way_4 rfl (lv_at hl 1 rfl) ?_
  refine vp_callSi (va_Run.run (va_runV (As := [.int x]) (rest := []) ⟨hx, hb, hml, hown, hts⟩ (c_X2_isBeing l D cI a σ x) (cwV 1 hts gX4_way_X2_isBeing rfl rfl rfl (by decide +kernel) ⟨Nat.le_of_ble_eq_true rfl, Nat.le_of_ble_eq_true rfl⟩) ⟨preR_blind, va_recv hK hP (ci := 2) (q0 := 1) rfl rfl, preR_of (hP.sub (ws' := sW cI a σ) [1, 2, 3, 4, 5, 6] rfl) hK hE [.ref (a 0), .int x]⟩ rfl rfl hl.1 rfl (lv_room (Nat.le_of_ble_eq_true rfl)) dX4_way_5 ⟨Nat.zero_le _, Nat.zero_le _⟩)) (fun r hr9 => ?_)
  subst hr9
  refine w_bz (tgt := 18) hx hb dX4_way_8 (by decide) (fun c_8 => ?_) (fun c_8 => ?_)
  · have hT : wayT σ x y = 1 := by first | rfl | (simp only [wayT, c_8, Bool.false_eq_true, if_false, if_true]; done) | (simp [wayT, c_8]; done)
    obtain ⟨sa, hstr⟩ := hXV.2.1 _ (List.mem_of_getElem? (i := 17) (a := (175, "no such being or cell")) rfl)
    have hat : ∀ w ∈ vx_atS RX4 56 "java/lang/IndexOutOfBoundsException" ["java/lang/RuntimeException", "java/lang/Exception"], w.before _ s = true := vx_hat (B := [.castable "java/lang/IndexOutOfBoundsException" "java/lang/IndexOutOfBoundsException", decl_1, decl_2, decl_3]) (fun w h => hts w (List.mem_cons_of_mem _ (List.mem_append_right _ h))) (by decide +kernel) (vx_c (va_Nw.use rfl hXV.2.2.2.2.1) (vx_c (va_Nw.use rfl hXV.2.2.2.2.2.1) (vx_c (va_Nw.use rfl hXV.2.2.2.2.2.2.1) (vx_c (va_Nw.use rfl hXV.2.2.2.2.2.2.2.1) vx_n))))
    exact vx_throwS (own := RX4) (cls := "java/lang/IndexOutOfBoundsException") (text := "no such being or cell") (names := ["java/lang/RuntimeException", "java/lang/Exception"]) (ik := 52) (is := 175) (ic := 56) (sa := sa) (A := A) hx hb hst hown (by decide +kernel) (by decide +kernel) (hts (.classLink RX4 52 "java/lang/IndexOutOfBoundsException") (by decide +kernel)) (hts (.initialized "java/lang/IndexOutOfBoundsException") (by decide +kernel)) hstr hat (by decide +kernel) hTX.1 hTX.2 hS (hl.1.trans hml.symm) dX4_way_18 dX4_way_21 dX4_way_22 dX4_way_24 dX4_way_27 (fun x hx9 => (hno x hx9).elim) (Nat.le_of_ble_eq_true rfl) (Nat.le_of_ble_eq_true rfl) (Nat.le_of_ble_eq_true rfl) (Nat.le_of_ble_eq_true rfl) hlocks (thr_of (by rw [hT]; decide) (by rw [hT]; rfl) hP hK hD hS) hS.2.2 (Nat.le_of_ble_eq_true rfl) (Nat.le_of_ble_eq_true rfl)
  · refine lv_iload_n hx hb dX4_way_11 rfl (lv_at hl 2 rfl) ?_
    refine vp_callSi (va_Run.run (va_runS (As := [.int y]) (rest := []) ⟨hx, hb, hml, hown, hts⟩ (c_X4_isCell l y) (va_cwS 1 hts gX4_way_X4_isCell rfl rfl rfl (by decide +kernel) ⟨Nat.le_of_ble_eq_true rfl, Nat.le_of_ble_eq_true rfl⟩) ⟨fun _ _ _ _ q => q, fun _ _ _ => ⟨rfl, trivial⟩⟩ rfl rfl hl.1 rfl (lv_room (Nat.le_of_ble_eq_true rfl)) dX4_way_12 ⟨Nat.zero_le _, Nat.zero_le _⟩)) (fun r hr9 => ?_)
    subst hr9
    refine w_bnz (tgt := 28) hx hb dX4_way_15 (by decide) (fun c_15 => ?_) (fun c_15 => ?_)
    · refine lv_aload_n hx hb dX4_way_28 rfl (lv_at hl 0 rfl) ?_
      refine va_get (D := D) (ci := 4) (v := .ref m0) (C := RX4) (T := TX4) (N := 4) hx hb hts (by decide +kernel) hown hK hP 0 rfl rfl 3 (by decide) (hts (.fieldLink RX4 29 "Warren" "mind" "LWarren$Mind;") (by decide +kernel)) (fun _ h9 => h9) rfl dX4_way_29 ?_
      refine lv_aload_n hx hb dX4_way_32 rfl (lv_at hl 0 rfl) ?_
      refine va_get (D := D) (ci := 4) (v := .ref (a 0)) (C := RX4) (T := TX4) (N := 4) hx hb hts (by decide +kernel) hown hK hP 0 rfl rfl 0 (by decide) (hts (.fieldLink RX4 12 "Warren" "state" "LWarren$State;") (by decide +kernel)) (fun _ h9 => h9) rfl dX4_way_33 ?_
      refine lv_iload_n hx hb dX4_way_36 rfl (lv_at hl 1 rfl) ?_
      refine lv_iload_n hx hb dX4_way_37 rfl (lv_at hl 2 rfl) ?_
      have hFc := va_free (wc := mW cI m0 (b 0) w0 f ++ yW cI b ψ ++ sW cI a σ) hD hS hA [7, 8, 9, 10, 11, 1, 2, 3, 4, 5, 6] rfl
      refine va_calli (va_runV (As := [.ref (a 0), .int x, .int y]) (rest := []) ⟨hx, hb, hml, hown, hts⟩ (c_X0_wayOf l D cI _ m0 w0 f b ψ a σ x y t hn) (cwV 3 hts gX4_way_X0_wayOf rfl rfl rfl (by decide +kernel) ⟨Nat.le_of_ble_eq_true rfl, Nat.le_of_ble_eq_true rfl⟩) ⟨preSX_blind, va_recv hK hP (ci := 1) (q0 := 7) rfl rfl, preSX_of (hP.sub (ws' := mW cI m0 (b 0) w0 f ++ yW cI b ψ ++ sW cI a σ) [7, 8, 9, 10, 11, 1, 2, 3, 4, 5, 6] rfl) hK hE (hD.sub (ws' := mW cI m0 (b 0) w0 f ++ yW cI b ψ ++ sW cI a σ) [7, 8, 9, 10, 11, 1, 2, 3, 4, 5, 6] (by decide) rfl) hSX hS hFc [.ref m0, .ref (a 0), .int x, .int y]⟩ rfl rfl hl.1 rfl (lv_room (Nat.le_of_ble_eq_true rfl)) dX4_way_38 ⟨Nat.le_of_ble_eq_true rfl, Nat.le_of_ble_eq_true rfl⟩) hS (fun q _ h => hFc q h) hFc (fun r u t9 H1 locs ht hvm hw hB hz1 hk1 hS => ?_)
      obtain ⟨hP1, hK1, hD1⟩ := hB
      rw [ht] at hP1
      obtain ⟨φ38, rfl⟩ : ∃ z, z = u := ⟨_, rfl⟩
      subst hw
      obtain ⟨hP, hD⟩ := va_join (wr := wW h (a 0) t0 l0 m0) (w1 := mW cI m0 (b 0) w0 f ++ yW cI b φ38 ++ sW cI a σ) hP hD [7, 8, 9, 10, 11, 1, 2, 3, 4, 5, 6] [0] rfl rfl (by decide) (by decide) hk1 hFc hP1 hD1
      generalize H1 = H at hP hS ⊢
      have hP : va_P D vwCl (wW h (a 0) t0 l0 m0 ++ mW cI m0 (b 0) w0 f ++ yW cI b φ38 ++ sW cI a σ) H := hP
      have hD : va_D A (wW h (a 0) t0 l0 m0 ++ mW cI m0 (b 0) w0 f ++ yW cI b φ38 ++ sW cI a σ) := hD
      have hP9 := hP.sub (ws' := wW h (a 0) t0 l0 m0 ++ sW cI a σ ++ mW cI m0 (b 0) w0 f ++ yW cI b φ38) [0, 6, 7, 8, 9, 10, 11, 1, 2, 3, 4, 5] rfl
      have hD9 := hD.sub (ws' := wW h (a 0) t0 l0 m0 ++ sW cI a σ ++ mW cI m0 (b 0) w0 f ++ yW cI b φ38) [0, 6, 7, 8, 9, 10, 11, 1, 2, 3, 4, 5] (by decide) rfl
      refine W.widen (k := 1) (n := 6) (Nat.le_of_ble_eq_true rfl) (Nat.le_of_ble_eq_true rfl) ?_
      refine vx_ret ?_
      exact W.iret (v := (wayF σ x y)) hx hb hr (fun T9 ht hW => ⟨⟨(wayF σ x y), (σ, f, φ38), rfl, ⟨by first | rfl | (simp only [wayT, c_8, c_15, Bool.false_eq_true, if_false, if_true]; done) | (simp [wayT, c_8, c_15]; done), by first | rfl | (simp [c_8, c_15]; done), by first | rfl | (simp [c_8, c_15]; done)⟩, by rw [ht]; exact hP9, va_K.moved hW.alike hK, hD9⟩, hS.F ht⟩) hS.2.2 dX4_way_41
    · have hT : wayT σ x y = 1 := by first | rfl | (simp only [wayT, c_8, c_15, Bool.false_eq_true, if_false, if_true]; done) | (simp [wayT, c_8, c_15]; done)
      obtain ⟨sa, hstr⟩ := hXV.2.1 _ (List.mem_of_getElem? (i := 17) (a := (175, "no such being or cell")) rfl)
      have hat : ∀ w ∈ vx_atS RX4 56 "java/lang/IndexOutOfBoundsException" ["java/lang/RuntimeException", "java/lang/Exception"], w.before _ s = true := vx_hat (B := [.castable "java/lang/IndexOutOfBoundsException" "java/lang/IndexOutOfBoundsException", decl_1, decl_2, decl_3]) (fun w h => hts w (List.mem_cons_of_mem _ (List.mem_append_right _ h))) (by decide +kernel) (vx_c (va_Nw.use rfl hXV.2.2.2.2.1) (vx_c (va_Nw.use rfl hXV.2.2.2.2.2.1) (vx_c (va_Nw.use rfl hXV.2.2.2.2.2.2.1) (vx_c (va_Nw.use rfl hXV.2.2.2.2.2.2.2.1) vx_n))))
      exact vx_throwS (own := RX4) (cls := "java/lang/IndexOutOfBoundsException") (text := "no such being or cell") (names := ["java/lang/RuntimeException", "java/lang/Exception"]) (ik := 52) (is := 175) (ic := 56) (sa := sa) (A := A) hx hb hst hown (by decide +kernel) (by decide +kernel) (hts (.classLink RX4 52 "java/lang/IndexOutOfBoundsException") (by decide +kernel)) (hts (.initialized "java/lang/IndexOutOfBoundsException") (by decide +kernel)) hstr hat (by decide +kernel) hTX.1 hTX.2 hS (hl.1.trans hml.symm) dX4_way_18 dX4_way_21 dX4_way_22 dX4_way_24 dX4_way_27 (fun x hx9 => (hno x hx9).elim) (Nat.le_of_ble_eq_true rfl) (Nat.le_of_ble_eq_true rfl) (Nat.le_of_ble_eq_true rfl) (Nat.le_of_ble_eq_true rfl) hlocks (thr_of (by rw [hT]; decide) (by rw [hT]; rfl) hP hK hD hS) hS.2.2 (Nat.le_of_ble_eq_true rfl) (Nat.le_of_ble_eq_true rfl)
set_option maxHeartbeats 4000000 in
set_option maxRecDepth 100000 in
theorem c_X4_worth (l : Launch) (hst : l.stackTraces = false) (D : va_G) (cI : ClassId) (sz : Nat) (h t0 l0 m0 w0 : Nat) (a b : Nat → Nat) (σ : SS) (f : Nat → Int32) (ψ : YS) (x y : Int32) (t : Nat) (hn : s_n σ ≤ 10) : vx_Met l yX4_worth wsX4_worth ({ frames := 6, cells := 1, slots := 6, locals := 144 } : Room) (va_Pc [.ref h, .int x, .int y] (preXS D cI (wW h (a 0) t0 l0 m0 ++ sW cI a σ ++ mW cI m0 (b 0) w0 f ++ yW cI b ψ) sz t)) (va_Qi (fun (r : Int32) (u : (SS × (Nat → Int32) × YS)) => worthT σ x y = 0 ∧ r = worthOfF (worthF σ x) y ∧ u.1 = σ) (fun (u : (SS × (Nat → Int32) × YS)) => posM D cI (va_A (wW h (a 0) t0 l0 m0 ++ sW cI a σ ++ mW cI m0 (b 0) w0 f ++ yW cI b ψ) sz) (wW h (a 0) t0 l0 m0 ++ sW cI a u.1 ++ mW cI m0 (b 0) w0 u.2.1 ++ yW cI b u.2.2)) (va_A (wW h (a 0) t0 l0 m0 ++ sW cI a σ ++ mW cI m0 (b 0) w0 f ++ yW cI b ψ) sz)) (thrX (worthT σ x y) nmIA D cI (va_A (wW h (a 0) t0 l0 m0 ++ sW cI a σ ++ mW cI m0 (b 0) w0 f ++ yW cI b ψ) sz) (wW h (a 0) t0 l0 m0 ++ sW cI a σ ++ mW cI m0 (b 0) w0 f ++ yW cI b ψ)) 1 6 (va_A (wW h (a 0) t0 l0 m0 ++ sW cI a σ ++ mW cI m0 (b 0) w0 f ++ yW cI b ψ) sz) := by
  refine vx_ofW (cc := cX4_worth) (maxL := 3) (ret := (some .int)) (by decide) rfl ?_
  intro p e s m args below meth c s₁ B hml hno hv
  obtain ⟨rfl, ⟨hsz, hP, hK, hXV, hD0, hTX⟩, hSX⟩ := hv
  have hE := hXV.1
  have hx := B.exec
  have hb := B.bytes
  have hr := B.returns
  have hts := atoms_spec (ws := wsX4_worth) B.pre
  have hown : s.vm.findClass RX4 = some m.cls := findClass_of_methodNamed B.named
  have hlocks := B.notSynchronized
  subst hsz
  have hD := hD0.self (sz := s.heap.size)
  generalize hAe : va_A (wW h (a 0) t0 l0 m0 ++ sW cI a σ ++ mW cI m0 (b 0) w0 f ++ yW cI b ψ) s.heap.size = A at hD hTX hSX ⊢
  have hA : ∀ q : Nat, s.heap.size ≤ q → A q := fun q h => by rw [← hAe]; exact Or.inr h
  have hS : va_S A s.heap s.heap [] := va_S.rf
  have hP : va_P D vwCl (wW h (a 0) t0 l0 m0 ++ sW cI a σ ++ mW cI m0 (b 0) w0 f ++ yW cI b ψ) s.heap := hP
  have hl := lv_entry ([.ref h, .int x, .int y]) (n := 3) (Nat.le_of_ble_eq_true rfl)
  rw [lg_entry_eq]
  generalize (lg_sl ([.ref h, .int x, .int y]) ++ List.replicate (3 - (lg_sl ([.ref h, .int x, .int y])).length) Slot.unset).toArray = ls at hl ⊢
  have hl : lv_has ls 3 [(0, .ref h), (1, .int x), (2, .int y)] := hl
  refine lv_aload_n hx hb dX4_worth_0 rfl (lv_at hl 0 rfl) ?_
  refine va_get (D := D) (ci := 4) (v := .ref (a 0)) (C := RX4) (T := TX4) (N := 4) hx hb hts (by decide +kernel) hown hK hP 0 rfl rfl 0 (by decide) (hts (.fieldLink RX4 12 "Warren" "state" "LWarren$State;") (by decide +kernel)) (fun _ h9 => h9) rfl dX4_worth_1 ?_
  refine lv_iload_n hx hb dX4_worth_4 rfl (lv_at hl 1 rfl) ?_
  refine vp_callSi (va_Run.run (va_runV (As := [.int x]) (rest := []) ⟨hx, hb, hml, hown, hts⟩ (c_X2_isBeing l D cI a σ x) (cwV 1 hts gX4_worth_X2_isBeing rfl rfl rfl (by decide +kernel) ⟨Nat.le_of_ble_eq_true rfl, Nat.le_of_ble_eq_true rfl⟩) ⟨preR_blind, va_recv hK hP (ci := 2) (q0 := 1) rfl rfl, preR_of (hP.sub (ws' := sW cI a σ) [1, 2, 3, 4, 5, 6] rfl) hK hE [.ref (a 0), .int x]⟩ rfl rfl hl.1 rfl (lv_room (Nat.le_of_ble_eq_true rfl)) dX4_worth_5 ⟨Nat.zero_le _, Nat.zero_le _⟩)) (fun r hr9 => ?_)
  subst hr9
  refine w_bnz (tgt := 21) hx hb dX4_worth_8 (by decide) (fun c_8 => ?_) (fun c_8 => ?_)
  · refine lv_iload_n hx hb dX4_worth_21 rfl (lv_at hl 2 rfl) ?_
    refine lv_iconst (v := 0) hx hb dX4_worth_22 (by decide) ?_
    refine lv_bipush (v := 7) hx hb dX4_worth_23 (by decide) ?_
    refine vp_callSi (va_Run.run (va_runS (As := [.int y, .int 0, .int 7]) (rest := []) ⟨hx, hb, hml, hown, hts⟩ (c_X4_isWithin l y 0 7) (va_cwS 3 hts gX4_worth_X4_isWithin rfl rfl rfl (by decide +kernel) ⟨Nat.le_of_ble_eq_true rfl, Nat.le_of_ble_eq_true rfl⟩) ⟨fun _ _ _ _ q => q, fun _ _ _ => ⟨rfl, trivial⟩⟩ rfl rfl hl.1 rfl (lv_room (Nat.le_of_ble_eq_true rfl)) dX4_worth_25 ⟨Nat.zero_le _, Nat.zero_le _⟩)) (fun r hr9 => ?_)
    subst hr9
    refine w_bnz (tgt := 41) hx hb dX4_worth_28 (by decide) (fun c_28 => ?_) (fun c_28 => ?_)
    · refine lv_aload_n hx hb dX4_worth_41 rfl (lv_at hl 0 rfl) ?_
      refine va_get (D := D) (ci := 4) (v := .ref m0) (C := RX4) (T := TX4) (N := 4) hx hb hts (by decide +kernel) hown hK hP 0 rfl rfl 3 (by decide) (hts (.fieldLink RX4 29 "Warren" "mind" "LWarren$Mind;") (by decide +kernel)) (fun _ h9 => h9) rfl dX4_worth_42 ?_
      refine lv_aload_n hx hb dX4_worth_45 rfl (lv_at hl 0 rfl) ?_
      refine va_get (D := D) (ci := 4) (v := .ref (a 0)) (C := RX4) (T := TX4) (N := 4) hx hb hts (by decide +kernel) hown hK hP 0 rfl rfl 0 (by decide) (hts (.fieldLink RX4 12 "Warren" "state" "LWarren$State;") (by decide +kernel)) (fun _ h9 => h9) rfl dX4_worth_46 ?_
      refine lv_iload_n hx hb dX4_worth_49 rfl (lv_at hl 1 rfl) ?_
      have hFc := va_free (wc := mW cI m0 (b 0) w0 f ++ yW cI b ψ ++ sW cI a σ) hD hS hA [7, 8, 9, 10, 11, 1, 2, 3, 4, 5, 6] rfl
      refine va_callv (va_runV (As := [.ref (a 0), .int x]) (rest := []) ⟨hx, hb, hml, hown, hts⟩ (c_X0_weigh l D cI _ m0 w0 f b ψ a σ x t hn) (cwV 2 hts gX4_worth_X0_weigh rfl rfl rfl (by decide +kernel) ⟨Nat.le_of_ble_eq_true rfl, Nat.le_of_ble_eq_true rfl⟩) ⟨preSX_blind, va_recv hK hP (ci := 1) (q0 := 7) rfl rfl, preSX_of (hP.sub (ws' := mW cI m0 (b 0) w0 f ++ yW cI b ψ ++ sW cI a σ) [7, 8, 9, 10, 11, 1, 2, 3, 4, 5, 6] rfl) hK hE (hD.sub (ws' := mW cI m0 (b 0) w0 f ++ yW cI b ψ ++ sW cI a σ) [7, 8, 9, 10, 11, 1, 2, 3, 4, 5, 6] (by decide) rfl) hSX hS hFc [.ref m0, .ref (a 0), .int x]⟩ rfl rfl hl.1 rfl (lv_room (Nat.le_of_ble_eq_true rfl)) dX4_worth_50 ⟨Nat.le_of_ble_eq_true rfl, Nat.le_of_ble_eq_true rfl⟩) hS (fun q _ h => hFc q h) hFc (fun u t9 H1 locs ht hvm hw hB hz1 hk1 hS => ?_)
      obtain ⟨hP1, hK1, hD1⟩ := hB
      rw [ht] at hP1
      obtain ⟨φ50, rfl⟩ : ∃ z, z = u := ⟨_, rfl⟩
      obtain ⟨hP, hD⟩ := va_join (wr := wW h (a 0) t0 l0 m0) (w1 := mW cI m0 (b 0) w0 (worthF σ x) ++ yW cI b φ50 ++ sW cI a σ) hP hD [7, 8, 9, 10, 11, 1, 2, 3, 4, 5, 6] [0] rfl rfl (by decide) (by decide) hk1 hFc hP1 hD1
      generalize H1 = H at hP hS ⊢
      have hP : va_P D vwCl (wW h (a 0) t0 l0 m0 ++ mW cI m0 (b 0) w0 (worthF σ x) ++ yW cI b φ50 ++ sW cI a σ) H := hP
      have hD : va_D A (wW h (a 0) t0 l0 m0 ++ mW cI m0 (b 0) w0 (worthF σ x) ++ yW cI b φ50 ++ sW cI a σ) := hD
      refine lv_aload_n hx hb dX4_worth_53 rfl (lv_at hl 0 rfl) ?_
      refine va_get (D := D) (ci := 4) (v := .ref m0) (C := RX4) (T := TX4) (N := 4) hx hb hts (by decide +kernel) hown hK hP 0 rfl rfl 3 (by decide) (hts (.fieldLink RX4 29 "Warren" "mind" "LWarren$Mind;") (by decide +kernel)) (fun _ h9 => h9) rfl dX4_worth_54 ?_
      refine lv_iload_n hx hb dX4_worth_57 rfl (lv_at hl 2 rfl) ?_
      refine vp_callSi (va_Run.run (va_runV (As := [.int y]) (rest := []) ⟨hx, hb, hml, hown, hts⟩ (c_X0_worthOf l D cI m0 (b 0) w0 (worthF σ x) y) (cwV 1 hts gX4_worth_X0_worthOf rfl rfl rfl (by decide +kernel) ⟨Nat.le_of_ble_eq_true rfl, Nat.le_of_ble_eq_true rfl⟩) ⟨preR_blind, va_recv hK hP (ci := 1) (q0 := 1) rfl rfl, preR_of (hP.sub (ws' := mW cI m0 (b 0) w0 (worthF σ x)) [1, 2] rfl) hK hE [.ref m0, .int y]⟩ rfl rfl hl.1 rfl (lv_room (Nat.le_of_ble_eq_true rfl)) dX4_worth_58 ⟨Nat.zero_le _, Nat.zero_le _⟩)) (fun r hr9 => ?_)
      subst hr9
      have hP9 := hP.sub (ws' := wW h (a 0) t0 l0 m0 ++ sW cI a σ ++ mW cI m0 (b 0) w0 (worthF σ x) ++ yW cI b φ50) [0, 6, 7, 8, 9, 10, 11, 1, 2, 3, 4, 5] rfl
      have hD9 := hD.sub (ws' := wW h (a 0) t0 l0 m0 ++ sW cI a σ ++ mW cI m0 (b 0) w0 (worthF σ x) ++ yW cI b φ50) [0, 6, 7, 8, 9, 10, 11, 1, 2, 3, 4, 5] (by decide) rfl
      refine W.widen (k := 1) (n := 6) (Nat.le_of_ble_eq_true rfl) (Nat.le_of_ble_eq_true rfl) ?_
      refine vx_ret ?_
      exact W.iret (v := (worthOfF (worthF σ x) y)) hx hb hr (fun T9 ht hW => ⟨⟨(worthOfF (worthF σ x) y), (σ, (worthF σ x), φ50), rfl, ⟨by first | rfl | (simp only [worthT, c_8, c_28, Bool.false_eq_true, if_false, if_true]; done) | (simp [worthT, c_8, c_28]; done), by first | rfl | (simp [c_8, c_28]; done), by first | rfl | (simp [c_8, c_28]; done)⟩, by rw [ht]; exact hP9, va_K.moved hW.alike hK, hD9⟩, hS.F ht⟩) hS.2.2 dX4_worth_61
    · have hT : worthT σ x y = 2 := by first | rfl | (simp only [worthT, c_8, c_28, Bool.false_eq_true, if_false, if_true]; done) | (simp [worthT, c_8, c_28]; done)
      obtain ⟨sa, hstr⟩ := hXV.2.1 _ (List.mem_of_getElem? (i := 14) (a := (149, "no such action")) rfl)
      have hat : ∀ w ∈ vx_atS RX4 41 "java/lang/IllegalArgumentException" ["java/lang/RuntimeException", "java/lang/Exception"], w.before _ s = true := vx_hat (B := [.castable "java/lang/IllegalArgumentException" "java/lang/IllegalArgumentException", decl_1, decl_2, decl_3]) (fun w h => hts w (List.mem_cons_of_mem _ (List.mem_append_right _ h))) (by decide +kernel) (vx_c (va_Nw.use rfl hXV.2.2.1) (vx_c (va_Nw.use rfl hXV.2.2.2.2.2.1) (vx_c (va_Nw.use rfl hXV.2.2.2.2.2.2.1) (vx_c (va_Nw.use rfl hXV.2.2.2.2.2.2.2.1) vx_n))))
      exact vx_throwS (own := RX4) (cls := "java/lang/IllegalArgumentException") (text := "no such action") (names := ["java/lang/RuntimeException", "java/lang/Exception"]) (ik := 37) (is := 149) (ic := 41) (sa := sa) (A := A) hx hb hst hown (by decide +kernel) (by decide +kernel) (hts (.classLink RX4 37 "java/lang/IllegalArgumentException") (by decide +kernel)) (hts (.initialized "java/lang/IllegalArgumentException") (by decide +kernel)) hstr hat (by decide +kernel) hTX.1 hTX.2 hS (hl.1.trans hml.symm) dX4_worth_31 dX4_worth_34 dX4_worth_35 dX4_worth_37 dX4_worth_40 (fun x hx9 => (hno x hx9).elim) (Nat.le_of_ble_eq_true rfl) (Nat.le_of_ble_eq_true rfl) (Nat.le_of_ble_eq_true rfl) (Nat.le_of_ble_eq_true rfl) hlocks (thr_of (by rw [hT]; decide) (by rw [hT]; rfl) hP hK hD hS) hS.2.2 (Nat.le_of_ble_eq_true rfl) (Nat.le_of_ble_eq_true rfl)
  · have hT : worthT σ x y = 1 := by first | rfl | (simp only [worthT, c_8, Bool.false_eq_true, if_false, if_true]; done) | (simp [worthT, c_8]; done)
    obtain ⟨sa, hstr⟩ := hXV.2.1 _ (List.mem_of_getElem? (i := 7) (a := (108, "no such being")) rfl)
    have hat : ∀ w ∈ vx_atS RX4 56 "java/lang/IndexOutOfBoundsException" ["java/lang/RuntimeException", "java/lang/Exception"], w.before _ s = true := vx_hat (B := [.castable "java/lang/IndexOutOfBoundsException" "java/lang/IndexOutOfBoundsException", decl_1, decl_2, decl_3]) (fun w h => hts w (List.mem_cons_of_mem _ (List.mem_append_left _ (List.mem_append_right _ h)))) (by decide +kernel) (vx_c (va_Nw.use rfl hXV.2.2.2.2.1) (vx_c (va_Nw.use rfl hXV.2.2.2.2.2.1) (vx_c (va_Nw.use rfl hXV.2.2.2.2.2.2.1) (vx_c (va_Nw.use rfl hXV.2.2.2.2.2.2.2.1) vx_n))))
    exact vx_throwS (own := RX4) (cls := "java/lang/IndexOutOfBoundsException") (text := "no such being") (names := ["java/lang/RuntimeException", "java/lang/Exception"]) (ik := 52) (is := 108) (ic := 56) (sa := sa) (A := A) hx hb hst hown (by decide +kernel) (by decide +kernel) (hts (.classLink RX4 52 "java/lang/IndexOutOfBoundsException") (by decide +kernel)) (hts (.initialized "java/lang/IndexOutOfBoundsException") (by decide +kernel)) hstr hat (by decide +kernel) hTX.1 hTX.2 hS (hl.1.trans hml.symm) dX4_worth_11 dX4_worth_14 dX4_worth_15 dX4_worth_17 dX4_worth_20 (fun x hx9 => (hno x hx9).elim) (Nat.le_of_ble_eq_true rfl) (Nat.le_of_ble_eq_true rfl) (Nat.le_of_ble_eq_true rfl) (Nat.le_of_ble_eq_true rfl) hlocks (thr_of (by rw [hT]; decide) (by rw [hT]; rfl) hP hK hD hS) hS.2.2 (Nat.le_of_ble_eq_true rfl) (Nat.le_of_ble_eq_true rfl)
set_option maxHeartbeats 4000000 in
set_option maxRecDepth 100000 in
theorem c_X4_plan (l : Launch) (hst : l.stackTraces = false) (D : va_G) (cI : ClassId) (sz : Nat) (h t0 l0 m0 w0 : Nat) (a b : Nat → Nat) (σ : SS) (f : Nat → Int32) (ψ : YS) (x : Int32) (t : Nat) (hn : s_n σ ≤ 10) : vx_Met l yX4_plan wsX4_plan ({ frames := 6, cells := 1, slots := 6, locals := 144 } : Room) (va_Pc [.ref h, .int x] (preXS D cI (wW h (a 0) t0 l0 m0 ++ sW cI a σ ++ mW cI m0 (b 0) w0 f ++ yW cI b ψ) sz t)) (va_Qi (fun (r : Int32) (u : (SS × (Nat → Int32) × YS)) => targetT σ x = 0 ∧ r = planF σ x ∧ u.1 = σ) (fun (u : (SS × (Nat → Int32) × YS)) => posM D cI (va_A (wW h (a 0) t0 l0 m0 ++ sW cI a σ ++ mW cI m0 (b 0) w0 f ++ yW cI b ψ) sz) (wW h (a 0) t0 l0 m0 ++ sW cI a u.1 ++ mW cI m0 (b 0) w0 u.2.1 ++ yW cI b u.2.2)) (va_A (wW h (a 0) t0 l0 m0 ++ sW cI a σ ++ mW cI m0 (b 0) w0 f ++ yW cI b ψ) sz)) (thrX (targetT σ x) nmI D cI (va_A (wW h (a 0) t0 l0 m0 ++ sW cI a σ ++ mW cI m0 (b 0) w0 f ++ yW cI b ψ) sz) (wW h (a 0) t0 l0 m0 ++ sW cI a σ ++ mW cI m0 (b 0) w0 f ++ yW cI b ψ)) 1 6 (va_A (wW h (a 0) t0 l0 m0 ++ sW cI a σ ++ mW cI m0 (b 0) w0 f ++ yW cI b ψ) sz) := by
  refine vx_ofW (cc := cX4_plan) (maxL := 2) (ret := (some .int)) (by decide) rfl ?_
  intro p e s m args below meth c s₁ B hml hno hv
  obtain ⟨rfl, ⟨hsz, hP, hK, hXV, hD0, hTX⟩, hSX⟩ := hv
  have hE := hXV.1
  have hx := B.exec
  have hb := B.bytes
  have hr := B.returns
  have hts := atoms_spec (ws := wsX4_plan) B.pre
  have hown : s.vm.findClass RX4 = some m.cls := findClass_of_methodNamed B.named
  have hlocks := B.notSynchronized
  subst hsz
  have hD := hD0.self (sz := s.heap.size)
  generalize hAe : va_A (wW h (a 0) t0 l0 m0 ++ sW cI a σ ++ mW cI m0 (b 0) w0 f ++ yW cI b ψ) s.heap.size = A at hD hTX hSX ⊢
  have hA : ∀ q : Nat, s.heap.size ≤ q → A q := fun q h => by rw [← hAe]; exact Or.inr h
  have hS : va_S A s.heap s.heap [] := va_S.rf
  have hP : va_P D vwCl (wW h (a 0) t0 l0 m0 ++ sW cI a σ ++ mW cI m0 (b 0) w0 f ++ yW cI b ψ) s.heap := hP
  have hl := lv_entry ([.ref h, .int x]) (n := 2) (Nat.le_of_ble_eq_true rfl)
  rw [lg_entry_eq]
  generalize (lg_sl ([.ref h, .int x]) ++ List.replicate (2 - (lg_sl ([.ref h, .int x])).length) Slot.unset).toArray = ls at hl ⊢
  have hl : lv_has ls 2 [(0, .ref h), (1, .int x)] := hl
  refine lv_aload_n hx hb dX4_plan_0 rfl (lv_at hl 0 rfl) ?_
  refine va_get (D := D) (ci := 4) (v := .ref (a 0)) (C := RX4) (T := TX4) (N := 4) hx hb hts (by decide +kernel) hown hK hP 0 rfl rfl 0 (by decide) (hts (.fieldLink RX4 12 "Warren" "state" "LWarren$State;") (by decide +kernel)) (fun _ h9 => h9) rfl dX4_plan_1 ?_
  refine lv_iload_n hx hb dX4_plan_4 rfl (lv_at hl 1 rfl) ?_
  refine vp_callSi (va_Run.run (va_runV (As := [.int x]) (rest := []) ⟨hx, hb, hml, hown, hts⟩ (c_X2_isBeing l D cI a σ x) (cwV 1 hts gX4_plan_X2_isBeing rfl rfl rfl (by decide +kernel) ⟨Nat.le_of_ble_eq_true rfl, Nat.le_of_ble_eq_true rfl⟩) ⟨preR_blind, va_recv hK hP (ci := 2) (q0 := 1) rfl rfl, preR_of (hP.sub (ws' := sW cI a σ) [1, 2, 3, 4, 5, 6] rfl) hK hE [.ref (a 0), .int x]⟩ rfl rfl hl.1 rfl (lv_room (Nat.le_of_ble_eq_true rfl)) dX4_plan_5 ⟨Nat.zero_le _, Nat.zero_le _⟩)) (fun r hr9 => ?_)
  subst hr9
  refine w_bnz (tgt := 21) hx hb dX4_plan_8 (by decide) (fun c_8 => ?_) (fun c_8 => ?_)
  · refine lv_aload_n hx hb dX4_plan_21 rfl (lv_at hl 0 rfl) ?_
    refine va_get (D := D) (ci := 4) (v := .ref m0) (C := RX4) (T := TX4) (N := 4) hx hb hts (by decide +kernel) hown hK hP 0 rfl rfl 3 (by decide) (hts (.fieldLink RX4 29 "Warren" "mind" "LWarren$Mind;") (by decide +kernel)) (fun _ h9 => h9) rfl dX4_plan_22 ?_
    refine lv_aload_n hx hb dX4_plan_25 rfl (lv_at hl 0 rfl) ?_
    refine va_get (D := D) (ci := 4) (v := .ref (a 0)) (C := RX4) (T := TX4) (N := 4) hx hb hts (by decide +kernel) hown hK hP 0 rfl rfl 0 (by decide) (hts (.fieldLink RX4 12 "Warren" "state" "LWarren$State;") (by decide +kernel)) (fun _ h9 => h9) rfl dX4_plan_26 ?_
    refine lv_iload_n hx hb dX4_plan_29 rfl (lv_at hl 1 rfl) ?_
    have hFc := va_free (wc := mW cI m0 (b 0) w0 f ++ yW cI b ψ ++ sW cI a σ) hD hS hA [7, 8, 9, 10, 11, 1, 2, 3, 4, 5, 6] rfl
    refine va_callv (va_runV (As := [.ref (a 0), .int x]) (rest := []) ⟨hx, hb, hml, hown, hts⟩ (c_X0_weigh l D cI _ m0 w0 f b ψ a σ x t hn) (cwV 2 hts gX4_plan_X0_weigh rfl rfl rfl (by decide +kernel) ⟨Nat.le_of_ble_eq_true rfl, Nat.le_of_ble_eq_true rfl⟩) ⟨preSX_blind, va_recv hK hP (ci := 1) (q0 := 7) rfl rfl, preSX_of (hP.sub (ws' := mW cI m0 (b 0) w0 f ++ yW cI b ψ ++ sW cI a σ) [7, 8, 9, 10, 11, 1, 2, 3, 4, 5, 6] rfl) hK hE (hD.sub (ws' := mW cI m0 (b 0) w0 f ++ yW cI b ψ ++ sW cI a σ) [7, 8, 9, 10, 11, 1, 2, 3, 4, 5, 6] (by decide) rfl) hSX hS hFc [.ref m0, .ref (a 0), .int x]⟩ rfl rfl hl.1 rfl (lv_room (Nat.le_of_ble_eq_true rfl)) dX4_plan_30 ⟨Nat.le_of_ble_eq_true rfl, Nat.le_of_ble_eq_true rfl⟩) hS (fun q _ h => hFc q h) hFc (fun u t9 H1 locs ht hvm hw hB hz1 hk1 hS => ?_)
    obtain ⟨hP1, hK1, hD1⟩ := hB
    rw [ht] at hP1
    obtain ⟨φ30, rfl⟩ : ∃ z, z = u := ⟨_, rfl⟩
    obtain ⟨hP, hD⟩ := va_join (wr := wW h (a 0) t0 l0 m0) (w1 := mW cI m0 (b 0) w0 (worthF σ x) ++ yW cI b φ30 ++ sW cI a σ) hP hD [7, 8, 9, 10, 11, 1, 2, 3, 4, 5, 6] [0] rfl rfl (by decide) (by decide) hk1 hFc hP1 hD1
    generalize H1 = H at hP hS ⊢
    have hP : va_P D vwCl (wW h (a 0) t0 l0 m0 ++ mW cI m0 (b 0) w0 (worthF σ x) ++ yW cI b φ30 ++ sW cI a σ) H := hP
    have hD : va_D A (wW h (a 0) t0 l0 m0 ++ mW cI m0 (b 0) w0 (worthF σ x) ++ yW cI b φ30 ++ sW cI a σ) := hD
    refine lv_aload_n hx hb dX4_plan_33 rfl (lv_at hl 0 rfl) ?_
    refine va_get (D := D) (ci := 4) (v := .ref m0) (C := RX4) (T := TX4) (N := 4) hx hb hts (by decide +kernel) hown hK hP 0 rfl rfl 3 (by decide) (hts (.fieldLink RX4 29 "Warren" "mind" "LWarren$Mind;") (by decide +kernel)) (fun _ h9 => h9) rfl dX4_plan_34 ?_
    refine vp_callSi (va_Run.run (va_runV (As := []) (rest := []) ⟨hx, hb, hml, hown, hts⟩ (c_X0_best l D cI m0 (b 0) w0 (worthF σ x)) (cwV 0 hts gX4_plan_X0_best rfl rfl rfl (by decide +kernel) ⟨Nat.le_of_ble_eq_true rfl, Nat.le_of_ble_eq_true rfl⟩) ⟨preR_blind, va_recv hK hP (ci := 1) (q0 := 1) rfl rfl, preR_of (hP.sub (ws' := mW cI m0 (b 0) w0 (worthF σ x)) [1, 2] rfl) hK hE [.ref m0]⟩ rfl rfl hl.1 rfl (lv_room (Nat.le_of_ble_eq_true rfl)) dX4_plan_37 ⟨Nat.zero_le _, Nat.zero_le _⟩)) (fun r hr9 => ?_)
    subst hr9
    have hP9 := hP.sub (ws' := wW h (a 0) t0 l0 m0 ++ sW cI a σ ++ mW cI m0 (b 0) w0 (worthF σ x) ++ yW cI b φ30) [0, 6, 7, 8, 9, 10, 11, 1, 2, 3, 4, 5] rfl
    have hD9 := hD.sub (ws' := wW h (a 0) t0 l0 m0 ++ sW cI a σ ++ mW cI m0 (b 0) w0 (worthF σ x) ++ yW cI b φ30) [0, 6, 7, 8, 9, 10, 11, 1, 2, 3, 4, 5] (by decide) rfl
    refine W.widen (k := 1) (n := 6) (Nat.le_of_ble_eq_true rfl) (Nat.le_of_ble_eq_true rfl) ?_
    refine vx_ret ?_
    exact W.iret (v := (bestF (worthF σ x))) hx hb hr (fun T9 ht hW => ⟨⟨(bestF (worthF σ x)), (σ, (worthF σ x), φ30), rfl, ⟨by first | rfl | (simp only [targetT, c_8, Bool.false_eq_true, if_false, if_true]; done) | (simp [targetT, c_8]; done), by first | rfl | (simp [planF, c_8]; done), by first | rfl | (simp [planF, c_8]; done)⟩, by rw [ht]; exact hP9, va_K.moved hW.alike hK, hD9⟩, hS.F ht⟩) hS.2.2 dX4_plan_40
  · have hT : targetT σ x = 1 := by first | rfl | (simp only [targetT, c_8, Bool.false_eq_true, if_false, if_true]; done) | (simp [targetT, c_8]; done)
    obtain ⟨sa, hstr⟩ := hXV.2.1 _ (List.mem_of_getElem? (i := 7) (a := (108, "no such being")) rfl)
    have hat : ∀ w ∈ vx_atS RX4 56 "java/lang/IndexOutOfBoundsException" ["java/lang/RuntimeException", "java/lang/Exception"], w.before _ s = true := vx_hat (B := [.castable "java/lang/IndexOutOfBoundsException" "java/lang/IndexOutOfBoundsException", decl_1, decl_2, decl_3]) (fun w h => hts w (List.mem_cons_of_mem _ (List.mem_append_right _ h))) (by decide +kernel) (vx_c (va_Nw.use rfl hXV.2.2.2.2.1) (vx_c (va_Nw.use rfl hXV.2.2.2.2.2.1) (vx_c (va_Nw.use rfl hXV.2.2.2.2.2.2.1) (vx_c (va_Nw.use rfl hXV.2.2.2.2.2.2.2.1) vx_n))))
    exact vx_throwS (own := RX4) (cls := "java/lang/IndexOutOfBoundsException") (text := "no such being") (names := ["java/lang/RuntimeException", "java/lang/Exception"]) (ik := 52) (is := 108) (ic := 56) (sa := sa) (A := A) hx hb hst hown (by decide +kernel) (by decide +kernel) (hts (.classLink RX4 52 "java/lang/IndexOutOfBoundsException") (by decide +kernel)) (hts (.initialized "java/lang/IndexOutOfBoundsException") (by decide +kernel)) hstr hat (by decide +kernel) hTX.1 hTX.2 hS (hl.1.trans hml.symm) dX4_plan_11 dX4_plan_14 dX4_plan_15 dX4_plan_17 dX4_plan_20 (fun x hx9 => (hno x hx9).elim) (Nat.le_of_ble_eq_true rfl) (Nat.le_of_ble_eq_true rfl) (Nat.le_of_ble_eq_true rfl) (Nat.le_of_ble_eq_true rfl) hlocks (thr_of (by rw [hT]; decide) (by rw [hT]; rfl) hP hK hD hS) hS.2.2 (Nat.le_of_ble_eq_true rfl) (Nat.le_of_ble_eq_true rfl)
set_option maxHeartbeats 4000000 in
set_option maxRecDepth 100000 in
theorem c_X4_act (l : Launch) (hst : l.stackTraces = false) (D : va_G) (cI : ClassId) (sz : Nat) (h t0 l0 m0 : Nat) (a : Nat → Nat) (σ : SS) (x : Int32) (t : Nat) (hn : s_n σ ≤ 10) : vx_Met l yX4_act wsX4_act ({ frames := 6, cells := 1, slots := 6, locals := 142 } : Room) (va_Pc [.ref h, .int x] (preXS D cI (wW h (a 0) t0 l0 m0 ++ sW cI a σ) sz t)) (va_Qi (fun (r : Int32) (u : SS) => actT σ x = 0 ∧ r = lostF σ (turnF σ) x ∧ u = perfF σ (turnF σ) x) (fun (u : SS) => posM D cI (va_A (wW h (a 0) t0 l0 m0 ++ sW cI a σ) sz) (wW h (a 0) t0 l0 m0 ++ sW cI a u)) (va_A (wW h (a 0) t0 l0 m0 ++ sW cI a σ) sz)) (thrX (actT σ x) nmAS D cI (va_A (wW h (a 0) t0 l0 m0 ++ sW cI a σ) sz) (wW h (a 0) t0 l0 m0 ++ sW cI a σ)) 1 6 (va_A (wW h (a 0) t0 l0 m0 ++ sW cI a σ) sz) := by
  refine vx_ofW (cc := cX4_act) (maxL := 3) (ret := (some .int)) (by decide) rfl ?_
  intro p e s m args below meth c s₁ B hml hno hv
  obtain ⟨rfl, ⟨hsz, hP, hK, hXV, hD0, hTX⟩, hSX⟩ := hv
  have hE := hXV.1
  have hx := B.exec
  have hb := B.bytes
  have hr := B.returns
  have hts := atoms_spec (ws := wsX4_act) B.pre
  have hown : s.vm.findClass RX4 = some m.cls := findClass_of_methodNamed B.named
  have hlocks := B.notSynchronized
  subst hsz
  have hD := hD0.self (sz := s.heap.size)
  generalize hAe : va_A (wW h (a 0) t0 l0 m0 ++ sW cI a σ) s.heap.size = A at hD hTX hSX ⊢
  have hA : ∀ q : Nat, s.heap.size ≤ q → A q := fun q h => by rw [← hAe]; exact Or.inr h
  have hS : va_S A s.heap s.heap [] := va_S.rf
  have hP : va_P D vwCl (wW h (a 0) t0 l0 m0 ++ sW cI a σ) s.heap := hP
  have hl := lv_entry ([.ref h, .int x]) (n := 3) (Nat.le_of_ble_eq_true rfl)
  rw [lg_entry_eq]
  generalize (lg_sl ([.ref h, .int x]) ++ List.replicate (3 - (lg_sl ([.ref h, .int x])).length) Slot.unset).toArray = ls at hl ⊢
  have hl : lv_has ls 3 [(0, .ref h), (1, .int x)] := hl
  refine lv_iload_n hx hb dX4_act_0 rfl (lv_at hl 1 rfl) ?_
  refine lv_iconst (v := 0) hx hb dX4_act_1 (by decide) ?_
  refine lv_bipush (v := 7) hx hb dX4_act_2 (by decide) ?_
  refine vp_callSi (va_Run.run (va_runS (As := [.int x, .int 0, .int 7]) (rest := []) ⟨hx, hb, hml, hown, hts⟩ (c_X4_isWithin l x 0 7) (va_cwS 3 hts gX4_act_X4_isWithin rfl rfl rfl (by decide +kernel) ⟨Nat.le_of_ble_eq_true rfl, Nat.le_of_ble_eq_true rfl⟩) ⟨fun _ _ _ _ q => q, fun _ _ _ => ⟨rfl, trivial⟩⟩ rfl rfl hl.1 rfl (lv_room (Nat.le_of_ble_eq_true rfl)) dX4_act_4 ⟨Nat.zero_le _, Nat.zero_le _⟩)) (fun r hr9 => ?_)
  subst hr9
  refine w_bnz (tgt := 20) hx hb dX4_act_7 (by decide) (fun c_7 => ?_) (fun c_7 => ?_)
  · refine lv_aload_n hx hb dX4_act_20 rfl (lv_at hl 0 rfl) ?_
    refine va_get (D := D) (ci := 4) (v := .ref (a 0)) (C := RX4) (T := TX4) (N := 4) hx hb hts (by decide +kernel) hown hK hP 0 rfl rfl 0 (by decide) (hts (.fieldLink RX4 12 "Warren" "state" "LWarren$State;") (by decide +kernel)) (fun _ h9 => h9) rfl dX4_act_21 ?_
    refine vp_callSi (va_Run.run (va_runV (As := []) (rest := []) ⟨hx, hb, hml, hown, hts⟩ (c_X2_whoseTurn l D cI a σ  hn) (cwV 0 hts gX4_act_X2_whoseTurn rfl rfl rfl (by decide +kernel) ⟨Nat.le_of_ble_eq_true rfl, Nat.le_of_ble_eq_true rfl⟩) ⟨preR_blind, va_recv hK hP (ci := 2) (q0 := 1) rfl rfl, preR_of (hP.sub (ws' := sW cI a σ) [1, 2, 3, 4, 5, 6] rfl) hK hE [.ref (a 0)]⟩ rfl rfl hl.1 rfl (lv_room (Nat.le_of_ble_eq_true rfl)) dX4_act_24 ⟨Nat.zero_le _, Nat.zero_le _⟩)) (fun r hr9 => ?_)
    subst hr9
    refine lv_istore_n (lv' := [(2, .int (turnF σ)), (0, .ref h), (1, .int x)]) hx hb dX4_act_27 rfl hl (by decide) rfl (fun ls hl => ?_)
    refine lv_aload_n hx hb dX4_act_28 rfl (lv_at hl 1 rfl) ?_
    refine va_get (D := D) (ci := 4) (v := .ref (a 0)) (C := RX4) (T := TX4) (N := 4) hx hb hts (by decide +kernel) hown hK hP 0 rfl rfl 0 (by decide) (hts (.fieldLink RX4 12 "Warren" "state" "LWarren$State;") (by decide +kernel)) (fun _ h9 => h9) rfl dX4_act_29 ?_
    refine lv_iload_n hx hb dX4_act_32 rfl (lv_at hl 0 rfl) ?_
    refine lv_iload_n hx hb dX4_act_33 rfl (lv_at hl 2 rfl) ?_
    refine vp_callSi (va_Run.run (va_runS (As := [.ref (a 0), .int (turnF σ), .int x]) (rest := []) ⟨hx, hb, hml, hown, hts⟩ (c_X1_isPossible l D cI a σ (turnF σ) x t hn) (va_cwS 3 hts gX4_act_X1_isPossible rfl rfl rfl (by decide +kernel) ⟨Nat.le_of_ble_eq_true rfl, Nat.le_of_ble_eq_true rfl⟩) ⟨preRS_blind, preRS_of (hP.sub (ws' := sW cI a σ) [1, 2, 3, 4, 5, 6] rfl) hK hE hSX hS [.ref (a 0), .int (turnF σ), .int x]⟩ rfl rfl hl.1 rfl (lv_room (Nat.le_of_ble_eq_true rfl)) dX4_act_34 ⟨Nat.zero_le _, Nat.zero_le _⟩)) (fun r hr9 => ?_)
    subst hr9
    refine w_bnz (tgt := 50) hx hb dX4_act_37 (by decide) (fun c_37 => ?_) (fun c_37 => ?_)
    · refine lv_aload_n hx hb dX4_act_50 rfl (lv_at hl 1 rfl) ?_
      refine va_get (D := D) (ci := 4) (v := .ref (a 0)) (C := RX4) (T := TX4) (N := 4) hx hb hts (by decide +kernel) hown hK hP 0 rfl rfl 0 (by decide) (hts (.fieldLink RX4 12 "Warren" "state" "LWarren$State;") (by decide +kernel)) (fun _ h9 => h9) rfl dX4_act_51 ?_
      refine lv_iload_n hx hb dX4_act_54 rfl (lv_at hl 0 rfl) ?_
      refine lv_iload_n hx hb dX4_act_55 rfl (lv_at hl 2 rfl) ?_
      have hFc := va_free (wc := sW cI a σ) hD hS hA [1, 2, 3, 4, 5, 6] rfl
      refine va_calli (va_runS (As := [.ref (a 0), .int (turnF σ), .int x]) (rest := []) ⟨hx, hb, hml, hown, hts⟩ (c_X1_perform l D cI _ a σ (turnF σ) x t hn) (va_cwS 3 hts gX4_act_X1_perform rfl rfl rfl (by decide +kernel) ⟨Nat.le_of_ble_eq_true rfl, Nat.le_of_ble_eq_true rfl⟩) ⟨preSX_blind, preSX_of (hP.sub (ws' := sW cI a σ) [1, 2, 3, 4, 5, 6] rfl) hK hE (hD.sub (ws' := sW cI a σ) [1, 2, 3, 4, 5, 6] (by decide) rfl) hSX hS hFc [.ref (a 0), .int (turnF σ), .int x]⟩ rfl rfl hl.1 rfl (lv_room (Nat.le_of_ble_eq_true rfl)) dX4_act_56 ⟨Nat.le_of_ble_eq_true rfl, Nat.le_of_ble_eq_true rfl⟩) hS (fun q _ h => hFc q h) hFc (fun r u t9 H1 locs ht hvm hw hB hz1 hk1 hS => ?_)
      obtain ⟨hP1, hK1, hD1⟩ := hB
      rw [ht] at hP1
      obtain ⟨rfl, rfl⟩ := hw
      obtain ⟨hP, hD⟩ := va_join (wr := wW h (a 0) t0 l0 m0) (w1 := sW cI a (perfF σ (turnF σ) x)) hP hD [1, 2, 3, 4, 5, 6] [0] rfl rfl (by decide) (by decide) hk1 hFc hP1 hD1
      generalize H1 = H at hP hS ⊢
      have hP : va_P D vwCl (wW h (a 0) t0 l0 m0 ++ sW cI a (perfF σ (turnF σ) x)) H := hP
      have hD : va_D A (wW h (a 0) t0 l0 m0 ++ sW cI a (perfF σ (turnF σ) x)) := hD
      have hP9 := hP.sub (ws' := wW h (a 0) t0 l0 m0 ++ sW cI a (perfF σ (turnF σ) x)) [0, 1, 2, 3, 4, 5, 6] rfl
      have hD9 := hD.sub (ws' := wW h (a 0) t0 l0 m0 ++ sW cI a (perfF σ (turnF σ) x)) [0, 1, 2, 3, 4, 5, 6] (by decide) rfl
      refine W.widen (k := 1) (n := 6) (Nat.le_of_ble_eq_true rfl) (Nat.le_of_ble_eq_true rfl) ?_
      refine vx_ret ?_
      exact W.iret (v := (lostF σ (turnF σ) x)) hx hb hr (fun T9 ht hW => ⟨⟨(lostF σ (turnF σ) x), (perfF σ (turnF σ) x), rfl, ⟨by first | rfl | (simp only [actT, c_7, c_37, Bool.false_eq_true, if_false, if_true]; done) | (simp [actT, c_7, c_37]; done), rfl, rfl⟩, by rw [ht]; exact hP9, va_K.moved hW.alike hK, hD9⟩, hS.F ht⟩) hS.2.2 dX4_act_59
    · have hT : actT σ x = 2 := by first | rfl | (simp only [actT, c_7, c_37, Bool.false_eq_true, if_false, if_true]; done) | (simp [actT, c_7, c_37]; done)
      obtain ⟨sa, hstr⟩ := hXV.2.1 _ (List.mem_of_getElem? (i := 15) (a := (161, "there is no turn, or it is not possible")) rfl)
      have hat : ∀ w ∈ vx_atS RX4 73 "java/lang/IllegalStateException" ["java/lang/RuntimeException", "java/lang/Exception"], w.before _ s = true := vx_hat (B := [.castable "java/lang/IllegalStateException" "java/lang/IllegalStateException", decl_1, decl_2, decl_3]) (fun w h => hts w (List.mem_cons_of_mem _ (List.mem_append_right _ h))) (by decide +kernel) (vx_c (va_Nw.use rfl hXV.2.2.2.1) (vx_c (va_Nw.use rfl hXV.2.2.2.2.2.1) (vx_c (va_Nw.use rfl hXV.2.2.2.2.2.2.1) (vx_c (va_Nw.use rfl hXV.2.2.2.2.2.2.2.1) vx_n))))
      exact vx_throwS (own := RX4) (cls := "java/lang/IllegalStateException") (text := "there is no turn, or it is not possible") (names := ["java/lang/RuntimeException", "java/lang/Exception"]) (ik := 69) (is := 161) (ic := 73) (sa := sa) (A := A) hx hb hst hown (by decide +kernel) (by decide +kernel) (hts (.classLink RX4 69 "java/lang/IllegalStateException") (by decide +kernel)) (hts (.initialized "java/lang/IllegalStateException") (by decide +kernel)) hstr hat (by decide +kernel) hTX.1 hTX.2 hS (hl.1.trans hml.symm) dX4_act_40 dX4_act_43 dX4_act_44 dX4_act_46 dX4_act_49 (fun x hx9 => (hno x hx9).elim) (Nat.le_of_ble_eq_true rfl) (Nat.le_of_ble_eq_true rfl) (Nat.le_of_ble_eq_true rfl) (Nat.le_of_ble_eq_true rfl) hlocks (thr_of (by rw [hT]; decide) (by rw [hT]; rfl) hP hK hD hS) hS.2.2 (Nat.le_of_ble_eq_true rfl) (Nat.le_of_ble_eq_true rfl)
  · have hT : actT σ x = 1 := by first | rfl | (simp only [actT, c_7, Bool.false_eq_true, if_false, if_true]; done) | (simp [actT, c_7]; done)
    obtain ⟨sa, hstr⟩ := hXV.2.1 _ (List.mem_of_getElem? (i := 14) (a := (149, "no such action")) rfl)
    have hat : ∀ w ∈ vx_atS RX4 41 "java/lang/IllegalArgumentException" ["java/lang/RuntimeException", "java/lang/Exception"], w.before _ s = true := vx_hat (B := [.castable "java/lang/IllegalArgumentException" "java/lang/IllegalArgumentException", decl_1, decl_2, decl_3]) (fun w h => hts w (List.mem_cons_of_mem _ (List.mem_append_left _ (List.mem_append_right _ h)))) (by decide +kernel) (vx_c (va_Nw.use rfl hXV.2.2.1) (vx_c (va_Nw.use rfl hXV.2.2.2.2.2.1) (vx_c (va_Nw.use rfl hXV.2.2.2.2.2.2.1) (vx_c (va_Nw.use rfl hXV.2.2.2.2.2.2.2.1) vx_n))))
    exact vx_throwS (own := RX4) (cls := "java/lang/IllegalArgumentException") (text := "no such action") (names := ["java/lang/RuntimeException", "java/lang/Exception"]) (ik := 37) (is := 149) (ic := 41) (sa := sa) (A := A) hx hb hst hown (by decide +kernel) (by decide +kernel) (hts (.classLink RX4 37 "java/lang/IllegalArgumentException") (by decide +kernel)) (hts (.initialized "java/lang/IllegalArgumentException") (by decide +kernel)) hstr hat (by decide +kernel) hTX.1 hTX.2 hS (hl.1.trans hml.symm) dX4_act_10 dX4_act_13 dX4_act_14 dX4_act_16 dX4_act_19 (fun x hx9 => (hno x hx9).elim) (Nat.le_of_ble_eq_true rfl) (Nat.le_of_ble_eq_true rfl) (Nat.le_of_ble_eq_true rfl) (Nat.le_of_ble_eq_true rfl) hlocks (thr_of (by rw [hT]; decide) (by rw [hT]; rfl) hP hK hD hS) hS.2.2 (Nat.le_of_ble_eq_true rfl) (Nat.le_of_ble_eq_true rfl)
set_option maxHeartbeats 4000000 in
set_option maxRecDepth 100000 in
theorem c_X4_play (l : Launch) (D : va_G) (cI : ClassId) (sz : Nat) (h t0 l0 m0 w0 : Nat) (a b : Nat → Nat) (σ : SS) (f : Nat → Int32) (ψ : YS) (T : Nat) (t : Nat) (hn : s_n σ ≤ 10) (hT : T ≤ 40) : Met l yX4_play wsX4_play ({ frames := 6, cells := 0, slots := 0, locals := 144 } : Room) (va_Pc [.ref h, .int (nI T)] (preSX D cI (wW h (a 0) t0 l0 m0 ++ sW cI a σ ++ mW cI m0 (b 0) w0 f ++ yW cI b ψ) sz t)) (va_Qi (fun (r : Int32) (u : (SS × (Nat → Int32) × YS)) => r = nI (playN T σ) ∧ u.1 = playS T σ) (fun (u : (SS × (Nat → Int32) × YS)) => posM D cI (va_A (wW h (a 0) t0 l0 m0 ++ sW cI a σ ++ mW cI m0 (b 0) w0 f ++ yW cI b ψ) sz) (wW h (a 0) t0 l0 m0 ++ sW cI a u.1 ++ mW cI m0 (b 0) w0 u.2.1 ++ yW cI b u.2.2)) (va_A (wW h (a 0) t0 l0 m0 ++ sW cI a σ ++ mW cI m0 (b 0) w0 f ++ yW cI b ψ) sz)) 0 0 (va_A (wW h (a 0) t0 l0 m0 ++ sW cI a σ ++ mW cI m0 (b 0) w0 f ++ yW cI b ψ) sz) := by
  refine Met.ofW (cc := cX4_play) (maxL := 4) (ret := (some .int)) (by decide) rfl ?_
  intro p e s m args below meth c s₁ B hml hv
  obtain ⟨rfl, ⟨hsz, hP, hK, hE, hD0⟩, hSX⟩ := hv
  have hx := B.exec
  have hb := B.bytes
  have hr := B.returns
  have hts := atoms_spec (ws := wsX4_play) B.pre
  have hown : s.vm.findClass RX4 = some m.cls := findClass_of_methodNamed B.named
  have hlocks := B.notSynchronized
  subst hsz
  have hD := hD0.self (sz := s.heap.size)
  generalize hAe : va_A (wW h (a 0) t0 l0 m0 ++ sW cI a σ ++ mW cI m0 (b 0) w0 f ++ yW cI b ψ) s.heap.size = A at hD hSX ⊢
  have hA : ∀ q : Nat, s.heap.size ≤ q → A q := fun q h => by rw [← hAe]; exact Or.inr h
  have hS : va_S A s.heap s.heap [] := va_S.rf
  have hP : va_P D vwCl (wW h (a 0) t0 l0 m0 ++ sW cI a σ ++ mW cI m0 (b 0) w0 f ++ yW cI b ψ) s.heap := hP
  have hl := lv_entry ([.ref h, .int (nI T)]) (n := 4) (Nat.le_of_ble_eq_true rfl)
  rw [lg_entry_eq]
  generalize (lg_sl ([.ref h, .int (nI T)]) ++ List.replicate (4 - (lg_sl ([.ref h, .int (nI T)])).length) Slot.unset).toArray = ls at hl ⊢
  have hl : lv_has ls 4 [(0, .ref h), (1, .int (nI T))] := hl
  refine lv_iconst (v := 0) hx hb dX4_play_0 (by decide) ?_
  refine lv_istore_n (lv' := [(2, .int 0), (0, .ref h), (1, .int (nI T))]) hx hb dX4_play_1 rfl hl (by decide) rfl (fun ls hl => ?_)
  have L2 : ∀ (n k : Nat) (φ : SS) (f1 : Nat → Int32) (ψ1 : YS) (hk : k + n = T) (hsp : playS T σ = playS n φ) (hsn : playN T σ = k + playN n φ) (hn1 : s_n φ ≤ 10) (H : Heap) (locs : List Loc) (ls : Array Slot), lv_has ls 4 [(2, .int (nI k)), (0, .ref h), (1, .int (nI T))] → va_P D vwCl (wW h (a 0) t0 l0 m0 ++ sW cI a φ ++ mW cI m0 (b 0) w0 f1 ++ yW cI b ψ1) H → va_D A (wW h (a 0) t0 l0 m0 ++ sW cI a φ ++ mW cI m0 (b 0) w0 f1 ++ yW cI b ψ1) → va_S A s.heap H locs → W p l e ({ frames := 6, cells := 0, slots := 0, locals := 144 } : Room) s m ([.ref h, .int (nI T)] : List Value).toArray below meth c H locs 0 0 (MQ below (va_Qi (fun (r : Int32) (u : (SS × (Nat → Int32) × YS)) => r = nI (playN T σ) ∧ u.1 = playS T σ) (fun (u : (SS × (Nat → Int32) × YS)) => posM D cI A (wW h (a 0) t0 l0 m0 ++ sW cI a u.1 ++ mW cI m0 (b 0) w0 u.2.1 ++ yW cI b u.2.2)) A) ([.ref h, .int (nI T)] : List Value).toArray s 0 0 A) (F0 m 2 ls []) := by
    intro n
    induction n with
    | zero =>
      intro k φ f1 ψ1 hk hsp hsn hn1 H locs ls hl hP hD hS
      refine lv_iload_n hx hb dX4_play_2 rfl (lv_at hl 0 rfl) ?_
      refine lv_iload_n hx hb dX4_play_3 rfl (lv_at hl 2 rfl) ?_
      refine lv_icmp_ge (tgt := 71) hx hb dX4_play_4 (by decide) (fun c_4 => ?_) (fun c_4 => absurd (nI_le (by omega) (by omega)) c_4)
      refine lv_iload_n hx hb dX4_play_71 rfl (lv_at hl 0 rfl) ?_
      have hP9 := hP.sub (ws' := wW h (a 0) t0 l0 m0 ++ sW cI a φ ++ mW cI m0 (b 0) w0 f1 ++ yW cI b ψ1) [0, 1, 2, 3, 4, 5, 6, 7, 8, 9, 10, 11] rfl
      have hD9 := hD.sub (ws' := wW h (a 0) t0 l0 m0 ++ sW cI a φ ++ mW cI m0 (b 0) w0 f1 ++ yW cI b ψ1) [0, 1, 2, 3, 4, 5, 6, 7, 8, 9, 10, 11] (by decide) rfl
      exact W.iret (v := (nI k)) hx hb hr (fun T9 ht hW => ⟨⟨(nI k), (φ, f1, ψ1), rfl, ⟨by rw [hsn]; first | rfl | (simp [playN, ]; done), by rw [hsp]; first | rfl | (simp [playS, ]; done)⟩, by rw [ht]; exact hP9, va_K.moved hW.alike hK, hD9⟩, hS.F ht⟩) hS.2.2 dX4_play_72
    | succ n ih2 =>
      intro k φ f1 ψ1 hk hsp hsn hn1 H locs ls hl hP hD hS
      refine lv_iload_n hx hb dX4_play_2 rfl (lv_at hl 0 rfl) ?_
      refine lv_iload_n hx hb dX4_play_3 rfl (lv_at hl 2 rfl) ?_
      refine lv_icmp_ge (tgt := 71) hx hb dX4_play_4 (by decide) (fun c_4 => absurd c_4 (nI_ge (by omega) (by omega))) (fun c_4 => ?_)
      refine lv_aload_n hx hb dX4_play_7 rfl (lv_at hl 1 rfl) ?_
      refine va_get (D := D) (ci := 4) (v := .ref (a 0)) (C := RX4) (T := TX4) (N := 4) hx hb hts (by decide +kernel) hown hK hP 0 rfl rfl 0 (by decide) (hts (.fieldLink RX4 12 "Warren" "state" "LWarren$State;") (by decide +kernel)) (fun _ h9 => h9) rfl dX4_play_8 ?_
      refine lv_iconst (v := 0) hx hb dX4_play_11 (by decide) ?_
      refine vp_callSi (va_Run.run (va_runV (As := [.int 0]) (rest := []) ⟨hx, hb, hml, hown, hts⟩ (c_X2_living l D cI a φ 0 hn1) (cwV 1 hts gX4_play_X2_living rfl rfl rfl (by decide +kernel) ⟨Nat.le_of_ble_eq_true rfl, Nat.le_of_ble_eq_true rfl⟩) ⟨preR_blind, va_recv hK hP (ci := 2) (q0 := 1) rfl rfl, preR_of (hP.sub (ws' := sW cI a φ) [1, 2, 3, 4, 5, 6] rfl) hK hE [.ref (a 0), .int 0]⟩ rfl rfl hl.1 rfl (lv_room (Nat.le_of_ble_eq_true rfl)) dX4_play_12 ⟨Nat.zero_le _, Nat.zero_le _⟩)) (fun r hr9 => ?_)
      subst hr9
      refine lv_if_le (tgt := 71) hx hb dX4_play_15 (by decide) (fun c_15 => ?_) (fun c_15 => ?_)
      · refine lv_iload_n hx hb dX4_play_71 rfl (lv_at hl 0 rfl) ?_
        have hP9 := hP.sub (ws' := wW h (a 0) t0 l0 m0 ++ sW cI a φ ++ mW cI m0 (b 0) w0 f1 ++ yW cI b ψ1) [0, 1, 2, 3, 4, 5, 6, 7, 8, 9, 10, 11] rfl
        have hD9 := hD.sub (ws' := wW h (a 0) t0 l0 m0 ++ sW cI a φ ++ mW cI m0 (b 0) w0 f1 ++ yW cI b ψ1) [0, 1, 2, 3, 4, 5, 6, 7, 8, 9, 10, 11] (by decide) rfl
        exact W.iret (v := (nI k)) hx hb hr (fun T9 ht hW => ⟨⟨(nI k), (φ, f1, ψ1), rfl, ⟨by rw [hsn]; first | rfl | (simp [playN, c_15]; done), by rw [hsp]; first | rfl | (simp [playS, c_15]; done)⟩, by rw [ht]; exact hP9, va_K.moved hW.alike hK, hD9⟩, hS.F ht⟩) hS.2.2 dX4_play_72
      · refine lv_aload_n hx hb dX4_play_18 rfl (lv_at hl 1 rfl) ?_
        refine va_get (D := D) (ci := 4) (v := .ref (a 0)) (C := RX4) (T := TX4) (N := 4) hx hb hts (by decide +kernel) hown hK hP 0 rfl rfl 0 (by decide) (hts (.fieldLink RX4 12 "Warren" "state" "LWarren$State;") (by decide +kernel)) (fun _ h9 => h9) rfl dX4_play_19 ?_
        refine lv_iconst (v := 1) hx hb dX4_play_22 (by decide) ?_
        refine vp_callSi (va_Run.run (va_runV (As := [.int 1]) (rest := []) ⟨hx, hb, hml, hown, hts⟩ (c_X2_living l D cI a φ 1 hn1) (cwV 1 hts gX4_play_X2_living rfl rfl rfl (by decide +kernel) ⟨Nat.le_of_ble_eq_true rfl, Nat.le_of_ble_eq_true rfl⟩) ⟨preR_blind, va_recv hK hP (ci := 2) (q0 := 1) rfl rfl, preR_of (hP.sub (ws' := sW cI a φ) [1, 2, 3, 4, 5, 6] rfl) hK hE [.ref (a 0), .int 1]⟩ rfl rfl hl.1 rfl (lv_room (Nat.le_of_ble_eq_true rfl)) dX4_play_23 ⟨Nat.zero_le _, Nat.zero_le _⟩)) (fun r hr9 => ?_)
        subst hr9
        refine lv_if_le (tgt := 71) hx hb dX4_play_26 (by decide) (fun c_26 => ?_) (fun c_26 => ?_)
        · refine lv_iload_n hx hb dX4_play_71 rfl (lv_at hl 0 rfl) ?_
          have hP9 := hP.sub (ws' := wW h (a 0) t0 l0 m0 ++ sW cI a φ ++ mW cI m0 (b 0) w0 f1 ++ yW cI b ψ1) [0, 1, 2, 3, 4, 5, 6, 7, 8, 9, 10, 11] rfl
          have hD9 := hD.sub (ws' := wW h (a 0) t0 l0 m0 ++ sW cI a φ ++ mW cI m0 (b 0) w0 f1 ++ yW cI b ψ1) [0, 1, 2, 3, 4, 5, 6, 7, 8, 9, 10, 11] (by decide) rfl
          exact W.iret (v := (nI k)) hx hb hr (fun T9 ht hW => ⟨⟨(nI k), (φ, f1, ψ1), rfl, ⟨by rw [hsn]; first | rfl | (simp [playN, c_15, c_26]; done), by rw [hsp]; first | rfl | (simp [playS, c_15, c_26]; done)⟩, by rw [ht]; exact hP9, va_K.moved hW.alike hK, hD9⟩, hS.F ht⟩) hS.2.2 dX4_play_72
        · refine lv_aload_n hx hb dX4_play_29 rfl (lv_at hl 1 rfl) ?_
          refine va_get (D := D) (ci := 4) (v := .ref (a 0)) (C := RX4) (T := TX4) (N := 4) hx hb hts (by decide +kernel) hown hK hP 0 rfl rfl 0 (by decide) (hts (.fieldLink RX4 12 "Warren" "state" "LWarren$State;") (by decide +kernel)) (fun _ h9 => h9) rfl dX4_play_30 ?_
          refine vp_callSi (va_Run.run (va_runV (As := []) (rest := []) ⟨hx, hb, hml, hown, hts⟩ (c_X2_whoseTurn l D cI a φ  hn1) (cwV 0 hts gX4_play_X2_whoseTurn rfl rfl rfl (by decide +kernel) ⟨Nat.le_of_ble_eq_true rfl, Nat.le_of_ble_eq_true rfl⟩) ⟨preR_blind, va_recv hK hP (ci := 2) (q0 := 1) rfl rfl, preR_of (hP.sub (ws' := sW cI a φ) [1, 2, 3, 4, 5, 6] rfl) hK hE [.ref (a 0)]⟩ rfl rfl hl.1 rfl (lv_room (Nat.le_of_ble_eq_true rfl)) dX4_play_33 ⟨Nat.zero_le _, Nat.zero_le _⟩)) (fun r hr9 => ?_)
          subst hr9
          refine lv_istore_n (lv' := [(3, .int (turnF φ)), (2, .int (nI k)), (0, .ref h), (1, .int (nI T))]) hx hb dX4_play_36 rfl hl (by decide) rfl (fun ls hl => ?_)
          refine lv_aload_n hx hb dX4_play_37 rfl (lv_at hl 2 rfl) ?_
          refine va_get (D := D) (ci := 4) (v := .ref m0) (C := RX4) (T := TX4) (N := 4) hx hb hts (by decide +kernel) hown hK hP 0 rfl rfl 3 (by decide) (hts (.fieldLink RX4 29 "Warren" "mind" "LWarren$Mind;") (by decide +kernel)) (fun _ h9 => h9) rfl dX4_play_38 ?_
          refine lv_aload_n hx hb dX4_play_41 rfl (lv_at hl 2 rfl) ?_
          refine va_get (D := D) (ci := 4) (v := .ref (a 0)) (C := RX4) (T := TX4) (N := 4) hx hb hts (by decide +kernel) hown hK hP 0 rfl rfl 0 (by decide) (hts (.fieldLink RX4 12 "Warren" "state" "LWarren$State;") (by decide +kernel)) (fun _ h9 => h9) rfl dX4_play_42 ?_
          refine lv_iload_n hx hb dX4_play_45 rfl (lv_at hl 0 rfl) ?_
          have hFc := va_free (wc := mW cI m0 (b 0) w0 f1 ++ yW cI b ψ1 ++ sW cI a φ) hD hS hA [7, 8, 9, 10, 11, 1, 2, 3, 4, 5, 6] rfl
          refine va_callv (va_runV (As := [.ref (a 0), .int (turnF φ)]) (rest := []) ⟨hx, hb, hml, hown, hts⟩ (c_X0_weigh l D cI _ m0 w0 f1 b ψ1 a φ (turnF φ) t hn1) (cwV 2 hts gX4_play_X0_weigh rfl rfl rfl (by decide +kernel) ⟨Nat.le_of_ble_eq_true rfl, Nat.le_of_ble_eq_true rfl⟩) ⟨preSX_blind, va_recv hK hP (ci := 1) (q0 := 7) rfl rfl, preSX_of (hP.sub (ws' := mW cI m0 (b 0) w0 f1 ++ yW cI b ψ1 ++ sW cI a φ) [7, 8, 9, 10, 11, 1, 2, 3, 4, 5, 6] rfl) hK hE (hD.sub (ws' := mW cI m0 (b 0) w0 f1 ++ yW cI b ψ1 ++ sW cI a φ) [7, 8, 9, 10, 11, 1, 2, 3, 4, 5, 6] (by decide) rfl) hSX hS hFc [.ref m0, .ref (a 0), .int (turnF φ)]⟩ rfl rfl hl.1 rfl (lv_room (Nat.le_of_ble_eq_true rfl)) dX4_play_46 ⟨Nat.le_of_ble_eq_true rfl, Nat.le_of_ble_eq_true rfl⟩) hS (fun q _ h => hFc q h) hFc (fun u t9 H1 locs ht hvm hw hB hz1 hk1 hS => ?_)
          obtain ⟨hP1, hK1, hD1⟩ := hB
          rw [ht] at hP1
          obtain ⟨φ46, rfl⟩ : ∃ z, z = u := ⟨_, rfl⟩
          obtain ⟨hP, hD⟩ := va_join (wr := wW h (a 0) t0 l0 m0) (w1 := mW cI m0 (b 0) w0 (worthF φ (turnF φ)) ++ yW cI b φ46 ++ sW cI a φ) hP hD [7, 8, 9, 10, 11, 1, 2, 3, 4, 5, 6] [0] rfl rfl (by decide) (by decide) hk1 hFc hP1 hD1
          generalize H1 = H at hP hS ⊢
          have hP : va_P D vwCl (wW h (a 0) t0 l0 m0 ++ mW cI m0 (b 0) w0 (worthF φ (turnF φ)) ++ yW cI b φ46 ++ sW cI a φ) H := hP
          have hD : va_D A (wW h (a 0) t0 l0 m0 ++ mW cI m0 (b 0) w0 (worthF φ (turnF φ)) ++ yW cI b φ46 ++ sW cI a φ) := hD
          refine lv_aload_n hx hb dX4_play_49 rfl (lv_at hl 2 rfl) ?_
          refine va_get (D := D) (ci := 4) (v := .ref (a 0)) (C := RX4) (T := TX4) (N := 4) hx hb hts (by decide +kernel) hown hK hP 0 rfl rfl 0 (by decide) (hts (.fieldLink RX4 12 "Warren" "state" "LWarren$State;") (by decide +kernel)) (fun _ h9 => h9) rfl dX4_play_50 ?_
          refine lv_iload_n hx hb dX4_play_53 rfl (lv_at hl 0 rfl) ?_
          refine lv_aload_n hx hb dX4_play_54 rfl (lv_at hl 2 rfl) ?_
          refine va_get (D := D) (ci := 4) (v := .ref m0) (C := RX4) (T := TX4) (N := 4) hx hb hts (by decide +kernel) hown hK hP 0 rfl rfl 3 (by decide) (hts (.fieldLink RX4 29 "Warren" "mind" "LWarren$Mind;") (by decide +kernel)) (fun _ h9 => h9) rfl dX4_play_55 ?_
          refine vp_callSi (va_Run.run (va_runV (As := []) (rest := [.int (turnF φ), .ref (a 0)]) ⟨hx, hb, hml, hown, hts⟩ (c_X0_best l D cI m0 (b 0) w0 (worthF φ (turnF φ))) (cwV 0 hts gX4_play_X0_best rfl rfl rfl (by decide +kernel) ⟨Nat.le_of_ble_eq_true rfl, Nat.le_of_ble_eq_true rfl⟩) ⟨preR_blind, va_recv hK hP (ci := 1) (q0 := 1) rfl rfl, preR_of (hP.sub (ws' := mW cI m0 (b 0) w0 (worthF φ (turnF φ))) [1, 2] rfl) hK hE [.ref m0]⟩ rfl rfl hl.1 rfl (lv_room (Nat.le_of_ble_eq_true rfl)) dX4_play_58 ⟨Nat.zero_le _, Nat.zero_le _⟩)) (fun r hr9 => ?_)
          subst hr9
          have hFc := va_free (wc := sW cI a φ) hD hS hA [6, 7, 8, 9, 10, 11] rfl
          refine va_calli (va_runS (As := [.ref (a 0), .int (turnF φ), .int (bestF (worthF φ (turnF φ)))]) (rest := []) ⟨hx, hb, hml, hown, hts⟩ (c_X1_perform l D cI _ a φ (turnF φ) (bestF (worthF φ (turnF φ))) t hn1) (va_cwS 3 hts gX4_play_X1_perform rfl rfl rfl (by decide +kernel) ⟨Nat.le_of_ble_eq_true rfl, Nat.le_of_ble_eq_true rfl⟩) ⟨preSX_blind, preSX_of (hP.sub (ws' := sW cI a φ) [6, 7, 8, 9, 10, 11] rfl) hK hE (hD.sub (ws' := sW cI a φ) [6, 7, 8, 9, 10, 11] (by decide) rfl) hSX hS hFc [.ref (a 0), .int (turnF φ), .int (bestF (worthF φ (turnF φ)))]⟩ rfl rfl hl.1 rfl (lv_room (Nat.le_of_ble_eq_true rfl)) dX4_play_61 ⟨Nat.le_of_ble_eq_true rfl, Nat.le_of_ble_eq_true rfl⟩) hS (fun q _ h => hFc q h) hFc (fun r u t9 H1 locs ht hvm hw hB hz1 hk1 hS => ?_)
          obtain ⟨hP1, hK1, hD1⟩ := hB
          rw [ht] at hP1
          obtain ⟨rfl, rfl⟩ := hw
          obtain ⟨hP, hD⟩ := va_join (wr := wW h (a 0) t0 l0 m0 ++ mW cI m0 (b 0) w0 (worthF φ (turnF φ)) ++ yW cI b φ46) (w1 := sW cI a (perfF φ (turnF φ) (bestF (worthF φ (turnF φ))))) hP hD [6, 7, 8, 9, 10, 11] [0, 1, 2, 3, 4, 5] rfl rfl (by decide) (by decide) hk1 hFc hP1 hD1
          generalize H1 = H at hP hS ⊢
          have hP : va_P D vwCl (wW h (a 0) t0 l0 m0 ++ mW cI m0 (b 0) w0 (worthF φ (turnF φ)) ++ yW cI b φ46 ++ sW cI a (perfF φ (turnF φ) (bestF (worthF φ (turnF φ))))) H := hP
          have hD : va_D A (wW h (a 0) t0 l0 m0 ++ mW cI m0 (b 0) w0 (worthF φ (turnF φ)) ++ yW cI b φ46 ++ sW cI a (perfF φ (turnF φ) (bestF (worthF φ (turnF φ))))) := hD
          refine lv_pop hx hb dX4_play_64 rfl ?_
          have hP : va_P D vwCl (wW h (a 0) t0 l0 m0 ++ sW cI a (perfF φ (turnF φ) (bestF (worthF φ (turnF φ)))) ++ mW cI m0 (b 0) w0 (worthF φ (turnF φ)) ++ yW cI b φ46) H := hP.sub (ws' := wW h (a 0) t0 l0 m0 ++ sW cI a (perfF φ (turnF φ) (bestF (worthF φ (turnF φ)))) ++ mW cI m0 (b 0) w0 (worthF φ (turnF φ)) ++ yW cI b φ46) [0, 6, 7, 8, 9, 10, 11, 1, 2, 3, 4, 5] rfl
          have hD : va_D A (wW h (a 0) t0 l0 m0 ++ sW cI a (perfF φ (turnF φ) (bestF (worthF φ (turnF φ)))) ++ mW cI m0 (b 0) w0 (worthF φ (turnF φ)) ++ yW cI b φ46) := hD.sub (ws' := wW h (a 0) t0 l0 m0 ++ sW cI a (perfF φ (turnF φ) (bestF (worthF φ (turnF φ)))) ++ mW cI m0 (b 0) w0 (worthF φ (turnF φ)) ++ yW cI b φ46) [0, 6, 7, 8, 9, 10, 11, 1, 2, 3, 4, 5] (by decide) rfl
          refine lv_iinc (v := (nI (k + 1))) (lv' := [(2, .int (nI (k + 1))), (3, .int (turnF φ)), (0, .ref h), (1, .int (nI T))]) hx hb dX4_play_65 hl (k := 1) rfl (nI_1 k) (by decide) rfl (fun ls hl => ?_)
          refine lv_goto (tgt := 2) hx hb dX4_play_68 (by decide) ?_
          exact ih2 (k + 1) (perfF φ (turnF φ) (bestF (worthF φ (turnF φ)))) (worthF φ (turnF φ)) φ46 (by omega) (by rw [hsp]; simp [playS, turnS, planF, c_15, c_26]) (by rw [hsn]; simp [playN, turnS, planF, c_15, c_26]; omega) (by rw [n_perf]; exact hn1) _ _ ls (lv_sub hl [0, 2, 3] rfl) hP hD hS
  exact L2 T 0 σ f ψ (by omega) rfl (by omega) hn _ _ ls (lv_sub hl [0, 1, 2] rfl) hP hD hS
