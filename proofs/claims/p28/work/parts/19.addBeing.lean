set_option maxHeartbeats 4000000 in
set_option maxRecDepth 100000 in
theorem c_X2_addBeing (l : Launch) (D : va_G) (cI : ClassId) (sz : Nat) (a : Nat → Nat) (σ : SS) (x y z : Int32) (hn : s_n σ ≤ 10) : Met l yX2_addBeing wsX2_addBeing ({ frames := 4, cells := 0, slots := 0, locals := 94 } : Room) (va_Pc [.ref (a 0), .int x, .int y, .int z] (preM D cI (sW cI a σ) sz)) (va_Qi (fun (r : Int32) (u : SS) => r = newNo σ x y z ∧ u = addF σ x y z) (fun (u : SS) => posM D cI (va_A (sW cI a σ) sz) (sW cI a u)) (va_A (sW cI a σ) sz)) 0 0 (va_A (sW cI a σ) sz) := by
  refine Met.ofW (cc := cX2_addBeing) (maxL := 7) (ret := (some .int)) (by decide) rfl ?_
  intro p e s m args below meth c s₁ B hml hv
  obtain ⟨rfl, hsz, hP, hK, hE, hD0⟩ := hv
  have hx := B.exec
  have hb := B.bytes
  have hr := B.returns
  have hts := atoms_spec (ws := wsX2_addBeing) B.pre
  have hown : s.vm.findClass RX2 = some m.cls := findClass_of_methodNamed B.named
  have hlocks := B.notSynchronized
  subst hsz
  have hD := hD0.self (sz := s.heap.size)
  generalize hAe : va_A (sW cI a σ) s.heap.size = A at hD ⊢
  have hA : ∀ q : Nat, s.heap.size ≤ q → A q := fun q h => by rw [← hAe]; exact Or.inr h
  have hS : va_S A s.heap s.heap [] := va_S.rf
  have hP : va_P D vwCl (sW cI a σ) s.heap := hP
  have hl := lv_entry ([.ref (a 0), .int x, .int y, .int z]) (n := 7) (Nat.le_of_ble_eq_true rfl)
  rw [lg_entry_eq]
  generalize (lg_sl ([.ref (a 0), .int x, .int y, .int z]) ++ List.replicate (7 - (lg_sl ([.ref (a 0), .int x, .int y, .int z])).length) Slot.unset).toArray = ls at hl ⊢
  have hl : lv_has ls 7 [(0, .ref (a 0)), (1, .int x), (2, .int y), (3, .int z)] := hl
  refine lv_aload_n hx hb dX2_addBeing_0 rfl (lv_at hl 0 rfl) ?_
  refine vp_callSi (va_Run.run (va_runV (As := []) (rest := []) ⟨hx, hb, hml, hown, hts⟩ (c_X2_whoseTurn l D cI a σ  hn) (cwV 0 hts gX2_addBeing_X2_whoseTurn rfl rfl rfl (by decide +kernel) ⟨Nat.le_of_ble_eq_true rfl, Nat.le_of_ble_eq_true rfl⟩) ⟨preR_blind, va_recv hK hP (ci := 2) (q0 := 0) rfl rfl, preR_of hP hK hE [.ref (a 0)]⟩ rfl rfl hl.1 rfl (lv_room (Nat.le_of_ble_eq_true rfl)) dX2_addBeing_1 ⟨Nat.zero_le _, Nat.zero_le _⟩)) (fun r hr9 => ?_)
  subst hr9
  refine lv_istore (lv' := [(4, .int (turnF σ)), (0, .ref (a 0)), (1, .int x), (2, .int y), (3, .int z)]) hx hb dX2_addBeing_4 hl (by decide) rfl (fun ls hl => ?_)
  refine lv_aload_n hx hb dX2_addBeing_6 rfl (lv_at hl 1 rfl) ?_
  refine va_get (D := D) (ci := 2) (v := .int (nI (s_n σ))) (C := RX2) (T := TX2) (N := 8) hx hb hts (by decide +kernel) hown hK hP 0 rfl rfl 5 (by decide) (hts (.fieldLink RX2 39 "Warren$State" "beings" "I") (by decide +kernel)) (fun _ h9 => h9) rfl dX2_addBeing_7 ?_
  refine lv_istore (lv' := [(5, .int (nI (s_n σ))), (4, .int (turnF σ)), (0, .ref (a 0)), (1, .int x), (2, .int y), (3, .int z)]) hx hb dX2_addBeing_10 hl (by decide) rfl (fun ls hl => ?_)
  refine lv_aload_n hx hb dX2_addBeing_12 rfl (lv_at hl 2 rfl) ?_
  refine lv_dup hx hb dX2_addBeing_13 rfl ?_
  refine va_get (D := D) (ci := 2) (v := .int (nI (s_n σ))) (C := RX2) (T := TX2) (N := 8) hx hb hts (by decide +kernel) hown hK hP 0 rfl rfl 5 (by decide) (hts (.fieldLink RX2 39 "Warren$State" "beings" "I") (by decide +kernel)) (fun _ h9 => h9) rfl dX2_addBeing_14 ?_
  refine lv_iconst (v := 1) hx hb dX2_addBeing_17 (by decide) ?_
  refine lv_iadd hx hb dX2_addBeing_18 ?_
  rw [nI_1 (s_n σ)]
  refine va_put (D := D) (ci := 2) (v := .int (nI (s_n σ + 1))) (ty := .int) (C := RX2) (T := TX2) (N := 8) hx hb hts (by decide +kernel) tyX2 tyX2_ok nmX2 hown hK hP hD hS 0 rfl rfl 5 (by decide) (hts (.fieldLink RX2 39 "Warren$State" "beings" "I") (by decide +kernel)) (fun _ h9 => h9) rfl (by decide +kernel) rfl rfl (Nat.le_of_ble_eq_true rfl) dX2_addBeing_19 (fun H locs hP hD hS => ?_)
  have hP : va_P D vwCl (sW cI a (w_n σ (s_n σ + 1))) H := hP
  have hD : va_D A (sW cI a (w_n σ (s_n σ + 1))) := hD
  refine lv_aload_n hx hb dX2_addBeing_22 rfl (lv_at hl 2 rfl) ?_
  refine lv_iload hx hb dX2_addBeing_23 (lv_at hl 0 rfl) ?_
  refine lv_iconst (v := 0) hx hb dX2_addBeing_25 (by decide) ?_
  refine lv_iload_n hx hb dX2_addBeing_26 rfl (lv_at hl 3 rfl) ?_
  have hFc := va_free (wc := sW cI a (w_n σ (s_n σ + 1))) hD hS hA [0, 1, 2, 3, 4, 5] rfl
  refine va_callv (va_runV (As := [.int (nI (s_n σ)), .int 0, .int x]) (rest := []) ⟨hx, hb, hml, hown, hts⟩ (c_X2_putTrait l D cI _ a (w_n σ (s_n σ + 1)) (nI (s_n σ)) 0 x) (cwV 3 hts gX2_addBeing_X2_putTrait rfl rfl rfl (by decide +kernel) ⟨Nat.le_of_ble_eq_true rfl, Nat.le_of_ble_eq_true rfl⟩) ⟨preM_blind, va_recv hK hP (ci := 2) (q0 := 0) rfl rfl, preM_of hP hK hE hD [.ref (a 0), .int (nI (s_n σ)), .int 0, .int x]⟩ rfl rfl hl.1 rfl (lv_room (Nat.le_of_ble_eq_true rfl)) dX2_addBeing_27 ⟨Nat.zero_le _, Nat.zero_le _⟩) hS (fun q _ h => hFc q h) hFc (fun u t9 H1 locs ht hvm hw hB hz1 hk1 hS => ?_)
  obtain ⟨hP1, hK1, hD1⟩ := hB
  rw [ht] at hP1
  subst hw
  obtain ⟨hP, hD⟩ := va_join (wr := []) (w1 := sW cI a (putTraitF (w_n σ (s_n σ + 1)) (nI (s_n σ)) 0 x)) hP hD [0, 1, 2, 3, 4, 5] [] rfl rfl (by decide) (by decide) hk1 hFc hP1 hD1
  generalize H1 = H at hP hS ⊢
  have hP : va_P D vwCl (sW cI a (putTraitF (w_n σ (s_n σ + 1)) (nI (s_n σ)) 0 x)) H := hP
  have hD : va_D A (sW cI a (putTraitF (w_n σ (s_n σ + 1)) (nI (s_n σ)) 0 x)) := hD
  refine lv_aload_n hx hb dX2_addBeing_30 rfl (lv_at hl 2 rfl) ?_
  refine lv_iload hx hb dX2_addBeing_31 (lv_at hl 0 rfl) ?_
  refine lv_iconst (v := 1) hx hb dX2_addBeing_33 (by decide) ?_
  refine lv_iload_n hx hb dX2_addBeing_34 rfl (lv_at hl 4 rfl) ?_
  have hFc := va_free (wc := sW cI a (putTraitF (w_n σ (s_n σ + 1)) (nI (s_n σ)) 0 x)) hD hS hA [0, 1, 2, 3, 4, 5] rfl
  refine va_callv (va_runV (As := [.int (nI (s_n σ)), .int 1, .int y]) (rest := []) ⟨hx, hb, hml, hown, hts⟩ (c_X2_putTrait l D cI _ a (putTraitF (w_n σ (s_n σ + 1)) (nI (s_n σ)) 0 x) (nI (s_n σ)) 1 y) (cwV 3 hts gX2_addBeing_X2_putTrait rfl rfl rfl (by decide +kernel) ⟨Nat.le_of_ble_eq_true rfl, Nat.le_of_ble_eq_true rfl⟩) ⟨preM_blind, va_recv hK hP (ci := 2) (q0 := 0) rfl rfl, preM_of hP hK hE hD [.ref (a 0), .int (nI (s_n σ)), .int 1, .int y]⟩ rfl rfl hl.1 rfl (lv_room (Nat.le_of_ble_eq_true rfl)) dX2_addBeing_35 ⟨Nat.zero_le _, Nat.zero_le _⟩) hS (fun q _ h => hFc q h) hFc (fun u t9 H1 locs ht hvm hw hB hz1 hk1 hS => ?_)
  obtain ⟨hP1, hK1, hD1⟩ := hB
  rw [ht] at hP1
  subst hw
  obtain ⟨hP, hD⟩ := va_join (wr := []) (w1 := sW cI a (putTraitF (putTraitF (w_n σ (s_n σ + 1)) (nI (s_n σ)) 0 x) (nI (s_n σ)) 1 y)) hP hD [0, 1, 2, 3, 4, 5] [] rfl rfl (by decide) (by decide) hk1 hFc hP1 hD1
  generalize H1 = H at hP hS ⊢
  have hP : va_P D vwCl (sW cI a (putTraitF (putTraitF (w_n σ (s_n σ + 1)) (nI (s_n σ)) 0 x) (nI (s_n σ)) 1 y)) H := hP
  have hD : va_D A (sW cI a (putTraitF (putTraitF (w_n σ (s_n σ + 1)) (nI (s_n σ)) 0 x) (nI (s_n σ)) 1 y)) := hD
  refine lv_aload_n hx hb dX2_addBeing_38 rfl (lv_at hl 2 rfl) ?_
  refine lv_iload hx hb dX2_addBeing_39 (lv_at hl 0 rfl) ?_
  refine lv_iconst (v := 2) hx hb dX2_addBeing_41 (by decide) ?_
  refine lv_iload_n hx hb dX2_addBeing_42 rfl (lv_at hl 5 rfl) ?_
  have hFc := va_free (wc := sW cI a (putTraitF (putTraitF (w_n σ (s_n σ + 1)) (nI (s_n σ)) 0 x) (nI (s_n σ)) 1 y)) hD hS hA [0, 1, 2, 3, 4, 5] rfl
  refine va_callv (va_runV (As := [.int (nI (s_n σ)), .int 2, .int z]) (rest := []) ⟨hx, hb, hml, hown, hts⟩ (c_X2_putTrait l D cI _ a (putTraitF (putTraitF (w_n σ (s_n σ + 1)) (nI (s_n σ)) 0 x) (nI (s_n σ)) 1 y) (nI (s_n σ)) 2 z) (cwV 3 hts gX2_addBeing_X2_putTrait rfl rfl rfl (by decide +kernel) ⟨Nat.le_of_ble_eq_true rfl, Nat.le_of_ble_eq_true rfl⟩) ⟨preM_blind, va_recv hK hP (ci := 2) (q0 := 0) rfl rfl, preM_of hP hK hE hD [.ref (a 0), .int (nI (s_n σ)), .int 2, .int z]⟩ rfl rfl hl.1 rfl (lv_room (Nat.le_of_ble_eq_true rfl)) dX2_addBeing_43 ⟨Nat.zero_le _, Nat.zero_le _⟩) hS (fun q _ h => hFc q h) hFc (fun u t9 H1 locs ht hvm hw hB hz1 hk1 hS => ?_)
  obtain ⟨hP1, hK1, hD1⟩ := hB
  rw [ht] at hP1
  subst hw
  obtain ⟨hP, hD⟩ := va_join (wr := []) (w1 := sW cI a (putTraitF (putTraitF (putTraitF (w_n σ (s_n σ + 1)) (nI (s_n σ)) 0 x) (nI (s_n σ)) 1 y) (nI (s_n σ)) 2 z)) hP hD [0, 1, 2, 3, 4, 5] [] rfl rfl (by decide) (by decide) hk1 hFc hP1 hD1
  generalize H1 = H at hP hS ⊢
  have hP : va_P D vwCl (sW cI a (putTraitF (putTraitF (putTraitF (w_n σ (s_n σ + 1)) (nI (s_n σ)) 0 x) (nI (s_n σ)) 1 y) (nI (s_n σ)) 2 z)) H := hP
  have hD : va_D A (sW cI a (putTraitF (putTraitF (putTraitF (w_n σ (s_n σ + 1)) (nI (s_n σ)) 0 x) (nI (s_n σ)) 1 y) (nI (s_n σ)) 2 z)) := hD
  refine lv_aload_n hx hb dX2_addBeing_46 rfl (lv_at hl 2 rfl) ?_
  refine lv_iload hx hb dX2_addBeing_47 (lv_at hl 0 rfl) ?_
  refine lv_iconst (v := 3) hx hb dX2_addBeing_49 (by decide) ?_
  refine lv_iload_n hx hb dX2_addBeing_50 rfl (lv_at hl 5 rfl) ?_
  have hFc := va_free (wc := sW cI a (putTraitF (putTraitF (putTraitF (w_n σ (s_n σ + 1)) (nI (s_n σ)) 0 x) (nI (s_n σ)) 1 y) (nI (s_n σ)) 2 z)) hD hS hA [0, 1, 2, 3, 4, 5] rfl
  refine va_callv (va_runV (As := [.int (nI (s_n σ)), .int 3, .int z]) (rest := []) ⟨hx, hb, hml, hown, hts⟩ (c_X2_putTrait l D cI _ a (putTraitF (putTraitF (putTraitF (w_n σ (s_n σ + 1)) (nI (s_n σ)) 0 x) (nI (s_n σ)) 1 y) (nI (s_n σ)) 2 z) (nI (s_n σ)) 3 z) (cwV 3 hts gX2_addBeing_X2_putTrait rfl rfl rfl (by decide +kernel) ⟨Nat.le_of_ble_eq_true rfl, Nat.le_of_ble_eq_true rfl⟩) ⟨preM_blind, va_recv hK hP (ci := 2) (q0 := 0) rfl rfl, preM_of hP hK hE hD [.ref (a 0), .int (nI (s_n σ)), .int 3, .int z]⟩ rfl rfl hl.1 rfl (lv_room (Nat.le_of_ble_eq_true rfl)) dX2_addBeing_51 ⟨Nat.zero_le _, Nat.zero_le _⟩) hS (fun q _ h => hFc q h) hFc (fun u t9 H1 locs ht hvm hw hB hz1 hk1 hS => ?_)
  obtain ⟨hP1, hK1, hD1⟩ := hB
  rw [ht] at hP1
  subst hw
  obtain ⟨hP, hD⟩ := va_join (wr := []) (w1 := sW cI a (putTraitF (putTraitF (putTraitF (putTraitF (w_n σ (s_n σ + 1)) (nI (s_n σ)) 0 x) (nI (s_n σ)) 1 y) (nI (s_n σ)) 2 z) (nI (s_n σ)) 3 z)) hP hD [0, 1, 2, 3, 4, 5] [] rfl rfl (by decide) (by decide) hk1 hFc hP1 hD1
  generalize H1 = H at hP hS ⊢
  have hP : va_P D vwCl (sW cI a (putTraitF (putTraitF (putTraitF (putTraitF (w_n σ (s_n σ + 1)) (nI (s_n σ)) 0 x) (nI (s_n σ)) 1 y) (nI (s_n σ)) 2 z) (nI (s_n σ)) 3 z)) H := hP
  have hD : va_D A (sW cI a (putTraitF (putTraitF (putTraitF (putTraitF (w_n σ (s_n σ + 1)) (nI (s_n σ)) 0 x) (nI (s_n σ)) 1 y) (nI (s_n σ)) 2 z) (nI (s_n σ)) 3 z)) := hD
  refine lv_aload_n hx hb dX2_addBeing_54 rfl (lv_at hl 2 rfl) ?_
  refine lv_iload hx hb dX2_addBeing_55 (lv_at hl 0 rfl) ?_
  refine lv_iconst (v := 4) hx hb dX2_addBeing_57 (by decide) ?_
  refine lv_iconst (v := 5) hx hb dX2_addBeing_58 (by decide) ?_
  have hFc := va_free (wc := sW cI a (putTraitF (putTraitF (putTraitF (putTraitF (w_n σ (s_n σ + 1)) (nI (s_n σ)) 0 x) (nI (s_n σ)) 1 y) (nI (s_n σ)) 2 z) (nI (s_n σ)) 3 z)) hD hS hA [0, 1, 2, 3, 4, 5] rfl
  refine va_callv (va_runV (As := [.int (nI (s_n σ)), .int 4, .int 5]) (rest := []) ⟨hx, hb, hml, hown, hts⟩ (c_X2_putTrait l D cI _ a (putTraitF (putTraitF (putTraitF (putTraitF (w_n σ (s_n σ + 1)) (nI (s_n σ)) 0 x) (nI (s_n σ)) 1 y) (nI (s_n σ)) 2 z) (nI (s_n σ)) 3 z) (nI (s_n σ)) 4 5) (cwV 3 hts gX2_addBeing_X2_putTrait rfl rfl rfl (by decide +kernel) ⟨Nat.le_of_ble_eq_true rfl, Nat.le_of_ble_eq_true rfl⟩) ⟨preM_blind, va_recv hK hP (ci := 2) (q0 := 0) rfl rfl, preM_of hP hK hE hD [.ref (a 0), .int (nI (s_n σ)), .int 4, .int 5]⟩ rfl rfl hl.1 rfl (lv_room (Nat.le_of_ble_eq_true rfl)) dX2_addBeing_59 ⟨Nat.zero_le _, Nat.zero_le _⟩) hS (fun q _ h => hFc q h) hFc (fun u t9 H1 locs ht hvm hw hB hz1 hk1 hS => ?_)
  obtain ⟨hP1, hK1, hD1⟩ := hB
  rw [ht] at hP1
  subst hw
  obtain ⟨hP, hD⟩ := va_join (wr := []) (w1 := sW cI a (putTraitF (putTraitF (putTraitF (putTraitF (putTraitF (w_n σ (s_n σ + 1)) (nI (s_n σ)) 0 x) (nI (s_n σ)) 1 y) (nI (s_n σ)) 2 z) (nI (s_n σ)) 3 z) (nI (s_n σ)) 4 5)) hP hD [0, 1, 2, 3, 4, 5] [] rfl rfl (by decide) (by decide) hk1 hFc hP1 hD1
  generalize H1 = H at hP hS ⊢
  have hP : va_P D vwCl (sW cI a (putTraitF (putTraitF (putTraitF (putTraitF (putTraitF (w_n σ (s_n σ + 1)) (nI (s_n σ)) 0 x) (nI (s_n σ)) 1 y) (nI (s_n σ)) 2 z) (nI (s_n σ)) 3 z) (nI (s_n σ)) 4 5)) H := hP
  have hD : va_D A (sW cI a (putTraitF (putTraitF (putTraitF (putTraitF (putTraitF (w_n σ (s_n σ + 1)) (nI (s_n σ)) 0 x) (nI (s_n σ)) 1 y) (nI (s_n σ)) 2 z) (nI (s_n σ)) 3 z) (nI (s_n σ)) 4 5)) := hD
  refine lv_aload_n hx hb dX2_addBeing_62 rfl (lv_at hl 2 rfl) ?_
  refine lv_iload hx hb dX2_addBeing_63 (lv_at hl 0 rfl) ?_
  refine lv_iconst (v := 5) hx hb dX2_addBeing_65 (by decide) ?_
  refine lv_iconst (v := 2) hx hb dX2_addBeing_66 (by decide) ?_
  have hFc := va_free (wc := sW cI a (putTraitF (putTraitF (putTraitF (putTraitF (putTraitF (w_n σ (s_n σ + 1)) (nI (s_n σ)) 0 x) (nI (s_n σ)) 1 y) (nI (s_n σ)) 2 z) (nI (s_n σ)) 3 z) (nI (s_n σ)) 4 5)) hD hS hA [0, 1, 2, 3, 4, 5] rfl
  refine va_callv (va_runV (As := [.int (nI (s_n σ)), .int 5, .int 2]) (rest := []) ⟨hx, hb, hml, hown, hts⟩ (c_X2_putTrait l D cI _ a (putTraitF (putTraitF (putTraitF (putTraitF (putTraitF (w_n σ (s_n σ + 1)) (nI (s_n σ)) 0 x) (nI (s_n σ)) 1 y) (nI (s_n σ)) 2 z) (nI (s_n σ)) 3 z) (nI (s_n σ)) 4 5) (nI (s_n σ)) 5 2) (cwV 3 hts gX2_addBeing_X2_putTrait rfl rfl rfl (by decide +kernel) ⟨Nat.le_of_ble_eq_true rfl, Nat.le_of_ble_eq_true rfl⟩) ⟨preM_blind, va_recv hK hP (ci := 2) (q0 := 0) rfl rfl, preM_of hP hK hE hD [.ref (a 0), .int (nI (s_n σ)), .int 5, .int 2]⟩ rfl rfl hl.1 rfl (lv_room (Nat.le_of_ble_eq_true rfl)) dX2_addBeing_67 ⟨Nat.zero_le _, Nat.zero_le _⟩) hS (fun q _ h => hFc q h) hFc (fun u t9 H1 locs ht hvm hw hB hz1 hk1 hS => ?_)
  obtain ⟨hP1, hK1, hD1⟩ := hB
  rw [ht] at hP1
  subst hw
  obtain ⟨hP, hD⟩ := va_join (wr := []) (w1 := sW cI a (putTraitF (putTraitF (putTraitF (putTraitF (putTraitF (putTraitF (w_n σ (s_n σ + 1)) (nI (s_n σ)) 0 x) (nI (s_n σ)) 1 y) (nI (s_n σ)) 2 z) (nI (s_n σ)) 3 z) (nI (s_n σ)) 4 5) (nI (s_n σ)) 5 2)) hP hD [0, 1, 2, 3, 4, 5] [] rfl rfl (by decide) (by decide) hk1 hFc hP1 hD1
  generalize H1 = H at hP hS ⊢
  have hP : va_P D vwCl (sW cI a (putTraitF (putTraitF (putTraitF (putTraitF (putTraitF (putTraitF (w_n σ (s_n σ + 1)) (nI (s_n σ)) 0 x) (nI (s_n σ)) 1 y) (nI (s_n σ)) 2 z) (nI (s_n σ)) 3 z) (nI (s_n σ)) 4 5) (nI (s_n σ)) 5 2)) H := hP
  have hD : va_D A (sW cI a (putTraitF (putTraitF (putTraitF (putTraitF (putTraitF (putTraitF (w_n σ (s_n σ + 1)) (nI (s_n σ)) 0 x) (nI (s_n σ)) 1 y) (nI (s_n σ)) 2 z) (nI (s_n σ)) 3 z) (nI (s_n σ)) 4 5) (nI (s_n σ)) 5 2)) := hD
  refine lv_aload_n hx hb dX2_addBeing_70 rfl (lv_at hl 2 rfl) ?_
  refine lv_iload hx hb dX2_addBeing_71 (lv_at hl 0 rfl) ?_
  refine lv_bipush (v := 6) hx hb dX2_addBeing_73 (by decide) ?_
  refine lv_iconst (v := 2) hx hb dX2_addBeing_75 (by decide) ?_
  have hFc := va_free (wc := sW cI a (putTraitF (putTraitF (putTraitF (putTraitF (putTraitF (putTraitF (w_n σ (s_n σ + 1)) (nI (s_n σ)) 0 x) (nI (s_n σ)) 1 y) (nI (s_n σ)) 2 z) (nI (s_n σ)) 3 z) (nI (s_n σ)) 4 5) (nI (s_n σ)) 5 2)) hD hS hA [0, 1, 2, 3, 4, 5] rfl
  refine va_callv (va_runV (As := [.int (nI (s_n σ)), .int 6, .int 2]) (rest := []) ⟨hx, hb, hml, hown, hts⟩ (c_X2_putTrait l D cI _ a (putTraitF (putTraitF (putTraitF (putTraitF (putTraitF (putTraitF (w_n σ (s_n σ + 1)) (nI (s_n σ)) 0 x) (nI (s_n σ)) 1 y) (nI (s_n σ)) 2 z) (nI (s_n σ)) 3 z) (nI (s_n σ)) 4 5) (nI (s_n σ)) 5 2) (nI (s_n σ)) 6 2) (cwV 3 hts gX2_addBeing_X2_putTrait rfl rfl rfl (by decide +kernel) ⟨Nat.le_of_ble_eq_true rfl, Nat.le_of_ble_eq_true rfl⟩) ⟨preM_blind, va_recv hK hP (ci := 2) (q0 := 0) rfl rfl, preM_of hP hK hE hD [.ref (a 0), .int (nI (s_n σ)), .int 6, .int 2]⟩ rfl rfl hl.1 rfl (lv_room (Nat.le_of_ble_eq_true rfl)) dX2_addBeing_76 ⟨Nat.zero_le _, Nat.zero_le _⟩) hS (fun q _ h => hFc q h) hFc (fun u t9 H1 locs ht hvm hw hB hz1 hk1 hS => ?_)
  obtain ⟨hP1, hK1, hD1⟩ := hB
  rw [ht] at hP1
  subst hw
  obtain ⟨hP, hD⟩ := va_join (wr := []) (w1 := sW cI a (putTraitF (putTraitF (putTraitF (putTraitF (putTraitF (putTraitF (putTraitF (w_n σ (s_n σ + 1)) (nI (s_n σ)) 0 x) (nI (s_n σ)) 1 y) (nI (s_n σ)) 2 z) (nI (s_n σ)) 3 z) (nI (s_n σ)) 4 5) (nI (s_n σ)) 5 2) (nI (s_n σ)) 6 2)) hP hD [0, 1, 2, 3, 4, 5] [] rfl rfl (by decide) (by decide) hk1 hFc hP1 hD1
  generalize H1 = H at hP hS ⊢
  have hP : va_P D vwCl (sW cI a (putTraitF (putTraitF (putTraitF (putTraitF (putTraitF (putTraitF (putTraitF (w_n σ (s_n σ + 1)) (nI (s_n σ)) 0 x) (nI (s_n σ)) 1 y) (nI (s_n σ)) 2 z) (nI (s_n σ)) 3 z) (nI (s_n σ)) 4 5) (nI (s_n σ)) 5 2) (nI (s_n σ)) 6 2)) H := hP
  have hD : va_D A (sW cI a (putTraitF (putTraitF (putTraitF (putTraitF (putTraitF (putTraitF (putTraitF (w_n σ (s_n σ + 1)) (nI (s_n σ)) 0 x) (nI (s_n σ)) 1 y) (nI (s_n σ)) 2 z) (nI (s_n σ)) 3 z) (nI (s_n σ)) 4 5) (nI (s_n σ)) 5 2) (nI (s_n σ)) 6 2)) := hD
  refine lv_aload_n hx hb dX2_addBeing_79 rfl (lv_at hl 2 rfl) ?_
  refine lv_iload hx hb dX2_addBeing_80 (lv_at hl 0 rfl) ?_
  refine lv_bipush (v := 7) hx hb dX2_addBeing_82 (by decide) ?_
  refine lv_iconst (v := 3) hx hb dX2_addBeing_84 (by decide) ?_
  have hFc := va_free (wc := sW cI a (putTraitF (putTraitF (putTraitF (putTraitF (putTraitF (putTraitF (putTraitF (w_n σ (s_n σ + 1)) (nI (s_n σ)) 0 x) (nI (s_n σ)) 1 y) (nI (s_n σ)) 2 z) (nI (s_n σ)) 3 z) (nI (s_n σ)) 4 5) (nI (s_n σ)) 5 2) (nI (s_n σ)) 6 2)) hD hS hA [0, 1, 2, 3, 4, 5] rfl
  refine va_callv (va_runV (As := [.int (nI (s_n σ)), .int 7, .int 3]) (rest := []) ⟨hx, hb, hml, hown, hts⟩ (c_X2_putTrait l D cI _ a (putTraitF (putTraitF (putTraitF (putTraitF (putTraitF (putTraitF (putTraitF (w_n σ (s_n σ + 1)) (nI (s_n σ)) 0 x) (nI (s_n σ)) 1 y) (nI (s_n σ)) 2 z) (nI (s_n σ)) 3 z) (nI (s_n σ)) 4 5) (nI (s_n σ)) 5 2) (nI (s_n σ)) 6 2) (nI (s_n σ)) 7 3) (cwV 3 hts gX2_addBeing_X2_putTrait rfl rfl rfl (by decide +kernel) ⟨Nat.le_of_ble_eq_true rfl, Nat.le_of_ble_eq_true rfl⟩) ⟨preM_blind, va_recv hK hP (ci := 2) (q0 := 0) rfl rfl, preM_of hP hK hE hD [.ref (a 0), .int (nI (s_n σ)), .int 7, .int 3]⟩ rfl rfl hl.1 rfl (lv_room (Nat.le_of_ble_eq_true rfl)) dX2_addBeing_85 ⟨Nat.zero_le _, Nat.zero_le _⟩) hS (fun q _ h => hFc q h) hFc (fun u t9 H1 locs ht hvm hw hB hz1 hk1 hS => ?_)
  obtain ⟨hP1, hK1, hD1⟩ := hB
  rw [ht] at hP1
  subst hw
  obtain ⟨hP, hD⟩ := va_join (wr := []) (w1 := sW cI a (putTraitF (putTraitF (putTraitF (putTraitF (putTraitF (putTraitF (putTraitF (putTraitF (w_n σ (s_n σ + 1)) (nI (s_n σ)) 0 x) (nI (s_n σ)) 1 y) (nI (s_n σ)) 2 z) (nI (s_n σ)) 3 z) (nI (s_n σ)) 4 5) (nI (s_n σ)) 5 2) (nI (s_n σ)) 6 2) (nI (s_n σ)) 7 3)) hP hD [0, 1, 2, 3, 4, 5] [] rfl rfl (by decide) (by decide) hk1 hFc hP1 hD1
  generalize H1 = H at hP hS ⊢
  have hP : va_P D vwCl (sW cI a (putTraitF (putTraitF (putTraitF (putTraitF (putTraitF (putTraitF (putTraitF (putTraitF (w_n σ (s_n σ + 1)) (nI (s_n σ)) 0 x) (nI (s_n σ)) 1 y) (nI (s_n σ)) 2 z) (nI (s_n σ)) 3 z) (nI (s_n σ)) 4 5) (nI (s_n σ)) 5 2) (nI (s_n σ)) 6 2) (nI (s_n σ)) 7 3)) H := hP
  have hD : va_D A (sW cI a (putTraitF (putTraitF (putTraitF (putTraitF (putTraitF (putTraitF (putTraitF (putTraitF (w_n σ (s_n σ + 1)) (nI (s_n σ)) 0 x) (nI (s_n σ)) 1 y) (nI (s_n σ)) 2 z) (nI (s_n σ)) 3 z) (nI (s_n σ)) 4 5) (nI (s_n σ)) 5 2) (nI (s_n σ)) 6 2) (nI (s_n σ)) 7 3)) := hD
  refine lv_aload_n hx hb dX2_addBeing_88 rfl (lv_at hl 2 rfl) ?_
  refine lv_iload hx hb dX2_addBeing_89 (lv_at hl 0 rfl) ?_
  refine lv_bipush (v := 8) hx hb dX2_addBeing_91 (by decide) ?_
  refine lv_iload hx hb dX2_addBeing_93 (lv_at hl 1 rfl) ?_
  refine lv_iconst (v := (-1)) hx hb dX2_addBeing_95 (by decide) ?_
  have L111 : ∀ (tm : Int32) (hsp : tm = newT σ (newF0 (w_n σ (s_n σ + 1)) (nI (s_n σ)) x y z)) (H : Heap) (locs : List Loc) (ls : Array Slot), lv_has ls 7 [(5, .int (nI (s_n σ))), (4, .int (turnF σ)), (0, .ref (a 0)), (1, .int x), (2, .int y), (3, .int z)] → va_P D vwCl (sW cI a (putTraitF (putTraitF (putTraitF (putTraitF (putTraitF (putTraitF (putTraitF (putTraitF (w_n σ (s_n σ + 1)) (nI (s_n σ)) 0 x) (nI (s_n σ)) 1 y) (nI (s_n σ)) 2 z) (nI (s_n σ)) 3 z) (nI (s_n σ)) 4 5) (nI (s_n σ)) 5 2) (nI (s_n σ)) 6 2) (nI (s_n σ)) 7 3)) H → va_D A (sW cI a (putTraitF (putTraitF (putTraitF (putTraitF (putTraitF (putTraitF (putTraitF (putTraitF (w_n σ (s_n σ + 1)) (nI (s_n σ)) 0 x) (nI (s_n σ)) 1 y) (nI (s_n σ)) 2 z) (nI (s_n σ)) 3 z) (nI (s_n σ)) 4 5) (nI (s_n σ)) 5 2) (nI (s_n σ)) 6 2) (nI (s_n σ)) 7 3)) → va_S A s.heap H locs → W p l e ({ frames := 4, cells := 0, slots := 0, locals := 94 } : Room) s m ([.ref (a 0), .int x, .int y, .int z] : List Value).toArray below meth c H locs 0 0 (MQ below (va_Qi (fun (r : Int32) (u : SS) => r = newNo σ x y z ∧ u = addF σ x y z) (fun (u : SS) => posM D cI A (sW cI a u)) A) ([.ref (a 0), .int x, .int y, .int z] : List Value).toArray s 0 0 A) (F0 m 111 ls [.int tm, .int 8, .int (nI (s_n σ)), .ref (a 0)]) := by
    intro tm hsp H locs ls hl hP hD hS
    have hFc := va_free (wc := sW cI a (putTraitF (putTraitF (putTraitF (putTraitF (putTraitF (putTraitF (putTraitF (putTraitF (w_n σ (s_n σ + 1)) (nI (s_n σ)) 0 x) (nI (s_n σ)) 1 y) (nI (s_n σ)) 2 z) (nI (s_n σ)) 3 z) (nI (s_n σ)) 4 5) (nI (s_n σ)) 5 2) (nI (s_n σ)) 6 2) (nI (s_n σ)) 7 3)) hD hS hA [0, 1, 2, 3, 4, 5] rfl
    refine va_callv (va_runV (As := [.int (nI (s_n σ)), .int 8, .int tm]) (rest := []) ⟨hx, hb, hml, hown, hts⟩ (c_X2_putTrait l D cI _ a (putTraitF (putTraitF (putTraitF (putTraitF (putTraitF (putTraitF (putTraitF (putTraitF (w_n σ (s_n σ + 1)) (nI (s_n σ)) 0 x) (nI (s_n σ)) 1 y) (nI (s_n σ)) 2 z) (nI (s_n σ)) 3 z) (nI (s_n σ)) 4 5) (nI (s_n σ)) 5 2) (nI (s_n σ)) 6 2) (nI (s_n σ)) 7 3) (nI (s_n σ)) 8 tm) (cwV 3 hts gX2_addBeing_X2_putTrait rfl rfl rfl (by decide +kernel) ⟨Nat.le_of_ble_eq_true rfl, Nat.le_of_ble_eq_true rfl⟩) ⟨preM_blind, va_recv hK hP (ci := 2) (q0 := 0) rfl rfl, preM_of hP hK hE hD [.ref (a 0), .int (nI (s_n σ)), .int 8, .int tm]⟩ rfl rfl hl.1 rfl (lv_room (Nat.le_of_ble_eq_true rfl)) dX2_addBeing_111 ⟨Nat.zero_le _, Nat.zero_le _⟩) hS (fun q _ h => hFc q h) hFc (fun u t9 H1 locs ht hvm hw hB hz1 hk1 hS => ?_)
    obtain ⟨hP1, hK1, hD1⟩ := hB
    rw [ht] at hP1
    subst hw
    obtain ⟨hP, hD⟩ := va_join (wr := []) (w1 := sW cI a (putTraitF (putTraitF (putTraitF (putTraitF (putTraitF (putTraitF (putTraitF (putTraitF (putTraitF (w_n σ (s_n σ + 1)) (nI (s_n σ)) 0 x) (nI (s_n σ)) 1 y) (nI (s_n σ)) 2 z) (nI (s_n σ)) 3 z) (nI (s_n σ)) 4 5) (nI (s_n σ)) 5 2) (nI (s_n σ)) 6 2) (nI (s_n σ)) 7 3) (nI (s_n σ)) 8 tm)) hP hD [0, 1, 2, 3, 4, 5] [] rfl rfl (by decide) (by decide) hk1 hFc hP1 hD1
    generalize H1 = H at hP hS ⊢
    have hP : va_P D vwCl (sW cI a (putTraitF (putTraitF (putTraitF (putTraitF (putTraitF (putTraitF (putTraitF (putTraitF (putTraitF (w_n σ (s_n σ + 1)) (nI (s_n σ)) 0 x) (nI (s_n σ)) 1 y) (nI (s_n σ)) 2 z) (nI (s_n σ)) 3 z) (nI (s_n σ)) 4 5) (nI (s_n σ)) 5 2) (nI (s_n σ)) 6 2) (nI (s_n σ)) 7 3) (nI (s_n σ)) 8 tm)) H := hP
    have hD : va_D A (sW cI a (putTraitF (putTraitF (putTraitF (putTraitF (putTraitF (putTraitF (putTraitF (putTraitF (putTraitF (w_n σ (s_n σ + 1)) (nI (s_n σ)) 0 x) (nI (s_n σ)) 1 y) (nI (s_n σ)) 2 z) (nI (s_n σ)) 3 z) (nI (s_n σ)) 4 5) (nI (s_n σ)) 5 2) (nI (s_n σ)) 6 2) (nI (s_n σ)) 7 3) (nI (s_n σ)) 8 tm)) := hD
    refine lv_iconst (v := 0) hx hb dX2_addBeing_114 (by decide) ?_
    refine lv_istore (lv' := [(6, .int 0), (5, .int (nI (s_n σ))), (4, .int (turnF σ)), (0, .ref (a 0)), (1, .int x), (2, .int y), (3, .int z)]) hx hb dX2_addBeing_115 hl (by decide) rfl (fun ls hl => ?_)
    have L117 : ∀ (n k : Nat) (τ : SS) (hk : k + n = 5) (hsp1 : addF σ x y z = lookF (noEff (nI (s_n σ)) n k τ) (nI (s_n σ))) (H : Heap) (locs : List Loc) (ls : Array Slot), lv_has ls 7 [(6, .int (nI k)), (5, .int (nI (s_n σ))), (4, .int (turnF σ)), (0, .ref (a 0)), (1, .int x), (2, .int y), (3, .int z)] → va_P D vwCl (sW cI a τ) H → va_D A (sW cI a τ) → va_S A s.heap H locs → W p l e ({ frames := 4, cells := 0, slots := 0, locals := 94 } : Room) s m ([.ref (a 0), .int x, .int y, .int z] : List Value).toArray below meth c H locs 0 0 (MQ below (va_Qi (fun (r : Int32) (u : SS) => r = newNo σ x y z ∧ u = addF σ x y z) (fun (u : SS) => posM D cI A (sW cI a u)) A) ([.ref (a 0), .int x, .int y, .int z] : List Value).toArray s 0 0 A) (F0 m 117 ls []) := by
      intro n
      induction n with
      | zero =>
        intro k τ hk hsp1 H locs ls hl hP hD hS
        refine lv_iload hx hb dX2_addBeing_117 (lv_at hl 0 rfl) ?_
        refine lv_iconst (v := 5) hx hb dX2_addBeing_119 (by decide) ?_
        refine lv_icmp_ge (tgt := 139) hx hb dX2_addBeing_120 (by decide) (fun c_120 => ?_) (fun c_120 => absurd (nI_le (a := 5) (by omega) (by omega)) c_120)
        refine lv_aload_n hx hb dX2_addBeing_139 rfl (lv_at hl 3 rfl) ?_
        refine lv_iload hx hb dX2_addBeing_140 (lv_at hl 1 rfl) ?_
        have hFc := va_free (wc := sW cI a τ) hD hS hA [0, 1, 2, 3, 4, 5] rfl
        refine va_callv (va_runV (As := [.int (nI (s_n σ))]) (rest := []) ⟨hx, hb, hml, hown, hts⟩ (c_X2_look l D cI _ a τ (nI (s_n σ))) (cwV 1 hts gX2_addBeing_X2_look rfl rfl rfl (by decide +kernel) ⟨Nat.le_of_ble_eq_true rfl, Nat.le_of_ble_eq_true rfl⟩) ⟨preM_blind, va_recv hK hP (ci := 2) (q0 := 0) rfl rfl, preM_of hP hK hE hD [.ref (a 0), .int (nI (s_n σ))]⟩ rfl rfl hl.1 rfl (lv_room (Nat.le_of_ble_eq_true rfl)) dX2_addBeing_142 ⟨Nat.zero_le _, Nat.zero_le _⟩) hS (fun q _ h => hFc q h) hFc (fun u t9 H1 locs ht hvm hw hB hz1 hk1 hS => ?_)
        obtain ⟨hP1, hK1, hD1⟩ := hB
        rw [ht] at hP1
        subst hw
        obtain ⟨hP, hD⟩ := va_join (wr := []) (w1 := sW cI a (lookF τ (nI (s_n σ)))) hP hD [0, 1, 2, 3, 4, 5] [] rfl rfl (by decide) (by decide) hk1 hFc hP1 hD1
        generalize H1 = H at hP hS ⊢
        have hP : va_P D vwCl (sW cI a (lookF τ (nI (s_n σ)))) H := hP
        have hD : va_D A (sW cI a (lookF τ (nI (s_n σ)))) := hD
        refine lv_iload hx hb dX2_addBeing_145 (lv_at hl 1 rfl) ?_
        have hP9 := hP
        have hD9 := hD
        exact W.iret (v := (nI (s_n σ))) hx hb hr (fun T9 ht hW => ⟨⟨(nI (s_n σ)), (lookF τ (nI (s_n σ))), rfl, ⟨rfl, by rw [hsp1]; rfl⟩, by rw [ht]; exact hP9, va_K.moved hW.alike hK, hD9⟩, hS.F ht⟩) hS.2.2 dX2_addBeing_147
      | succ n ih117 =>
        intro k τ hk hsp1 H locs ls hl hP hD hS
        refine lv_iload hx hb dX2_addBeing_117 (lv_at hl 0 rfl) ?_
        refine lv_iconst (v := 5) hx hb dX2_addBeing_119 (by decide) ?_
        refine lv_icmp_ge (tgt := 139) hx hb dX2_addBeing_120 (by decide) (fun c_120 => absurd c_120 (nI_ge (b := 5) (by omega) (by omega))) (fun c_120 => ?_)
        refine lv_aload_n hx hb dX2_addBeing_123 rfl (lv_at hl 3 rfl) ?_
        refine lv_iload hx hb dX2_addBeing_124 (lv_at hl 1 rfl) ?_
        refine lv_iload hx hb dX2_addBeing_126 (lv_at hl 0 rfl) ?_
        refine lv_iconst (v := 0) hx hb dX2_addBeing_128 (by decide) ?_
        refine lv_iconst (v := 0) hx hb dX2_addBeing_129 (by decide) ?_
        have hFc := va_free (wc := sW cI a τ) hD hS hA [0, 1, 2, 3, 4, 5] rfl
        refine va_callv (va_runV (As := [.int (nI (s_n σ)), .int (nI k), .int 0, .int 0]) (rest := []) ⟨hx, hb, hml, hown, hts⟩ (c_X2_putEffect l D cI _ a τ (nI (s_n σ)) (nI k) 0 0) (cwV 4 hts gX2_addBeing_X2_putEffect rfl rfl rfl (by decide +kernel) ⟨Nat.le_of_ble_eq_true rfl, Nat.le_of_ble_eq_true rfl⟩) ⟨preM_blind, va_recv hK hP (ci := 2) (q0 := 0) rfl rfl, preM_of hP hK hE hD [.ref (a 0), .int (nI (s_n σ)), .int (nI k), .int 0, .int 0]⟩ rfl rfl hl.1 rfl (lv_room (Nat.le_of_ble_eq_true rfl)) dX2_addBeing_130 ⟨Nat.zero_le _, Nat.zero_le _⟩) hS (fun q _ h => hFc q h) hFc (fun u t9 H1 locs ht hvm hw hB hz1 hk1 hS => ?_)
        obtain ⟨hP1, hK1, hD1⟩ := hB
        rw [ht] at hP1
        subst hw
        obtain ⟨hP, hD⟩ := va_join (wr := []) (w1 := sW cI a (putEffectF τ (nI (s_n σ)) (nI k) 0 0)) hP hD [0, 1, 2, 3, 4, 5] [] rfl rfl (by decide) (by decide) hk1 hFc hP1 hD1
        generalize H1 = H at hP hS ⊢
        have hP : va_P D vwCl (sW cI a (putEffectF τ (nI (s_n σ)) (nI k) 0 0)) H := hP
        have hD : va_D A (sW cI a (putEffectF τ (nI (s_n σ)) (nI k) 0 0)) := hD
        refine lv_iinc (v := (nI (k + 1))) (lv' := [(6, .int (nI (k + 1))), (5, .int (nI (s_n σ))), (4, .int (turnF σ)), (0, .ref (a 0)), (1, .int x), (2, .int y), (3, .int z)]) hx hb dX2_addBeing_133 hl (k := 0) rfl (nI_1 k) (by decide) rfl (fun ls hl => ?_)
        refine lv_goto (tgt := 117) hx hb dX2_addBeing_136 (by decide) ?_
        exact ih117 (k + 1) (putEffectF τ (nI (s_n σ)) (nI k) 0 0) (by omega) (by rw [hsp1]; rfl) _ _ ls (lv_sub hl [0, 1, 2, 3, 4, 5, 6] rfl) hP hD hS
    exact L117 5 0 (putTraitF (putTraitF (putTraitF (putTraitF (putTraitF (putTraitF (putTraitF (putTraitF (putTraitF (w_n σ (s_n σ + 1)) (nI (s_n σ)) 0 x) (nI (s_n σ)) 1 y) (nI (s_n σ)) 2 z) (nI (s_n σ)) 3 z) (nI (s_n σ)) 4 5) (nI (s_n σ)) 5 2) (nI (s_n σ)) 6 2) (nI (s_n σ)) 7 3) (nI (s_n σ)) 8 tm) (by omega) (by rw [hsp]; rfl) _ _ ls (lv_sub hl [0, 1, 2, 3, 4, 5, 6] rfl) hP hD hS
  refine lv_icmp_ne (tgt := 103) hx hb dX2_addBeing_96 (by decide) (fun c_96 => ?_) (fun c_96 => ?_)
  · refine lv_aload_n hx hb dX2_addBeing_103 rfl (lv_at hl 2 rfl) ?_
    refine lv_iload hx hb dX2_addBeing_104 (lv_at hl 1 rfl) ?_
    refine lv_bipush (v := 8) hx hb dX2_addBeing_106 (by decide) ?_
    refine vp_callSi (va_Run.run (va_runV (As := [.int (turnF σ), .int 8]) (rest := [.int 8, .int (nI (s_n σ)), .ref (a 0)]) ⟨hx, hb, hml, hown, hts⟩ (c_X2_trait l D cI a (putTraitF (putTraitF (putTraitF (putTraitF (putTraitF (putTraitF (putTraitF (putTraitF (w_n σ (s_n σ + 1)) (nI (s_n σ)) 0 x) (nI (s_n σ)) 1 y) (nI (s_n σ)) 2 z) (nI (s_n σ)) 3 z) (nI (s_n σ)) 4 5) (nI (s_n σ)) 5 2) (nI (s_n σ)) 6 2) (nI (s_n σ)) 7 3) (turnF σ) 8) (cwV 2 hts gX2_addBeing_X2_trait rfl rfl rfl (by decide +kernel) ⟨Nat.le_of_ble_eq_true rfl, Nat.le_of_ble_eq_true rfl⟩) ⟨preR_blind, va_recv hK hP (ci := 2) (q0 := 0) rfl rfl, preR_of hP hK hE [.ref (a 0), .int (turnF σ), .int 8]⟩ rfl rfl hl.1 rfl (lv_room (Nat.le_of_ble_eq_true rfl)) dX2_addBeing_108 ⟨Nat.zero_le _, Nat.zero_le _⟩)) (fun r hr9 => ?_)
    subst hr9
    exact L111 (traitF (putTraitF (putTraitF (putTraitF (putTraitF (putTraitF (putTraitF (putTraitF (putTraitF (w_n σ (s_n σ + 1)) (nI (s_n σ)) 0 x) (nI (s_n σ)) 1 y) (nI (s_n σ)) 2 z) (nI (s_n σ)) 3 z) (nI (s_n σ)) 4 5) (nI (s_n σ)) 5 2) (nI (s_n σ)) 6 2) (nI (s_n σ)) 7 3) (turnF σ) 8) (by simp [newT, c_96]; try rfl) _ _ ls (lv_sub hl [0, 1, 2, 3, 4, 5] rfl) hP hD hS
  · refine lv_iconst (v := 0) hx hb dX2_addBeing_99 (by decide) ?_
    refine lv_goto (tgt := 111) hx hb dX2_addBeing_100 (by decide) ?_
    exact L111 0 (by simp [newT, c_96]; try rfl) _ _ ls (lv_sub hl [0, 1, 2, 3, 4, 5] rfl) hP hD hS

