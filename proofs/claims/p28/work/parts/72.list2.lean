-- ===== the first game that is saved =====
set_option maxHeartbeats 4000000 in
set_option maxRecDepth 100000 in
theorem c_Jx4a65c_grow_92f84_0 (l : Launch) (D : va_G) (cI : ClassId) (sz : Nat) (l0 e0 : Nat) (mc x : Int32) (hx1 : x = 1) : Met l yJx4a65c_grow_92f84 wsJx4a65c_grow_92f84 ({ frames := 1, cells := 1, slots := 10, locals := 14 } : Room) (va_Pc [.ref l0, .int x] (preE D cI (wL l0 mc e0 0) sz e0)) (va_Qr (fun (_ : ClassId) => True) (fun (u : ClassId) (a : Nat) => posP D cI u (va_A (wL l0 mc e0 0) sz) (wL l0 mc a 0 ++ pW u a (fun _ => none))) (va_A (wL l0 mc e0 0) sz)) 1 10 (va_A (wL l0 mc e0 0) sz) := by
  refine Met.ofW (cc := cJx4a65c_grow_92f84) (maxL := 4) (ret := (some (.array (.object "java/lang/Object")))) (by decide) rfl ?_
  intro p e s m args below meth c s₁ B hml hv
  obtain ⟨rfl, ⟨hsz, hP, hK, hE, hD0⟩, hEX⟩ := hv
  have hx := B.exec
  have hb := B.bytes
  have hr := B.returns
  have hts := atoms_spec (ws := wsJx4a65c_grow_92f84) B.pre
  have hown : s.vm.findClass RJx4a65c = some m.cls := findClass_of_methodNamed B.named
  have hlocks := B.notSynchronized
  subst hsz
  have hD := hD0.self (sz := s.heap.size)
  generalize hAe : va_A (wL l0 mc e0 0) s.heap.size = A at hD hEX ⊢
  have hA : ∀ q : Nat, s.heap.size ≤ q → A q := fun q h => by rw [← hAe]; exact Or.inr h
  have hS : va_S A s.heap s.heap [] := va_S.rf
  have hP : va_P D vwCl (wL l0 mc e0 0) s.heap := hP
  have hl := lv_entry ([.ref l0, .int x]) (n := 4) (Nat.le_of_ble_eq_true rfl)
  rw [lg_entry_eq]
  generalize (lg_sl ([.ref l0, .int x]) ++ List.replicate (4 - (lg_sl ([.ref l0, .int x])).length) Slot.unset).toArray = ls at hl ⊢
  have hl : lv_has ls 4 [(0, .ref l0), (1, .int x)] := hl
  refine lv_aload_n hx hb dJx4a65c_grow_92f84_0 rfl (lv_at hl 0 rfl) ?_
  refine va_get (D := D) (ci := 0) (v := .ref e0) (C := RJx4a65c) (T := TJx4a65c) (N := 3) hx hb hts (by decide +kernel) hown hK hP 0 rfl rfl 1 (by decide) (hts (.fieldLink RJx4a65c 9 "java/util/ArrayList" "elementData" "[Ljava/lang/Object;") (by decide +kernel)) (fun _ h9 => h9) rfl dJx4a65c_grow_92f84_1 ?_
  refine va_tlen (v := nI 0) hx hb hEX.2.1 hS rfl dJx4a65c_grow_92f84_4 ?_
  refine lv_istore_n (lv' := [(2, .int (nI 0)), (0, .ref l0), (1, .int x)]) hx hb dJx4a65c_grow_92f84_5 rfl hl (by decide) rfl (fun ls hl => ?_)
  refine lv_iload_n hx hb dJx4a65c_grow_92f84_6 rfl (lv_at hl 0 rfl) ?_
  refine lv_if_gt (tgt := 20) hx hb dJx4a65c_grow_92f84_7 (by decide) (fun c_7 => absurd c_7 ((by decide))) (fun c_7 => ?_)
  refine lv_aload_n hx hb dJx4a65c_grow_92f84_10 rfl (lv_at hl 1 rfl) ?_
  refine va_get (D := D) (ci := 0) (v := .ref e0) (C := RJx4a65c) (T := TJx4a65c) (N := 3) hx hb hts (by decide +kernel) hown hK hP 0 rfl rfl 1 (by decide) (hts (.fieldLink RJx4a65c 9 "java/util/ArrayList" "elementData" "[Ljava/lang/Object;") (by decide +kernel)) (fun _ h9 => h9) rfl dJx4a65c_grow_92f84_11 ?_
  refine va_gets (C := "java/util/ArrayList") (n := "DEFAULTCAPACITY_EMPTY_ELEMENTDATA") (d := "[Ljava/lang/Object;") (v := .ref e0) hx hb hEX.1 hS hown (hts (.fieldLink RJx4a65c 39 "java/util/ArrayList" "DEFAULTCAPACITY_EMPTY_ELEMENTDATA" "[Ljava/lang/Object;") (by decide +kernel)) (fun _ h9 => h9) dJx4a65c_grow_92f84_14 ?_
  refine lv_acmp_eq (rx := some e0) (ry := some e0) (tgt := 45) hx hb dJx4a65c_grow_92f84_17 (by decide) (fun _ => ?_) (fun z9 => absurd rfl z9)
  refine lv_aload_n hx hb dJx4a65c_grow_92f84_45 rfl (lv_at hl 1 rfl) ?_
  refine lv_bipush (v := 10) hx hb dJx4a65c_grow_92f84_46 (by decide) ?_
  refine lv_iload_n hx hb dJx4a65c_grow_92f84_48 rfl (lv_at hl 2 rfl) ?_
  refine va_mmax hx hb (hml.trans hl.1.symm) hown (hts (.methodLink RJx4a65c 79 Lib.Math.max.name) (by decide +kernel)) (hts (.static Lib.Math.max.name) (by decide +kernel)) (hts (.initialized "java/lang/Math") (by decide +kernel)) (hts (.code Lib.Math.max.name Lib.Math.max.code 2 (some .int)) (by decide +kernel)) (Nat.le_of_ble_eq_true rfl) (Nat.le_of_ble_eq_true rfl) (Nat.le_of_ble_eq_true rfl) (Nat.le_of_ble_eq_true rfl) dJx4a65c_grow_92f84_49 ?_
  rw [show (if (10 : Int32) < x then x else 10) = 10 from by rw [hx1]; decide]
  refine va_newq (N' := 10) hx hb hown (hts (.classLink RJx4a65c 7 "java/lang/Object") (by decide +kernel)) hEX.2.2.1 hK hP hD hS hA (by decide) (by decide) (by decide) (Nat.le_of_ble_eq_true rfl) (Nat.le_of_ble_eq_true rfl) dJx4a65c_grow_92f84_52 (fun q52 cP H hK2 hP hD hS => ?_)
  have hP : va_P D vwCl (wL l0 mc e0 0 ++ pW cP q52 (fun _ => none)) H := hP
  have hD : va_D A (wL l0 mc e0 0 ++ pW cP q52 (fun _ => none)) := hD
  refine lv_dup_x1 hx hb dJx4a65c_grow_92f84_55 rfl rfl ?_
  refine va_put (D := D) (ci := 0) (v := .ref q52) (ty := (.array (.object "java/lang/Object"))) (C := RJx4a65c) (T := TJx4a65c) (N := 3) hx hb hts (by decide +kernel) tyJx4a65c tyJx4a65c_ok nmJx4a65c hown hK hP hD hS 0 rfl rfl 1 (by decide) (hts (.fieldLink RJx4a65c 9 "java/util/ArrayList" "elementData" "[Ljava/lang/Object;") (by decide +kernel)) (fun _ h9 => h9) rfl (by decide +kernel) rfl rfl (Nat.le_of_ble_eq_true rfl) dJx4a65c_grow_92f84_56 (fun H locs hP hD hS => ?_)
  have hP : va_P D vwCl (wL l0 mc q52 0 ++ pW cP q52 (fun _ => none)) H := hP
  have hD : va_D A (wL l0 mc q52 0 ++ pW cP q52 (fun _ => none)) := hD
  have hP9 := hP.sub (ws' := wL l0 mc q52 0 ++ pW cP q52 (fun _ => none)) [0, 1] rfl
  have hD9 := hD.sub (ws' := wL l0 mc q52 0 ++ pW cP q52 (fun _ => none)) [0, 1] (by decide) rfl
  exact W.aret (v := .ref q52) hx hb hr (Or.inr ⟨_, rfl⟩) (Or.inr ⟨_, rfl⟩) (fun T9 ht hW => ⟨⟨cP, q52, rfl, trivial, by rw [ht]; exact hP9, va_K.moved hW.alike hK2, hD9⟩, hS.F ht⟩) hS.2.2 dJx4a65c_grow_92f84_59
set_option maxHeartbeats 4000000 in
set_option maxRecDepth 100000 in
theorem c_Jx4a65c_grow_d5877_0 (l : Launch) (D : va_G) (cI : ClassId) (sz : Nat) (l0 e0 : Nat) (mc : Int32) : Met l yJx4a65c_grow_d5877 wsJx4a65c_grow_d5877 ({ frames := 2, cells := 1, slots := 10, locals := 37 } : Room) (va_Pc [.ref l0] (preE D cI (wL l0 mc e0 0) sz e0)) (va_Qr (fun (_ : ClassId) => True) (fun (u : ClassId) (a : Nat) => posP D cI u (va_A (wL l0 mc e0 0) sz) (wL l0 mc a 0 ++ pW u a (fun _ => none))) (va_A (wL l0 mc e0 0) sz)) 1 10 (va_A (wL l0 mc e0 0) sz) := by
  refine Met.ofW (cc := cJx4a65c_grow_d5877) (maxL := 1) (ret := (some (.array (.object "java/lang/Object")))) (by decide) rfl ?_
  intro p e s m args below meth c s₁ B hml hv
  obtain ⟨rfl, ⟨hsz, hP, hK, hE, hD0⟩, hEX⟩ := hv
  have hx := B.exec
  have hb := B.bytes
  have hr := B.returns
  have hts := atoms_spec (ws := wsJx4a65c_grow_d5877) B.pre
  have hown : s.vm.findClass RJx4a65c = some m.cls := findClass_of_methodNamed B.named
  have hlocks := B.notSynchronized
  subst hsz
  have hD := hD0.self (sz := s.heap.size)
  generalize hAe : va_A (wL l0 mc e0 0) s.heap.size = A at hD hEX ⊢
  have hA : ∀ q : Nat, s.heap.size ≤ q → A q := fun q h => by rw [← hAe]; exact Or.inr h
  have hS : va_S A s.heap s.heap [] := va_S.rf
  have hP : va_P D vwCl (wL l0 mc e0 0) s.heap := hP
  have hl := lv_entry ([.ref l0]) (n := 1) (Nat.le_of_ble_eq_true rfl)
  rw [lg_entry_eq]
  generalize (lg_sl ([.ref l0]) ++ List.replicate (1 - (lg_sl ([.ref l0])).length) Slot.unset).toArray = ls at hl ⊢
  have hl : lv_has ls 1 [(0, .ref l0)] := hl
  refine lv_aload_n hx hb dJx4a65c_grow_d5877_0 rfl (lv_at hl 0 rfl) ?_
  refine lv_aload_n hx hb dJx4a65c_grow_d5877_1 rfl (lv_at hl 0 rfl) ?_
  refine va_get (D := D) (ci := 0) (v := .int (nI 0)) (C := RJx4a65c) (T := TJx4a65c) (N := 3) hx hb hts (by decide +kernel) hown hK hP 0 rfl rfl 2 (by decide) (hts (.fieldLink RJx4a65c 48 "java/util/ArrayList" "size" "I") (by decide +kernel)) (fun _ h9 => h9) rfl dJx4a65c_grow_d5877_2 ?_
  refine lv_iconst (v := 1) hx hb dJx4a65c_grow_d5877_5 (by decide) ?_
  refine lv_iadd hx hb dJx4a65c_grow_d5877_6 ?_
  have hFc := va_free (wc := wL l0 mc e0 0) hD hS hA [0] rfl
  refine va_callr (va_runV (As := [.int ((nI 0) + 1)]) (rest := []) ⟨hx, hb, hml, hown, hts⟩ (c_Jx4a65c_grow_92f84_0 l D cI _ l0 e0 mc ((nI 0) + 1) (by decide)) (cwV 1 hts gJx4a65c_grow_d5877_Jx4a65c_grow_92f84 rfl rfl rfl (by decide +kernel) ⟨Nat.le_of_ble_eq_true rfl, Nat.le_of_ble_eq_true rfl⟩) ⟨preE_blind, va_recv hK hP (ci := 0) (q0 := 0) rfl rfl, preE_of hP hK hE hD hEX hS hFc [.ref l0, .int ((nI 0) + 1)]⟩ rfl rfl hl.1 rfl (lv_room (Nat.le_of_ble_eq_true rfl)) dJx4a65c_grow_d5877_7 ⟨Nat.le_of_ble_eq_true rfl, Nat.le_of_ble_eq_true rfl⟩) hS (fun q _ h => hFc q h) hFc (fun cP q7 t9 H1 locs ht hvm hw hB hz1 hk1 hS => ?_)
  obtain ⟨hP1, hK1, hD1⟩ := hB
  rw [ht] at hP1
  have hK2 := va_K.moved hvm.symm hK1
  obtain ⟨hP, hD⟩ := va_join (wr := []) (w1 := wL l0 mc q7 0 ++ pW cP q7 (fun _ => none)) hP hD [0] [] rfl rfl (by decide) (by decide) hk1 hFc hP1 hD1
  generalize H1 = H at hP hS ⊢
  have hP : va_P D vwCl (wL l0 mc q7 0 ++ pW cP q7 (fun _ => none)) H := hP
  have hD : va_D A (wL l0 mc q7 0 ++ pW cP q7 (fun _ => none)) := hD
  have hP9 := hP.sub (ws' := wL l0 mc q7 0 ++ pW cP q7 (fun _ => none)) [0, 1] rfl
  have hD9 := hD.sub (ws' := wL l0 mc q7 0 ++ pW cP q7 (fun _ => none)) [0, 1] (by decide) rfl
  exact W.aret (v := .ref q7) hx hb hr (Or.inr ⟨_, rfl⟩) (Or.inr ⟨_, rfl⟩) (fun T9 ht hW => ⟨⟨cP, q7, rfl, trivial, by rw [ht]; exact hP9, va_K.moved hW.alike hK2, hD9⟩, hS.F ht⟩) hS.2.2 dJx4a65c_grow_d5877_10
set_option maxHeartbeats 4000000 in
set_option maxRecDepth 100000 in
theorem c_Jx4a65c_add_72be8_0 (l : Launch) (D : va_G) (cI : ClassId) (sz : Nat) (l0 e0 : Nat) (mc : Int32) (a : Nat → Nat) (σ : SS) : Met l yJx4a65c_add_72be8 wsJx4a65c_add_72be8 ({ frames := 3, cells := 1, slots := 10, locals := 57 } : Room) (va_Pc [.ref l0, .ref (a 0), .ref e0, .int (nI 0)] (preE D cI (wL l0 mc e0 0 ++ sW cI a σ) sz e0)) (va_Qv (fun (u : (ClassId × Int32 × Nat)) => True) (fun (u : (ClassId × Int32 × Nat)) => posP D cI u.1 (va_A (wL l0 mc e0 0 ++ sW cI a σ) sz) (wL l0 u.2.1 u.2.2 1 ++ pW u.1 u.2.2 (va_up (fun _ => none) 0 (some (a 0))) ++ sW cI a σ)) (va_A (wL l0 mc e0 0 ++ sW cI a σ) sz)) 1 10 (va_A (wL l0 mc e0 0 ++ sW cI a σ) sz) := by
  refine Met.ofW (cc := cJx4a65c_add_72be8) (maxL := 4) (ret := none) (by decide) rfl ?_
  intro p e s m args below meth c s₁ B hml hv
  obtain ⟨rfl, ⟨hsz, hP, hK, hE, hD0⟩, hEX⟩ := hv
  have hx := B.exec
  have hb := B.bytes
  have hr := B.returns
  have hts := atoms_spec (ws := wsJx4a65c_add_72be8) B.pre
  have hown : s.vm.findClass RJx4a65c = some m.cls := findClass_of_methodNamed B.named
  have hlocks := B.notSynchronized
  subst hsz
  have hD := hD0.self (sz := s.heap.size)
  generalize hAe : va_A (wL l0 mc e0 0 ++ sW cI a σ) s.heap.size = A at hD hEX ⊢
  have hA : ∀ q : Nat, s.heap.size ≤ q → A q := fun q h => by rw [← hAe]; exact Or.inr h
  have hS : va_S A s.heap s.heap [] := va_S.rf
  have hP : va_P D vwCl (wL l0 mc e0 0 ++ sW cI a σ) s.heap := hP
  have hl := lv_entry ([.ref l0, .ref (a 0), .ref e0, .int (nI 0)]) (n := 4) (Nat.le_of_ble_eq_true rfl)
  rw [lg_entry_eq]
  generalize (lg_sl ([.ref l0, .ref (a 0), .ref e0, .int (nI 0)]) ++ List.replicate (4 - (lg_sl ([.ref l0, .ref (a 0), .ref e0, .int (nI 0)])).length) Slot.unset).toArray = ls at hl ⊢
  have hl : lv_has ls 4 [(0, .ref l0), (1, .ref (a 0)), (2, .ref e0), (3, .int (nI 0))] := hl
  refine lv_iload_n hx hb dJx4a65c_add_72be8_0 rfl (lv_at hl 3 rfl) ?_
  refine lv_aload_n hx hb dJx4a65c_add_72be8_1 rfl (lv_at hl 2 rfl) ?_
  refine va_tlen (v := nI 0) hx hb hEX.2.1 hS rfl dJx4a65c_add_72be8_2 ?_
  refine lv_icmp_ne (tgt := 11) hx hb dJx4a65c_add_72be8_3 (by decide) (fun c_3 => absurd (rfl) c_3) (fun c_3 => ?_)
  refine lv_aload_n hx hb dJx4a65c_add_72be8_6 rfl (lv_at hl 0 rfl) ?_
  have hFc := va_free (wc := wL l0 mc e0 0) hD hS hA [0] rfl
  refine va_callr (va_runV (As := []) (rest := []) ⟨hx, hb, hml, hown, hts⟩ (c_Jx4a65c_grow_d5877_0 l D cI _ l0 e0 mc) (cwV 0 hts gJx4a65c_add_72be8_Jx4a65c_grow_d5877 rfl rfl rfl (by decide +kernel) ⟨Nat.le_of_ble_eq_true rfl, Nat.le_of_ble_eq_true rfl⟩) ⟨preE_blind, va_recv hK hP (ci := 0) (q0 := 0) rfl rfl, preE_of (hP.sub (ws' := wL l0 mc e0 0) [0] rfl) hK hE (hD.sub (ws' := wL l0 mc e0 0) [0] (by decide) rfl) hEX hS hFc [.ref l0]⟩ rfl rfl hl.1 rfl (lv_room (Nat.le_of_ble_eq_true rfl)) dJx4a65c_add_72be8_7 ⟨Nat.le_of_ble_eq_true rfl, Nat.le_of_ble_eq_true rfl⟩) hS (fun q _ h => hFc q h) hFc (fun cP q7 t9 H1 locs ht hvm hw hB hz1 hk1 hS => ?_)
  obtain ⟨hP1, hK1, hD1⟩ := hB
  rw [ht] at hP1
  have hK2 := va_K.moved hvm.symm hK1
  obtain ⟨hP, hD⟩ := va_join (wr := sW cI a σ) (w1 := wL l0 mc q7 0 ++ pW cP q7 (fun _ => none)) hP hD [0] [1, 2, 3, 4, 5, 6] rfl rfl (by decide) (by decide) hk1 hFc hP1 hD1
  generalize H1 = H at hP hS ⊢
  have hP : va_P D vwCl (sW cI a σ ++ wL l0 mc q7 0 ++ pW cP q7 (fun _ => none)) H := hP
  have hD : va_D A (sW cI a σ ++ wL l0 mc q7 0 ++ pW cP q7 (fun _ => none)) := hD
  refine lv_astore_n (lv' := [(2, .ref q7), (0, .ref l0), (1, .ref (a 0)), (3, .int (nI 0))]) hx hb dJx4a65c_add_72be8_10 rfl hl (by decide) rfl (fun ls hl => ?_)
  refine lv_aload_n hx hb dJx4a65c_add_72be8_11 rfl (lv_at hl 0 rfl) ?_
  refine lv_iload_n hx hb dJx4a65c_add_72be8_12 rfl (lv_at hl 3 rfl) ?_
  refine lv_aload_n hx hb dJx4a65c_add_72be8_13 rfl (lv_at hl 2 rfl) ?_
  refine va_astqO (r := (RX2, TX2, 8)) hx hb hK2 hP hD hS 7 1 0 2 rfl rfl hEX.2.2.2 rfl rfl (vp_in_nI (n := 0) (by decide) (by decide)) dJx4a65c_add_72be8_14 (fun H locs hP hD hS => ?_)
  have hP : va_P D vwCl (sW cI a σ ++ wL l0 mc q7 0 ++ pW cP q7 (va_up (fun _ => none) (nI 0).toNatClampNeg (some (a 0)))) H := hP
  have hD : va_D A (sW cI a σ ++ wL l0 mc q7 0 ++ pW cP q7 (va_up (fun _ => none) (nI 0).toNatClampNeg (some (a 0)))) := hD
  refine lv_aload_n hx hb dJx4a65c_add_72be8_15 rfl (lv_at hl 1 rfl) ?_
  refine lv_iload_n hx hb dJx4a65c_add_72be8_16 rfl (lv_at hl 3 rfl) ?_
  refine lv_iconst (v := 1) hx hb dJx4a65c_add_72be8_17 (by decide) ?_
  refine lv_iadd hx hb dJx4a65c_add_72be8_18 ?_
  rw [show ((nI 0) + 1) = nI 1 from rfl]
  refine va_put (D := D) (ci := 0) (v := .int (nI 1)) (ty := .int) (C := RJx4a65c) (T := TJx4a65c) (N := 3) hx hb hts (by decide +kernel) tyJx4a65c tyJx4a65c_ok nmJx4a65c hown hK hP hD hS 6 rfl rfl 2 (by decide) (hts (.fieldLink RJx4a65c 48 "java/util/ArrayList" "size" "I") (by decide +kernel)) (fun _ h9 => h9) rfl (by decide +kernel) rfl rfl (Nat.le_of_ble_eq_true rfl) dJx4a65c_add_72be8_19 (fun H locs hP hD hS => ?_)
  have hP : va_P D vwCl (sW cI a σ ++ wL l0 mc q7 1 ++ pW cP q7 (va_up (fun _ => none) (nI 0).toNatClampNeg (some (a 0)))) H := hP
  have hD : va_D A (sW cI a σ ++ wL l0 mc q7 1 ++ pW cP q7 (va_up (fun _ => none) (nI 0).toNatClampNeg (some (a 0)))) := hD
  have hP9 := hP.sub (ws' := wL l0 mc q7 1 ++ pW cP q7 (va_up (fun _ => none) 0 (some (a 0))) ++ sW cI a σ) [6, 7, 0, 1, 2, 3, 4, 5] rfl
  have hD9 := hD.sub (ws' := wL l0 mc q7 1 ++ pW cP q7 (va_up (fun _ => none) 0 (some (a 0))) ++ sW cI a σ) [6, 7, 0, 1, 2, 3, 4, 5] (by decide) rfl
  exact W.vret hx hb hr (fun T9 ht hW => ⟨⟨(cP, mc, q7), rfl, trivial, by rw [ht]; exact hP9, va_K.moved hW.alike hK2, hD9⟩, hS.F ht⟩) hS.2.2 dJx4a65c_add_72be8_22
set_option maxHeartbeats 4000000 in
set_option maxRecDepth 100000 in
theorem c_Jx4a65c_add_9ea2d_0 (l : Launch) (D : va_G) (cI : ClassId) (sz : Nat) (l0 e0 : Nat) (mc : Int32) (a : Nat → Nat) (σ : SS) : Met l yJx4a65c_add_9ea2d wsJx4a65c_add_9ea2d ({ frames := 4, cells := 1, slots := 10, locals := 80 } : Room) (va_Pc [.ref l0, .ref (a 0)] (preE D cI (wL l0 mc e0 0 ++ sW cI a σ) sz e0)) (va_Qi (fun (r : Int32) (u : (ClassId × Int32 × Nat)) => True) (fun (u : (ClassId × Int32 × Nat)) => posP D cI u.1 (va_A (wL l0 mc e0 0 ++ sW cI a σ) sz) (wL l0 u.2.1 u.2.2 1 ++ pW u.1 u.2.2 (va_up (fun _ => none) 0 (some (a 0))) ++ sW cI a σ)) (va_A (wL l0 mc e0 0 ++ sW cI a σ) sz)) 1 10 (va_A (wL l0 mc e0 0 ++ sW cI a σ) sz) := by
  refine Met.ofW (cc := cJx4a65c_add_9ea2d) (maxL := 2) (ret := (some .boolean)) (by decide) rfl ?_
  intro p e s m args below meth c s₁ B hml hv
  obtain ⟨rfl, ⟨hsz, hP, hK, hE, hD0⟩, hEX⟩ := hv
  have hx := B.exec
  have hb := B.bytes
  have hr := B.returns
  have hts := atoms_spec (ws := wsJx4a65c_add_9ea2d) B.pre
  have hown : s.vm.findClass RJx4a65c = some m.cls := findClass_of_methodNamed B.named
  have hlocks := B.notSynchronized
  subst hsz
  have hD := hD0.self (sz := s.heap.size)
  generalize hAe : va_A (wL l0 mc e0 0 ++ sW cI a σ) s.heap.size = A at hD hEX ⊢
  have hA : ∀ q : Nat, s.heap.size ≤ q → A q := fun q h => by rw [← hAe]; exact Or.inr h
  have hS : va_S A s.heap s.heap [] := va_S.rf
  have hP : va_P D vwCl (wL l0 mc e0 0 ++ sW cI a σ) s.heap := hP
  have hl := lv_entry ([.ref l0, .ref (a 0)]) (n := 2) (Nat.le_of_ble_eq_true rfl)
  rw [lg_entry_eq]
  generalize (lg_sl ([.ref l0, .ref (a 0)]) ++ List.replicate (2 - (lg_sl ([.ref l0, .ref (a 0)])).length) Slot.unset).toArray = ls at hl ⊢
  have hl : lv_has ls 2 [(0, .ref l0), (1, .ref (a 0))] := hl
  refine lv_aload_n hx hb dJx4a65c_add_9ea2d_0 rfl (lv_at hl 0 rfl) ?_
  refine lv_dup hx hb dJx4a65c_add_9ea2d_1 rfl ?_
  refine va_get (D := D) (ci := 0) (v := .int mc) (C := RJx4a65c) (T := TJx4a65c) (N := 3) hx hb hts (by decide +kernel) hown hK hP 0 rfl rfl 0 (by decide) (hts (.fieldLink RJx4a65c 63 "java/util/ArrayList" "modCount" "I") (by decide +kernel)) (u_same (hts (.sameField "java/util/ArrayList" "java/util/AbstractList" "modCount" "I") (by decide +kernel))) rfl dJx4a65c_add_9ea2d_2 ?_
  refine lv_iconst (v := 1) hx hb dJx4a65c_add_9ea2d_5 (by decide) ?_
  refine lv_iadd hx hb dJx4a65c_add_9ea2d_6 ?_
  refine va_put (D := D) (ci := 0) (v := .int (mc + 1)) (ty := .int) (C := RJx4a65c) (T := TJx4a65c) (N := 3) hx hb hts (by decide +kernel) tyJx4a65c tyJx4a65c_ok nmJx4a65c hown hK hP hD hS 0 rfl rfl 0 (by decide) (hts (.fieldLink RJx4a65c 63 "java/util/ArrayList" "modCount" "I") (by decide +kernel)) (u_same (hts (.sameField "java/util/ArrayList" "java/util/AbstractList" "modCount" "I") (by decide +kernel))) rfl (by decide +kernel) rfl rfl (Nat.le_of_ble_eq_true rfl) dJx4a65c_add_9ea2d_7 (fun H locs hP hD hS => ?_)
  have hP : va_P D vwCl (wL l0 (mc + 1) e0 0 ++ sW cI a σ) H := hP
  have hD : va_D A (wL l0 (mc + 1) e0 0 ++ sW cI a σ) := hD
  refine lv_aload_n hx hb dJx4a65c_add_9ea2d_10 rfl (lv_at hl 0 rfl) ?_
  refine lv_aload_n hx hb dJx4a65c_add_9ea2d_11 rfl (lv_at hl 1 rfl) ?_
  refine lv_aload_n hx hb dJx4a65c_add_9ea2d_12 rfl (lv_at hl 0 rfl) ?_
  refine va_get (D := D) (ci := 0) (v := .ref e0) (C := RJx4a65c) (T := TJx4a65c) (N := 3) hx hb hts (by decide +kernel) hown hK hP 0 rfl rfl 1 (by decide) (hts (.fieldLink RJx4a65c 9 "java/util/ArrayList" "elementData" "[Ljava/lang/Object;") (by decide +kernel)) (fun _ h9 => h9) rfl dJx4a65c_add_9ea2d_13 ?_
  refine lv_aload_n hx hb dJx4a65c_add_9ea2d_16 rfl (lv_at hl 0 rfl) ?_
  refine va_get (D := D) (ci := 0) (v := .int (nI 0)) (C := RJx4a65c) (T := TJx4a65c) (N := 3) hx hb hts (by decide +kernel) hown hK hP 0 rfl rfl 2 (by decide) (hts (.fieldLink RJx4a65c 48 "java/util/ArrayList" "size" "I") (by decide +kernel)) (fun _ h9 => h9) rfl dJx4a65c_add_9ea2d_17 ?_
  have hFc := va_free (wc := wL l0 (mc + 1) e0 0 ++ sW cI a σ) hD hS hA [0, 1, 2, 3, 4, 5, 6] rfl
  refine va_callv (va_runV (As := [.ref (a 0), .ref e0, .int (nI 0)]) (rest := []) ⟨hx, hb, hml, hown, hts⟩ (c_Jx4a65c_add_72be8_0 l D cI _ l0 e0 (mc + 1) a σ) (cwV 3 hts gJx4a65c_add_9ea2d_Jx4a65c_add_72be8 rfl rfl rfl (by decide +kernel) ⟨Nat.le_of_ble_eq_true rfl, Nat.le_of_ble_eq_true rfl⟩) ⟨preE_blind, va_recv hK hP (ci := 0) (q0 := 0) rfl rfl, preE_of hP hK hE hD hEX hS hFc [.ref l0, .ref (a 0), .ref e0, .int (nI 0)]⟩ rfl rfl hl.1 rfl (lv_room (Nat.le_of_ble_eq_true rfl)) dJx4a65c_add_9ea2d_20 ⟨Nat.le_of_ble_eq_true rfl, Nat.le_of_ble_eq_true rfl⟩) hS (fun q _ h => hFc q h) hFc (fun u t9 H1 locs ht hvm hw hB hz1 hk1 hS => ?_)
  obtain ⟨hP1, hK1, hD1⟩ := hB
  rw [ht] at hP1
  obtain ⟨cP20, m20, e20⟩ := u
  dsimp only at hP1 hD1 hK1
  have hK2 := va_K.moved hvm.symm hK1
  obtain ⟨hP, hD⟩ := va_join (wr := []) (w1 := wL l0 m20 e20 1 ++ pW cP20 e20 (va_up (fun _ => none) 0 (some (a 0))) ++ sW cI a σ) hP hD [0, 1, 2, 3, 4, 5, 6] [] rfl rfl (by decide) (by decide) hk1 hFc hP1 hD1
  generalize H1 = H at hP hS ⊢
  have hP : va_P D vwCl (wL l0 m20 e20 1 ++ pW cP20 e20 (va_up (fun _ => none) 0 (some (a 0))) ++ sW cI a σ) H := hP
  have hD : va_D A (wL l0 m20 e20 1 ++ pW cP20 e20 (va_up (fun _ => none) 0 (some (a 0))) ++ sW cI a σ) := hD
  refine lv_iconst (v := 1) hx hb dJx4a65c_add_9ea2d_23 (by decide) ?_
  have hP9 := hP.sub (ws' := wL l0 m20 e20 1 ++ pW cP20 e20 (va_up (fun _ => none) 0 (some (a 0))) ++ sW cI a σ) [0, 1, 2, 3, 4, 5, 6, 7] rfl
  have hD9 := hD.sub (ws' := wL l0 m20 e20 1 ++ pW cP20 e20 (va_up (fun _ => none) 0 (some (a 0))) ++ sW cI a σ) [0, 1, 2, 3, 4, 5, 6, 7] (by decide) rfl
  exact W.zret (v := 1) hx hb hr rfl (fun T9 ht hW => ⟨⟨1, (cP20, m20, e20), rfl, trivial, by rw [ht]; exact hP9, va_K.moved hW.alike hK2, hD9⟩, hS.F ht⟩) hS.2.2 dJx4a65c_add_9ea2d_24
set_option maxHeartbeats 4000000 in
set_option maxRecDepth 100000 in
theorem c_X4_save_0 (l : Launch) (hst : l.stackTraces = false) (D : va_G) (cI : ClassId) (sz : Nat) (h t0 l0 m0 : Nat) (a : Nat → Nat) (σ : SS) (mc : Int32) (e0 : Nat) : vx_Met l yX4_save wsX4_save ({ frames := 5, cells := 8, slots := 530, locals := 101 } : Room) (va_Pc [.ref h] (preXE D cI (wW h (a 0) t0 l0 m0 ++ sW cI a σ ++ wL l0 mc e0 0) sz e0)) (va_Qi (fun (r : Int32) (u : (ClassId × Int32 × Nat × (Nat → Nat))) => 0 = 0 ∧ r = 0) (fun (u : (ClassId × Int32 × Nat × (Nat → Nat))) => posP D cI u.1 (va_A (wW h (a 0) t0 l0 m0 ++ sW cI a σ ++ wL l0 mc e0 0) sz) (wW h (a 0) t0 l0 m0 ++ sW cI a σ ++ wL l0 u.2.1 u.2.2.1 1 ++ pW u.1 u.2.2.1 (va_up (fun _ => none) 0 (some (u.2.2.2 0))) ++ sW cI u.2.2.2 σ)) (va_A (wW h (a 0) t0 l0 m0 ++ sW cI a σ ++ wL l0 mc e0 0) sz)) (thrX (0) nmS D cI (va_A (wW h (a 0) t0 l0 m0 ++ sW cI a σ ++ wL l0 mc e0 0) sz) (wW h (a 0) t0 l0 m0 ++ sW cI a σ ++ wL l0 mc e0 0)) 8 530 (va_A (wW h (a 0) t0 l0 m0 ++ sW cI a σ ++ wL l0 mc e0 0) sz) := by
  refine vx_ofW (cc := cX4_save) (maxL := 2) (ret := (some .int)) (by decide) rfl ?_
  intro p e s m args below meth c s₁ B hml hno hv
  obtain ⟨rfl, ⟨hsz, hP, hK, hXV, hD0, hTX⟩, hEX⟩ := hv
  have hE := hXV.1
  have hx := B.exec
  have hb := B.bytes
  have hr := B.returns
  have hts := atoms_spec (ws := wsX4_save) B.pre
  have hown : s.vm.findClass RX4 = some m.cls := findClass_of_methodNamed B.named
  have hlocks := B.notSynchronized
  subst hsz
  have hD := hD0.self (sz := s.heap.size)
  generalize hAe : va_A (wW h (a 0) t0 l0 m0 ++ sW cI a σ ++ wL l0 mc e0 0) s.heap.size = A at hD hTX hEX ⊢
  have hA : ∀ q : Nat, s.heap.size ≤ q → A q := fun q h => by rw [← hAe]; exact Or.inr h
  have hS : va_S A s.heap s.heap [] := va_S.rf
  have hP : va_P D vwCl (wW h (a 0) t0 l0 m0 ++ sW cI a σ ++ wL l0 mc e0 0) s.heap := hP
  have hl := lv_entry ([.ref h]) (n := 2) (Nat.le_of_ble_eq_true rfl)
  rw [lg_entry_eq]
  generalize (lg_sl ([.ref h]) ++ List.replicate (2 - (lg_sl ([.ref h])).length) Slot.unset).toArray = ls at hl ⊢
  have hl : lv_has ls 2 [(0, .ref h)] := hl
  refine lv_aload_n hx hb dX4_save_0 rfl (lv_at hl 0 rfl) ?_
  refine va_get (D := D) (ci := 4) (v := .ref l0) (C := RX4) (T := TX4) (N := 4) hx hb hts (by decide +kernel) hown hK hP 0 rfl rfl 2 (by decide) (hts (.fieldLink RX4 22 "Warren" "saved" "Ljava/util/List;") (by decide +kernel)) (fun _ h9 => h9) rfl dX4_save_1 ?_
  refine va_csFi (va_runF (hK.1 0 _ rfl).2 (As := []) (rest := []) ⟨hx, hb, hml, hown, hts⟩ (c_Jx4a65c_size_8abf5 l D cI l0 mc e0 0) (va_cwF 0 hts gX4_save_Jx4a65c_size_8abf5_f190Jx4a65c rfl rfl rfl hXV.2.2.2.2.2.2.2.2.1 (by decide +kernel) ⟨Nat.le_of_ble_eq_true rfl, Nat.le_of_ble_eq_true rfl⟩) ⟨preR_blind, va_recv hK hP (ci := 0) (q0 := 7) rfl rfl, preR_of (hP.sub (ws' := wL l0 mc e0 0) [7] rfl) hK hE [.ref l0]⟩ rfl rfl hl.1 rfl (lv_room (Nat.le_of_ble_eq_true rfl)) dX4_save_4 ⟨Nat.zero_le _, Nat.zero_le _⟩) (fun r hr9 => ?_)
  subst hr9
  refine lv_iconst (v := 5) hx hb dX4_save_9 (by decide) ?_
  refine lv_icmp_lt (tgt := 23) hx hb dX4_save_10 (by decide) (fun c_10 => ?_) (fun c_10 => absurd ((by decide)) c_10)
  refine va_new (D := D) (ci := 2) (fs := [.null, .null, .null, .null, .null, .int 0, .int 0, .int 0]) (C := RX2) (T := TX2) (N := 8) hx hb hts (by decide +kernel) tyX2 tyX2_ok hown (hts (.classLink RX4 9 RX2) (by decide +kernel)) (hts (.instantiable RX2 8) (by decide +kernel)) (hts (.initialized RX2) (by decide +kernel)) hK hP hD hS hA rfl (fun j hj => by rcases (show j = 0 ∨ j = 1 ∨ j = 2 ∨ j = 3 ∨ j = 4 ∨ j = 5 ∨ j = 6 ∨ j = 7 by omega) with rfl | rfl | rfl | rfl | rfl | rfl | rfl | rfl <;> rfl) (Nat.le_of_ble_eq_true rfl) (Nat.le_of_ble_eq_true rfl) dX4_save_23 (fun q23 H hP hD hS => ?_)
  have hP : va_P D vwCl (wW h (a 0) t0 l0 m0 ++ sW cI a σ ++ wL l0 mc e0 0 ++ [(q23, .inr (2, [.null, .null, .null, .null, .null, .int 0, .int 0, .int 0]))]) H := hP
  have hD : va_D A (wW h (a 0) t0 l0 m0 ++ sW cI a σ ++ wL l0 mc e0 0 ++ [(q23, .inr (2, [.null, .null, .null, .null, .null, .int 0, .int 0, .int 0]))]) := hD
  refine lv_dup hx hb dX4_save_26 rfl ?_
  have hFc := va_free (wc := [(q23, .inr (2, [.null, .null, .null, .null, .null, .int 0, .int 0, .int 0]))]) hD hS hA [8] rfl
  refine va_callv (va_runI (As := []) (rest := [.ref q23]) ⟨hx, hb, hml, hown, hts⟩ (c_X2_init l D cI _ q23) (cwI 0 hts gX4_save_X2_init rfl rfl rfl (hts (.initialized RX2) (by decide +kernel)) (hts (.methodLink RX4 11 yX2_init) (by decide +kernel)) (hts (.instanceMethod yX2_init) (by decide +kernel)) rfl (by decide +kernel) ⟨Nat.le_of_ble_eq_true rfl, Nat.le_of_ble_eq_true rfl⟩) ⟨preM_blind, preM_of (hP.sub (ws' := [(q23, .inr (2, [.null, .null, .null, .null, .null, .int 0, .int 0, .int 0]))]) [8] rfl) hK hE (hD.sub (ws' := [(q23, .inr (2, [.null, .null, .null, .null, .null, .int 0, .int 0, .int 0]))]) [8] (by decide) rfl) [.ref q23]⟩ rfl rfl hl.1 rfl (lv_room (Nat.le_of_ble_eq_true rfl)) dX4_save_27 ⟨Nat.le_of_ble_eq_true rfl, Nat.le_of_ble_eq_true rfl⟩) hS (fun q _ h => hFc q h) hFc (fun u t9 H1 locs ht hvm hw hB hz1 hk1 hS => ?_)
  obtain ⟨hP1, hK1, hD1⟩ := hB
  rw [ht] at hP1
  obtain ⟨b27, rfl⟩ : ∃ z, z = u := ⟨_, rfl⟩
  subst hw
  obtain ⟨hP, hD⟩ := va_join (wr := wW h (a 0) t0 l0 m0 ++ sW cI a σ ++ wL l0 mc e0 0) (w1 := sW cI b27 s0) hP hD [8] [0, 1, 2, 3, 4, 5, 6, 7] rfl rfl (by decide) (by decide) hk1 hFc hP1 hD1
  generalize H1 = H at hP hS ⊢
  have hP : va_P D vwCl (wW h (a 0) t0 l0 m0 ++ sW cI a σ ++ wL l0 mc e0 0 ++ sW cI b27 s0) H := hP
  have hD : va_D A (wW h (a 0) t0 l0 m0 ++ sW cI a σ ++ wL l0 mc e0 0 ++ sW cI b27 s0) := hD
  refine lv_astore_n (lv' := [(1, .ref (b27 0)), (0, .ref h)]) hx hb dX4_save_30 rfl hl (by decide) rfl (fun ls hl => ?_)
  refine lv_aload_n hx hb dX4_save_31 rfl (lv_at hl 0 rfl) ?_
  refine lv_aload_n hx hb dX4_save_32 rfl (lv_at hl 1 rfl) ?_
  refine va_get (D := D) (ci := 4) (v := .ref (a 0)) (C := RX4) (T := TX4) (N := 4) hx hb hts (by decide +kernel) hown hK hP 0 rfl rfl 0 (by decide) (hts (.fieldLink RX4 12 "Warren" "state" "LWarren$State;") (by decide +kernel)) (fun _ h9 => h9) rfl dX4_save_33 ?_
  have hFc := va_free (wc := sW cI b27 s0 ++ sW cI a σ) hD hS hA [8, 9, 10, 11, 12, 13, 1, 2, 3, 4, 5, 6] rfl
  refine va_callv (va_runV (As := [.ref (a 0)]) (rest := []) ⟨hx, hb, hml, hown, hts⟩ (c_X2_copyFrom l D cI _ b27 s0 a σ) (cwV 1 hts gX4_save_X2_copyFrom rfl rfl rfl (by decide +kernel) ⟨Nat.le_of_ble_eq_true rfl, Nat.le_of_ble_eq_true rfl⟩) ⟨preM_blind, va_recv hK hP (ci := 2) (q0 := 8) rfl rfl, preM_of (hP.sub (ws' := sW cI b27 s0 ++ sW cI a σ) [8, 9, 10, 11, 12, 13, 1, 2, 3, 4, 5, 6] rfl) hK hE (hD.sub (ws' := sW cI b27 s0 ++ sW cI a σ) [8, 9, 10, 11, 12, 13, 1, 2, 3, 4, 5, 6] (by decide) rfl) [.ref (b27 0), .ref (a 0)]⟩ rfl rfl hl.1 rfl (lv_room (Nat.le_of_ble_eq_true rfl)) dX4_save_36 ⟨Nat.le_of_ble_eq_true rfl, Nat.le_of_ble_eq_true rfl⟩) hS (fun q _ h => hFc q h) hFc (fun u t9 H1 locs ht hvm hw hB hz1 hk1 hS => ?_)
  obtain ⟨hP1, hK1, hD1⟩ := hB
  rw [ht] at hP1
  replace hw := hw.symm
  subst hw
  obtain ⟨hP, hD⟩ := va_join (wr := wW h (a 0) t0 l0 m0 ++ wL l0 mc e0 0) (w1 := sW cI b27 σ ++ sW cI a σ) hP hD [8, 9, 10, 11, 12, 13, 1, 2, 3, 4, 5, 6] [0, 7] rfl rfl (by decide) (by decide) hk1 hFc hP1 hD1
  generalize H1 = H at hP hS ⊢
  have hP : va_P D vwCl (wW h (a 0) t0 l0 m0 ++ wL l0 mc e0 0 ++ sW cI b27 σ ++ sW cI a σ) H := hP
  have hD : va_D A (wW h (a 0) t0 l0 m0 ++ wL l0 mc e0 0 ++ sW cI b27 σ ++ sW cI a σ) := hD
  refine lv_aload_n hx hb dX4_save_39 rfl (lv_at hl 1 rfl) ?_
  refine va_get (D := D) (ci := 4) (v := .ref l0) (C := RX4) (T := TX4) (N := 4) hx hb hts (by decide +kernel) hown hK hP 0 rfl rfl 2 (by decide) (hts (.fieldLink RX4 22 "Warren" "saved" "Ljava/util/List;") (by decide +kernel)) (fun _ h9 => h9) rfl dX4_save_40 ?_
  refine lv_aload_n hx hb dX4_save_43 rfl (lv_at hl 0 rfl) ?_
  have hFc := va_free (wc := wL l0 mc e0 0 ++ sW cI b27 σ) hD hS hA [1, 2, 3, 4, 5, 6, 7] rfl
  refine va_callFi (va_runF (hK.1 0 _ rfl).2 (As := [.ref (b27 0)]) (rest := []) ⟨hx, hb, hml, hown, hts⟩ (c_Jx4a65c_add_9ea2d_0 l D cI _ l0 e0 mc b27 σ) (va_cwF 1 hts gX4_save_Jx4a65c_add_9ea2d_f201Jx4a65c rfl rfl rfl hXV.2.2.2.2.2.2.2.2.2.1 (by decide +kernel) ⟨Nat.le_of_ble_eq_true rfl, Nat.le_of_ble_eq_true rfl⟩) ⟨preE_blind, va_recv hK hP (ci := 0) (q0 := 1) rfl rfl, preE_of (hP.sub (ws' := wL l0 mc e0 0 ++ sW cI b27 σ) [1, 2, 3, 4, 5, 6, 7] rfl) hK hE (hD.sub (ws' := wL l0 mc e0 0 ++ sW cI b27 σ) [1, 2, 3, 4, 5, 6, 7] (by decide) rfl) hEX hS hFc [.ref l0, .ref (b27 0)]⟩ rfl rfl hl.1 rfl (lv_room (Nat.le_of_ble_eq_true rfl)) dX4_save_44 ⟨Nat.le_of_ble_eq_true rfl, Nat.le_of_ble_eq_true rfl⟩) hS (fun q _ h => hFc q h) hFc (fun r u t9 H1 locs ht hvm hw hB hz1 hk1 hS => ?_)
  obtain ⟨hP1, hK1, hD1⟩ := hB
  rw [ht] at hP1
  obtain ⟨cP44, m44, e44⟩ := u
  dsimp only at hP1 hD1 hK1
  have hK2 := va_K.moved hvm.symm hK1
  obtain ⟨hP, hD⟩ := va_join (wr := wW h (a 0) t0 l0 m0 ++ sW cI a σ) (w1 := wL l0 m44 e44 1 ++ pW cP44 e44 (va_up (fun _ => none) 0 (some (b27 0))) ++ sW cI b27 σ) hP hD [1, 2, 3, 4, 5, 6, 7] [0, 8, 9, 10, 11, 12, 13] rfl rfl (by decide) (by decide) hk1 hFc hP1 hD1
  generalize H1 = H at hP hS ⊢
  have hP : va_P D vwCl (wW h (a 0) t0 l0 m0 ++ sW cI a σ ++ wL l0 m44 e44 1 ++ pW cP44 e44 (va_up (fun _ => none) 0 (some (b27 0))) ++ sW cI b27 σ) H := hP
  have hD : va_D A (wW h (a 0) t0 l0 m0 ++ sW cI a σ ++ wL l0 m44 e44 1 ++ pW cP44 e44 (va_up (fun _ => none) 0 (some (b27 0))) ++ sW cI b27 σ) := hD
  refine lv_pop hx hb dX4_save_49 rfl ?_
  refine lv_aload_n hx hb dX4_save_50 rfl (lv_at hl 1 rfl) ?_
  refine va_get (D := D) (ci := 4) (v := .ref l0) (C := RX4) (T := TX4) (N := 4) hx hb hts (by decide +kernel) hown hK hP 0 rfl rfl 2 (by decide) (hts (.fieldLink RX4 22 "Warren" "saved" "Ljava/util/List;") (by decide +kernel)) (fun _ h9 => h9) rfl dX4_save_51 ?_
  refine va_csFi (va_runF (hK.1 0 _ rfl).2 (As := []) (rest := []) ⟨hx, hb, hml, hown, hts⟩ (c_Jx4a65c_size_8abf5 l D cI l0 m44 e44 1) (va_cwF 0 hts gX4_save_Jx4a65c_size_8abf5_f190Jx4a65c rfl rfl rfl hXV.2.2.2.2.2.2.2.2.1 (by decide +kernel) ⟨Nat.le_of_ble_eq_true rfl, Nat.le_of_ble_eq_true rfl⟩) ⟨preR_blind, va_recv hK hP (ci := 0) (q0 := 7) rfl rfl, preR_of (hP.sub (ws' := wL l0 m44 e44 1) [7] rfl) hK hE [.ref l0]⟩ rfl rfl hl.1 rfl (lv_room (Nat.le_of_ble_eq_true rfl)) dX4_save_54 ⟨Nat.le_of_ble_eq_true rfl, Nat.le_of_ble_eq_true rfl⟩) (fun r hr9 => ?_)
  subst hr9
  refine lv_iconst (v := 1) hx hb dX4_save_59 (by decide) ?_
  refine lv_isub hx hb dX4_save_60 ?_
  have hP9 := hP.sub (ws' := wW h (a 0) t0 l0 m0 ++ sW cI a σ ++ wL l0 m44 e44 1 ++ pW cP44 e44 (va_up (fun _ => none) 0 (some (b27 0))) ++ sW cI b27 σ) [0, 1, 2, 3, 4, 5, 6, 7, 8, 9, 10, 11, 12, 13, 14] rfl
  have hD9 := hD.sub (ws' := wW h (a 0) t0 l0 m0 ++ sW cI a σ ++ wL l0 m44 e44 1 ++ pW cP44 e44 (va_up (fun _ => none) 0 (some (b27 0))) ++ sW cI b27 σ) [0, 1, 2, 3, 4, 5, 6, 7, 8, 9, 10, 11, 12, 13, 14] (by decide) rfl
  refine W.widen (k := 8) (n := 530) (Nat.le_of_ble_eq_true rfl) (Nat.le_of_ble_eq_true rfl) ?_
  refine vx_ret ?_
  exact W.iret (v := ((nI 1) - 1)) hx hb hr (fun T9 ht hW => ⟨⟨((nI 1) - 1), (cP44, m44, e44, b27), rfl, ⟨rfl, by decide⟩, by rw [ht]; exact hP9, va_K.moved hW.alike hK2, hD9⟩, hS.F ht⟩) hS.2.2 dX4_save_61
set_option maxHeartbeats 4000000 in
set_option maxRecDepth 100000 in
theorem c_X4_meanLife (l : Launch) (D : va_G) (cI : ClassId) (h t0 l0 m0 : Nat) (a : Nat → Nat) (σ : SS) (hn : s_n σ ≤ 10) (hnn : ¬ livingF σ 0 + livingF σ 1 = 0 → vf_n64 (FP.ddiv (FP.i2d (lifeF σ 0 + lifeF σ 1)) (FP.i2d (livingF σ 0 + livingF σ 1)))) : Met l yX4_meanLife wsX4_meanLife ({ frames := 3, cells := 0, slots := 0, locals := 67 } : Room) (va_Pc [.ref h] (preR D cI (wW h (a 0) t0 l0 m0 ++ sW cI a σ))) (vp_Sd (fun r => r = meanF σ)) 0 0 (fun _ => False) := by
  refine Met.ofW (cc := cX4_meanLife) (maxL := 2) (ret := (some .double)) (by decide) rfl ?_
  intro p e s m args below meth c s₁ B hml hv
  obtain ⟨rfl, hP, hK, hE⟩ := hv
  have hx := B.exec
  have hb := B.bytes
  have hr := B.returns
  have hts := atoms_spec (ws := wsX4_meanLife) B.pre
  have hown : s.vm.findClass RX4 = some m.cls := findClass_of_methodNamed B.named
  have hlocks := B.notSynchronized
  have hl := lv_entry ([.ref h]) (n := 2) (Nat.le_of_ble_eq_true rfl)
  rw [lg_entry_eq]
  generalize (lg_sl ([.ref h]) ++ List.replicate (2 - (lg_sl ([.ref h])).length) Slot.unset).toArray = ls at hl ⊢
  have hl : lv_has ls 2 [(0, .ref h)] := hl
  refine lv_aload_n hx hb dX4_meanLife_0 rfl (lv_at hl 0 rfl) ?_
  refine va_get (D := D) (ci := 4) (v := .ref (a 0)) (C := RX4) (T := TX4) (N := 4) hx hb hts (by decide +kernel) hown hK hP 0 rfl rfl 0 (by decide) (hts (.fieldLink RX4 12 "Warren" "state" "LWarren$State;") (by decide +kernel)) (fun _ h9 => h9) rfl dX4_meanLife_1 ?_
  refine lv_iconst (v := 0) hx hb dX4_meanLife_4 (by decide) ?_
  refine vp_callSi (va_Run.run (va_runV (As := [.int 0]) (rest := []) ⟨hx, hb, hml, hown, hts⟩ (c_X2_living l D cI a σ 0 hn) (cwV 1 hts gX4_meanLife_X2_living rfl rfl rfl (by decide +kernel) ⟨Nat.le_of_ble_eq_true rfl, Nat.le_of_ble_eq_true rfl⟩) ⟨preR_blind, va_recv hK hP (ci := 2) (q0 := 1) rfl rfl, preR_of (hP.sub (ws' := sW cI a σ) [1, 2, 3, 4, 5, 6] rfl) hK hE [.ref (a 0), .int 0]⟩ rfl rfl hl.1 rfl (lv_room (Nat.le_of_ble_eq_true rfl)) dX4_meanLife_5 ⟨Nat.zero_le _, Nat.zero_le _⟩)) (fun r hr9 => ?_)
  subst hr9
  refine lv_aload_n hx hb dX4_meanLife_8 rfl (lv_at hl 0 rfl) ?_
  refine va_get (D := D) (ci := 4) (v := .ref (a 0)) (C := RX4) (T := TX4) (N := 4) hx hb hts (by decide +kernel) hown hK hP 0 rfl rfl 0 (by decide) (hts (.fieldLink RX4 12 "Warren" "state" "LWarren$State;") (by decide +kernel)) (fun _ h9 => h9) rfl dX4_meanLife_9 ?_
  refine lv_iconst (v := 1) hx hb dX4_meanLife_12 (by decide) ?_
  refine vp_callSi (va_Run.run (va_runV (As := [.int 1]) (rest := [.int (livingF σ 0)]) ⟨hx, hb, hml, hown, hts⟩ (c_X2_living l D cI a σ 1 hn) (cwV 1 hts gX4_meanLife_X2_living rfl rfl rfl (by decide +kernel) ⟨Nat.le_of_ble_eq_true rfl, Nat.le_of_ble_eq_true rfl⟩) ⟨preR_blind, va_recv hK hP (ci := 2) (q0 := 1) rfl rfl, preR_of (hP.sub (ws' := sW cI a σ) [1, 2, 3, 4, 5, 6] rfl) hK hE [.ref (a 0), .int 1]⟩ rfl rfl hl.1 rfl (lv_room (Nat.le_of_ble_eq_true rfl)) dX4_meanLife_13 ⟨Nat.zero_le _, Nat.zero_le _⟩)) (fun r hr9 => ?_)
  subst hr9
  refine lv_iadd hx hb dX4_meanLife_16 ?_
  refine lv_istore_n (lv' := [(1, .int ((livingF σ 0) + (livingF σ 1))), (0, .ref h)]) hx hb dX4_meanLife_17 rfl hl (by decide) rfl (fun ls hl => ?_)
  refine lv_iload_n hx hb dX4_meanLife_18 rfl (lv_at hl 0 rfl) ?_
  refine lv_if_ne (tgt := 24) hx hb dX4_meanLife_19 (by decide) (fun c_19 => ?_) (fun c_19 => ?_)
  · refine lv_aload_n hx hb dX4_meanLife_24 rfl (lv_at hl 1 rfl) ?_
    refine va_get (D := D) (ci := 4) (v := .ref (a 0)) (C := RX4) (T := TX4) (N := 4) hx hb hts (by decide +kernel) hown hK hP 0 rfl rfl 0 (by decide) (hts (.fieldLink RX4 12 "Warren" "state" "LWarren$State;") (by decide +kernel)) (fun _ h9 => h9) rfl dX4_meanLife_25 ?_
    refine lv_iconst (v := 0) hx hb dX4_meanLife_28 (by decide) ?_
    refine vp_callSi (va_Run.run (va_runV (As := [.int 0]) (rest := []) ⟨hx, hb, hml, hown, hts⟩ (c_X2_lifeOf l D cI a σ 0 hn) (cwV 1 hts gX4_meanLife_X2_lifeOf rfl rfl rfl (by decide +kernel) ⟨Nat.le_of_ble_eq_true rfl, Nat.le_of_ble_eq_true rfl⟩) ⟨preR_blind, va_recv hK hP (ci := 2) (q0 := 1) rfl rfl, preR_of (hP.sub (ws' := sW cI a σ) [1, 2, 3, 4, 5, 6] rfl) hK hE [.ref (a 0), .int 0]⟩ rfl rfl hl.1 rfl (lv_room (Nat.le_of_ble_eq_true rfl)) dX4_meanLife_29 ⟨Nat.zero_le _, Nat.zero_le _⟩)) (fun r hr9 => ?_)
    subst hr9
    refine lv_aload_n hx hb dX4_meanLife_32 rfl (lv_at hl 1 rfl) ?_
    refine va_get (D := D) (ci := 4) (v := .ref (a 0)) (C := RX4) (T := TX4) (N := 4) hx hb hts (by decide +kernel) hown hK hP 0 rfl rfl 0 (by decide) (hts (.fieldLink RX4 12 "Warren" "state" "LWarren$State;") (by decide +kernel)) (fun _ h9 => h9) rfl dX4_meanLife_33 ?_
    refine lv_iconst (v := 1) hx hb dX4_meanLife_36 (by decide) ?_
    refine vp_callSi (va_Run.run (va_runV (As := [.int 1]) (rest := [.int (lifeF σ 0)]) ⟨hx, hb, hml, hown, hts⟩ (c_X2_lifeOf l D cI a σ 1 hn) (cwV 1 hts gX4_meanLife_X2_lifeOf rfl rfl rfl (by decide +kernel) ⟨Nat.le_of_ble_eq_true rfl, Nat.le_of_ble_eq_true rfl⟩) ⟨preR_blind, va_recv hK hP (ci := 2) (q0 := 1) rfl rfl, preR_of (hP.sub (ws' := sW cI a σ) [1, 2, 3, 4, 5, 6] rfl) hK hE [.ref (a 0), .int 1]⟩ rfl rfl hl.1 rfl (lv_room (Nat.le_of_ble_eq_true rfl)) dX4_meanLife_37 ⟨Nat.zero_le _, Nat.zero_le _⟩)) (fun r hr9 => ?_)
    subst hr9
    refine lv_iadd hx hb dX4_meanLife_40 ?_
    refine lv_i2d hx hb dX4_meanLife_41 ?_
    refine lv_iload_n hx hb dX4_meanLife_42 rfl (lv_at hl 0 rfl) ?_
    refine lv_i2d hx hb dX4_meanLife_43 ?_
    refine lv_ddiv hx hb dX4_meanLife_44 (hnn c_19) ?_
    exact W.dret (v := (FP.ddiv (FP.i2d ((lifeF σ 0) + (lifeF σ 1))) (FP.i2d ((livingF σ 0) + (livingF σ 1))))) hx hb hr (fun T9 ht _ => ⟨_, rfl, by unfold meanF; rw [if_neg c_19], ht⟩) hnil dX4_meanLife_45
  · refine lv_dconst0 hx hb dX4_meanLife_22 ?_
    exact W.dret (v := FP.dconst0) hx hb hr (fun T9 ht _ => ⟨_, rfl, by unfold meanF; rw [if_pos c_19], ht⟩) hnil dX4_meanLife_23
