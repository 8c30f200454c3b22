-- ===== further games, and loading =====
set_option maxHeartbeats 4000000 in
set_option maxRecDepth 100000 in
theorem c_Jx4a65c_add_72be8_n (l : Launch) (D : va_G) (cI : ClassId) (cP : ClassId) (sz : Nat) (l0 q n : Nat) (mc : Int32) (pf : Nat → Option Nat) (a : Nat → Nat) (σ : SS) (hn9 : n < 10) : Met l yJx4a65c_add_72be8 wsJx4a65c_add_72be8 ({ frames := 0, cells := 0, slots := 0, locals := 0 } : Room) (va_Pc [.ref l0, .ref (a 0), .ref q, .int (nI n)] (preLP D cI cP (wL l0 mc q n ++ pW cP q pf ++ sW cI a σ) sz)) (va_Qv (fun (u : Int32) => True) (fun (u : Int32) => posM D cI (va_A (wL l0 mc q n ++ pW cP q pf ++ sW cI a σ) sz) (wL l0 u q (n + 1) ++ pW cP q (va_up pf n (some (a 0))) ++ sW cI a σ)) (va_A (wL l0 mc q n ++ pW cP q pf ++ sW cI a σ) sz)) 0 0 (va_A (wL l0 mc q n ++ pW cP q pf ++ sW cI a σ) sz) := by
  refine Met.ofW (cc := cJx4a65c_add_72be8) (maxL := 4) (ret := none) (by decide) rfl ?_
  intro p e s m args below meth c s₁ B hml hv
  obtain ⟨rfl, hsz, hP, hK2, hXV, hD0, hTX, hcs⟩ := hv
  have hK := K_P hK2
  have hE := hXV.1
  have hx := B.exec
  have hb := B.bytes
  have hr := B.returns
  have hts := atoms_spec (ws := wsJx4a65c_add_72be8) B.pre
  have hown : s.vm.findClass RJx4a65c = some m.cls := findClass_of_methodNamed B.named
  have hlocks := B.notSynchronized
  subst hsz
  have hD := hD0.self (sz := s.heap.size)
  generalize hAe : va_A (wL l0 mc q n ++ pW cP q pf ++ sW cI a σ) s.heap.size = A at hD hTX ⊢
  have hA : ∀ q : Nat, s.heap.size ≤ q → A q := fun q h => by rw [← hAe]; exact Or.inr h
  have hS : va_S A s.heap s.heap [] := va_S.rf
  have hP : va_P D vwCl (wL l0 mc q n ++ pW cP q pf ++ sW cI a σ) s.heap := hP
  have hl := lv_entry ([.ref l0, .ref (a 0), .ref q, .int (nI n)]) (n := 4) (Nat.le_of_ble_eq_true rfl)
  rw [lg_entry_eq]
  generalize (lg_sl ([.ref l0, .ref (a 0), .ref q, .int (nI n)]) ++ List.replicate (4 - (lg_sl ([.ref l0, .ref (a 0), .ref q, .int (nI n)])).length) Slot.unset).toArray = ls at hl ⊢
  have hl : lv_has ls 4 [(0, .ref l0), (1, .ref (a 0)), (2, .ref q), (3, .int (nI n))] := hl
  refine lv_iload_n hx hb dJx4a65c_add_72be8_0 rfl (lv_at hl 3 rfl) ?_
  refine lv_aload_n hx hb dJx4a65c_add_72be8_1 rfl (lv_at hl 2 rfl) ?_
  refine va_alen (v := nI 10) hx hb hK2 hP 1 1 rfl rfl rfl dJx4a65c_add_72be8_2 ?_
  refine lv_icmp_ne (tgt := 11) hx hb dJx4a65c_add_72be8_3 (by decide) (fun c_3 => ?_) (fun c_3 => absurd c_3 ((fun z9 => absurd ((nI_eq (a := n) (b := 10) (by omega) (by decide)).mp z9) (by omega))))
  refine lv_aload_n hx hb dJx4a65c_add_72be8_11 rfl (lv_at hl 2 rfl) ?_
  refine lv_iload_n hx hb dJx4a65c_add_72be8_12 rfl (lv_at hl 3 rfl) ?_
  refine lv_aload_n hx hb dJx4a65c_add_72be8_13 rfl (lv_at hl 1 rfl) ?_
  refine va_astqO (r := (RX2, TX2, 8)) hx hb hK2 hP hD hS 1 1 2 2 rfl rfl hcs rfl rfl (vp_in_nI (by omega) (by decide)) dJx4a65c_add_72be8_14 (fun H locs hP hD hS => ?_)
  have hP : va_P D vwCl (wL l0 mc q n ++ pW cP q (va_up pf (nI n).toNatClampNeg (some (a 0))) ++ sW cI a σ) H := hP
  have hD : va_D A (wL l0 mc q n ++ pW cP q (va_up pf (nI n).toNatClampNeg (some (a 0))) ++ sW cI a σ) := hD
  rw [nI_clamp (by omega)] at hP hD
  have hP : va_P D vwCl (wL l0 mc q n ++ pW cP q (va_up pf n (some (a 0))) ++ sW cI a σ) H := hP
  have hD : va_D A (wL l0 mc q n ++ pW cP q (va_up pf n (some (a 0))) ++ sW cI a σ) := hD
  refine lv_aload_n hx hb dJx4a65c_add_72be8_15 rfl (lv_at hl 0 rfl) ?_
  refine lv_iload_n hx hb dJx4a65c_add_72be8_16 rfl (lv_at hl 3 rfl) ?_
  refine lv_iconst (v := 1) hx hb dJx4a65c_add_72be8_17 (by decide) ?_
  refine lv_iadd hx hb dJx4a65c_add_72be8_18 ?_
  rw [nI_1 n]
  refine va_put (D := D) (ci := 0) (v := .int (nI (n + 1))) (ty := .int) (C := RJx4a65c) (T := TJx4a65c) (N := 3) hx hb hts (by decide +kernel) tyJx4a65c tyJx4a65c_ok nmJx4a65c hown hK hP hD hS 0 rfl rfl 2 (by decide) (hts (.fieldLink RJx4a65c 48 "java/util/ArrayList" "size" "I") (by decide +kernel)) (fun _ h9 => h9) rfl (by decide +kernel) rfl rfl (Nat.le_of_ble_eq_true rfl) dJx4a65c_add_72be8_19 (fun H locs hP hD hS => ?_)
  have hP : va_P D vwCl (wL l0 mc q (n + 1) ++ pW cP q (va_up pf n (some (a 0))) ++ sW cI a σ) H := hP
  have hD : va_D A (wL l0 mc q (n + 1) ++ pW cP q (va_up pf n (some (a 0))) ++ sW cI a σ) := hD
  have hP9 := hP.sub (ws' := wL l0 mc q (n + 1) ++ pW cP q (va_up pf n (some (a 0))) ++ sW cI a σ) [0, 1, 2, 3, 4, 5, 6, 7] rfl
  have hD9 := hD.sub (ws' := wL l0 mc q (n + 1) ++ pW cP q (va_up pf n (some (a 0))) ++ sW cI a σ) [0, 1, 2, 3, 4, 5, 6, 7] (by decide) rfl
  exact W.vret hx hb hr (fun T9 ht hW => ⟨⟨mc, rfl, trivial, by rw [ht]; exact hP9, va_K.moved hW.alike hK, hD9⟩, hS.F ht⟩) hS.2.2 dJx4a65c_add_72be8_22
set_option maxHeartbeats 4000000 in
set_option maxRecDepth 100000 in
theorem c_Jx4a65c_add_9ea2d_n (l : Launch) (D : va_G) (cI : ClassId) (cP : ClassId) (sz : Nat) (l0 q n : Nat) (mc : Int32) (pf : Nat → Option Nat) (a : Nat → Nat) (σ : SS) (hn9 : n < 10) : Met l yJx4a65c_add_9ea2d wsJx4a65c_add_9ea2d ({ frames := 1, cells := 0, slots := 0, locals := 23 } : Room) (va_Pc [.ref l0, .ref (a 0)] (preLP D cI cP (wL l0 mc q n ++ pW cP q pf ++ sW cI a σ) sz)) (va_Qi (fun (r : Int32) (u : Int32) => True) (fun (u : Int32) => posM D cI (va_A (wL l0 mc q n ++ pW cP q pf ++ sW cI a σ) sz) (wL l0 u q (n + 1) ++ pW cP q (va_up pf n (some (a 0))) ++ sW cI a σ)) (va_A (wL l0 mc q n ++ pW cP q pf ++ sW cI a σ) sz)) 0 0 (va_A (wL l0 mc q n ++ pW cP q pf ++ sW cI a σ) sz) := by
  refine Met.ofW (cc := cJx4a65c_add_9ea2d) (maxL := 2) (ret := (some .boolean)) (by decide) rfl ?_
  intro p e s m args below meth c s₁ B hml hv
  obtain ⟨rfl, hsz, hP, hK2, hXV, hD0, hTX, hcs⟩ := hv
  have hK := K_P hK2
  have hE := hXV.1
  have hx := B.exec
  have hb := B.bytes
  have hr := B.returns
  have hts := atoms_spec (ws := wsJx4a65c_add_9ea2d) B.pre
  have hown : s.vm.findClass RJx4a65c = some m.cls := findClass_of_methodNamed B.named
  have hlocks := B.notSynchronized
  subst hsz
  have hD := hD0.self (sz := s.heap.size)
  generalize hAe : va_A (wL l0 mc q n ++ pW cP q pf ++ sW cI a σ) s.heap.size = A at hD hTX ⊢
  have hA : ∀ q : Nat, s.heap.size ≤ q → A q := fun q h => by rw [← hAe]; exact Or.inr h
  have hS : va_S A s.heap s.heap [] := va_S.rf
  have hP : va_P D vwCl (wL l0 mc q n ++ pW cP q pf ++ sW cI a σ) s.heap := hP
  have hl := lv_entry ([.ref l0, .ref (a 0)]) (n := 2) (Nat.le_of_ble_eq_true rfl)
  rw [lg_entry_eq]
  generalize (lg_sl ([.ref l0, .ref (a 0)]) ++ List.replicate (2 - (lg_sl ([.ref l0, .ref (a 0)])).length) Slot.unset).toArray = ls at hl ⊢
  have hl : lv_has ls 2 [(0, .ref l0), (1, .ref (a 0))] := hl
  refine lv_aload_n hx hb dJx4a65c_add_9ea2d_0 rfl (lv_at hl 0 rfl) ?_
  refine lv_dup hx hb dJx4a65c_add_9ea2d_1 rfl ?_
  refine va_get (D := D) (ci := 0) (v := .int mc) (C := RJx4a65c) (T := TJx4a65c) (N := 3) hx hb hts (by decide +kernel) hown hK hP 0 rfl rfl 0 (by decide) (hts (.fieldLink RJx4a65c 63 "java/util/ArrayList" "modCount" "I") (by decide +kernel)) (u_same (hts (.sameField "java/util/ArrayList" "java/util/AbstractList" "modCount" "I") (by decide +kernel))) rfl dJx4a65c_add_9ea2d_2 ?_
  refine lv_iconst (v := 1) hx hb dJx4a65c_add_9ea2d_5 (by decide) ?_
  refine lv_iadd hx hb dJx4a65c_add_9ea2d_6 ?_
  refine va_put (D := D) (ci := 0) (v := .int (mc + 1)) (ty := .int) (C := RJx4a65c) (T := TJx4a65c) (N := 3) hx hb hts (by decide +kernel) tyJx4a65c tyJx4a65c_ok nmJx4a65c hown hK hP hD hS 0 rfl rfl 0 (by decide) (hts (.fieldLink RJx4a65c 63 "java/util/ArrayList" "modCount" "I") (by decide +kernel)) (u_same (hts (.sameField "java/util/ArrayList" "java/util/AbstractList" "modCount" "I") (by decide +kernel))) rfl (by decide +kernel) rfl rfl (Nat.le_of_ble_eq_true rfl) dJx4a65c_add_9ea2d_7 (fun H locs hP hD hS => ?_)
  have hP : va_P D vwCl (wL l0 (mc + 1) q n ++ pW cP q pf ++ sW cI a σ) H := hP
  have hD : va_D A (wL l0 (mc + 1) q n ++ pW cP q pf ++ sW cI a σ) := hD
  refine lv_aload_n hx hb dJx4a65c_add_9ea2d_10 rfl (lv_at hl 0 rfl) ?_
  refine lv_aload_n hx hb dJx4a65c_add_9ea2d_11 rfl (lv_at hl 1 rfl) ?_
  refine lv_aload_n hx hb dJx4a65c_add_9ea2d_12 rfl (lv_at hl 0 rfl) ?_
  refine va_get (D := D) (ci := 0) (v := .ref q) (C := RJx4a65c) (T := TJx4a65c) (N := 3) hx hb hts (by decide +kernel) hown hK hP 0 rfl rfl 1 (by decide) (hts (.fieldLink RJx4a65c 9 "java/util/ArrayList" "elementData" "[Ljava/lang/Object;") (by decide +kernel)) (fun _ h9 => h9) rfl dJx4a65c_add_9ea2d_13 ?_
  refine lv_aload_n hx hb dJx4a65c_add_9ea2d_16 rfl (lv_at hl 0 rfl) ?_
  refine va_get (D := D) (ci := 0) (v := .int (nI n)) (C := RJx4a65c) (T := TJx4a65c) (N := 3) hx hb hts (by decide +kernel) hown hK hP 0 rfl rfl 2 (by decide) (hts (.fieldLink RJx4a65c 48 "java/util/ArrayList" "size" "I") (by decide +kernel)) (fun _ h9 => h9) rfl dJx4a65c_add_9ea2d_17 ?_
  have hFc := va_free (wc := wL l0 (mc + 1) q n ++ pW cP q pf ++ sW cI a σ) hD hS hA [0, 1, 2, 3, 4, 5, 6, 7] rfl
  refine va_callv (va_runV (As := [.ref (a 0), .ref q, .int (nI n)]) (rest := []) ⟨hx, hb, hml, hown, hts⟩ (c_Jx4a65c_add_72be8_n l D cI cP _ l0 q n (mc + 1) pf a σ hn9) (cwV 3 hts gJx4a65c_add_9ea2d_Jx4a65c_add_72be8 rfl rfl rfl (by decide +kernel) ⟨Nat.le_of_ble_eq_true rfl, Nat.le_of_ble_eq_true rfl⟩) ⟨preLP_blind, va_recv hK hP (ci := 0) (q0 := 0) rfl rfl, preLP_of hP hK2 hXV hD hTX hcs hS hFc [.ref l0, .ref (a 0), .ref q, .int (nI n)]⟩ rfl rfl hl.1 rfl (lv_room (Nat.le_of_ble_eq_true rfl)) dJx4a65c_add_9ea2d_20 ⟨Nat.le_of_ble_eq_true rfl, Nat.le_of_ble_eq_true rfl⟩) hS (fun q _ h => hFc q h) hFc (fun u t9 H1 locs ht hvm hw hB hz1 hk1 hS => ?_)
  obtain ⟨hP1, hK1, hD1⟩ := hB
  rw [ht] at hP1
  obtain ⟨m20, rfl⟩ : ∃ z, z = u := ⟨_, rfl⟩
  obtain ⟨hP, hD⟩ := va_join (wr := []) (w1 := wL l0 m20 q (n + 1) ++ pW cP q (va_up pf n (some (a 0))) ++ sW cI a σ) hP hD [0, 1, 2, 3, 4, 5, 6, 7] [] rfl rfl (by decide) (by decide) hk1 hFc hP1 hD1
  generalize H1 = H at hP hS ⊢
  have hP : va_P D vwCl (wL l0 m20 q (n + 1) ++ pW cP q (va_up pf n (some (a 0))) ++ sW cI a σ) H := hP
  have hD : va_D A (wL l0 m20 q (n + 1) ++ pW cP q (va_up pf n (some (a 0))) ++ sW cI a σ) := hD
  refine lv_iconst (v := 1) hx hb dJx4a65c_add_9ea2d_23 (by decide) ?_
  have hP9 := hP.sub (ws' := wL l0 m20 q (n + 1) ++ pW cP q (va_up pf n (some (a 0))) ++ sW cI a σ) [0, 1, 2, 3, 4, 5, 6, 7] rfl
  have hD9 := hD.sub (ws' := wL l0 m20 q (n + 1) ++ pW cP q (va_up pf n (some (a 0))) ++ sW cI a σ) [0, 1, 2, 3, 4, 5, 6, 7] (by decide) rfl
  exact W.zret (v := 1) hx hb hr rfl (fun T9 ht hW => ⟨⟨1, m20, rfl, trivial, by rw [ht]; exact hP9, va_K.moved hW.alike hK, hD9⟩, hS.F ht⟩) hS.2.2 dJx4a65c_add_9ea2d_24
set_option maxHeartbeats 4000000 in
set_option maxRecDepth 100000 in
theorem c_J3_checkIndex_8e157 (l : Launch) (i n : Nat) (hin : i < n) (hn3 : n < 2 ^ 31) : Met l yJ3_checkIndex_8e157 wsJ3_checkIndex_8e157 ({ frames := 0, cells := 0, slots := 0, locals := 0 } : Room) (va_Pc [.int (nI i), .int (nI n), .null] (fun _ => True)) (vp_Si (fun r => r = nI i)) 0 0 (fun _ => False) := by
  refine Met.ofW (cc := cJ3_checkIndex_8e157) (maxL := 3) (ret := (some .int)) (by decide) rfl ?_
  intro p e s m args below meth c s₁ B hml hv
  obtain ⟨rfl, -⟩ := hv
  have hx := B.exec
  have hb := B.bytes
  have hr := B.returns
  have hts := atoms_spec (ws := wsJ3_checkIndex_8e157) B.pre
  have hown : s.vm.findClass RJ3 = some m.cls := findClass_of_methodNamed B.named
  have hlocks := B.notSynchronized
  have hl := lv_entry ([.int (nI i), .int (nI n), .null]) (n := 3) (Nat.le_of_ble_eq_true rfl)
  rw [lg_entry_eq]
  generalize (lg_sl ([.int (nI i), .int (nI n), .null]) ++ List.replicate (3 - (lg_sl ([.int (nI i), .int (nI n), .null])).length) Slot.unset).toArray = ls at hl ⊢
  have hl : lv_has ls 3 [(0, .int (nI i)), (1, .int (nI n)), (2, .null)] := hl
  refine lv_iload_n hx hb dJ3_checkIndex_8e157_0 rfl (lv_at hl 0 rfl) ?_
  refine lv_if_lt (tgt := 9) hx hb dJ3_checkIndex_8e157_1 (by decide) (fun c_1 => absurd c_1 ((nI_pos (by omega)))) (fun c_1 => ?_)
  refine lv_iload_n hx hb dJ3_checkIndex_8e157_4 rfl (lv_at hl 0 rfl) ?_
  refine lv_iload_n hx hb dJ3_checkIndex_8e157_5 rfl (lv_at hl 1 rfl) ?_
  refine lv_icmp_lt (tgt := 16) hx hb dJ3_checkIndex_8e157_6 (by decide) (fun c_6 => ?_) (fun c_6 => absurd ((nI_lt hin hn3)) c_6)
  refine lv_iload_n hx hb dJ3_checkIndex_8e157_16 rfl (lv_at hl 0 rfl) ?_
  exact W.iret (v := (nI i)) hx hb hr (fun T9 ht _ => ⟨_, rfl, rfl, ht⟩) hnil dJ3_checkIndex_8e157_17
set_option maxHeartbeats 4000000 in
set_option maxRecDepth 100000 in
theorem c_J15_checkIndex_7cf53 (l : Launch) (i n : Nat) (hin : i < n) (hn3 : n < 2 ^ 31) : Met l yJ15_checkIndex_7cf53 wsJ15_checkIndex_7cf53 ({ frames := 1, cells := 0, slots := 0, locals := 22 } : Room) (va_Pc [.int (nI i), .int (nI n)] (fun _ => True)) (vp_Si (fun r => r = nI i)) 0 0 (fun _ => False) := by
  refine Met.ofW (cc := cJ15_checkIndex_7cf53) (maxL := 2) (ret := (some .int)) (by decide) rfl ?_
  intro p e s m args below meth c s₁ B hml hv
  obtain ⟨rfl, -⟩ := hv
  have hx := B.exec
  have hb := B.bytes
  have hr := B.returns
  have hts := atoms_spec (ws := wsJ15_checkIndex_7cf53) B.pre
  have hown : s.vm.findClass RJ15 = some m.cls := findClass_of_methodNamed B.named
  have hlocks := B.notSynchronized
  have hl := lv_entry ([.int (nI i), .int (nI n)]) (n := 2) (Nat.le_of_ble_eq_true rfl)
  rw [lg_entry_eq]
  generalize (lg_sl ([.int (nI i), .int (nI n)]) ++ List.replicate (2 - (lg_sl ([.int (nI i), .int (nI n)])).length) Slot.unset).toArray = ls at hl ⊢
  have hl : lv_has ls 2 [(0, .int (nI i)), (1, .int (nI n))] := hl
  refine lv_iload_n hx hb dJ15_checkIndex_7cf53_0 rfl (lv_at hl 0 rfl) ?_
  refine lv_iload_n hx hb dJ15_checkIndex_7cf53_1 rfl (lv_at hl 1 rfl) ?_
  refine lv_null hx hb dJ15_checkIndex_7cf53_2 ?_
  refine vp_callSi (va_Run.run (va_runS (As := [.int (nI i), .int (nI n), .null]) (rest := []) ⟨hx, hb, hml, hown, hts⟩ (c_J3_checkIndex_8e157 l i n hin hn3) (va_cwS 3 hts gJ15_checkIndex_7cf53_J3_checkIndex_8e157 rfl rfl rfl (by decide +kernel) ⟨Nat.le_of_ble_eq_true rfl, Nat.le_of_ble_eq_true rfl⟩) ⟨fun _ _ _ _ q => q, fun _ _ _ => ⟨rfl, trivial⟩⟩ rfl rfl hl.1 rfl (lv_room (Nat.le_of_ble_eq_true rfl)) dJ15_checkIndex_7cf53_3 ⟨Nat.zero_le _, Nat.zero_le _⟩)) (fun r hr9 => ?_)
  subst hr9
  exact W.iret (v := (nI i)) hx hb hr (fun T9 ht _ => ⟨_, rfl, rfl, ht⟩) hnil dJ15_checkIndex_7cf53_6
set_option maxHeartbeats 4000000 in
set_option maxRecDepth 100000 in
theorem c_Jx4a65c_elementData_915e3 (l : Launch) (D : va_G) (cI : ClassId) (cP : ClassId) (sz : Nat) (l0 q n : Nat) (mc : Int32) (pf : Nat → Option Nat) (i v : Nat) (hin : i < n) (hn9 : n ≤ 10) (hf : pf i = some v) : Met l yJx4a65c_elementData_915e3 wsJx4a65c_elementData_915e3 ({ frames := 0, cells := 0, slots := 0, locals := 0 } : Room) (va_Pc [.ref l0, .int (nI i)] (preLP D cI cP (wL l0 mc q n ++ pW cP q pf) sz)) (va_Qr (fun (_ : Unit) => True) (fun (u : Unit) (a : Nat) => (fun t => a = v ∧ posM D cI (va_A (wL l0 mc q n ++ pW cP q pf) sz) (wL l0 mc q n ++ pW cP q pf) t)) (va_A (wL l0 mc q n ++ pW cP q pf) sz)) 0 0 (va_A (wL l0 mc q n ++ pW cP q pf) sz) := by
  refine Met.ofW (cc := cJx4a65c_elementData_915e3) (maxL := 2) (ret := (some (.object "java/lang/Object"))) (by decide) rfl ?_
  intro p e s m args below meth c s₁ B hml hv
  obtain ⟨rfl, hsz, hP, hK2, hXV, hD0, hTX, hcs⟩ := hv
  have hK := K_P hK2
  have hE := hXV.1
  have hx := B.exec
  have hb := B.bytes
  have hr := B.returns
  have hts := atoms_spec (ws := wsJx4a65c_elementData_915e3) B.pre
  have hown : s.vm.findClass RJx4a65c = some m.cls := findClass_of_methodNamed B.named
  have hlocks := B.notSynchronized
  subst hsz
  have hD := hD0.self (sz := s.heap.size)
  generalize hAe : va_A (wL l0 mc q n ++ pW cP q pf) s.heap.size = A at hD hTX ⊢
  have hA : ∀ q : Nat, s.heap.size ≤ q → A q := fun q h => by rw [← hAe]; exact Or.inr h
  have hS : va_S A s.heap s.heap [] := va_S.rf
  have hP : va_P D vwCl (wL l0 mc q n ++ pW cP q pf) s.heap := hP
  have hl := lv_entry ([.ref l0, .int (nI i)]) (n := 2) (Nat.le_of_ble_eq_true rfl)
  rw [lg_entry_eq]
  generalize (lg_sl ([.ref l0, .int (nI i)]) ++ List.replicate (2 - (lg_sl ([.ref l0, .int (nI i)])).length) Slot.unset).toArray = ls at hl ⊢
  have hl : lv_has ls 2 [(0, .ref l0), (1, .int (nI i))] := hl
  refine lv_aload_n hx hb dJx4a65c_elementData_915e3_0 rfl (lv_at hl 0 rfl) ?_
  refine va_get (D := D) (ci := 0) (v := .ref q) (C := RJx4a65c) (T := TJx4a65c) (N := 3) hx hb hts (by decide +kernel) hown hK hP 0 rfl rfl 1 (by decide) (hts (.fieldLink RJx4a65c 9 "java/util/ArrayList" "elementData" "[Ljava/lang/Object;") (by decide +kernel)) (fun _ h9 => h9) rfl dJx4a65c_elementData_915e3_1 ?_
  refine lv_iload_n hx hb dJx4a65c_elementData_915e3_4 rfl (lv_at hl 1 rfl) ?_
  refine w_ldP hx hb hK2 hP 1 1 rfl rfl (vp_in_nI (by omega) (by decide)) (by rw [nI_clamp (by omega)]; exact hf) dJx4a65c_elementData_915e3_5 ?_
  have hP9 := hP.sub (ws' := wL l0 mc q n ++ pW cP q pf) [0, 1] rfl
  have hD9 := hD.sub (ws' := wL l0 mc q n ++ pW cP q pf) [0, 1] (by decide) rfl
  exact W.aret (v := .ref v) hx hb hr (Or.inl ⟨_, rfl⟩) (Or.inr ⟨_, rfl⟩) (fun T9 ht hW => ⟨⟨(), v, rfl, trivial, rfl, by rw [ht]; exact hP9, va_K.moved hW.alike hK, hD9⟩, hS.F ht⟩) hS.2.2 dJx4a65c_elementData_915e3_6
set_option maxHeartbeats 4000000 in
set_option maxRecDepth 100000 in
theorem c_Jx4a65c_get_915e3 (l : Launch) (D : va_G) (cI : ClassId) (cP : ClassId) (sz : Nat) (l0 q n : Nat) (mc : Int32) (pf : Nat → Option Nat) (i v : Nat) (hin : i < n) (hn9 : n ≤ 10) (hf : pf i = some v) : Met l yJx4a65c_get_915e3 wsJx4a65c_get_915e3 ({ frames := 2, cells := 0, slots := 0, locals := 43 } : Room) (va_Pc [.ref l0, .int (nI i)] (preLP D cI cP (wL l0 mc q n ++ pW cP q pf) sz)) (va_Qr (fun (_ : Unit) => True) (fun (u : Unit) (a : Nat) => (fun t => a = v ∧ posM D cI (va_A (wL l0 mc q n ++ pW cP q pf) sz) (wL l0 mc q n ++ pW cP q pf) t)) (va_A (wL l0 mc q n ++ pW cP q pf) sz)) 0 0 (va_A (wL l0 mc q n ++ pW cP q pf) sz) := by
  refine Met.ofW (cc := cJx4a65c_get_915e3) (maxL := 2) (ret := (some (.object "java/lang/Object"))) (by decide) rfl ?_
  intro p e s m args below meth c s₁ B hml hv
  obtain ⟨rfl, hsz, hP, hK2, hXV, hD0, hTX, hcs⟩ := hv
  have hK := K_P hK2
  have hE := hXV.1
  have hx := B.exec
  have hb := B.bytes
  have hr := B.returns
  have hts := atoms_spec (ws := wsJx4a65c_get_915e3) B.pre
  have hown : s.vm.findClass RJx4a65c = some m.cls := findClass_of_methodNamed B.named
  have hlocks := B.notSynchronized
  subst hsz
  have hD := hD0.self (sz := s.heap.size)
  generalize hAe : va_A (wL l0 mc q n ++ pW cP q pf) s.heap.size = A at hD hTX ⊢
  have hA : ∀ q : Nat, s.heap.size ≤ q → A q := fun q h => by rw [← hAe]; exact Or.inr h
  have hS : va_S A s.heap s.heap [] := va_S.rf
  have hP : va_P D vwCl (wL l0 mc q n ++ pW cP q pf) s.heap := hP
  have hl := lv_entry ([.ref l0, .int (nI i)]) (n := 2) (Nat.le_of_ble_eq_true rfl)
  rw [lg_entry_eq]
  generalize (lg_sl ([.ref l0, .int (nI i)]) ++ List.replicate (2 - (lg_sl ([.ref l0, .int (nI i)])).length) Slot.unset).toArray = ls at hl ⊢
  have hl : lv_has ls 2 [(0, .ref l0), (1, .int (nI i))] := hl
  refine lv_iload_n hx hb dJx4a65c_get_915e3_0 rfl (lv_at hl 1 rfl) ?_
  refine lv_aload_n hx hb dJx4a65c_get_915e3_1 rfl (lv_at hl 0 rfl) ?_
  refine va_get (D := D) (ci := 0) (v := .int (nI n)) (C := RJx4a65c) (T := TJx4a65c) (N := 3) hx hb hts (by decide +kernel) hown hK hP 0 rfl rfl 2 (by decide) (hts (.fieldLink RJx4a65c 48 "java/util/ArrayList" "size" "I") (by decide +kernel)) (fun _ h9 => h9) rfl dJx4a65c_get_915e3_2 ?_
  refine vp_callSi (va_Run.run (va_runS (As := [.int (nI i), .int (nI n)]) (rest := []) ⟨hx, hb, hml, hown, hts⟩ (c_J15_checkIndex_7cf53 l i n hin (by omega)) (va_cwS 2 hts gJx4a65c_get_915e3_J15_checkIndex_7cf53 rfl rfl rfl (by decide +kernel) ⟨Nat.le_of_ble_eq_true rfl, Nat.le_of_ble_eq_true rfl⟩) ⟨fun _ _ _ _ q => q, fun _ _ _ => ⟨rfl, trivial⟩⟩ rfl rfl hl.1 rfl (lv_room (Nat.le_of_ble_eq_true rfl)) dJx4a65c_get_915e3_5 ⟨Nat.zero_le _, Nat.zero_le _⟩)) (fun r hr9 => ?_)
  subst hr9
  refine lv_pop hx hb dJx4a65c_get_915e3_8 rfl ?_
  refine lv_aload_n hx hb dJx4a65c_get_915e3_9 rfl (lv_at hl 0 rfl) ?_
  refine lv_iload_n hx hb dJx4a65c_get_915e3_10 rfl (lv_at hl 1 rfl) ?_
  have hFc := va_free (wc := wL l0 mc q n ++ pW cP q pf) hD hS hA [0, 1] rfl
  refine va_callr (va_runV (As := [.int (nI i)]) (rest := []) ⟨hx, hb, hml, hown, hts⟩ (c_Jx4a65c_elementData_915e3 l D cI cP _ l0 q n mc pf i v hin hn9 hf) (cwV 1 hts gJx4a65c_get_915e3_Jx4a65c_elementData_915e3 rfl rfl rfl (by decide +kernel) ⟨Nat.le_of_ble_eq_true rfl, Nat.le_of_ble_eq_true rfl⟩) ⟨preLP_blind, va_recv hK hP (ci := 0) (q0 := 0) rfl rfl, preLP_of hP hK2 hXV hD hTX hcs hS hFc [.ref l0, .int (nI i)]⟩ rfl rfl hl.1 rfl (lv_room (Nat.le_of_ble_eq_true rfl)) dJx4a65c_get_915e3_11 ⟨Nat.le_of_ble_eq_true rfl, Nat.le_of_ble_eq_true rfl⟩) hS (fun q _ h => hFc q h) hFc (fun _ q11 t9 H1 locs ht hvm hw hB hz1 hk1 hS => ?_)
  obtain ⟨hq9, hP1, hK1, hD1⟩ := hB
  rw [ht] at hP1
  rw [hq9]
  obtain ⟨hP, hD⟩ := va_join (wr := []) (w1 := wL l0 mc q n ++ pW cP q pf) hP hD [0, 1] [] rfl rfl (by decide) (by decide) hk1 hFc hP1 hD1
  generalize H1 = H at hP hS ⊢
  have hP : va_P D vwCl (wL l0 mc q n ++ pW cP q pf) H := hP
  have hD : va_D A (wL l0 mc q n ++ pW cP q pf) := hD
  have hP9 := hP.sub (ws' := wL l0 mc q n ++ pW cP q pf) [0, 1] rfl
  have hD9 := hD.sub (ws' := wL l0 mc q n ++ pW cP q pf) [0, 1] (by decide) rfl
  exact W.aret (v := .ref v) hx hb hr (Or.inl ⟨_, rfl⟩) (Or.inr ⟨_, rfl⟩) (fun T9 ht hW => ⟨⟨(), v, rfl, trivial, rfl, by rw [ht]; exact hP9, va_K.moved hW.alike hK, hD9⟩, hS.F ht⟩) hS.2.2 dJx4a65c_get_915e3_14
set_option maxHeartbeats 4000000 in
set_option maxRecDepth 100000 in
theorem c_X4_save_n (l : Launch) (hst : l.stackTraces = false) (D : va_G) (cI : ClassId) (cP : ClassId) (sz : Nat) (h t0 l0 m0 q n : Nat) (a : Nat → Nat) (σ : SS) (mc : Int32) (pf : Nat → Option Nat) (hn1 : 1 ≤ n) (hn5 : n < 5) : vx_Met l yX4_save wsX4_save ({ frames := 2, cells := 8, slots := 530, locals := 81 } : Room) (va_Pc [.ref h] (preLP D cI cP (wW h (a 0) t0 l0 m0 ++ sW cI a σ ++ wL l0 mc q n ++ pW cP q pf) sz)) (va_Qi (fun (r : Int32) (u : (Int32 × (Nat → Nat))) => 0 = 0 ∧ r = nI n) (fun (u : (Int32 × (Nat → Nat))) => posM D cI (va_A (wW h (a 0) t0 l0 m0 ++ sW cI a σ ++ wL l0 mc q n ++ pW cP q pf) sz) (wW h (a 0) t0 l0 m0 ++ sW cI a σ ++ wL l0 u.1 q (n + 1) ++ pW cP q (va_up pf n (some (u.2 0))) ++ sW cI u.2 σ)) (va_A (wW h (a 0) t0 l0 m0 ++ sW cI a σ ++ wL l0 mc q n ++ pW cP q pf) sz)) (thrX (0) nmS D cI (va_A (wW h (a 0) t0 l0 m0 ++ sW cI a σ ++ wL l0 mc q n ++ pW cP q pf) sz) (wW h (a 0) t0 l0 m0 ++ sW cI a σ ++ wL l0 mc q n ++ pW cP q pf)) 8 530 (va_A (wW h (a 0) t0 l0 m0 ++ sW cI a σ ++ wL l0 mc q n ++ pW cP q pf) sz) := by
  refine vx_ofW (cc := cX4_save) (maxL := 2) (ret := (some .int)) (by decide) rfl ?_
  intro p e s m args below meth c s₁ B hml hno hv
  obtain ⟨rfl, hsz, hP, hK2, hXV, hD0, hTX, hcs⟩ := hv
  have hK := K_P hK2
  have hE := hXV.1
  have hx := B.exec
  have hb := B.bytes
  have hr := B.returns
  have hts := atoms_spec (ws := wsX4_save) B.pre
  have hown : s.vm.findClass RX4 = some m.cls := findClass_of_methodNamed B.named
  have hlocks := B.notSynchronized
  subst hsz
  have hD := hD0.self (sz := s.heap.size)
  generalize hAe : va_A (wW h (a 0) t0 l0 m0 ++ sW cI a σ ++ wL l0 mc q n ++ pW cP q pf) s.heap.size = A at hD hTX ⊢
  have hA : ∀ q : Nat, s.heap.size ≤ q → A q := fun q h => by rw [← hAe]; exact Or.inr h
  have hS : va_S A s.heap s.heap [] := va_S.rf
  have hP : va_P D vwCl (wW h (a 0) t0 l0 m0 ++ sW cI a σ ++ wL l0 mc q n ++ pW cP q pf) s.heap := hP
  have hl := lv_entry ([.ref h]) (n := 2) (Nat.le_of_ble_eq_true rfl)
  rw [lg_entry_eq]
  generalize (lg_sl ([.ref h]) ++ List.replicate (2 - (lg_sl ([.ref h])).length) Slot.unset).toArray = ls at hl ⊢
  have hl : lv_has ls 2 [(0, .ref h)] := hl
  refine lv_aload_n hx hb dX4_save_0 rfl (lv_at hl 0 rfl) ?_
  refine va_get (D := D) (ci := 4) (v := .ref l0) (C := RX4) (T := TX4) (N := 4) hx hb hts (by decide +kernel) hown hK hP 0 rfl rfl 2 (by decide) (hts (.fieldLink RX4 22 "Warren" "saved" "Ljava/util/List;") (by decide +kernel)) (fun _ h9 => h9) rfl dX4_save_1 ?_
  refine va_csFi (va_runF (hK.1 0 _ rfl).2 (As := []) (rest := []) ⟨hx, hb, hml, hown, hts⟩ (c_Jx4a65c_size_8abf5 l D cI l0 mc q n) (va_cwF 0 hts gX4_save_Jx4a65c_size_8abf5_f190Jx4a65c rfl rfl rfl hXV.2.2.2.2.2.2.2.2.1 (by decide +kernel) ⟨Nat.le_of_ble_eq_true rfl, Nat.le_of_ble_eq_true rfl⟩) ⟨preR_blind, va_recv hK hP (ci := 0) (q0 := 7) rfl rfl, preR_of (hP.sub (ws' := wL l0 mc q n) [7] rfl) hK hE [.ref l0]⟩ rfl rfl hl.1 rfl (lv_room (Nat.le_of_ble_eq_true rfl)) dX4_save_4 ⟨Nat.zero_le _, Nat.zero_le _⟩) (fun r hr9 => ?_)
  subst hr9
  refine lv_iconst (v := 5) hx hb dX4_save_9 (by decide) ?_
  refine lv_icmp_lt (tgt := 23) hx hb dX4_save_10 (by decide) (fun c_10 => ?_) (fun c_10 => absurd ((nI_lt (b := 5) (by omega) (by omega))) c_10)
  refine va_new (D := D) (ci := 2) (fs := [.null, .null, .null, .null, .null, .int 0, .int 0, .int 0]) (C := RX2) (T := TX2) (N := 8) hx hb hts (by decide +kernel) tyX2 tyX2_ok hown (hts (.classLink RX4 9 RX2) (by decide +kernel)) (hts (.instantiable RX2 8) (by decide +kernel)) (hts (.initialized RX2) (by decide +kernel)) hK hP hD hS hA rfl (fun j hj => by rcases (show j = 0 ∨ j = 1 ∨ j = 2 ∨ j = 3 ∨ j = 4 ∨ j = 5 ∨ j = 6 ∨ j = 7 by omega) with rfl | rfl | rfl | rfl | rfl | rfl | rfl | rfl <;> rfl) (Nat.le_of_ble_eq_true rfl) (Nat.le_of_ble_eq_true rfl) dX4_save_23 (fun q23 H hP hD hS => ?_)
  have hP : va_P D vwCl (wW h (a 0) t0 l0 m0 ++ sW cI a σ ++ wL l0 mc q n ++ pW cP q pf ++ [(q23, .inr (2, [.null, .null, .null, .null, .null, .int 0, .int 0, .int 0]))]) H := hP
  have hD : va_D A (wW h (a 0) t0 l0 m0 ++ sW cI a σ ++ wL l0 mc q n ++ pW cP q pf ++ [(q23, .inr (2, [.null, .null, .null, .null, .null, .int 0, .int 0, .int 0]))]) := hD
  refine lv_dup hx hb dX4_save_26 rfl ?_
  have hFc := va_free (wc := [(q23, .inr (2, [.null, .null, .null, .null, .null, .int 0, .int 0, .int 0]))]) hD hS hA [9] rfl
  refine va_callv (va_runI (As := []) (rest := [.ref q23]) ⟨hx, hb, hml, hown, hts⟩ (c_X2_init l D cI _ q23) (cwI 0 hts gX4_save_X2_init rfl rfl rfl (hts (.initialized RX2) (by decide +kernel)) (hts (.methodLink RX4 11 yX2_init) (by decide +kernel)) (hts (.instanceMethod yX2_init) (by decide +kernel)) rfl (by decide +kernel) ⟨Nat.le_of_ble_eq_true rfl, Nat.le_of_ble_eq_true rfl⟩) ⟨preM_blind, preM_of (hP.sub (ws' := [(q23, .inr (2, [.null, .null, .null, .null, .null, .int 0, .int 0, .int 0]))]) [9] rfl) hK hE (hD.sub (ws' := [(q23, .inr (2, [.null, .null, .null, .null, .null, .int 0, .int 0, .int 0]))]) [9] (by decide) rfl) [.ref q23]⟩ rfl rfl hl.1 rfl (lv_room (Nat.le_of_ble_eq_true rfl)) dX4_save_27 ⟨Nat.le_of_ble_eq_true rfl, Nat.le_of_ble_eq_true rfl⟩) hS (fun q _ h => hFc q h) hFc (fun u t9 H1 locs ht hvm hw hB hz1 hk1 hS => ?_)
  obtain ⟨hP1, hK1, hD1⟩ := hB
  rw [ht] at hP1
  obtain ⟨b27, rfl⟩ : ∃ z, z = u := ⟨_, rfl⟩
  subst hw
  obtain ⟨hP, hD⟩ := va_join (wr := wW h (a 0) t0 l0 m0 ++ sW cI a σ ++ wL l0 mc q n ++ pW cP q pf) (w1 := sW cI b27 s0) hP hD [9] [0, 1, 2, 3, 4, 5, 6, 7, 8] rfl rfl (by decide) (by decide) hk1 hFc hP1 hD1
  generalize H1 = H at hP hS ⊢
  have hP : va_P D vwCl (wW h (a 0) t0 l0 m0 ++ sW cI a σ ++ wL l0 mc q n ++ pW cP q pf ++ sW cI b27 s0) H := hP
  have hD : va_D A (wW h (a 0) t0 l0 m0 ++ sW cI a σ ++ wL l0 mc q n ++ pW cP q pf ++ sW cI b27 s0) := hD
  refine lv_astore_n (lv' := [(1, .ref (b27 0)), (0, .ref h)]) hx hb dX4_save_30 rfl hl (by decide) rfl (fun ls hl => ?_)
  refine lv_aload_n hx hb dX4_save_31 rfl (lv_at hl 0 rfl) ?_
  refine lv_aload_n hx hb dX4_save_32 rfl (lv_at hl 1 rfl) ?_
  refine va_get (D := D) (ci := 4) (v := .ref (a 0)) (C := RX4) (T := TX4) (N := 4) hx hb hts (by decide +kernel) hown hK hP 0 rfl rfl 0 (by decide) (hts (.fieldLink RX4 12 "Warren" "state" "LWarren$State;") (by decide +kernel)) (fun _ h9 => h9) rfl dX4_save_33 ?_
  have hFc := va_free (wc := sW cI b27 s0 ++ sW cI a σ) hD hS hA [9, 10, 11, 12, 13, 14, 1, 2, 3, 4, 5, 6] rfl
  refine va_callv (va_runV (As := [.ref (a 0)]) (rest := []) ⟨hx, hb, hml, hown, hts⟩ (c_X2_copyFrom l D cI _ b27 s0 a σ) (cwV 1 hts gX4_save_X2_copyFrom rfl rfl rfl (by decide +kernel) ⟨Nat.le_of_ble_eq_true rfl, Nat.le_of_ble_eq_true rfl⟩) ⟨preM_blind, va_recv hK hP (ci := 2) (q0 := 9) rfl rfl, preM_of (hP.sub (ws' := sW cI b27 s0 ++ sW cI a σ) [9, 10, 11, 12, 13, 14, 1, 2, 3, 4, 5, 6] rfl) hK hE (hD.sub (ws' := sW cI b27 s0 ++ sW cI a σ) [9, 10, 11, 12, 13, 14, 1, 2, 3, 4, 5, 6] (by decide) rfl) [.ref (b27 0), .ref (a 0)]⟩ rfl rfl hl.1 rfl (lv_room (Nat.le_of_ble_eq_true rfl)) dX4_save_36 ⟨Nat.le_of_ble_eq_true rfl, Nat.le_of_ble_eq_true rfl⟩) hS (fun q _ h => hFc q h) hFc (fun u t9 H1 locs ht hvm hw hB hz1 hk1 hS => ?_)
  obtain ⟨hP1, hK1, hD1⟩ := hB
  rw [ht] at hP1
  replace hw := hw.symm
  subst hw
  obtain ⟨hP, hD⟩ := va_join (wr := wW h (a 0) t0 l0 m0 ++ wL l0 mc q n ++ pW cP q pf) (w1 := sW cI b27 σ ++ sW cI a σ) hP hD [9, 10, 11, 12, 13, 14, 1, 2, 3, 4, 5, 6] [0, 7, 8] rfl rfl (by decide) (by decide) hk1 hFc hP1 hD1
  generalize H1 = H at hP hS ⊢
  have hP : va_P D vwCl (wW h (a 0) t0 l0 m0 ++ wL l0 mc q n ++ pW cP q pf ++ sW cI b27 σ ++ sW cI a σ) H := hP
  have hD : va_D A (wW h (a 0) t0 l0 m0 ++ wL l0 mc q n ++ pW cP q pf ++ sW cI b27 σ ++ sW cI a σ) := hD
  refine lv_aload_n hx hb dX4_save_39 rfl (lv_at hl 1 rfl) ?_
  refine va_get (D := D) (ci := 4) (v := .ref l0) (C := RX4) (T := TX4) (N := 4) hx hb hts (by decide +kernel) hown hK hP 0 rfl rfl 2 (by decide) (hts (.fieldLink RX4 22 "Warren" "saved" "Ljava/util/List;") (by decide +kernel)) (fun _ h9 => h9) rfl dX4_save_40 ?_
  refine lv_aload_n hx hb dX4_save_43 rfl (lv_at hl 0 rfl) ?_
  have hFc := va_free (wc := wL l0 mc q n ++ pW cP q pf ++ sW cI b27 σ) hD hS hA [1, 2, 3, 4, 5, 6, 7, 8] rfl
  refine va_callFi (va_runF (hK.1 0 _ rfl).2 (As := [.ref (b27 0)]) (rest := []) ⟨hx, hb, hml, hown, hts⟩ (c_Jx4a65c_add_9ea2d_n l D cI cP _ l0 q n mc pf b27 σ (by omega)) (va_cwF 1 hts gX4_save_Jx4a65c_add_9ea2d_f201Jx4a65c rfl rfl rfl hXV.2.2.2.2.2.2.2.2.2.1 (by decide +kernel) ⟨Nat.le_of_ble_eq_true rfl, Nat.le_of_ble_eq_true rfl⟩) ⟨preLP_blind, va_recv hK hP (ci := 0) (q0 := 1) rfl rfl, preLP_of (hP.sub (ws' := wL l0 mc q n ++ pW cP q pf ++ sW cI b27 σ) [1, 2, 3, 4, 5, 6, 7, 8] rfl) hK2 hXV (hD.sub (ws' := wL l0 mc q n ++ pW cP q pf ++ sW cI b27 σ) [1, 2, 3, 4, 5, 6, 7, 8] (by decide) rfl) hTX hcs hS hFc [.ref l0, .ref (b27 0)]⟩ rfl rfl hl.1 rfl (lv_room (Nat.le_of_ble_eq_true rfl)) dX4_save_44 ⟨Nat.le_of_ble_eq_true rfl, Nat.le_of_ble_eq_true rfl⟩) hS (fun q _ h => hFc q h) hFc (fun r u t9 H1 locs ht hvm hw hB hz1 hk1 hS => ?_)
  obtain ⟨hP1, hK1, hD1⟩ := hB
  rw [ht] at hP1
  obtain ⟨m44, rfl⟩ : ∃ z, z = u := ⟨_, rfl⟩
  obtain ⟨hP, hD⟩ := va_join (wr := wW h (a 0) t0 l0 m0 ++ sW cI a σ) (w1 := wL l0 m44 q (n + 1) ++ pW cP q (va_up pf n (some (b27 0))) ++ sW cI b27 σ) hP hD [1, 2, 3, 4, 5, 6, 7, 8] [0, 9, 10, 11, 12, 13, 14] rfl rfl (by decide) (by decide) hk1 hFc hP1 hD1
  generalize H1 = H at hP hS ⊢
  have hP : va_P D vwCl (wW h (a 0) t0 l0 m0 ++ sW cI a σ ++ wL l0 m44 q (n + 1) ++ pW cP q (va_up pf n (some (b27 0))) ++ sW cI b27 σ) H := hP
  have hD : va_D A (wW h (a 0) t0 l0 m0 ++ sW cI a σ ++ wL l0 m44 q (n + 1) ++ pW cP q (va_up pf n (some (b27 0))) ++ sW cI b27 σ) := hD
  refine lv_pop hx hb dX4_save_49 rfl ?_
  refine lv_aload_n hx hb dX4_save_50 rfl (lv_at hl 1 rfl) ?_
  refine va_get (D := D) (ci := 4) (v := .ref l0) (C := RX4) (T := TX4) (N := 4) hx hb hts (by decide +kernel) hown hK hP 0 rfl rfl 2 (by decide) (hts (.fieldLink RX4 22 "Warren" "saved" "Ljava/util/List;") (by decide +kernel)) (fun _ h9 => h9) rfl dX4_save_51 ?_
  refine va_csFi (va_runF (hK.1 0 _ rfl).2 (As := []) (rest := []) ⟨hx, hb, hml, hown, hts⟩ (c_Jx4a65c_size_8abf5 l D cI l0 m44 q (n + 1)) (va_cwF 0 hts gX4_save_Jx4a65c_size_8abf5_f190Jx4a65c rfl rfl rfl hXV.2.2.2.2.2.2.2.2.1 (by decide +kernel) ⟨Nat.le_of_ble_eq_true rfl, Nat.le_of_ble_eq_true rfl⟩) ⟨preR_blind, va_recv hK hP (ci := 0) (q0 := 7) rfl rfl, preR_of (hP.sub (ws' := wL l0 m44 q (n + 1)) [7] rfl) hK hE [.ref l0]⟩ rfl rfl hl.1 rfl (lv_room (Nat.le_of_ble_eq_true rfl)) dX4_save_54 ⟨Nat.le_of_ble_eq_true rfl, Nat.le_of_ble_eq_true rfl⟩) (fun r hr9 => ?_)
  subst hr9
  refine lv_iconst (v := 1) hx hb dX4_save_59 (by decide) ?_
  refine lv_isub hx hb dX4_save_60 ?_
  rw [nI_pred n]
  have hP9 := hP.sub (ws' := wW h (a 0) t0 l0 m0 ++ sW cI a σ ++ wL l0 m44 q (n + 1) ++ pW cP q (va_up pf n (some (b27 0))) ++ sW cI b27 σ) [0, 1, 2, 3, 4, 5, 6, 7, 8, 9, 10, 11, 12, 13, 14] rfl
  have hD9 := hD.sub (ws' := wW h (a 0) t0 l0 m0 ++ sW cI a σ ++ wL l0 m44 q (n + 1) ++ pW cP q (va_up pf n (some (b27 0))) ++ sW cI b27 σ) [0, 1, 2, 3, 4, 5, 6, 7, 8, 9, 10, 11, 12, 13, 14] (by decide) rfl
  refine W.widen (k := 8) (n := 530) (Nat.le_of_ble_eq_true rfl) (Nat.le_of_ble_eq_true rfl) ?_
  refine vx_ret ?_
  exact W.iret (v := (nI n)) hx hb hr (fun T9 ht hW => ⟨⟨(nI n), (m44, b27), rfl, ⟨rfl, rfl⟩, by rw [ht]; exact hP9, va_K.moved hW.alike hK, hD9⟩, hS.F ht⟩) hS.2.2 dX4_save_61
set_option maxHeartbeats 4000000 in
set_option maxRecDepth 100000 in
theorem c_X4_load_n (l : Launch) (hst : l.stackTraces = false) (D : va_G) (cI : ClassId) (cP : ClassId) (sz : Nat) (h t0 l0 m0 q n i : Nat) (a z : Nat → Nat) (σ τ : SS) (mc : Int32) (pf : Nat → Option Nat) (hin : i < n) (hn9 : n ≤ 10) (hf : pf i = some (z 0)) (hn : s_n τ ≤ 10) : vx_Met l yX4_load wsX4_load ({ frames := 3, cells := 1, slots := 6, locals := 81 } : Room) (va_Pc [.ref h, .int (nI i)] (preLP D cI cP (wW h (a 0) t0 l0 m0 ++ sW cI a σ ++ wL l0 mc q n ++ pW cP q pf ++ sW cI z τ) sz)) (va_Qi (fun (r : Int32) (u : Unit) => 0 = 0 ∧ r = livingF τ 0 + livingF τ 1) (fun (u : Unit) => posM D cI (va_A (wW h (a 0) t0 l0 m0 ++ sW cI a σ ++ wL l0 mc q n ++ pW cP q pf ++ sW cI z τ) sz) (wW h (a 0) t0 l0 m0 ++ sW cI a τ ++ wL l0 mc q n ++ pW cP q pf ++ sW cI z τ)) (va_A (wW h (a 0) t0 l0 m0 ++ sW cI a σ ++ wL l0 mc q n ++ pW cP q pf ++ sW cI z τ) sz)) (thrX (0) nmI D cI (va_A (wW h (a 0) t0 l0 m0 ++ sW cI a σ ++ wL l0 mc q n ++ pW cP q pf ++ sW cI z τ) sz) (wW h (a 0) t0 l0 m0 ++ sW cI a σ ++ wL l0 mc q n ++ pW cP q pf ++ sW cI z τ)) 1 6 (va_A (wW h (a 0) t0 l0 m0 ++ sW cI a σ ++ wL l0 mc q n ++ pW cP q pf ++ sW cI z τ) sz) := by
  refine vx_ofW (cc := cX4_load) (maxL := 2) (ret := (some .int)) (by decide) rfl ?_
  intro p e s m args below meth c s₁ B hml hno hv
  obtain ⟨rfl, hsz, hP, hK2, hXV, hD0, hTX, hcs⟩ := hv
  have hK := K_P hK2
  have hE := hXV.1
  have hx := B.exec
  have hb := B.bytes
  have hr := B.returns
  have hts := atoms_spec (ws := wsX4_load) B.pre
  have hown : s.vm.findClass RX4 = some m.cls := findClass_of_methodNamed B.named
  have hlocks := B.notSynchronized
  subst hsz
  have hD := hD0.self (sz := s.heap.size)
  generalize hAe : va_A (wW h (a 0) t0 l0 m0 ++ sW cI a σ ++ wL l0 mc q n ++ pW cP q pf ++ sW cI z τ) s.heap.size = A at hD hTX ⊢
  have hA : ∀ q : Nat, s.heap.size ≤ q → A q := fun q h => by rw [← hAe]; exact Or.inr h
  have hS : va_S A s.heap s.heap [] := va_S.rf
  have hP : va_P D vwCl (wW h (a 0) t0 l0 m0 ++ sW cI a σ ++ wL l0 mc q n ++ pW cP q pf ++ sW cI z τ) s.heap := hP
  have hl := lv_entry ([.ref h, .int (nI i)]) (n := 2) (Nat.le_of_ble_eq_true rfl)
  rw [lg_entry_eq]
  generalize (lg_sl ([.ref h, .int (nI i)]) ++ List.replicate (2 - (lg_sl ([.ref h, .int (nI i)])).length) Slot.unset).toArray = ls at hl ⊢
  have hl : lv_has ls 2 [(0, .ref h), (1, .int (nI i))] := hl
  refine lv_iload_n hx hb dX4_load_0 rfl (lv_at hl 1 rfl) ?_
  refine lv_if_lt (tgt := 17) hx hb dX4_load_1 (by decide) (fun c_1 => absurd c_1 ((nI_pos (by omega)))) (fun c_1 => ?_)
  refine lv_iload_n hx hb dX4_load_4 rfl (lv_at hl 1 rfl) ?_
  refine lv_aload_n hx hb dX4_load_5 rfl (lv_at hl 0 rfl) ?_
  refine va_get (D := D) (ci := 4) (v := .ref l0) (C := RX4) (T := TX4) (N := 4) hx hb hts (by decide +kernel) hown hK hP 0 rfl rfl 2 (by decide) (hts (.fieldLink RX4 22 "Warren" "saved" "Ljava/util/List;") (by decide +kernel)) (fun _ h9 => h9) rfl dX4_load_6 ?_
  refine va_csFi (va_runF (hK.1 0 _ rfl).2 (As := []) (rest := [.int (nI i)]) ⟨hx, hb, hml, hown, hts⟩ (c_Jx4a65c_size_8abf5 l D cI l0 mc q n) (va_cwF 0 hts gX4_load_Jx4a65c_size_8abf5_f190Jx4a65c rfl rfl rfl hXV.2.2.2.2.2.2.2.2.1 (by decide +kernel) ⟨Nat.le_of_ble_eq_true rfl, Nat.le_of_ble_eq_true rfl⟩) ⟨preR_blind, va_recv hK hP (ci := 0) (q0 := 7) rfl rfl, preR_of (hP.sub (ws' := wL l0 mc q n) [7] rfl) hK hE [.ref l0]⟩ rfl rfl hl.1 rfl (lv_room (Nat.le_of_ble_eq_true rfl)) dX4_load_9 ⟨Nat.zero_le _, Nat.zero_le _⟩) (fun r hr9 => ?_)
  subst hr9
  refine lv_icmp_lt (tgt := 27) hx hb dX4_load_14 (by decide) (fun c_14 => ?_) (fun c_14 => absurd ((nI_lt hin (by omega))) c_14)
  refine lv_aload_n hx hb dX4_load_27 rfl (lv_at hl 0 rfl) ?_
  refine va_get (D := D) (ci := 4) (v := .ref (a 0)) (C := RX4) (T := TX4) (N := 4) hx hb hts (by decide +kernel) hown hK hP 0 rfl rfl 0 (by decide) (hts (.fieldLink RX4 12 "Warren" "state" "LWarren$State;") (by decide +kernel)) (fun _ h9 => h9) rfl dX4_load_28 ?_
  refine lv_aload_n hx hb dX4_load_31 rfl (lv_at hl 0 rfl) ?_
  refine va_get (D := D) (ci := 4) (v := .ref l0) (C := RX4) (T := TX4) (N := 4) hx hb hts (by decide +kernel) hown hK hP 0 rfl rfl 2 (by decide) (hts (.fieldLink RX4 22 "Warren" "saved" "Ljava/util/List;") (by decide +kernel)) (fun _ h9 => h9) rfl dX4_load_32 ?_
  refine lv_iload_n hx hb dX4_load_35 rfl (lv_at hl 1 rfl) ?_
  have hFc := va_free (wc := wL l0 mc q n ++ pW cP q pf) hD hS hA [7, 8] rfl
  refine va_callFr (va_runF (hK.1 0 _ rfl).2 (As := [.int (nI i)]) (rest := [.ref (a 0)]) ⟨hx, hb, hml, hown, hts⟩ (c_Jx4a65c_get_915e3 l D cI cP _ l0 q n mc pf i (z 0) hin hn9 hf) (va_cwF 1 hts gX4_load_Jx4a65c_get_915e3_f207Jx4a65c rfl rfl rfl hXV.2.2.2.2.2.2.2.2.2.2 (by decide +kernel) ⟨Nat.le_of_ble_eq_true rfl, Nat.le_of_ble_eq_true rfl⟩) ⟨preLP_blind, va_recv hK hP (ci := 0) (q0 := 7) rfl rfl, preLP_of (hP.sub (ws' := wL l0 mc q n ++ pW cP q pf) [7, 8] rfl) hK2 hXV (hD.sub (ws' := wL l0 mc q n ++ pW cP q pf) [7, 8] (by decide) rfl) hTX hcs hS hFc [.ref l0, .int (nI i)]⟩ rfl rfl hl.1 rfl (lv_room (Nat.le_of_ble_eq_true rfl)) dX4_load_36 ⟨Nat.le_of_ble_eq_true rfl, Nat.le_of_ble_eq_true rfl⟩) hS (fun q _ h => hFc q h) hFc (fun _ q36 t9 H1 locs ht hvm hw hB hz1 hk1 hS => ?_)
  obtain ⟨hq9, hP1, hK1, hD1⟩ := hB
  rw [ht] at hP1
  rw [hq9]
  obtain ⟨hP, hD⟩ := va_join (wr := wW h (a 0) t0 l0 m0 ++ sW cI a σ ++ sW cI z τ) (w1 := wL l0 mc q n ++ pW cP q pf) hP hD [7, 8] [0, 1, 2, 3, 4, 5, 6, 9, 10, 11, 12, 13, 14] rfl rfl (by decide) (by decide) hk1 hFc hP1 hD1
  generalize H1 = H at hP hS ⊢
  have hP : va_P D vwCl (wW h (a 0) t0 l0 m0 ++ sW cI a σ ++ sW cI z τ ++ wL l0 mc q n ++ pW cP q pf) H := hP
  have hD : va_D A (wW h (a 0) t0 l0 m0 ++ sW cI a σ ++ sW cI z τ ++ wL l0 mc q n ++ pW cP q pf) := hD
  refine va_castS hx hb hown (hts (.classLink RX4 9 "Warren$State") (by decide +kernel)) (hK.1 2 _ rfl).2 (va_recv hK hP (ci := 2) (q0 := 7) rfl rfl) dX4_load_41 ?_
  have hFc := va_free (wc := sW cI a σ ++ sW cI z τ) hD hS hA [1, 2, 3, 4, 5, 6, 7, 8, 9, 10, 11, 12] rfl
  refine va_callv (va_runV (As := [.ref (z 0)]) (rest := []) ⟨hx, hb, hml, hown, hts⟩ (c_X2_copyFrom l D cI _ a σ z τ) (cwV 1 hts gX4_load_X2_copyFrom rfl rfl rfl (by decide +kernel) ⟨Nat.le_of_ble_eq_true rfl, Nat.le_of_ble_eq_true rfl⟩) ⟨preM_blind, va_recv hK hP (ci := 2) (q0 := 1) rfl rfl, preM_of (hP.sub (ws' := sW cI a σ ++ sW cI z τ) [1, 2, 3, 4, 5, 6, 7, 8, 9, 10, 11, 12] rfl) hK hE (hD.sub (ws' := sW cI a σ ++ sW cI z τ) [1, 2, 3, 4, 5, 6, 7, 8, 9, 10, 11, 12] (by decide) rfl) [.ref (a 0), .ref (z 0)]⟩ rfl rfl hl.1 rfl (lv_room (Nat.le_of_ble_eq_true rfl)) dX4_load_44 ⟨Nat.le_of_ble_eq_true rfl, Nat.le_of_ble_eq_true rfl⟩) hS (fun q _ h => hFc q h) hFc (fun u t9 H1 locs ht hvm hw hB hz1 hk1 hS => ?_)
  obtain ⟨hP1, hK1, hD1⟩ := hB
  rw [ht] at hP1
  replace hw := hw.symm
  subst hw
  obtain ⟨hP, hD⟩ := va_join (wr := wW h (a 0) t0 l0 m0 ++ wL l0 mc q n ++ pW cP q pf) (w1 := sW cI a τ ++ sW cI z τ) hP hD [1, 2, 3, 4, 5, 6, 7, 8, 9, 10, 11, 12] [0, 13, 14] rfl rfl (by decide) (by decide) hk1 hFc hP1 hD1
  generalize H1 = H at hP hS ⊢
  have hP : va_P D vwCl (wW h (a 0) t0 l0 m0 ++ wL l0 mc q n ++ pW cP q pf ++ sW cI a τ ++ sW cI z τ) H := hP
  have hD : va_D A (wW h (a 0) t0 l0 m0 ++ wL l0 mc q n ++ pW cP q pf ++ sW cI a τ ++ sW cI z τ) := hD
  refine lv_aload_n hx hb dX4_load_47 rfl (lv_at hl 0 rfl) ?_
  refine va_get (D := D) (ci := 4) (v := .ref (a 0)) (C := RX4) (T := TX4) (N := 4) hx hb hts (by decide +kernel) hown hK hP 0 rfl rfl 0 (by decide) (hts (.fieldLink RX4 12 "Warren" "state" "LWarren$State;") (by decide +kernel)) (fun _ h9 => h9) rfl dX4_load_48 ?_
  refine lv_iconst (v := 0) hx hb dX4_load_51 (by decide) ?_
  refine vp_callSi (va_Run.run (va_runV (As := [.int 0]) (rest := []) ⟨hx, hb, hml, hown, hts⟩ (c_X2_living l D cI a τ 0 hn) (cwV 1 hts gX4_load_X2_living rfl rfl rfl (by decide +kernel) ⟨Nat.le_of_ble_eq_true rfl, Nat.le_of_ble_eq_true rfl⟩) ⟨preR_blind, va_recv hK hP (ci := 2) (q0 := 3) rfl rfl, preR_of (hP.sub (ws' := sW cI a τ) [3, 4, 5, 6, 7, 8] rfl) hK hE [.ref (a 0), .int 0]⟩ rfl rfl hl.1 rfl (lv_room (Nat.le_of_ble_eq_true rfl)) dX4_load_52 ⟨Nat.zero_le _, Nat.zero_le _⟩)) (fun r hr9 => ?_)
  subst hr9
  refine lv_aload_n hx hb dX4_load_55 rfl (lv_at hl 0 rfl) ?_
  refine va_get (D := D) (ci := 4) (v := .ref (a 0)) (C := RX4) (T := TX4) (N := 4) hx hb hts (by decide +kernel) hown hK hP 0 rfl rfl 0 (by decide) (hts (.fieldLink RX4 12 "Warren" "state" "LWarren$State;") (by decide +kernel)) (fun _ h9 => h9) rfl dX4_load_56 ?_
  refine lv_iconst (v := 1) hx hb dX4_load_59 (by decide) ?_
  refine vp_callSi (va_Run.run (va_runV (As := [.int 1]) (rest := [.int (livingF τ 0)]) ⟨hx, hb, hml, hown, hts⟩ (c_X2_living l D cI a τ 1 hn) (cwV 1 hts gX4_load_X2_living rfl rfl rfl (by decide +kernel) ⟨Nat.le_of_ble_eq_true rfl, Nat.le_of_ble_eq_true rfl⟩) ⟨preR_blind, va_recv hK hP (ci := 2) (q0 := 3) rfl rfl, preR_of (hP.sub (ws' := sW cI a τ) [3, 4, 5, 6, 7, 8] rfl) hK hE [.ref (a 0), .int 1]⟩ rfl rfl hl.1 rfl (lv_room (Nat.le_of_ble_eq_true rfl)) dX4_load_60 ⟨Nat.zero_le _, Nat.zero_le _⟩)) (fun r hr9 => ?_)
  subst hr9
  refine lv_iadd hx hb dX4_load_63 ?_
  have hP9 := hP.sub (ws' := wW h (a 0) t0 l0 m0 ++ sW cI a τ ++ wL l0 mc q n ++ pW cP q pf ++ sW cI z τ) [0, 3, 4, 5, 6, 7, 8, 1, 2, 9, 10, 11, 12, 13, 14] rfl
  have hD9 := hD.sub (ws' := wW h (a 0) t0 l0 m0 ++ sW cI a τ ++ wL l0 mc q n ++ pW cP q pf ++ sW cI z τ) [0, 3, 4, 5, 6, 7, 8, 1, 2, 9, 10, 11, 12, 13, 14] (by decide) rfl
  refine W.widen (k := 1) (n := 6) (Nat.le_of_ble_eq_true rfl) (Nat.le_of_ble_eq_true rfl) ?_
  refine vx_ret ?_
  exact W.iret (v := ((livingF τ 0) + (livingF τ 1))) hx hb hr (fun T9 ht hW => ⟨⟨((livingF τ 0) + (livingF τ 1)), (), rfl, ⟨rfl, rfl⟩, by rw [ht]; exact hP9, va_K.moved hW.alike hK, hD9⟩, hS.F ht⟩) hS.2.2 dX4_load_64
