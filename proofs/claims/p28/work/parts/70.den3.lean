-- ===== the shadow: what it asks the class, too =====
set_option maxHeartbeats 4000000 in
set_option maxRecDepth 100000 in
theorem c_X5_dig (l : Launch) (hst : l.stackTraces = false) (D : va_G) (cI : ClassId) (sz : Nat) (cZ cG cY : ClassId) (t0 l0 m0 : Nat) (a o rr : Nat → Nat) (h b dr K : Nat) (σ : SS) (δ : DD) (Y : RW) (t L : Nat) (xs : Nat → Int32) (hI : IR K σ δ) (hd : dr < 900000) : Met l yX5_dig wsX5_dig ({ frames := 7, cells := 1, slots := 6, locals := 106 } : Room) (va_Pc [.ref (o 0)] (preD D cI cZ cG cY t b L xs (wW h (a 0) t0 l0 m0 ++ sW cI a σ ++ dW cI cZ cG cY o rr h b dr δ Y ++ bW cI rr (d_n δ) (d_R δ)) sz)) (va_Qi (fun (r : Int32) (u : (SS × DD × Nat × RW × (Nat → Nat) × (Nat → Nat))) => r = 1 ∧ IR (K) u.1 u.2.1 ∧ u.2.2.1 ≤ dr + 200 ∧ d_n u.2.1 ≤ d_n δ + 0 ∧ u.2.2.2.2.1 0 = o 0) (fun (u : (SS × DD × Nat × RW × (Nat → Nat) × (Nat → Nat))) => posD D cI cZ cG cY (va_A (wW h (a 0) t0 l0 m0 ++ sW cI a σ ++ dW cI cZ cG cY o rr h b dr δ Y ++ bW cI rr (d_n δ) (d_R δ)) sz) (wW h (a 0) t0 l0 m0 ++ sW cI a u.1 ++ dW cI cZ cG cY u.2.2.2.2.1 u.2.2.2.2.2 h b u.2.2.1 u.2.1 u.2.2.2.1 ++ bW cI u.2.2.2.2.2 (d_n u.2.1) (d_R u.2.1))) (va_A (wW h (a 0) t0 l0 m0 ++ sW cI a σ ++ dW cI cZ cG cY o rr h b dr δ Y ++ bW cI rr (d_n δ) (d_R δ)) sz)) 1 6 (va_A (wW h (a 0) t0 l0 m0 ++ sW cI a σ ++ dW cI cZ cG cY o rr h b dr δ Y ++ bW cI rr (d_n δ) (d_R δ)) sz) := by
  refine Met.ofW (cc := cX5_dig) (maxL := 9) (ret := (some .boolean)) (by decide) rfl ?_
  intro p e s m args below meth c s₁ B hml hv
  obtain ⟨rfl, ⟨hsz, hP, hK, hD0⟩, hGX⟩ := hv
  have hx := B.exec
  have hb := B.bytes
  have hr := B.returns
  have hts := atoms_spec (ws := wsX5_dig) B.pre
  have hown : s.vm.findClass RX5 = some m.cls := findClass_of_methodNamed B.named
  have hlocks := B.notSynchronized
  subst hsz
  have hD := hD0.self (sz := s.heap.size)
  generalize hAe : va_A (wW h (a 0) t0 l0 m0 ++ sW cI a σ ++ dW cI cZ cG cY o rr h b dr δ Y ++ bW cI rr (d_n δ) (d_R δ)) s.heap.size = A at hD hGX ⊢
  have hA : ∀ q : Nat, s.heap.size ≤ q → A q := fun q h => by rw [← hAe]; exact Or.inr h
  have hS : va_S A s.heap s.heap [] := va_S.rf
  have hP : va_P D vwCl (wW h (a 0) t0 l0 m0 ++ sW cI a σ ++ dW cI cZ cG cY o rr h b dr δ Y ++ bW cI rr (d_n δ) (d_R δ)) s.heap := hP
  have hl := lv_entry ([.ref (o 0)]) (n := 9) (Nat.le_of_ble_eq_true rfl)
  rw [lg_entry_eq]
  generalize (lg_sl ([.ref (o 0)]) ++ List.replicate (9 - (lg_sl ([.ref (o 0)])).length) Slot.unset).toArray = ls at hl ⊢
  have hl : lv_has ls 9 [(0, .ref (o 0))] := hl
  obtain ⟨hXV, hTX, hN, hSX, hG, hBX, hnc, hnb, hov⟩ := id hGX
  have hK1 := K_D hK
  have hn := hI.1.2.1
  have hnσ : s_n σ ≤ 10 := by rw [hI.1.1]; exact hn
  refine lv_aload_n hx hb dX5_dig_0 rfl (lv_at hl 0 rfl) ?_
  refine lv_bipush (v := 12) hx hb dX5_dig_1 (by decide) ?_
  have hFc := va_freeP (cx := dW cI cZ cG cY o rr h b dr δ Y) hD hS hA [7, 8, 9, 10, 11, 12] rfl
  refine va_calli (va_runV (As := [.int 12]) (rest := []) ⟨hx, hb, hml, hown, hts⟩ (c_X5_draw l D cI _ cZ cG cY o rr h b dr δ Y t L xs 12 hn (by omega) (by omega) (by omega)) (cwV 1 hts gX5_dig_X5_draw rfl rfl rfl (by decide +kernel) ⟨Nat.le_of_ble_eq_true rfl, Nat.le_of_ble_eq_true rfl⟩) ⟨preD_blind, va_recv hK hP (ci := 5) (q0 := 7) rfl rfl, preD_of (hP.part (cx := dW cI cZ cG cY o rr h b dr δ Y) [7, 8, 9, 10, 11, 12] rfl) hK (hD.part (cx := dW cI cZ cG cY o rr h b dr δ Y) [7, 8, 9, 10, 11, 12] (by decide) rfl) hGX hS hFc [.ref (o 0), .int 12]⟩ rfl rfl hl.1 rfl (lv_room (Nat.le_of_ble_eq_true rfl)) dX5_dig_3 ⟨Nat.le_of_ble_eq_true rfl, Nat.le_of_ble_eq_true rfl⟩) hS (fun q _ h => hFc q h) hFc (fun r9 u t9 H1 locs ht hvm hw hB hz1 hk1 hS => ?_)
  obtain ⟨hP1, -, hD1⟩ := hB
  rw [ht] at hP1
  obtain ⟨j3, hj3, rfl⟩ := hw
  obtain ⟨hP, hD⟩ := va_joinP (wr := wW h (a 0) t0 l0 m0 ++ sW cI a σ) hP hD [7, 8, 9, 10, 11, 12] [0, 1, 2, 3, 4, 5, 6] rfl rfl (by decide) (by decide) hk1 hFc hP1 hD1
  generalize H1 = H at hP hS ⊢
  have hP : va_P D vwCl (wW h (a 0) t0 l0 m0 ++ sW cI a σ ++ dW cI cZ cG cY o rr h b (dr + 1) δ Y ++ bW cI rr (d_n δ) (d_R δ)) H := hP
  have hD : va_D A (wW h (a 0) t0 l0 m0 ++ sW cI a σ ++ dW cI cZ cG cY o rr h b (dr + 1) δ Y ++ bW cI rr (d_n δ) (d_R δ)) := hD
  refine lv_istore_n (lv' := [(1, .int (nI j3)), (0, .ref (o 0))]) hx hb dX5_dig_6 rfl hl (by decide) rfl (fun ls hl => ?_)
  refine lv_aload_n hx hb dX5_dig_7 rfl (lv_at hl 1 rfl) ?_
  refine lv_bipush (v := 7) hx hb dX5_dig_8 (by decide) ?_
  have hFc := va_freeP (cx := dW cI cZ cG cY o rr h b (dr + 1) δ Y) hD hS hA [7, 8, 9, 10, 11, 12] rfl
  refine va_calli (va_runV (As := [.int 7]) (rest := []) ⟨hx, hb, hml, hown, hts⟩ (c_X5_draw l D cI _ cZ cG cY o rr h b (dr + 1) δ Y t L xs 7 hn (by omega) (by omega) (by omega)) (cwV 1 hts gX5_dig_X5_draw rfl rfl rfl (by decide +kernel) ⟨Nat.le_of_ble_eq_true rfl, Nat.le_of_ble_eq_true rfl⟩) ⟨preD_blind, va_recv hK hP (ci := 5) (q0 := 7) rfl rfl, preD_of (hP.part (cx := dW cI cZ cG cY o rr h b (dr + 1) δ Y) [7, 8, 9, 10, 11, 12] rfl) hK (hD.part (cx := dW cI cZ cG cY o rr h b (dr + 1) δ Y) [7, 8, 9, 10, 11, 12] (by decide) rfl) hGX hS hFc [.ref (o 0), .int 7]⟩ rfl rfl hl.1 rfl (lv_room (Nat.le_of_ble_eq_true rfl)) dX5_dig_10 ⟨Nat.le_of_ble_eq_true rfl, Nat.le_of_ble_eq_true rfl⟩) hS (fun q _ h => hFc q h) hFc (fun r9 u t9 H1 locs ht hvm hw hB hz1 hk1 hS => ?_)
  obtain ⟨hP1, -, hD1⟩ := hB
  rw [ht] at hP1
  obtain ⟨j10, hj10, rfl⟩ := hw
  obtain ⟨hP, hD⟩ := va_joinP (wr := wW h (a 0) t0 l0 m0 ++ sW cI a σ) hP hD [7, 8, 9, 10, 11, 12] [0, 1, 2, 3, 4, 5, 6] rfl rfl (by decide) (by decide) hk1 hFc hP1 hD1
  generalize H1 = H at hP hS ⊢
  have hP : va_P D vwCl (wW h (a 0) t0 l0 m0 ++ sW cI a σ ++ dW cI cZ cG cY o rr h b ((dr + 1) + 1) δ Y ++ bW cI rr (d_n δ) (d_R δ)) H := hP
  have hD : va_D A (wW h (a 0) t0 l0 m0 ++ sW cI a σ ++ dW cI cZ cG cY o rr h b ((dr + 1) + 1) δ Y ++ bW cI rr (d_n δ) (d_R δ)) := hD
  refine lv_istore_n (lv' := [(2, .int (nI j10)), (1, .int (nI j3)), (0, .ref (o 0))]) hx hb dX5_dig_13 rfl hl (by decide) rfl (fun ls hl => ?_)
  refine lv_iconst (v := 3) hx hb dX5_dig_14 (by decide) ?_
  refine lv_aload_n hx hb dX5_dig_15 rfl (lv_at hl 2 rfl) ?_
  refine lv_bipush (v := 16) hx hb dX5_dig_16 (by decide) ?_
  refine lv_iload_n hx hb dX5_dig_18 rfl (lv_at hl 1 rfl) ?_
  refine lv_isub hx hb dX5_dig_19 ?_
  rw [show (16 - (nI j3)) = nI (16 - j3) from pk_sub (a := 16) (b := j3) (by omega)]
  refine lv_iconst (v := 2) hx hb dX5_dig_20 (by decide) ?_
  refine lv_isub hx hb dX5_dig_21 ?_
  rw [show ((nI (16 - j3)) - 2) = nI (16 - j3 - 2) from pk_sub (a := 16 - j3) (b := 2) (by omega)]
  have hFc := va_freeP (cx := dW cI cZ cG cY o rr h b ((dr + 1) + 1) δ Y) hD hS hA [7, 8, 9, 10, 11, 12] rfl
  refine va_calli (va_runV (As := [.int (nI (16 - j3 - 2))]) (rest := [.int 3]) ⟨hx, hb, hml, hown, hts⟩ (c_X5_draw l D cI _ cZ cG cY o rr h b ((dr + 1) + 1) δ Y t L xs (16 - j3 - 2) hn (by omega) (by omega) (by omega)) (cwV 1 hts gX5_dig_X5_draw rfl rfl rfl (by decide +kernel) ⟨Nat.le_of_ble_eq_true rfl, Nat.le_of_ble_eq_true rfl⟩) ⟨preD_blind, va_recv hK hP (ci := 5) (q0 := 7) rfl rfl, preD_of (hP.part (cx := dW cI cZ cG cY o rr h b ((dr + 1) + 1) δ Y) [7, 8, 9, 10, 11, 12] rfl) hK (hD.part (cx := dW cI cZ cG cY o rr h b ((dr + 1) + 1) δ Y) [7, 8, 9, 10, 11, 12] (by decide) rfl) hGX hS hFc [.ref (o 0), .int (nI (16 - j3 - 2))]⟩ rfl rfl hl.1 rfl (lv_room (Nat.le_of_ble_eq_true rfl)) dX5_dig_22 ⟨Nat.le_of_ble_eq_true rfl, Nat.le_of_ble_eq_true rfl⟩) hS (fun q _ h => hFc q h) hFc (fun r9 u t9 H1 locs ht hvm hw hB hz1 hk1 hS => ?_)
  obtain ⟨hP1, -, hD1⟩ := hB
  rw [ht] at hP1
  obtain ⟨j22, hj22, rfl⟩ := hw
  obtain ⟨hP, hD⟩ := va_joinP (wr := wW h (a 0) t0 l0 m0 ++ sW cI a σ) hP hD [7, 8, 9, 10, 11, 12] [0, 1, 2, 3, 4, 5, 6] rfl rfl (by decide) (by decide) hk1 hFc hP1 hD1
  generalize H1 = H at hP hS ⊢
  have hP : va_P D vwCl (wW h (a 0) t0 l0 m0 ++ sW cI a σ ++ dW cI cZ cG cY o rr h b (((dr + 1) + 1) + 1) δ Y ++ bW cI rr (d_n δ) (d_R δ)) H := hP
  have hD : va_D A (wW h (a 0) t0 l0 m0 ++ sW cI a σ ++ dW cI cZ cG cY o rr h b (((dr + 1) + 1) + 1) δ Y ++ bW cI rr (d_n δ) (d_R δ)) := hD
  refine lv_iadd hx hb dX5_dig_25 ?_
  rw [show (3 + (nI j22)) = nI (3 + j22) from nI_add 3 j22]
  refine lv_istore_n (lv' := [(3, .int (nI (3 + j22))), (2, .int (nI j10)), (1, .int (nI j3)), (0, .ref (o 0))]) hx hb dX5_dig_26 rfl hl (by decide) rfl (fun ls hl => ?_)
  refine lv_iconst (v := 2) hx hb dX5_dig_27 (by decide) ?_
  refine lv_aload_n hx hb dX5_dig_28 rfl (lv_at hl 3 rfl) ?_
  refine lv_bipush (v := 10) hx hb dX5_dig_29 (by decide) ?_
  refine lv_iload_n hx hb dX5_dig_31 rfl (lv_at hl 1 rfl) ?_
  refine lv_isub hx hb dX5_dig_32 ?_
  rw [show (10 - (nI j10)) = nI (10 - j10) from pk_sub (a := 10) (b := j10) (by omega)]
  refine lv_iconst (v := 1) hx hb dX5_dig_33 (by decide) ?_
  refine lv_isub hx hb dX5_dig_34 ?_
  rw [show ((nI (10 - j10)) - 1) = nI (10 - j10 - 1) from pk_sub (a := 10 - j10) (b := 1) (by omega)]
  have hFc := va_freeP (cx := dW cI cZ cG cY o rr h b (((dr + 1) + 1) + 1) δ Y) hD hS hA [7, 8, 9, 10, 11, 12] rfl
  refine va_calli (va_runV (As := [.int (nI (10 - j10 - 1))]) (rest := [.int 2]) ⟨hx, hb, hml, hown, hts⟩ (c_X5_draw l D cI _ cZ cG cY o rr h b (((dr + 1) + 1) + 1) δ Y t L xs (10 - j10 - 1) hn (by omega) (by omega) (by omega)) (cwV 1 hts gX5_dig_X5_draw rfl rfl rfl (by decide +kernel) ⟨Nat.le_of_ble_eq_true rfl, Nat.le_of_ble_eq_true rfl⟩) ⟨preD_blind, va_recv hK hP (ci := 5) (q0 := 7) rfl rfl, preD_of (hP.part (cx := dW cI cZ cG cY o rr h b (((dr + 1) + 1) + 1) δ Y) [7, 8, 9, 10, 11, 12] rfl) hK (hD.part (cx := dW cI cZ cG cY o rr h b (((dr + 1) + 1) + 1) δ Y) [7, 8, 9, 10, 11, 12] (by decide) rfl) hGX hS hFc [.ref (o 0), .int (nI (10 - j10 - 1))]⟩ rfl rfl hl.1 rfl (lv_room (Nat.le_of_ble_eq_true rfl)) dX5_dig_35 ⟨Nat.le_of_ble_eq_true rfl, Nat.le_of_ble_eq_true rfl⟩) hS (fun q _ h => hFc q h) hFc (fun r9 u t9 H1 locs ht hvm hw hB hz1 hk1 hS => ?_)
  obtain ⟨hP1, -, hD1⟩ := hB
  rw [ht] at hP1
  obtain ⟨j35, hj35, rfl⟩ := hw
  obtain ⟨hP, hD⟩ := va_joinP (wr := wW h (a 0) t0 l0 m0 ++ sW cI a σ) hP hD [7, 8, 9, 10, 11, 12] [0, 1, 2, 3, 4, 5, 6] rfl rfl (by decide) (by decide) hk1 hFc hP1 hD1
  generalize H1 = H at hP hS ⊢
  have hP : va_P D vwCl (wW h (a 0) t0 l0 m0 ++ sW cI a σ ++ dW cI cZ cG cY o rr h b ((((dr + 1) + 1) + 1) + 1) δ Y ++ bW cI rr (d_n δ) (d_R δ)) H := hP
  have hD : va_D A (wW h (a 0) t0 l0 m0 ++ sW cI a σ ++ dW cI cZ cG cY o rr h b ((((dr + 1) + 1) + 1) + 1) δ Y ++ bW cI rr (d_n δ) (d_R δ)) := hD
  refine lv_iadd hx hb dX5_dig_38 ?_
  rw [show (2 + (nI j35)) = nI (2 + j35) from nI_add 2 j35]
  refine lv_istore (lv' := [(4, .int (nI (2 + j35))), (3, .int (nI (3 + j22))), (2, .int (nI j10)), (1, .int (nI j3)), (0, .ref (o 0))]) hx hb dX5_dig_39 hl (by decide) rfl (fun ls hl => ?_)
  refine lv_iconst (v := 0) hx hb dX5_dig_41 (by decide) ?_
  refine lv_istore (lv' := [(5, .int 0), (4, .int (nI (2 + j35))), (3, .int (nI (3 + j22))), (2, .int (nI j10)), (1, .int (nI j3)), (0, .ref (o 0))]) hx hb dX5_dig_42 hl (by decide) rfl (fun ls hl => ?_)
  refine lv_iload_n hx hb dX5_dig_44 rfl (lv_at hl 4 rfl) ?_
  refine lv_istore (lv' := [(6, .int (nI j3)), (5, .int 0), (4, .int (nI (2 + j35))), (3, .int (nI (3 + j22))), (2, .int (nI j10)), (1, .int (nI j3)), (0, .ref (o 0))]) hx hb dX5_dig_45 hl (by decide) rfl (fun ls hl => ?_)
  have L47 : ∀ (n k : Nat) (z : ZZ) (hk : k + n = j3 + (3 + j22)) (hz : digDC j10 (2 + j35) (3 + j22) j3 (d_k δ, 0) = digDC j10 (2 + j35) n k z) (H : Heap) (locs : List Loc) (ls : Array Slot), lv_has ls 9 [(6, .int (nI k)), (5, .int z.2), (4, .int (nI (2 + j35))), (3, .int (nI (3 + j22))), (2, .int (nI j10)), (1, .int (nI j3)), (0, .ref (o 0))] → va_P D vwCl (wW h (a 0) t0 l0 m0 ++ sW cI a σ ++ dW cI cZ cG cY o rr h b (dr + 1 + 1 + 1 + 1) (e_k δ z.1) Y ++ bW cI rr (d_n (e_k δ z.1)) (d_R (e_k δ z.1))) H → va_D A (wW h (a 0) t0 l0 m0 ++ sW cI a σ ++ dW cI cZ cG cY o rr h b (dr + 1 + 1 + 1 + 1) (e_k δ z.1) Y ++ bW cI rr (d_n (e_k δ z.1)) (d_R (e_k δ z.1))) → va_S A s.heap H locs → W p l e ({ frames := 7, cells := 1, slots := 6, locals := 106 } : Room) s m ([.ref (o 0)] : List Value).toArray below meth c H locs 0 0 (MQ below (va_Qi (fun (r : Int32) (u : (SS × DD × Nat × RW × (Nat → Nat) × (Nat → Nat))) => r = 1 ∧ IR (K) u.1 u.2.1 ∧ u.2.2.1 ≤ dr + 200 ∧ d_n u.2.1 ≤ d_n δ + 0 ∧ u.2.2.2.2.1 0 = o 0) (fun (u : (SS × DD × Nat × RW × (Nat → Nat) × (Nat → Nat))) => posD D cI cZ cG cY A (wW h (a 0) t0 l0 m0 ++ sW cI a u.1 ++ dW cI cZ cG cY u.2.2.2.2.1 u.2.2.2.2.2 h b u.2.2.1 u.2.1 u.2.2.2.1 ++ bW cI u.2.2.2.2.2 (d_n u.2.1) (d_R u.2.1))) A) ([.ref (o 0)] : List Value).toArray s 1 6 A) (F0 m 47 ls []) := by
    intro n
    induction n with
    | zero =>
      intro k z hk hz H locs ls hl hP hD hS
      refine lv_iload hx hb dX5_dig_47 (lv_at hl 0 rfl) ?_
      refine lv_iload_n hx hb dX5_dig_49 rfl (lv_at hl 5 rfl) ?_
      refine lv_iload_n hx hb dX5_dig_50 rfl (lv_at hl 3 rfl) ?_
      refine lv_iadd hx hb dX5_dig_51 ?_
      rw [show ((nI j3) + (nI (3 + j22))) = nI (j3 + (3 + j22)) from nI_add j3 (3 + j22)]
      refine lv_icmp_ge (tgt := 121) hx hb dX5_dig_52 (by decide) (fun c_52 => ?_) (fun c_52 => absurd (nI_le (by omega) (by omega)) c_52)
      refine lv_aload_n hx hb dX5_dig_121 rfl (lv_at hl 6 rfl) ?_
      refine va_get (D := D) (ci := 5) (v := .ref h) (C := RX5) (T := TX5) (N := 8) hx hb hts (by decide +kernel) hown hK hP 7 rfl rfl 0 (by decide) (hts (.fieldLink RX5 10 "WarrenLaw$Den" "m" "LWarren;") (by decide +kernel)) (fun _ h9 => h9) rfl dX5_dig_122 ?_
      refine lv_iload_n hx hb dX5_dig_125 rfl (lv_at hl 5 rfl) ?_
      refine lv_iload_n hx hb dX5_dig_126 rfl (lv_at hl 4 rfl) ?_
      refine lv_iload_n hx hb dX5_dig_127 rfl (lv_at hl 3 rfl) ?_
      refine lv_iload hx hb dX5_dig_128 (lv_at hl 2 rfl) ?_
      have hFc := va_free (wc := wW h (a 0) t0 l0 m0 ++ sW cI a σ) hD hS hA [0, 1, 2, 3, 4, 5, 6] rfl
      refine vx_calli (vx_runV (As := [.int (nI j3), .int (nI j10), .int (nI (3 + j22)), .int (nI (2 + j35))]) (rest := []) ⟨hx, hb, hml, hown, hts⟩ (c_X4_dig l hst D cI _ h t0 l0 m0 a σ (nI j3) (nI j10) (nI (3 + j22)) (nI (2 + j35))) (cwV 4 hts gX5_dig_X4_dig rfl rfl rfl (by decide +kernel) ⟨Nat.le_of_ble_eq_true rfl, Nat.le_of_ble_eq_true rfl⟩) ⟨preX_blind, va_recv hK hP (ci := 4) (q0 := 0) rfl rfl, preX_of (hP.sub (ws' := wW h (a 0) t0 l0 m0 ++ sW cI a σ) [0, 1, 2, 3, 4, 5, 6] rfl) hK1 hXV (hD.sub (ws' := wW h (a 0) t0 l0 m0 ++ sW cI a σ) [0, 1, 2, 3, 4, 5, 6] (by decide) rfl) hTX hS hFc [.ref h, .int (nI j3), .int (nI j10), .int (nI (3 + j22)), .int (nI (2 + j35))]⟩ rfl rfl hl.1 rfl (lv_room (Nat.le_of_ble_eq_true rfl)) dX5_dig_130 ⟨Nat.le_of_ble_eq_true rfl, Nat.le_of_ble_eq_true rfl⟩) hS (fun q _ h => hFc q h) hFc (fun q _ h => hFc q h) (fun E ce q9 u9 t9 H1 locs ht hvm hpx hBX9 hz1 hk1 hS hq9 hce hcl => ?_) (fun r9 u9 t9 H1 locs ht hvm hw hB hz1 hk1 hS => ?_)
      · exact absurd (digT_0 (by omega) (by omega) (by omega) (by omega) (by omega) (by omega)) hpx
      · obtain ⟨hT9, hR9, hU9⟩ := hw
        obtain ⟨hP1, -, hD1⟩ := hB
        rw [ht] at hP1
        rw [hU9] at hP1 hD1
        rw [hR9]
        obtain ⟨hP, hD⟩ := va_joinQ (wr := dW cI cZ cG cY o rr h b (dr + 1 + 1 + 1 + 1) (e_k δ z.1) Y) (w1 := wW h (a 0) t0 l0 m0 ++ sW cI a ((digA σ (nI j3) (nI j10) (nI (3 + j22)) (nI (2 + j35))).1)) hP hD [0, 1, 2, 3, 4, 5, 6] [7, 8, 9, 10, 11, 12] rfl rfl (by decide) (by decide) hk1 hFc hP1 hD1
        generalize H1 = H at hP hS ⊢
        have hP : va_P D vwCl (dW cI cZ cG cY o rr h b (dr + 1 + 1 + 1 + 1) (e_k δ z.1) Y ++ wW h (a 0) t0 l0 m0 ++ sW cI a ((digA σ (nI j3) (nI j10) (nI (3 + j22)) (nI (2 + j35))).1) ++ bW cI rr (d_n (e_k δ z.1)) (d_R (e_k δ z.1))) H := hP
        have hD : va_D A (dW cI cZ cG cY o rr h b (dr + 1 + 1 + 1 + 1) (e_k δ z.1) Y ++ wW h (a 0) t0 l0 m0 ++ sW cI a ((digA σ (nI j3) (nI j10) (nI (3 + j22)) (nI (2 + j35))).1) ++ bW cI rr (d_n (e_k δ z.1)) (d_R (e_k δ z.1))) := hD
        have hID := hI.dig (x := j3) (y := j10) (w := 3 + j22) (hh := 2 + j35) (by omega) (by omega)
        have hz0 : digD δ j3 j10 (3 + j22) (2 + j35) = z := hz
        have hA9 := digA_n σ (X := j3) (Y := j10) (W := 3 + j22) (Hh := 2 + j35) (by omega) (by omega)
        rw [hz0] at hID
        rw [← hA9] at hID
        have hres := hID.2
        refine lv_iload hx hb dX5_dig_133 (lv_at hl 1 rfl) ?_
        refine lv_icmp_ne (tgt := 142) hx hb dX5_dig_135 (by decide) (fun c_135 => absurd c_135 ((fun z9 => z9 hres))) (fun c_135 => ?_)
        refine lv_iconst (v := 1) hx hb dX5_dig_138 (by decide) ?_
        refine lv_goto (tgt := 143) hx hb dX5_dig_139 (by decide) ?_
        have hP := hP.part (cx := wW h (a 0) t0 l0 m0 ++ sW cI a ((digA σ (nI j3) (nI j10) (nI (3 + j22)) (nI (2 + j35))).1) ++ dW cI cZ cG cY o rr h b (dr + 1 + 1 + 1 + 1) (e_k δ z.1) Y) [6, 7, 8, 9, 10, 11, 12, 0, 1, 2, 3, 4, 5] rfl
        have hD := hD.part (cx := wW h (a 0) t0 l0 m0 ++ sW cI a ((digA σ (nI j3) (nI j10) (nI (3 + j22)) (nI (2 + j35))).1) ++ dW cI cZ cG cY o rr h b (dr + 1 + 1 + 1 + 1) (e_k δ z.1) Y) [6, 7, 8, 9, 10, 11, 12, 0, 1, 2, 3, 4, 5] (by decide) rfl
        have hP : va_P D vwCl (wW h (a 0) t0 l0 m0 ++ sW cI a ((digA σ (nI j3) (nI j10) (nI (3 + j22)) (nI (2 + j35))).1) ++ dW cI cZ cG cY o rr h b (dr + 1 + 1 + 1 + 1) (e_k δ z.1) Y ++ bW cI rr (d_n (e_k δ z.1)) (d_R (e_k δ z.1))) H := hP
        have hD : va_D A (wW h (a 0) t0 l0 m0 ++ sW cI a ((digA σ (nI j3) (nI j10) (nI (3 + j22)) (nI (2 + j35))).1) ++ dW cI cZ cG cY o rr h b (dr + 1 + 1 + 1 + 1) (e_k δ z.1) Y ++ bW cI rr (d_n (e_k δ z.1)) (d_R (e_k δ z.1))) := hD
        have hP9 := hP
        have hD9 := hD
        exact W.zret (v := 1) hx hb hr rfl (fun T9 ht hW => ⟨⟨1, ((digA σ (nI j3) (nI j10) (nI (3 + j22)) (nI (2 + j35))).1, (e_k δ z.1), (dr + 1 + 1 + 1 + 1), Y, o, rr), rfl, ⟨rfl, hID.1, by show dr + 1 + 1 + 1 + 1 ≤ dr + 200; omega, Nat.le_refl _, rfl⟩, by rw [ht]; exact hP9, va_K.moved hW.alike hK, hD9⟩, hS.F ht⟩) hS.2.2 dX5_dig_143
    | succ n ih47 =>
      intro k z hk hz H locs ls hl hP hD hS
      refine lv_iload hx hb dX5_dig_47 (lv_at hl 0 rfl) ?_
      refine lv_iload_n hx hb dX5_dig_49 rfl (lv_at hl 5 rfl) ?_
      refine lv_iload_n hx hb dX5_dig_50 rfl (lv_at hl 3 rfl) ?_
      refine lv_iadd hx hb dX5_dig_51 ?_
      rw [show ((nI j3) + (nI (3 + j22))) = nI (j3 + (3 + j22)) from nI_add j3 (3 + j22)]
      refine lv_icmp_ge (tgt := 121) hx hb dX5_dig_52 (by decide) (fun c_52 => absurd c_52 (nI_ge (by omega) (by omega))) (fun c_52 => ?_)
      refine lv_iload_n hx hb dX5_dig_55 rfl (lv_at hl 4 rfl) ?_
      refine lv_istore (lv' := [(7, .int (nI j10)), (6, .int (nI k)), (5, .int z.2), (4, .int (nI (2 + j35))), (3, .int (nI (3 + j22))), (2, .int (nI j10)), (1, .int (nI j3)), (0, .ref (o 0))]) hx hb dX5_dig_56 hl (by decide) rfl (fun ls hl => ?_)
      have L58 : ∀ (n2 k2 : Nat) (z2 : ZZ) (hk2 : k2 + n2 = j10 + (2 + j35)) (hz2 : digDR k (2 + j35) j10 z = digDR k n2 k2 z2) (H : Heap) (locs : List Loc) (ls : Array Slot), lv_has ls 9 [(7, .int (nI k2)), (6, .int (nI k)), (5, .int z2.2), (4, .int (nI (2 + j35))), (3, .int (nI (3 + j22))), (2, .int (nI j10)), (1, .int (nI j3)), (0, .ref (o 0))] → va_P D vwCl (wW h (a 0) t0 l0 m0 ++ sW cI a σ ++ dW cI cZ cG cY o rr h b (dr + 1 + 1 + 1 + 1) (e_k δ z2.1) Y ++ bW cI rr (d_n (e_k δ z2.1)) (d_R (e_k δ z2.1))) H → va_D A (wW h (a 0) t0 l0 m0 ++ sW cI a σ ++ dW cI cZ cG cY o rr h b (dr + 1 + 1 + 1 + 1) (e_k δ z2.1) Y ++ bW cI rr (d_n (e_k δ z2.1)) (d_R (e_k δ z2.1))) → va_S A s.heap H locs → W p l e ({ frames := 7, cells := 1, slots := 6, locals := 106 } : Room) s m ([.ref (o 0)] : List Value).toArray below meth c H locs 0 0 (MQ below (va_Qi (fun (r : Int32) (u : (SS × DD × Nat × RW × (Nat → Nat) × (Nat → Nat))) => r = 1 ∧ IR (K) u.1 u.2.1 ∧ u.2.2.1 ≤ dr + 200 ∧ d_n u.2.1 ≤ d_n δ + 0 ∧ u.2.2.2.2.1 0 = o 0) (fun (u : (SS × DD × Nat × RW × (Nat → Nat) × (Nat → Nat))) => posD D cI cZ cG cY A (wW h (a 0) t0 l0 m0 ++ sW cI a u.1 ++ dW cI cZ cG cY u.2.2.2.2.1 u.2.2.2.2.2 h b u.2.2.1 u.2.1 u.2.2.2.1 ++ bW cI u.2.2.2.2.2 (d_n u.2.1) (d_R u.2.1))) A) ([.ref (o 0)] : List Value).toArray s 1 6 A) (F0 m 58 ls []) := by
        intro n2
        induction n2 with
        | zero =>
          intro k2 z2 hk2 hz2 H locs ls hl hP hD hS
          refine lv_iload hx hb dX5_dig_58 (lv_at hl 0 rfl) ?_
          refine lv_iload_n hx hb dX5_dig_60 rfl (lv_at hl 5 rfl) ?_
          refine lv_iload hx hb dX5_dig_61 (lv_at hl 3 rfl) ?_
          refine lv_iadd hx hb dX5_dig_63 ?_
          rw [show ((nI j10) + (nI (2 + j35))) = nI (j10 + (2 + j35)) from nI_add j10 (2 + j35)]
          refine lv_icmp_ge (tgt := 115) hx hb dX5_dig_64 (by decide) (fun c_64 => ?_) (fun c_64 => absurd (nI_le (by omega) (by omega)) c_64)
          refine lv_iinc (v := (nI (k + 1))) (lv' := [(6, .int (nI (k + 1))), (7, .int (nI k2)), (5, .int z2.2), (4, .int (nI (2 + j35))), (3, .int (nI (3 + j22))), (2, .int (nI j10)), (1, .int (nI j3)), (0, .ref (o 0))]) hx hb dX5_dig_115 hl (k := 1) rfl (nI_1 k) (by decide) rfl (fun ls hl => ?_)
          refine lv_goto (tgt := 47) hx hb dX5_dig_118 (by decide) ?_
          exact ih47 (k + 1) z2 (by omega) (by rw [hz]; show digDC j10 (2 + j35) n (k + 1) (digDR k (2 + j35) j10 z) = _; rw [hz2]; rfl) _ _ ls (lv_sub hl [0, 2, 3, 4, 5, 6, 7] rfl) hP hD hS
        | succ n2 ih58 =>
          intro k2 z2 hk2 hz2 H locs ls hl hP hD hS
          refine lv_iload hx hb dX5_dig_58 (lv_at hl 0 rfl) ?_
          refine lv_iload_n hx hb dX5_dig_60 rfl (lv_at hl 5 rfl) ?_
          refine lv_iload hx hb dX5_dig_61 (lv_at hl 3 rfl) ?_
          refine lv_iadd hx hb dX5_dig_63 ?_
          rw [show ((nI j10) + (nI (2 + j35))) = nI (j10 + (2 + j35)) from nI_add j10 (2 + j35)]
          refine lv_icmp_ge (tgt := 115) hx hb dX5_dig_64 (by decide) (fun c_64 => absurd c_64 (nI_ge (by omega) (by omega))) (fun c_64 => ?_)
          refine lv_bipush (v := 16) hx hb dX5_dig_67 (by decide) ?_
          refine lv_iload hx hb dX5_dig_69 (lv_at hl 0 rfl) ?_
          refine lv_imul hx hb dX5_dig_71 ?_
          refine lv_iload hx hb dX5_dig_72 (lv_at hl 1 rfl) ?_
          refine lv_iadd hx hb dX5_dig_74 ?_
          rw [show ((16 * (nI k2)) + (nI k)) = nI (16 * k2 + k) from by rw [show (16 : Int32) * nI k2 = nI (16 * k2) from pk_mul 16 k2, nI_add]]
          refine lv_istore (lv' := [(8, .int (nI (16 * k2 + k))), (7, .int (nI k2)), (6, .int (nI k)), (5, .int z2.2), (4, .int (nI (2 + j35))), (3, .int (nI (3 + j22))), (2, .int (nI j10)), (1, .int (nI j3)), (0, .ref (o 0))]) hx hb dX5_dig_75 hl (by decide) rfl (fun ls hl => ?_)
          refine lv_iload hx hb dX5_dig_77 (lv_at hl 0 rfl) ?_
          refine vp_callSi (va_Run.run (va_runS (As := [.int (nI (16 * k2 + k))]) (rest := []) ⟨hx, hb, hml, hown, hts⟩ (c_X5_isEdge l (nI (16 * k2 + k))) (va_cwS 1 hts gX5_dig_X5_isEdge rfl rfl rfl (by decide +kernel) ⟨Nat.le_of_ble_eq_true rfl, Nat.le_of_ble_eq_true rfl⟩) ⟨fun _ _ _ _ q => q, fun _ _ _ => ⟨rfl, trivial⟩⟩ rfl rfl hl.1 rfl (lv_room (Nat.le_of_ble_eq_true rfl)) dX5_dig_79 ⟨Nat.zero_le _, Nat.zero_le _⟩)) (fun r hr9 => ?_)
          subst hr9
          refine w_bnz (tgt := 109) hx hb dX5_dig_82 (by decide) (fun c_82 => ?_) (fun c_82 => ?_)
          · refine lv_iinc (v := (nI (k2 + 1))) (lv' := [(7, .int (nI (k2 + 1))), (8, .int (nI (16 * k2 + k))), (6, .int (nI k)), (5, .int z2.2), (4, .int (nI (2 + j35))), (3, .int (nI (3 + j22))), (2, .int (nI j10)), (1, .int (nI j3)), (0, .ref (o 0))]) hx hb dX5_dig_109 hl (k := 1) rfl (nI_1 k2) (by decide) rfl (fun ls hl => ?_)
            refine lv_goto (tgt := 58) hx hb dX5_dig_112 (by decide) ?_
            exact ih58 (k2 + 1) z2 (by omega) (by rw [hz2]; simp [digDR, c_82]) _ _ ls (lv_sub hl [0, 2, 3, 4, 5, 6, 7, 8] rfl) hP hD hS
          · refine lv_aload_n hx hb dX5_dig_85 rfl (lv_at hl 8 rfl) ?_
            refine va_get (D := D) (ci := 5) (v := .ref (o 1)) (C := RX5) (T := TX5) (N := 8) hx hb hts (by decide +kernel) hown hK hP 7 rfl rfl 3 (by decide) (hts (.fieldLink RX5 16 "WarrenLaw$Den" "kinds" "[I") (by decide +kernel)) (fun _ h9 => h9) rfl dX5_dig_86 ?_
            refine lv_iload hx hb dX5_dig_89 (lv_at hl 0 rfl) ?_
            refine va_iald hx hb hK hP 8 0 rfl rfl (vp_in_nI (by omega) (by decide)) dX5_dig_91 ?_
            rw [nI_clamp (by omega)]
            refine lv_if_ne (tgt := 98) hx hb dX5_dig_92 (by decide) (fun c_92 => ?_) (fun c_92 => ?_)
            · refine lv_aload_n hx hb dX5_dig_98 rfl (lv_at hl 8 rfl) ?_
              refine va_get (D := D) (ci := 5) (v := .ref (o 1)) (C := RX5) (T := TX5) (N := 8) hx hb hts (by decide +kernel) hown hK hP 7 rfl rfl 3 (by decide) (hts (.fieldLink RX5 16 "WarrenLaw$Den" "kinds" "[I") (by decide +kernel)) (fun _ h9 => h9) rfl dX5_dig_99 ?_
              refine lv_iload hx hb dX5_dig_102 (lv_at hl 0 rfl) ?_
              refine lv_iconst (v := 0) hx hb dX5_dig_104 (by decide) ?_
              refine va_iast hx hb hK hP hD hS 8 0 rfl rfl (vp_in_nI (by omega) (by decide)) dX5_dig_105 (fun H locs hP hD hS => ?_)
              rw [nI_clamp (by omega)] at hP hD
              have hP : va_P D vwCl (wW h (a 0) t0 l0 m0 ++ sW cI a σ ++ dW cI cZ cG cY o rr h b (dr + 1 + 1 + 1 + 1) (e_k (e_k δ z2.1) (upd (d_k (e_k δ z2.1)) (16 * k2 + k) 0)) Y ++ bW cI rr (d_n (e_k (e_k δ z2.1) (upd (d_k (e_k δ z2.1)) (16 * k2 + k) 0))) (d_R (e_k (e_k δ z2.1) (upd (d_k (e_k δ z2.1)) (16 * k2 + k) 0)))) H := hP
              have hD : va_D A (wW h (a 0) t0 l0 m0 ++ sW cI a σ ++ dW cI cZ cG cY o rr h b (dr + 1 + 1 + 1 + 1) (e_k (e_k δ z2.1) (upd (d_k (e_k δ z2.1)) (16 * k2 + k) 0)) Y ++ bW cI rr (d_n (e_k (e_k δ z2.1) (upd (d_k (e_k δ z2.1)) (16 * k2 + k) 0))) (d_R (e_k (e_k δ z2.1) (upd (d_k (e_k δ z2.1)) (16 * k2 + k) 0)))) := hD
              refine lv_iinc (v := (z2.2 + 1)) (lv' := [(5, .int (z2.2 + 1)), (8, .int (nI (16 * k2 + k))), (7, .int (nI k2)), (6, .int (nI k)), (4, .int (nI (2 + j35))), (3, .int (nI (3 + j22))), (2, .int (nI j10)), (1, .int (nI j3)), (0, .ref (o 0))]) hx hb dX5_dig_106 hl (k := 3) rfl rfl (by decide) rfl (fun ls hl => ?_)
              refine lv_iinc (v := (nI (k2 + 1))) (lv' := [(7, .int (nI (k2 + 1))), (5, .int (z2.2 + 1)), (8, .int (nI (16 * k2 + k))), (6, .int (nI k)), (4, .int (nI (2 + j35))), (3, .int (nI (3 + j22))), (2, .int (nI j10)), (1, .int (nI j3)), (0, .ref (o 0))]) hx hb dX5_dig_109 hl (k := 2) rfl (nI_1 k2) (by decide) rfl (fun ls hl => ?_)
              refine lv_goto (tgt := 58) hx hb dX5_dig_112 (by decide) ?_
              exact ih58 (k2 + 1) (upd z2.1 (16 * k2 + k) 0, z2.2 + 1) (by omega) (by rw [hz2]; have c9 : ¬ z2.1 (16 * k2 + k) = 0 := c_92; simp [digDR, c_82, c9]) _ _ ls (lv_sub hl [0, 3, 1, 4, 5, 6, 7, 8] rfl) hP hD hS
            · refine lv_goto (tgt := 109) hx hb dX5_dig_95 (by decide) ?_
              refine lv_iinc (v := (nI (k2 + 1))) (lv' := [(7, .int (nI (k2 + 1))), (8, .int (nI (16 * k2 + k))), (6, .int (nI k)), (5, .int z2.2), (4, .int (nI (2 + j35))), (3, .int (nI (3 + j22))), (2, .int (nI j10)), (1, .int (nI j3)), (0, .ref (o 0))]) hx hb dX5_dig_109 hl (k := 1) rfl (nI_1 k2) (by decide) rfl (fun ls hl => ?_)
              refine lv_goto (tgt := 58) hx hb dX5_dig_112 (by decide) ?_
              exact ih58 (k2 + 1) z2 (by omega) (by rw [hz2]; have c9 : z2.1 (16 * k2 + k) = 0 := c_92; simp [digDR, c_82, c9]) _ _ ls (lv_sub hl [0, 2, 3, 4, 5, 6, 7, 8] rfl) hP hD hS
      exact L58 (2 + j35) j10 z (by omega) rfl _ _ ls (lv_sub hl [0, 1, 2, 3, 4, 5, 6, 7] rfl) hP hD hS
  exact L47 (3 + j22) j3 (d_k δ, 0) (by omega) rfl _ _ ls (lv_sub hl [0, 1, 2, 3, 4, 5, 6] rfl) hP hD hS
set_option maxHeartbeats 4000000 in
set_option maxRecDepth 100000 in
theorem c_X5_set (l : Launch) (hst : l.stackTraces = false) (D : va_G) (cI : ClassId) (sz : Nat) (cZ cG cY : ClassId) (t0 l0 m0 : Nat) (a o rr : Nat → Nat) (h b dr K : Nat) (σ : SS) (δ : DD) (Y : RW) (t L : Nat) (xs : Nat → Int32) (hI : IR K σ δ) (hd : dr < 900000) : Met l yX5_set wsX5_set ({ frames := 7, cells := 1, slots := 6, locals := 105 } : Room) (va_Pc [.ref (o 0)] (preD D cI cZ cG cY t b L xs (wW h (a 0) t0 l0 m0 ++ sW cI a σ ++ dW cI cZ cG cY o rr h b dr δ Y ++ bW cI rr (d_n δ) (d_R δ)) sz)) (va_Qi (fun (r : Int32) (u : (SS × DD × Nat × RW × (Nat → Nat) × (Nat → Nat))) => r = 1 ∧ IR (K) u.1 u.2.1 ∧ u.2.2.1 ≤ dr + 200 ∧ d_n u.2.1 ≤ d_n δ + 0 ∧ u.2.2.2.2.1 0 = o 0) (fun (u : (SS × DD × Nat × RW × (Nat → Nat) × (Nat → Nat))) => posD D cI cZ cG cY (va_A (wW h (a 0) t0 l0 m0 ++ sW cI a σ ++ dW cI cZ cG cY o rr h b dr δ Y ++ bW cI rr (d_n δ) (d_R δ)) sz) (wW h (a 0) t0 l0 m0 ++ sW cI a u.1 ++ dW cI cZ cG cY u.2.2.2.2.1 u.2.2.2.2.2 h b u.2.2.1 u.2.1 u.2.2.2.1 ++ bW cI u.2.2.2.2.2 (d_n u.2.1) (d_R u.2.1))) (va_A (wW h (a 0) t0 l0 m0 ++ sW cI a σ ++ dW cI cZ cG cY o rr h b dr δ Y ++ bW cI rr (d_n δ) (d_R δ)) sz)) 1 6 (va_A (wW h (a 0) t0 l0 m0 ++ sW cI a σ ++ dW cI cZ cG cY o rr h b dr δ Y ++ bW cI rr (d_n δ) (d_R δ)) sz) := by
  refine va_MetW (cc := cX5_set) (maxL := 6) (ret := (some .boolean)) (hh := [(45, 61, 90, 65), (62, 89, 90, 65)]) (by decide) rfl ?_
  intro p e s m args below meth c s₁ B hml hv
  obtain ⟨rfl, ⟨hsz, hP, hK, hD0⟩, hGX⟩ := hv
  have hx := B.exec
  have hb := B.bytes
  have hr := B.returns
  have hts := atoms_spec (ws := wsX5_set) B.pre
  have hown : s.vm.findClass RX5 = some m.cls := findClass_of_methodNamed B.named
  have hlocks := B.notSynchronized
  have htab : c.exceptionTable.toList = tableOf [(45, 61, 90, 65), (62, 89, 90, 65)] := vx_table (x := yX5_set) B (hts _ List.mem_cons_self)
  subst hsz
  have hD := hD0.self (sz := s.heap.size)
  generalize hAe : va_A (wW h (a 0) t0 l0 m0 ++ sW cI a σ ++ dW cI cZ cG cY o rr h b dr δ Y ++ bW cI rr (d_n δ) (d_R δ)) s.heap.size = A at hD hGX ⊢
  have hA : ∀ q : Nat, s.heap.size ≤ q → A q := fun q h => by rw [← hAe]; exact Or.inr h
  have hS : va_S A s.heap s.heap [] := va_S.rf
  have hP : va_P D vwCl (wW h (a 0) t0 l0 m0 ++ sW cI a σ ++ dW cI cZ cG cY o rr h b dr δ Y ++ bW cI rr (d_n δ) (d_R δ)) s.heap := hP
  have hl := lv_entry ([.ref (o 0)]) (n := 6) (Nat.le_of_ble_eq_true rfl)
  rw [lg_entry_eq]
  generalize (lg_sl ([.ref (o 0)]) ++ List.replicate (6 - (lg_sl ([.ref (o 0)])).length) Slot.unset).toArray = ls at hl ⊢
  have hl : lv_has ls 6 [(0, .ref (o 0))] := hl
  obtain ⟨hXV, hTX, hN, hSX, hG, hBX, hnc, hnb, hov⟩ := id hGX
  have hK1 := K_D hK
  have hn := hI.1.2.1
  have hnσ : s_n σ ≤ 10 := by rw [hI.1.1]; exact hn
  refine lv_bipush (v := 17) hx hb dX5_set_0 (by decide) ?_
  refine lv_aload_n hx hb dX5_set_2 rfl (lv_at hl 0 rfl) ?_
  refine lv_bipush (v := 126) hx hb dX5_set_3 (by decide) ?_
  have hFc := va_freeP (cx := dW cI cZ cG cY o rr h b dr δ Y) hD hS hA [7, 8, 9, 10, 11, 12] rfl
  refine va_calli (va_runV (As := [.int 126]) (rest := [.int 17]) ⟨hx, hb, hml, hown, hts⟩ (c_X5_draw l D cI _ cZ cG cY o rr h b dr δ Y t L xs 126 hn (by omega) (by omega) (by omega)) (cwV 1 hts gX5_set_X5_draw rfl rfl rfl (by decide +kernel) ⟨Nat.le_of_ble_eq_true rfl, Nat.le_of_ble_eq_true rfl⟩) ⟨preD_blind, va_recv hK hP (ci := 5) (q0 := 7) rfl rfl, preD_of (hP.part (cx := dW cI cZ cG cY o rr h b dr δ Y) [7, 8, 9, 10, 11, 12] rfl) hK (hD.part (cx := dW cI cZ cG cY o rr h b dr δ Y) [7, 8, 9, 10, 11, 12] (by decide) rfl) hGX hS hFc [.ref (o 0), .int 126]⟩ rfl rfl hl.1 rfl (lv_room (Nat.le_of_ble_eq_true rfl)) dX5_set_5 ⟨Nat.le_of_ble_eq_true rfl, Nat.le_of_ble_eq_true rfl⟩) hS (fun q _ h => hFc q h) hFc (fun r9 u t9 H1 locs ht hvm hw hB hz1 hk1 hS => ?_)
  obtain ⟨hP1, -, hD1⟩ := hB
  rw [ht] at hP1
  obtain ⟨j5, hj5, rfl⟩ := hw
  obtain ⟨hP, hD⟩ := va_joinP (wr := wW h (a 0) t0 l0 m0 ++ sW cI a σ) hP hD [7, 8, 9, 10, 11, 12] [0, 1, 2, 3, 4, 5, 6] rfl rfl (by decide) (by decide) hk1 hFc hP1 hD1
  generalize H1 = H at hP hS ⊢
  have hP : va_P D vwCl (wW h (a 0) t0 l0 m0 ++ sW cI a σ ++ dW cI cZ cG cY o rr h b (dr + 1) δ Y ++ bW cI rr (d_n δ) (d_R δ)) H := hP
  have hD : va_D A (wW h (a 0) t0 l0 m0 ++ sW cI a σ ++ dW cI cZ cG cY o rr h b (dr + 1) δ Y ++ bW cI rr (d_n δ) (d_R δ)) := hD
  refine lv_iadd hx hb dX5_set_8 ?_
  rw [show (17 + (nI j5)) = nI (17 + j5) from nI_add 17 j5]
  refine lv_istore_n (lv' := [(1, .int (nI (17 + j5))), (0, .ref (o 0))]) hx hb dX5_set_9 rfl hl (by decide) rfl (fun ls hl => ?_)
  refine lv_aload_n hx hb dX5_set_10 rfl (lv_at hl 1 rfl) ?_
  refine lv_iconst (v := 4) hx hb dX5_set_11 (by decide) ?_
  have hFc := va_freeP (cx := dW cI cZ cG cY o rr h b (dr + 1) δ Y) hD hS hA [7, 8, 9, 10, 11, 12] rfl
  refine va_calli (va_runV (As := [.int 4]) (rest := []) ⟨hx, hb, hml, hown, hts⟩ (c_X5_draw l D cI _ cZ cG cY o rr h b (dr + 1) δ Y t L xs 4 hn (by omega) (by omega) (by omega)) (cwV 1 hts gX5_set_X5_draw rfl rfl rfl (by decide +kernel) ⟨Nat.le_of_ble_eq_true rfl, Nat.le_of_ble_eq_true rfl⟩) ⟨preD_blind, va_recv hK hP (ci := 5) (q0 := 7) rfl rfl, preD_of (hP.part (cx := dW cI cZ cG cY o rr h b (dr + 1) δ Y) [7, 8, 9, 10, 11, 12] rfl) hK (hD.part (cx := dW cI cZ cG cY o rr h b (dr + 1) δ Y) [7, 8, 9, 10, 11, 12] (by decide) rfl) hGX hS hFc [.ref (o 0), .int 4]⟩ rfl rfl hl.1 rfl (lv_room (Nat.le_of_ble_eq_true rfl)) dX5_set_12 ⟨Nat.le_of_ble_eq_true rfl, Nat.le_of_ble_eq_true rfl⟩) hS (fun q _ h => hFc q h) hFc (fun r9 u t9 H1 locs ht hvm hw hB hz1 hk1 hS => ?_)
  obtain ⟨hP1, -, hD1⟩ := hB
  rw [ht] at hP1
  obtain ⟨j12, hj12, rfl⟩ := hw
  obtain ⟨hP, hD⟩ := va_joinP (wr := wW h (a 0) t0 l0 m0 ++ sW cI a σ) hP hD [7, 8, 9, 10, 11, 12] [0, 1, 2, 3, 4, 5, 6] rfl rfl (by decide) (by decide) hk1 hFc hP1 hD1
  generalize H1 = H at hP hS ⊢
  have hP : va_P D vwCl (wW h (a 0) t0 l0 m0 ++ sW cI a σ ++ dW cI cZ cG cY o rr h b ((dr + 1) + 1) δ Y ++ bW cI rr (d_n δ) (d_R δ)) H := hP
  have hD : va_D A (wW h (a 0) t0 l0 m0 ++ sW cI a σ ++ dW cI cZ cG cY o rr h b ((dr + 1) + 1) δ Y ++ bW cI rr (d_n δ) (d_R δ)) := hD
  refine lv_istore_n (lv' := [(2, .int (nI j12)), (1, .int (nI (17 + j5))), (0, .ref (o 0))]) hx hb dX5_set_15 rfl hl (by decide) rfl (fun ls hl => ?_)
  refine lv_aload_n hx hb dX5_set_16 rfl (lv_at hl 2 rfl) ?_
  refine lv_iload_n hx hb dX5_set_17 rfl (lv_at hl 1 rfl) ?_
  refine vp_callSi (va_Run.run (va_runV (As := [.int (nI (17 + j5))]) (rest := []) ⟨hx, hb, hml, hown, hts⟩ (c_X5_on l D cI cZ cG cY o rr h b ((dr + 1) + 1) δ Y (nI (17 + j5)) hn) (cwV 1 hts gX5_set_X5_on rfl rfl rfl (by decide +kernel) ⟨Nat.le_of_ble_eq_true rfl, Nat.le_of_ble_eq_true rfl⟩) ⟨preDR_blind, va_recv hK hP (ci := 5) (q0 := 7) rfl rfl, preDR_of (hP.part (cx := dW cI cZ cG cY o rr h b ((dr + 1) + 1) δ Y) [7, 8, 9, 10, 11, 12] rfl) hK [.ref (o 0), .int (nI (17 + j5))]⟩ rfl rfl hl.1 rfl (lv_room (Nat.le_of_ble_eq_true rfl)) dX5_set_18 ⟨Nat.zero_le _, Nat.zero_le _⟩)) (fun r9 hr9 => ?_)
  subst hr9
  refine lv_if_lt (tgt := 30) hx hb dX5_set_21 (by decide) (fun c_21 => ?_) (fun c_21 => ?_)
  · refine lv_iconst (v := 1) hx hb dX5_set_30 (by decide) ?_
    refine lv_goto (tgt := 35) hx hb dX5_set_31 (by decide) ?_
    refine lv_istore_n (lv' := [(3, .int 1), (2, .int (nI j12)), (1, .int (nI (17 + j5))), (0, .ref (o 0))]) hx hb dX5_set_35 rfl hl (by decide) rfl (fun ls hl => ?_)
    refine lv_iload_n hx hb dX5_set_36 rfl (lv_at hl 2 rfl) ?_
    refine vp_callSi (va_Run.run (va_runS (As := [.int (nI (17 + j5))]) (rest := []) ⟨hx, hb, hml, hown, hts⟩ (c_X5_isEdge l (nI (17 + j5))) (va_cwS 1 hts gX5_set_X5_isEdge rfl rfl rfl (by decide +kernel) ⟨Nat.le_of_ble_eq_true rfl, Nat.le_of_ble_eq_true rfl⟩) ⟨fun _ _ _ _ q => q, fun _ _ _ => ⟨rfl, trivial⟩⟩ rfl rfl hl.1 rfl (lv_room (Nat.le_of_ble_eq_true rfl)) dX5_set_37 ⟨Nat.zero_le _, Nat.zero_le _⟩)) (fun r hr9 => ?_)
    subst hr9
    refine w_bz (tgt := 45) hx hb dX5_set_40 (by decide) (fun c_40 => ?_) (fun c_40 => ?_)
    · refine lv_aload_n hx hb dX5_set_45 rfl (lv_at hl 3 rfl) ?_
      refine va_get (D := D) (ci := 5) (v := .ref h) (C := RX5) (T := TX5) (N := 8) hx hb hts (by decide +kernel) hown hK hP 7 rfl rfl 0 (by decide) (hts (.fieldLink RX5 10 "WarrenLaw$Den" "m" "LWarren;") (by decide +kernel)) (fun _ h9 => h9) rfl dX5_set_46 ?_
      refine lv_iload_n hx hb dX5_set_49 rfl (lv_at hl 2 rfl) ?_
      refine lv_iload_n hx hb dX5_set_50 rfl (lv_at hl 1 rfl) ?_
      have hFc := va_free (wc := wW h (a 0) t0 l0 m0 ++ sW cI a σ) hD hS hA [0, 1, 2, 3, 4, 5, 6] rfl
      refine vx_calli (vx_runV (As := [.int (nI (17 + j5)), .int (nI j12)]) (rest := []) ⟨hx, hb, hml, hown, hts⟩ (c_X4_set l hst D cI _ h t0 l0 m0 a σ (nI (17 + j5)) (nI j12) hnσ) (cwV 2 hts gX5_set_X4_set rfl rfl rfl (by decide +kernel) ⟨Nat.le_of_ble_eq_true rfl, Nat.le_of_ble_eq_true rfl⟩) ⟨preX_blind, va_recv hK hP (ci := 4) (q0 := 0) rfl rfl, preX_of (hP.sub (ws' := wW h (a 0) t0 l0 m0 ++ sW cI a σ) [0, 1, 2, 3, 4, 5, 6] rfl) hK1 hXV (hD.sub (ws' := wW h (a 0) t0 l0 m0 ++ sW cI a σ) [0, 1, 2, 3, 4, 5, 6] (by decide) rfl) hTX hS hFc [.ref h, .int (nI (17 + j5)), .int (nI j12)]⟩ rfl rfl hl.1 rfl (lv_room (Nat.le_of_ble_eq_true rfl)) dX5_set_51 ⟨Nat.le_of_ble_eq_true rfl, Nat.le_of_ble_eq_true rfl⟩) hS (fun q _ h => hFc q h) hFc (fun q _ h => hFc q h) (fun E ce q9 u9 t9 H1 locs ht hvm hpx hBX9 hz1 hk1 hS hq9 hce hcl => ?_) (fun r9 u9 t9 H1 locs ht hvm hw hB hz1 hk1 hS => ?_)
      · exact absurd ((set_T hI (c := 17 + j5) (k := j12) (by omega) c_40 (by omega)).1 (Or.inl c_21)) hpx
      · obtain ⟨hT9, hR9, hU9⟩ := hw
        obtain ⟨hP1, -, hD1⟩ := hB
        rw [ht] at hP1
        rw [hU9] at hP1 hD1
        rw [hR9]
        obtain ⟨hP, hD⟩ := va_joinQ (wr := dW cI cZ cG cY o rr h b ((dr + 1) + 1) δ Y) (w1 := wW h (a 0) t0 l0 m0 ++ sW cI a (putKindF σ (nI (17 + j5)) (nI j12))) hP hD [0, 1, 2, 3, 4, 5, 6] [7, 8, 9, 10, 11, 12] rfl rfl (by decide) (by decide) hk1 hFc hP1 hD1
        generalize H1 = H at hP hS ⊢
        have hP : va_P D vwCl (dW cI cZ cG cY o rr h b ((dr + 1) + 1) δ Y ++ wW h (a 0) t0 l0 m0 ++ sW cI a (putKindF σ (nI (17 + j5)) (nI j12)) ++ bW cI rr (d_n δ) (d_R δ)) H := hP
        have hD : va_D A (dW cI cZ cG cY o rr h b ((dr + 1) + 1) δ Y ++ wW h (a 0) t0 l0 m0 ++ sW cI a (putKindF σ (nI (17 + j5)) (nI j12)) ++ bW cI rr (d_n δ) (d_R δ)) := hD
        refine lv_istore (lv' := [(4, .int (kindF σ (nI (17 + j5)))), (3, .int 1), (2, .int (nI j12)), (1, .int (nI (17 + j5))), (0, .ref (o 0))]) hx hb dX5_set_54 hl (by decide) rfl (fun ls hl => ?_)
        refine lv_iload_n hx hb dX5_set_56 rfl (lv_at hl 1 rfl) ?_
        refine lv_if_ne (tgt := 62) hx hb dX5_set_57 (by decide) (fun _ => ?_) (fun z9 => absurd z9 (by decide))
        refine lv_aload_n hx hb dX5_set_62 rfl (lv_at hl 4 rfl) ?_
        refine va_get (D := D) (ci := 5) (v := .ref (o 1)) (C := RX5) (T := TX5) (N := 8) hx hb hts (by decide +kernel) hown hK hP 0 rfl rfl 3 (by decide) (hts (.fieldLink RX5 16 "WarrenLaw$Den" "kinds" "[I") (by decide +kernel)) (fun _ h9 => h9) rfl dX5_set_63 ?_
        refine lv_iload_n hx hb dX5_set_66 rfl (lv_at hl 3 rfl) ?_
        refine va_iald hx hb hK hP 1 0 rfl rfl (vp_in_nI (by omega) (by decide)) dX5_set_67 ?_
        rw [nI_clamp (by omega)]
        refine lv_istore (lv' := [(5, .int (d_k δ (17 + j5))), (4, .int (kindF σ (nI (17 + j5)))), (3, .int 1), (2, .int (nI j12)), (1, .int (nI (17 + j5))), (0, .ref (o 0))]) hx hb dX5_set_68 hl (by decide) rfl (fun ls hl => ?_)
        refine lv_aload_n hx hb dX5_set_70 rfl (lv_at hl 5 rfl) ?_
        refine va_get (D := D) (ci := 5) (v := .ref (o 1)) (C := RX5) (T := TX5) (N := 8) hx hb hts (by decide +kernel) hown hK hP 0 rfl rfl 3 (by decide) (hts (.fieldLink RX5 16 "WarrenLaw$Den" "kinds" "[I") (by decide +kernel)) (fun _ h9 => h9) rfl dX5_set_71 ?_
        refine lv_iload_n hx hb dX5_set_74 rfl (lv_at hl 4 rfl) ?_
        refine lv_iload_n hx hb dX5_set_75 rfl (lv_at hl 3 rfl) ?_
        refine va_iast hx hb hK hP hD hS 1 0 rfl rfl (vp_in_nI (by omega) (by decide)) dX5_set_76 (fun H locs hP hD hS => ?_)
        rw [nI_clamp (by omega)] at hP hD
        have hP : va_P D vwCl (dW cI cZ cG cY o rr h b ((dr + 1) + 1) (e_k δ (upd (d_k δ) (17 + j5) (nI j12))) Y ++ wW h (a 0) t0 l0 m0 ++ sW cI a (putKindF σ (nI (17 + j5)) (nI j12)) ++ bW cI rr (d_n (e_k δ (upd (d_k δ) (17 + j5) (nI j12)))) (d_R (e_k δ (upd (d_k δ) (17 + j5) (nI j12))))) H := hP
        have hD : va_D A (dW cI cZ cG cY o rr h b ((dr + 1) + 1) (e_k δ (upd (d_k δ) (17 + j5) (nI j12))) Y ++ wW h (a 0) t0 l0 m0 ++ sW cI a (putKindF σ (nI (17 + j5)) (nI j12)) ++ bW cI rr (d_n (e_k δ (upd (d_k δ) (17 + j5) (nI j12)))) (d_R (e_k δ (upd (d_k δ) (17 + j5) (nI j12))))) := hD
        refine lv_iload hx hb dX5_set_77 (lv_at hl 1 rfl) ?_
        refine lv_iload hx hb dX5_set_79 (lv_at hl 0 rfl) ?_
        refine lv_icmp_ne (tgt := 88) hx hb dX5_set_81 (by decide) (fun c_81 => absurd c_81 ((fun z9 => z9 (hI.1.ki (by omega))))) (fun c_81 => ?_)
        refine lv_iconst (v := 1) hx hb dX5_set_84 (by decide) ?_
        refine lv_goto (tgt := 89) hx hb dX5_set_85 (by decide) ?_
        have hP := hP.part (cx := wW h (a 0) t0 l0 m0 ++ sW cI a (putKindF σ (nI (17 + j5)) (nI j12)) ++ dW cI cZ cG cY o rr h b ((dr + 1) + 1) (e_k δ (upd (d_k δ) (17 + j5) (nI j12))) Y) [6, 7, 8, 9, 10, 11, 12, 0, 1, 2, 3, 4, 5] rfl
        have hD := hD.part (cx := wW h (a 0) t0 l0 m0 ++ sW cI a (putKindF σ (nI (17 + j5)) (nI j12)) ++ dW cI cZ cG cY o rr h b ((dr + 1) + 1) (e_k δ (upd (d_k δ) (17 + j5) (nI j12))) Y) [6, 7, 8, 9, 10, 11, 12, 0, 1, 2, 3, 4, 5] (by decide) rfl
        have hP : va_P D vwCl (wW h (a 0) t0 l0 m0 ++ sW cI a (putKindF σ (nI (17 + j5)) (nI j12)) ++ dW cI cZ cG cY o rr h b ((dr + 1) + 1) (e_k δ (upd (d_k δ) (17 + j5) (nI j12))) Y ++ bW cI rr (d_n (e_k δ (upd (d_k δ) (17 + j5) (nI j12)))) (d_R (e_k δ (upd (d_k δ) (17 + j5) (nI j12))))) H := hP
        have hD : va_D A (wW h (a 0) t0 l0 m0 ++ sW cI a (putKindF σ (nI (17 + j5)) (nI j12)) ++ dW cI cZ cG cY o rr h b ((dr + 1) + 1) (e_k δ (upd (d_k δ) (17 + j5) (nI j12))) Y ++ bW cI rr (d_n (e_k δ (upd (d_k δ) (17 + j5) (nI j12)))) (d_R (e_k δ (upd (d_k δ) (17 + j5) (nI j12))))) := hD
        have hP9 := hP
        have hD9 := hD
        exact W.zret (v := 1) hx hb hr rfl (fun T9 ht hW => ⟨⟨1, ((putKindF σ (nI (17 + j5)) (nI j12)), (e_k δ (upd (d_k δ) (17 + j5) (nI j12))), ((dr + 1) + 1), Y, o, rr), rfl, ⟨rfl, hI.setk (c := 17 + j5) (k := j12) (by omega) (not_rim (by omega) c_40) (by omega) (set_may hI (by omega) (by omega) (Or.inl c_21)), by show dr + 1 + 1 ≤ dr + 200; omega, Nat.le_refl _, rfl⟩, by rw [ht]; exact hP9, va_K.moved hW.alike hK, hD9⟩, hS.F ht⟩) hS.2.2 dX5_set_89
    · refine lv_iconst (v := 1) hx hb dX5_set_43 (by decide) ?_
      have hP9 := hP
      have hD9 := hD
      refine W.widen (k := 1) (n := 6) (Nat.le_of_ble_eq_true rfl) (Nat.le_of_ble_eq_true rfl) ?_
      exact W.zret (v := 1) hx hb hr rfl (fun T9 ht hW => ⟨⟨1, (σ, δ, ((dr + 1) + 1), Y, o, rr), rfl, ⟨rfl, hI, by show dr + 1 + 1 ≤ dr + 200; omega, Nat.le_refl _, rfl⟩, by rw [ht]; exact hP9, va_K.moved hW.alike hK, hD9⟩, hS.F ht⟩) hS.2.2 dX5_set_44
  · refine lv_iload_n hx hb dX5_set_24 rfl (lv_at hl 0 rfl) ?_
    refine lv_iconst (v := 3) hx hb dX5_set_25 (by decide) ?_
    refine lv_irem hx hb dX5_set_26 (by decide) ?_
    rw [show nI j12 - nI j12 / 3 * 3 = nI (j12 % 3) from pk_rem (d := 3) (by omega) (by decide) (by decide)]
    refine lv_if_ne (tgt := 34) hx hb dX5_set_27 (by decide) (fun c_27 => ?_) (fun c_27 => ?_)
    · refine lv_iconst (v := 0) hx hb dX5_set_34 (by decide) ?_
      refine lv_istore_n (lv' := [(3, .int 0), (2, .int (nI j12)), (1, .int (nI (17 + j5))), (0, .ref (o 0))]) hx hb dX5_set_35 rfl hl (by decide) rfl (fun ls hl => ?_)
      refine lv_iload_n hx hb dX5_set_36 rfl (lv_at hl 2 rfl) ?_
      refine vp_callSi (va_Run.run (va_runS (As := [.int (nI (17 + j5))]) (rest := []) ⟨hx, hb, hml, hown, hts⟩ (c_X5_isEdge l (nI (17 + j5))) (va_cwS 1 hts gX5_set_X5_isEdge rfl rfl rfl (by decide +kernel) ⟨Nat.le_of_ble_eq_true rfl, Nat.le_of_ble_eq_true rfl⟩) ⟨fun _ _ _ _ q => q, fun _ _ _ => ⟨rfl, trivial⟩⟩ rfl rfl hl.1 rfl (lv_room (Nat.le_of_ble_eq_true rfl)) dX5_set_37 ⟨Nat.zero_le _, Nat.zero_le _⟩)) (fun r hr9 => ?_)
      subst hr9
      refine w_bz (tgt := 45) hx hb dX5_set_40 (by decide) (fun c_40 => ?_) (fun c_40 => ?_)
      · refine lv_aload_n hx hb dX5_set_45 rfl (lv_at hl 3 rfl) ?_
        refine va_get (D := D) (ci := 5) (v := .ref h) (C := RX5) (T := TX5) (N := 8) hx hb hts (by decide +kernel) hown hK hP 7 rfl rfl 0 (by decide) (hts (.fieldLink RX5 10 "WarrenLaw$Den" "m" "LWarren;") (by decide +kernel)) (fun _ h9 => h9) rfl dX5_set_46 ?_
        refine lv_iload_n hx hb dX5_set_49 rfl (lv_at hl 2 rfl) ?_
        refine lv_iload_n hx hb dX5_set_50 rfl (lv_at hl 1 rfl) ?_
        have hFc := va_free (wc := wW h (a 0) t0 l0 m0 ++ sW cI a σ) hD hS hA [0, 1, 2, 3, 4, 5, 6] rfl
        refine vx_calli (vx_runV (As := [.int (nI (17 + j5)), .int (nI j12)]) (rest := []) ⟨hx, hb, hml, hown, hts⟩ (c_X4_set l hst D cI _ h t0 l0 m0 a σ (nI (17 + j5)) (nI j12) hnσ) (cwV 2 hts gX5_set_X4_set rfl rfl rfl (by decide +kernel) ⟨Nat.le_of_ble_eq_true rfl, Nat.le_of_ble_eq_true rfl⟩) ⟨preX_blind, va_recv hK hP (ci := 4) (q0 := 0) rfl rfl, preX_of (hP.sub (ws' := wW h (a 0) t0 l0 m0 ++ sW cI a σ) [0, 1, 2, 3, 4, 5, 6] rfl) hK1 hXV (hD.sub (ws' := wW h (a 0) t0 l0 m0 ++ sW cI a σ) [0, 1, 2, 3, 4, 5, 6] (by decide) rfl) hTX hS hFc [.ref h, .int (nI (17 + j5)), .int (nI j12)]⟩ rfl rfl hl.1 rfl (lv_room (Nat.le_of_ble_eq_true rfl)) dX5_set_51 ⟨Nat.le_of_ble_eq_true rfl, Nat.le_of_ble_eq_true rfl⟩) hS (fun q _ h => hFc q h) hFc (fun q _ h => hFc q h) (fun E ce q9 u9 t9 H1 locs ht hvm hpx hBX9 hz1 hk1 hS hq9 hce hcl => ?_) (fun r9 u9 t9 H1 locs ht hvm hw hB hz1 hk1 hS => ?_)
        · obtain ⟨hEn, hP1, -, hD1⟩ := hBX9
          rw [ht] at hP1
          obtain ⟨hP, hD⟩ := va_joinQ (wr := dW cI cZ cG cY o rr h b ((dr + 1) + 1) δ Y) (w1 := wW h (a 0) t0 l0 m0 ++ sW cI a σ) hP hD [0, 1, 2, 3, 4, 5, 6] [7, 8, 9, 10, 11, 12] rfl rfl (by decide) (by decide) hk1 hFc hP1 hD1
          have hEn : E = eS := by rw [hEn, ((set_T hI (c := 17 + j5) (k := j12) (by omega) c_40 (by omega)).2 c_21 (fun z9 => c_27 (by rw [z9]; rfl)))]; rfl
          subst hEn
          generalize H1 = H at hP hS hq9 ⊢
          refine vx_catch (name := "java/lang/IllegalStateException") hown [] ⟨45, 61, 90, 65⟩ [⟨62, 89, 90, 65⟩] htab (fun z hz => nomatch hz) (by decide) (by decide) (hts (.classLink RX5 65 "java/lang/IllegalStateException") (by decide +kernel)) (va_Nw.use rfl hXV.2.2.2.1) hq9 hce hcl ?_
          have hP : va_P D vwCl (dW cI cZ cG cY o rr h b ((dr + 1) + 1) δ Y ++ wW h (a 0) t0 l0 m0 ++ sW cI a σ ++ bW cI rr (d_n δ) (d_R δ)) H := hP
          have hD : va_D A (dW cI cZ cG cY o rr h b ((dr + 1) + 1) δ Y ++ wW h (a 0) t0 l0 m0 ++ sW cI a σ ++ bW cI rr (d_n δ) (d_R δ)) := hD
          refine lv_astore (lv' := [(4, .ref q9), (3, .int 0), (2, .int (nI j12)), (1, .int (nI (17 + j5))), (0, .ref (o 0))]) hx hb dX5_set_90 hl (by decide) rfl (fun ls hl => ?_)
          refine lv_iload_n hx hb dX5_set_92 rfl (lv_at hl 1 rfl) ?_
          refine lv_if_ne (tgt := 100) hx hb dX5_set_93 (by decide) (fun z9 => absurd (by decide) z9) (fun _ => ?_)
          refine lv_iconst (v := 1) hx hb dX5_set_96 (by decide) ?_
          refine lv_goto (tgt := 101) hx hb dX5_set_97 (by decide) ?_
          have hP := hP.part (cx := wW h (a 0) t0 l0 m0 ++ sW cI a σ ++ dW cI cZ cG cY o rr h b ((dr + 1) + 1) δ Y) [6, 7, 8, 9, 10, 11, 12, 0, 1, 2, 3, 4, 5] rfl
          have hD := hD.part (cx := wW h (a 0) t0 l0 m0 ++ sW cI a σ ++ dW cI cZ cG cY o rr h b ((dr + 1) + 1) δ Y) [6, 7, 8, 9, 10, 11, 12, 0, 1, 2, 3, 4, 5] (by decide) rfl
          have hP : va_P D vwCl (wW h (a 0) t0 l0 m0 ++ sW cI a σ ++ dW cI cZ cG cY o rr h b ((dr + 1) + 1) δ Y ++ bW cI rr (d_n δ) (d_R δ)) H := hP
          have hD : va_D A (wW h (a 0) t0 l0 m0 ++ sW cI a σ ++ dW cI cZ cG cY o rr h b ((dr + 1) + 1) δ Y ++ bW cI rr (d_n δ) (d_R δ)) := hD
          have hP9 := hP
          have hD9 := hD
          exact W.zret (v := 1) hx hb hr rfl (fun T9 ht hW => ⟨⟨1, (σ, δ, ((dr + 1) + 1), Y, o, rr), rfl, ⟨rfl, hI, by show dr + 1 + 1 ≤ dr + 200; omega, Nat.le_refl _, rfl⟩, by rw [ht]; exact hP9, va_K.moved hW.alike hK, hD9⟩, hS.F ht⟩) hS.2.2 dX5_set_101
        · obtain ⟨hT9, hR9, hU9⟩ := hw
          exact absurd hT9 (by rw [((set_T hI (c := 17 + j5) (k := j12) (by omega) c_40 (by omega)).2 c_21 (fun z9 => c_27 (by rw [z9]; rfl)))]; decide)
      · refine lv_iconst (v := 1) hx hb dX5_set_43 (by decide) ?_
        have hP9 := hP
        have hD9 := hD
        refine W.widen (k := 1) (n := 6) (Nat.le_of_ble_eq_true rfl) (Nat.le_of_ble_eq_true rfl) ?_
        exact W.zret (v := 1) hx hb hr rfl (fun T9 ht hW => ⟨⟨1, (σ, δ, ((dr + 1) + 1), Y, o, rr), rfl, ⟨rfl, hI, by show dr + 1 + 1 ≤ dr + 200; omega, Nat.le_refl _, rfl⟩, by rw [ht]; exact hP9, va_K.moved hW.alike hK, hD9⟩, hS.F ht⟩) hS.2.2 dX5_set_44
    · refine lv_iconst (v := 1) hx hb dX5_set_30 (by decide) ?_
      refine lv_goto (tgt := 35) hx hb dX5_set_31 (by decide) ?_
      refine lv_istore_n (lv' := [(3, .int 1), (2, .int (nI j12)), (1, .int (nI (17 + j5))), (0, .ref (o 0))]) hx hb dX5_set_35 rfl hl (by decide) rfl (fun ls hl => ?_)
      refine lv_iload_n hx hb dX5_set_36 rfl (lv_at hl 2 rfl) ?_
      refine vp_callSi (va_Run.run (va_runS (As := [.int (nI (17 + j5))]) (rest := []) ⟨hx, hb, hml, hown, hts⟩ (c_X5_isEdge l (nI (17 + j5))) (va_cwS 1 hts gX5_set_X5_isEdge rfl rfl rfl (by decide +kernel) ⟨Nat.le_of_ble_eq_true rfl, Nat.le_of_ble_eq_true rfl⟩) ⟨fun _ _ _ _ q => q, fun _ _ _ => ⟨rfl, trivial⟩⟩ rfl rfl hl.1 rfl (lv_room (Nat.le_of_ble_eq_true rfl)) dX5_set_37 ⟨Nat.zero_le _, Nat.zero_le _⟩)) (fun r hr9 => ?_)
      subst hr9
      refine w_bz (tgt := 45) hx hb dX5_set_40 (by decide) (fun c_40 => ?_) (fun c_40 => ?_)
      · refine lv_aload_n hx hb dX5_set_45 rfl (lv_at hl 3 rfl) ?_
        refine va_get (D := D) (ci := 5) (v := .ref h) (C := RX5) (T := TX5) (N := 8) hx hb hts (by decide +kernel) hown hK hP 7 rfl rfl 0 (by decide) (hts (.fieldLink RX5 10 "WarrenLaw$Den" "m" "LWarren;") (by decide +kernel)) (fun _ h9 => h9) rfl dX5_set_46 ?_
        refine lv_iload_n hx hb dX5_set_49 rfl (lv_at hl 2 rfl) ?_
        refine lv_iload_n hx hb dX5_set_50 rfl (lv_at hl 1 rfl) ?_
        have hFc := va_free (wc := wW h (a 0) t0 l0 m0 ++ sW cI a σ) hD hS hA [0, 1, 2, 3, 4, 5, 6] rfl
        refine vx_calli (vx_runV (As := [.int (nI (17 + j5)), .int (nI j12)]) (rest := []) ⟨hx, hb, hml, hown, hts⟩ (c_X4_set l hst D cI _ h t0 l0 m0 a σ (nI (17 + j5)) (nI j12) hnσ) (cwV 2 hts gX5_set_X4_set rfl rfl rfl (by decide +kernel) ⟨Nat.le_of_ble_eq_true rfl, Nat.le_of_ble_eq_true rfl⟩) ⟨preX_blind, va_recv hK hP (ci := 4) (q0 := 0) rfl rfl, preX_of (hP.sub (ws' := wW h (a 0) t0 l0 m0 ++ sW cI a σ) [0, 1, 2, 3, 4, 5, 6] rfl) hK1 hXV (hD.sub (ws' := wW h (a 0) t0 l0 m0 ++ sW cI a σ) [0, 1, 2, 3, 4, 5, 6] (by decide) rfl) hTX hS hFc [.ref h, .int (nI (17 + j5)), .int (nI j12)]⟩ rfl rfl hl.1 rfl (lv_room (Nat.le_of_ble_eq_true rfl)) dX5_set_51 ⟨Nat.le_of_ble_eq_true rfl, Nat.le_of_ble_eq_true rfl⟩) hS (fun q _ h => hFc q h) hFc (fun q _ h => hFc q h) (fun E ce q9 u9 t9 H1 locs ht hvm hpx hBX9 hz1 hk1 hS hq9 hce hcl => ?_) (fun r9 u9 t9 H1 locs ht hvm hw hB hz1 hk1 hS => ?_)
        · exact absurd ((set_T hI (c := 17 + j5) (k := j12) (by omega) c_40 (by omega)).1 (Or.inr ((nI_eq (a := j12 % 3) (b := 0) (by omega) (by decide)).mp c_27))) hpx
        · obtain ⟨hT9, hR9, hU9⟩ := hw
          obtain ⟨hP1, -, hD1⟩ := hB
          rw [ht] at hP1
          rw [hU9] at hP1 hD1
          rw [hR9]
          obtain ⟨hP, hD⟩ := va_joinQ (wr := dW cI cZ cG cY o rr h b ((dr + 1) + 1) δ Y) (w1 := wW h (a 0) t0 l0 m0 ++ sW cI a (putKindF σ (nI (17 + j5)) (nI j12))) hP hD [0, 1, 2, 3, 4, 5, 6] [7, 8, 9, 10, 11, 12] rfl rfl (by decide) (by decide) hk1 hFc hP1 hD1
          generalize H1 = H at hP hS ⊢
          have hP : va_P D vwCl (dW cI cZ cG cY o rr h b ((dr + 1) + 1) δ Y ++ wW h (a 0) t0 l0 m0 ++ sW cI a (putKindF σ (nI (17 + j5)) (nI j12)) ++ bW cI rr (d_n δ) (d_R δ)) H := hP
          have hD : va_D A (dW cI cZ cG cY o rr h b ((dr + 1) + 1) δ Y ++ wW h (a 0) t0 l0 m0 ++ sW cI a (putKindF σ (nI (17 + j5)) (nI j12)) ++ bW cI rr (d_n δ) (d_R δ)) := hD
          refine lv_istore (lv' := [(4, .int (kindF σ (nI (17 + j5)))), (3, .int 1), (2, .int (nI j12)), (1, .int (nI (17 + j5))), (0, .ref (o 0))]) hx hb dX5_set_54 hl (by decide) rfl (fun ls hl => ?_)
          refine lv_iload_n hx hb dX5_set_56 rfl (lv_at hl 1 rfl) ?_
          refine lv_if_ne (tgt := 62) hx hb dX5_set_57 (by decide) (fun _ => ?_) (fun z9 => absurd z9 (by decide))
          refine lv_aload_n hx hb dX5_set_62 rfl (lv_at hl 4 rfl) ?_
          refine va_get (D := D) (ci := 5) (v := .ref (o 1)) (C := RX5) (T := TX5) (N := 8) hx hb hts (by decide +kernel) hown hK hP 0 rfl rfl 3 (by decide) (hts (.fieldLink RX5 16 "WarrenLaw$Den" "kinds" "[I") (by decide +kernel)) (fun _ h9 => h9) rfl dX5_set_63 ?_
          refine lv_iload_n hx hb dX5_set_66 rfl (lv_at hl 3 rfl) ?_
          refine va_iald hx hb hK hP 1 0 rfl rfl (vp_in_nI (by omega) (by decide)) dX5_set_67 ?_
          rw [nI_clamp (by omega)]
          refine lv_istore (lv' := [(5, .int (d_k δ (17 + j5))), (4, .int (kindF σ (nI (17 + j5)))), (3, .int 1), (2, .int (nI j12)), (1, .int (nI (17 + j5))), (0, .ref (o 0))]) hx hb dX5_set_68 hl (by decide) rfl (fun ls hl => ?_)
          refine lv_aload_n hx hb dX5_set_70 rfl (lv_at hl 5 rfl) ?_
          refine va_get (D := D) (ci := 5) (v := .ref (o 1)) (C := RX5) (T := TX5) (N := 8) hx hb hts (by decide +kernel) hown hK hP 0 rfl rfl 3 (by decide) (hts (.fieldLink RX5 16 "WarrenLaw$Den" "kinds" "[I") (by decide +kernel)) (fun _ h9 => h9) rfl dX5_set_71 ?_
          refine lv_iload_n hx hb dX5_set_74 rfl (lv_at hl 4 rfl) ?_
          refine lv_iload_n hx hb dX5_set_75 rfl (lv_at hl 3 rfl) ?_
          refine va_iast hx hb hK hP hD hS 1 0 rfl rfl (vp_in_nI (by omega) (by decide)) dX5_set_76 (fun H locs hP hD hS => ?_)
          rw [nI_clamp (by omega)] at hP hD
          have hP : va_P D vwCl (dW cI cZ cG cY o rr h b ((dr + 1) + 1) (e_k δ (upd (d_k δ) (17 + j5) (nI j12))) Y ++ wW h (a 0) t0 l0 m0 ++ sW cI a (putKindF σ (nI (17 + j5)) (nI j12)) ++ bW cI rr (d_n (e_k δ (upd (d_k δ) (17 + j5) (nI j12)))) (d_R (e_k δ (upd (d_k δ) (17 + j5) (nI j12))))) H := hP
          have hD : va_D A (dW cI cZ cG cY o rr h b ((dr + 1) + 1) (e_k δ (upd (d_k δ) (17 + j5) (nI j12))) Y ++ wW h (a 0) t0 l0 m0 ++ sW cI a (putKindF σ (nI (17 + j5)) (nI j12)) ++ bW cI rr (d_n (e_k δ (upd (d_k δ) (17 + j5) (nI j12)))) (d_R (e_k δ (upd (d_k δ) (17 + j5) (nI j12))))) := hD
          refine lv_iload hx hb dX5_set_77 (lv_at hl 1 rfl) ?_
          refine lv_iload hx hb dX5_set_79 (lv_at hl 0 rfl) ?_
          refine lv_icmp_ne (tgt := 88) hx hb dX5_set_81 (by decide) (fun c_81 => absurd c_81 ((fun z9 => z9 (hI.1.ki (by omega))))) (fun c_81 => ?_)
          refine lv_iconst (v := 1) hx hb dX5_set_84 (by decide) ?_
          refine lv_goto (tgt := 89) hx hb dX5_set_85 (by decide) ?_
          have hP := hP.part (cx := wW h (a 0) t0 l0 m0 ++ sW cI a (putKindF σ (nI (17 + j5)) (nI j12)) ++ dW cI cZ cG cY o rr h b ((dr + 1) + 1) (e_k δ (upd (d_k δ) (17 + j5) (nI j12))) Y) [6, 7, 8, 9, 10, 11, 12, 0, 1, 2, 3, 4, 5] rfl
          have hD := hD.part (cx := wW h (a 0) t0 l0 m0 ++ sW cI a (putKindF σ (nI (17 + j5)) (nI j12)) ++ dW cI cZ cG cY o rr h b ((dr + 1) + 1) (e_k δ (upd (d_k δ) (17 + j5) (nI j12))) Y) [6, 7, 8, 9, 10, 11, 12, 0, 1, 2, 3, 4, 5] (by decide) rfl
          have hP : va_P D vwCl (wW h (a 0) t0 l0 m0 ++ sW cI a (putKindF σ (nI (17 + j5)) (nI j12)) ++ dW cI cZ cG cY o rr h b ((dr + 1) + 1) (e_k δ (upd (d_k δ) (17 + j5) (nI j12))) Y ++ bW cI rr (d_n (e_k δ (upd (d_k δ) (17 + j5) (nI j12)))) (d_R (e_k δ (upd (d_k δ) (17 + j5) (nI j12))))) H := hP
          have hD : va_D A (wW h (a 0) t0 l0 m0 ++ sW cI a (putKindF σ (nI (17 + j5)) (nI j12)) ++ dW cI cZ cG cY o rr h b ((dr + 1) + 1) (e_k δ (upd (d_k δ) (17 + j5) (nI j12))) Y ++ bW cI rr (d_n (e_k δ (upd (d_k δ) (17 + j5) (nI j12)))) (d_R (e_k δ (upd (d_k δ) (17 + j5) (nI j12))))) := hD
          have hP9 := hP
          have hD9 := hD
          exact W.zret (v := 1) hx hb hr rfl (fun T9 ht hW => ⟨⟨1, ((putKindF σ (nI (17 + j5)) (nI j12)), (e_k δ (upd (d_k δ) (17 + j5) (nI j12))), ((dr + 1) + 1), Y, o, rr), rfl, ⟨rfl, hI.setk (c := 17 + j5) (k := j12) (by omega) (not_rim (by omega) c_40) (by omega) (set_may hI (by omega) (by omega) (Or.inr ((nI_eq (a := j12 % 3) (b := 0) (by omega) (by decide)).mp c_27))), by show dr + 1 + 1 ≤ dr + 200; omega, Nat.le_refl _, rfl⟩, by rw [ht]; exact hP9, va_K.moved hW.alike hK, hD9⟩, hS.F ht⟩) hS.2.2 dX5_set_89
      · refine lv_iconst (v := 1) hx hb dX5_set_43 (by decide) ?_
        have hP9 := hP
        have hD9 := hD
        refine W.widen (k := 1) (n := 6) (Nat.le_of_ble_eq_true rfl) (Nat.le_of_ble_eq_true rfl) ?_
        exact W.zret (v := 1) hx hb hr rfl (fun T9 ht hW => ⟨⟨1, (σ, δ, ((dr + 1) + 1), Y, o, rr), rfl, ⟨rfl, hI, by show dr + 1 + 1 ≤ dr + 200; omega, Nat.le_refl _, rfl⟩, by rw [ht]; exact hP9, va_K.moved hW.alike hK, hD9⟩, hS.F ht⟩) hS.2.2 dX5_set_44
set_option maxHeartbeats 4000000 in
set_option maxRecDepth 100000 in
theorem c_X5_become (l : Launch) (hst : l.stackTraces = false) (D : va_G) (cI : ClassId) (sz : Nat) (cZ cG cY : ClassId) (t0 l0 m0 : Nat) (a o rr : Nat → Nat) (h b dr K : Nat) (σ : SS) (δ : DD) (Y : RW) (t L : Nat) (xs : Nat → Int32) (hI : IR K σ δ) (hd : dr < 900000) : Met l yX5_become wsX5_become ({ frames := 7, cells := 1, slots := 6, locals := 107 } : Room) (va_Pc [.ref (o 0)] (preD D cI cZ cG cY t b L xs (wW h (a 0) t0 l0 m0 ++ sW cI a σ ++ dW cI cZ cG cY o rr h b dr δ Y ++ bW cI rr (d_n δ) (d_R δ)) sz)) (va_Qi (fun (r : Int32) (u : (SS × DD × Nat × RW × (Nat → Nat) × (Nat → Nat))) => r = 1 ∧ IR (K) u.1 u.2.1 ∧ u.2.2.1 ≤ dr + 200 ∧ d_n u.2.1 ≤ d_n δ + 0 ∧ u.2.2.2.2.1 0 = o 0) (fun (u : (SS × DD × Nat × RW × (Nat → Nat) × (Nat → Nat))) => posD D cI cZ cG cY (va_A (wW h (a 0) t0 l0 m0 ++ sW cI a σ ++ dW cI cZ cG cY o rr h b dr δ Y ++ bW cI rr (d_n δ) (d_R δ)) sz) (wW h (a 0) t0 l0 m0 ++ sW cI a u.1 ++ dW cI cZ cG cY u.2.2.2.2.1 u.2.2.2.2.2 h b u.2.2.1 u.2.1 u.2.2.2.1 ++ bW cI u.2.2.2.2.2 (d_n u.2.1) (d_R u.2.1))) (va_A (wW h (a 0) t0 l0 m0 ++ sW cI a σ ++ dW cI cZ cG cY o rr h b dr δ Y ++ bW cI rr (d_n δ) (d_R δ)) sz)) 1 6 (va_A (wW h (a 0) t0 l0 m0 ++ sW cI a σ ++ dW cI cZ cG cY o rr h b dr δ Y ++ bW cI rr (d_n δ) (d_R δ)) sz) := by
  refine Met.ofW (cc := cX5_become) (maxL := 4) (ret := (some .boolean)) (by decide) rfl ?_
  intro p e s m args below meth c s₁ B hml hv
  obtain ⟨rfl, ⟨hsz, hP, hK, hD0⟩, hGX⟩ := hv
  have hx := B.exec
  have hb := B.bytes
  have hr := B.returns
  have hts := atoms_spec (ws := wsX5_become) B.pre
  have hown : s.vm.findClass RX5 = some m.cls := findClass_of_methodNamed B.named
  have hlocks := B.notSynchronized
  subst hsz
  have hD := hD0.self (sz := s.heap.size)
  generalize hAe : va_A (wW h (a 0) t0 l0 m0 ++ sW cI a σ ++ dW cI cZ cG cY o rr h b dr δ Y ++ bW cI rr (d_n δ) (d_R δ)) s.heap.size = A at hD hGX ⊢
  have hA : ∀ q : Nat, s.heap.size ≤ q → A q := fun q h => by rw [← hAe]; exact Or.inr h
  have hS : va_S A s.heap s.heap [] := va_S.rf
  have hP : va_P D vwCl (wW h (a 0) t0 l0 m0 ++ sW cI a σ ++ dW cI cZ cG cY o rr h b dr δ Y ++ bW cI rr (d_n δ) (d_R δ)) s.heap := hP
  have hl := lv_entry ([.ref (o 0)]) (n := 4) (Nat.le_of_ble_eq_true rfl)
  rw [lg_entry_eq]
  generalize (lg_sl ([.ref (o 0)]) ++ List.replicate (4 - (lg_sl ([.ref (o 0)])).length) Slot.unset).toArray = ls at hl ⊢
  have hl : lv_has ls 4 [(0, .ref (o 0))] := hl
  obtain ⟨hXV, hTX, hN, hSX, hG, hBX, hnc, hnb, hov⟩ := id hGX
  have hK1 := K_D hK
  have hn := hI.1.2.1
  have hnσ : s_n σ ≤ 10 := by rw [hI.1.1]; exact hn
  refine lv_aload_n hx hb dX5_become_0 rfl (lv_at hl 0 rfl) ?_
  refine va_get (D := D) (ci := 5) (v := .ref (o 5)) (C := RX5) (T := TX5) (N := 8) hx hb hts (by decide +kernel) hown hK hP 7 rfl rfl 5 (by decide) (hts (.fieldLink RX5 26 "WarrenLaw$Den" "beings" "[[I") (by decide +kernel)) (fun _ h9 => h9) rfl dX5_become_1 ?_
  refine va_alen (v := (nI (d_n δ))) hx hb hK hP 12 2 rfl rfl rfl dX5_become_4 ?_
  refine lv_if_ne (tgt := 10) hx hb dX5_become_5 (by decide) (fun c_5 => ?_) (fun c_5 => ?_)
  · refine lv_aload_n hx hb dX5_become_10 rfl (lv_at hl 0 rfl) ?_
    refine lv_aload_n hx hb dX5_become_11 rfl (lv_at hl 0 rfl) ?_
    refine va_get (D := D) (ci := 5) (v := .ref (o 5)) (C := RX5) (T := TX5) (N := 8) hx hb hts (by decide +kernel) hown hK hP 7 rfl rfl 5 (by decide) (hts (.fieldLink RX5 26 "WarrenLaw$Den" "beings" "[[I") (by decide +kernel)) (fun _ h9 => h9) rfl dX5_become_12 ?_
    refine va_alen (v := (nI (d_n δ))) hx hb hK hP 12 2 rfl rfl rfl dX5_become_15 ?_
    have hFc := va_freeP (cx := dW cI cZ cG cY o rr h b dr δ Y) hD hS hA [7, 8, 9, 10, 11, 12] rfl
    refine va_calli (va_runV (As := [.int (nI (d_n δ))]) (rest := []) ⟨hx, hb, hml, hown, hts⟩ (c_X5_draw l D cI _ cZ cG cY o rr h b dr δ Y t L xs (d_n δ) hn (n_pos c_5) (Nat.lt_of_le_of_lt hn (by decide)) (by omega)) (cwV 1 hts gX5_become_X5_draw rfl rfl rfl (by decide +kernel) ⟨Nat.le_of_ble_eq_true rfl, Nat.le_of_ble_eq_true rfl⟩) ⟨preD_blind, va_recv hK hP (ci := 5) (q0 := 7) rfl rfl, preD_of (hP.part (cx := dW cI cZ cG cY o rr h b dr δ Y) [7, 8, 9, 10, 11, 12] rfl) hK (hD.part (cx := dW cI cZ cG cY o rr h b dr δ Y) [7, 8, 9, 10, 11, 12] (by decide) rfl) hGX hS hFc [.ref (o 0), .int (nI (d_n δ))]⟩ rfl rfl hl.1 rfl (lv_room (Nat.le_of_ble_eq_true rfl)) dX5_become_16 ⟨Nat.le_of_ble_eq_true rfl, Nat.le_of_ble_eq_true rfl⟩) hS (fun q _ h => hFc q h) hFc (fun r9 u t9 H1 locs ht hvm hw hB hz1 hk1 hS => ?_)
    obtain ⟨hP1, -, hD1⟩ := hB
    rw [ht] at hP1
    obtain ⟨j16, hj16, rfl⟩ := hw
    obtain ⟨hP, hD⟩ := va_joinP (wr := wW h (a 0) t0 l0 m0 ++ sW cI a σ) hP hD [7, 8, 9, 10, 11, 12] [0, 1, 2, 3, 4, 5, 6] rfl rfl (by decide) (by decide) hk1 hFc hP1 hD1
    generalize H1 = H at hP hS ⊢
    have hP : va_P D vwCl (wW h (a 0) t0 l0 m0 ++ sW cI a σ ++ dW cI cZ cG cY o rr h b (dr + 1) δ Y ++ bW cI rr (d_n δ) (d_R δ)) H := hP
    have hD : va_D A (wW h (a 0) t0 l0 m0 ++ sW cI a σ ++ dW cI cZ cG cY o rr h b (dr + 1) δ Y ++ bW cI rr (d_n δ) (d_R δ)) := hD
    refine lv_istore_n (lv' := [(1, .int (nI j16)), (0, .ref (o 0))]) hx hb dX5_become_19 rfl hl (by decide) rfl (fun ls hl => ?_)
    refine lv_aload_n hx hb dX5_become_20 rfl (lv_at hl 1 rfl) ?_
    refine va_get (D := D) (ci := 5) (v := .ref (o 5)) (C := RX5) (T := TX5) (N := 8) hx hb hts (by decide +kernel) hown hK hP 7 rfl rfl 5 (by decide) (hts (.fieldLink RX5 26 "WarrenLaw$Den" "beings" "[[I") (by decide +kernel)) (fun _ h9 => h9) rfl dX5_become_21 ?_
    refine lv_iload_n hx hb dX5_become_24 rfl (lv_at hl 0 rfl) ?_
    refine w_ldB hx hb hK hP 12 rfl (vp_in_nI hj16 (by omega)) dX5_become_25 ?_
    rw [nI_clamp (by omega)]
    refine lv_astore_n (lv' := [(2, .ref (rr j16)), (1, .int (nI j16)), (0, .ref (o 0))]) hx hb dX5_become_26 rfl hl (by decide) rfl (fun ls hl => ?_)
    refine lv_aload_n hx hb dX5_become_27 rfl (lv_at hl 0 rfl) ?_
    refine lv_iconst (v := 4) hx hb dX5_become_28 (by decide) ?_
    refine va_iald hx hb hK hP (13 + j16) 0 (bW_at rfl hj16) rfl (vp_in_nI (n := 4) (by decide) (by decide)) dX5_become_29 ?_
    rw [show (4 : Int32).toNatClampNeg = 4 by decide]
    refine lv_istore_n (lv' := [(3, .int ((d_R δ j16) 4)), (2, .ref (rr j16)), (1, .int (nI j16)), (0, .ref (o 0))]) hx hb dX5_become_30 rfl hl (by decide) rfl (fun ls hl => ?_)
    refine lv_aload_n hx hb dX5_become_31 rfl (lv_at hl 1 rfl) ?_
    refine lv_iconst (v := 4) hx hb dX5_become_32 (by decide) ?_
    refine lv_aload_n hx hb dX5_become_33 rfl (lv_at hl 3 rfl) ?_
    refine lv_bipush (v := 12) hx hb dX5_become_34 (by decide) ?_
    have hFc := va_freeP (cx := dW cI cZ cG cY o rr h b (dr + 1) δ Y) hD hS hA [7, 8, 9, 10, 11, 12] rfl
    refine va_calli (va_runV (As := [.int 12]) (rest := [.int 4, .ref (rr j16)]) ⟨hx, hb, hml, hown, hts⟩ (c_X5_draw l D cI _ cZ cG cY o rr h b (dr + 1) δ Y t L xs 12 hn (by omega) (by omega) (by omega)) (cwV 1 hts gX5_become_X5_draw rfl rfl rfl (by decide +kernel) ⟨Nat.le_of_ble_eq_true rfl, Nat.le_of_ble_eq_true rfl⟩) ⟨preD_blind, va_recv hK hP (ci := 5) (q0 := 7) rfl rfl, preD_of (hP.part (cx := dW cI cZ cG cY o rr h b (dr + 1) δ Y) [7, 8, 9, 10, 11, 12] rfl) hK (hD.part (cx := dW cI cZ cG cY o rr h b (dr + 1) δ Y) [7, 8, 9, 10, 11, 12] (by decide) rfl) hGX hS hFc [.ref (o 0), .int 12]⟩ rfl rfl hl.1 rfl (lv_room (Nat.le_of_ble_eq_true rfl)) dX5_become_36 ⟨Nat.le_of_ble_eq_true rfl, Nat.le_of_ble_eq_true rfl⟩) hS (fun q _ h => hFc q h) hFc (fun r9 u t9 H1 locs ht hvm hw hB hz1 hk1 hS => ?_)
    obtain ⟨hP1, -, hD1⟩ := hB
    rw [ht] at hP1
    obtain ⟨j36, hj36, rfl⟩ := hw
    obtain ⟨hP, hD⟩ := va_joinP (wr := wW h (a 0) t0 l0 m0 ++ sW cI a σ) hP hD [7, 8, 9, 10, 11, 12] [0, 1, 2, 3, 4, 5, 6] rfl rfl (by decide) (by decide) hk1 hFc hP1 hD1
    generalize H1 = H at hP hS ⊢
    have hP : va_P D vwCl (wW h (a 0) t0 l0 m0 ++ sW cI a σ ++ dW cI cZ cG cY o rr h b ((dr + 1) + 1) δ Y ++ bW cI rr (d_n δ) (d_R δ)) H := hP
    have hD : va_D A (wW h (a 0) t0 l0 m0 ++ sW cI a σ ++ dW cI cZ cG cY o rr h b ((dr + 1) + 1) δ Y ++ bW cI rr (d_n δ) (d_R δ)) := hD
    refine va_iast hx hb hK hP hD hS (13 + j16) 0 (bW_at rfl hj16) rfl (vp_in_nI (n := 4) (by decide) (by decide)) dX5_become_39 (fun H locs hP hD hS => ?_)
    rw [show (4 : Int32).toNatClampNeg = 4 by decide] at hP hD
    have hP := bW_setP rfl hP
    have hD := bW_setD rfl hD
    have hP : va_P D vwCl (wW h (a 0) t0 l0 m0 ++ sW cI a σ ++ dW cI cZ cG cY o rr h b ((dr + 1) + 1) (e_g δ j16 (upd (d_R δ j16) 4 (nI j36))) Y ++ bW cI rr (d_n (e_g δ j16 (upd (d_R δ j16) 4 (nI j36)))) (d_R (e_g δ j16 (upd (d_R δ j16) 4 (nI j36))))) H := hP
    have hD : va_D A (wW h (a 0) t0 l0 m0 ++ sW cI a σ ++ dW cI cZ cG cY o rr h b ((dr + 1) + 1) (e_g δ j16 (upd (d_R δ j16) 4 (nI j36))) Y ++ bW cI rr (d_n (e_g δ j16 (upd (d_R δ j16) 4 (nI j36)))) (d_R (e_g δ j16 (upd (d_R δ j16) 4 (nI j36))))) := hD
    refine lv_aload_n hx hb dX5_become_40 rfl (lv_at hl 1 rfl) ?_
    refine lv_iconst (v := 5) hx hb dX5_become_41 (by decide) ?_
    refine lv_aload_n hx hb dX5_become_42 rfl (lv_at hl 3 rfl) ?_
    refine lv_bipush (v := 6) hx hb dX5_become_43 (by decide) ?_
    have hFc := va_freeP (cx := dW cI cZ cG cY o rr h b ((dr + 1) + 1) (e_g δ j16 (upd (d_R δ j16) 4 (nI j36))) Y) hD hS hA [7, 8, 9, 10, 11, 12] rfl
    refine va_calli (va_runV (As := [.int 6]) (rest := [.int 5, .ref (rr j16)]) ⟨hx, hb, hml, hown, hts⟩ (c_X5_draw l D cI _ cZ cG cY o rr h b ((dr + 1) + 1) (e_g δ j16 (upd (d_R δ j16) 4 (nI j36))) Y t L xs 6 hn (by omega) (by omega) (by omega)) (cwV 1 hts gX5_become_X5_draw rfl rfl rfl (by decide +kernel) ⟨Nat.le_of_ble_eq_true rfl, Nat.le_of_ble_eq_true rfl⟩) ⟨preD_blind, va_recv hK hP (ci := 5) (q0 := 7) rfl rfl, preD_of (hP.part (cx := dW cI cZ cG cY o rr h b ((dr + 1) + 1) (e_g δ j16 (upd (d_R δ j16) 4 (nI j36))) Y) [7, 8, 9, 10, 11, 12] rfl) hK (hD.part (cx := dW cI cZ cG cY o rr h b ((dr + 1) + 1) (e_g δ j16 (upd (d_R δ j16) 4 (nI j36))) Y) [7, 8, 9, 10, 11, 12] (by decide) rfl) hGX hS hFc [.ref (o 0), .int 6]⟩ rfl rfl hl.1 rfl (lv_room (Nat.le_of_ble_eq_true rfl)) dX5_become_45 ⟨Nat.le_of_ble_eq_true rfl, Nat.le_of_ble_eq_true rfl⟩) hS (fun q _ h => hFc q h) hFc (fun r9 u t9 H1 locs ht hvm hw hB hz1 hk1 hS => ?_)
    obtain ⟨hP1, -, hD1⟩ := hB
    rw [ht] at hP1
    obtain ⟨j45, hj45, rfl⟩ := hw
    obtain ⟨hP, hD⟩ := va_joinP (wr := wW h (a 0) t0 l0 m0 ++ sW cI a σ) hP hD [7, 8, 9, 10, 11, 12] [0, 1, 2, 3, 4, 5, 6] rfl rfl (by decide) (by decide) hk1 hFc hP1 hD1
    generalize H1 = H at hP hS ⊢
    have hP : va_P D vwCl (wW h (a 0) t0 l0 m0 ++ sW cI a σ ++ dW cI cZ cG cY o rr h b (((dr + 1) + 1) + 1) (e_g δ j16 (upd (d_R δ j16) 4 (nI j36))) Y ++ bW cI rr (d_n (e_g δ j16 (upd (d_R δ j16) 4 (nI j36)))) (d_R (e_g δ j16 (upd (d_R δ j16) 4 (nI j36))))) H := hP
    have hD : va_D A (wW h (a 0) t0 l0 m0 ++ sW cI a σ ++ dW cI cZ cG cY o rr h b (((dr + 1) + 1) + 1) (e_g δ j16 (upd (d_R δ j16) 4 (nI j36))) Y ++ bW cI rr (d_n (e_g δ j16 (upd (d_R δ j16) 4 (nI j36)))) (d_R (e_g δ j16 (upd (d_R δ j16) 4 (nI j36))))) := hD
    refine va_iast hx hb hK hP hD hS (13 + j16) 0 (bW_at2 rfl hj16) rfl (vp_in_nI (n := 5) (by decide) (by decide)) dX5_become_48 (fun H locs hP hD hS => ?_)
    rw [show (5 : Int32).toNatClampNeg = 5 by decide] at hP hD
    have hP := bW_wrP rfl hP
    have hD := bW_wrD rfl hD
    have hP : va_P D vwCl (wW h (a 0) t0 l0 m0 ++ sW cI a σ ++ dW cI cZ cG cY o rr h b (((dr + 1) + 1) + 1) (e_g δ j16 (upd (upd (d_R δ j16) 4 (nI j36)) 5 (nI j45))) Y ++ bW cI rr (d_n (e_g δ j16 (upd (upd (d_R δ j16) 4 (nI j36)) 5 (nI j45)))) (d_R (e_g δ j16 (upd (upd (d_R δ j16) 4 (nI j36)) 5 (nI j45))))) H := hP
    have hD : va_D A (wW h (a 0) t0 l0 m0 ++ sW cI a σ ++ dW cI cZ cG cY o rr h b (((dr + 1) + 1) + 1) (e_g δ j16 (upd (upd (d_R δ j16) 4 (nI j36)) 5 (nI j45))) Y ++ bW cI rr (d_n (e_g δ j16 (upd (upd (d_R δ j16) 4 (nI j36)) 5 (nI j45)))) (d_R (e_g δ j16 (upd (upd (d_R δ j16) 4 (nI j36)) 5 (nI j45))))) := hD
    refine lv_aload_n hx hb dX5_become_49 rfl (lv_at hl 1 rfl) ?_
    refine lv_bipush (v := 6) hx hb dX5_become_50 (by decide) ?_
    refine lv_iconst (v := 1) hx hb dX5_become_52 (by decide) ?_
    refine lv_aload_n hx hb dX5_become_53 rfl (lv_at hl 3 rfl) ?_
    refine lv_iconst (v := 4) hx hb dX5_become_54 (by decide) ?_
    have hFc := va_freeP (cx := dW cI cZ cG cY o rr h b (((dr + 1) + 1) + 1) (e_g δ j16 (upd (upd (d_R δ j16) 4 (nI j36)) 5 (nI j45))) Y) hD hS hA [7, 8, 9, 10, 11, 12] rfl
    refine va_calli (va_runV (As := [.int 4]) (rest := [.int 1, .int 6, .ref (rr j16)]) ⟨hx, hb, hml, hown, hts⟩ (c_X5_draw l D cI _ cZ cG cY o rr h b (((dr + 1) + 1) + 1) (e_g δ j16 (upd (upd (d_R δ j16) 4 (nI j36)) 5 (nI j45))) Y t L xs 4 hn (by omega) (by omega) (by omega)) (cwV 1 hts gX5_become_X5_draw rfl rfl rfl (by decide +kernel) ⟨Nat.le_of_ble_eq_true rfl, Nat.le_of_ble_eq_true rfl⟩) ⟨preD_blind, va_recv hK hP (ci := 5) (q0 := 7) rfl rfl, preD_of (hP.part (cx := dW cI cZ cG cY o rr h b (((dr + 1) + 1) + 1) (e_g δ j16 (upd (upd (d_R δ j16) 4 (nI j36)) 5 (nI j45))) Y) [7, 8, 9, 10, 11, 12] rfl) hK (hD.part (cx := dW cI cZ cG cY o rr h b (((dr + 1) + 1) + 1) (e_g δ j16 (upd (upd (d_R δ j16) 4 (nI j36)) 5 (nI j45))) Y) [7, 8, 9, 10, 11, 12] (by decide) rfl) hGX hS hFc [.ref (o 0), .int 4]⟩ rfl rfl hl.1 rfl (lv_room (Nat.le_of_ble_eq_true rfl)) dX5_become_55 ⟨Nat.le_of_ble_eq_true rfl, Nat.le_of_ble_eq_true rfl⟩) hS (fun q _ h => hFc q h) hFc (fun r9 u t9 H1 locs ht hvm hw hB hz1 hk1 hS => ?_)
    obtain ⟨hP1, -, hD1⟩ := hB
    rw [ht] at hP1
    obtain ⟨j55, hj55, rfl⟩ := hw
    obtain ⟨hP, hD⟩ := va_joinP (wr := wW h (a 0) t0 l0 m0 ++ sW cI a σ) hP hD [7, 8, 9, 10, 11, 12] [0, 1, 2, 3, 4, 5, 6] rfl rfl (by decide) (by decide) hk1 hFc hP1 hD1
    generalize H1 = H at hP hS ⊢
    have hP : va_P D vwCl (wW h (a 0) t0 l0 m0 ++ sW cI a σ ++ dW cI cZ cG cY o rr h b ((((dr + 1) + 1) + 1) + 1) (e_g δ j16 (upd (upd (d_R δ j16) 4 (nI j36)) 5 (nI j45))) Y ++ bW cI rr (d_n (e_g δ j16 (upd (upd (d_R δ j16) 4 (nI j36)) 5 (nI j45)))) (d_R (e_g δ j16 (upd (upd (d_R δ j16) 4 (nI j36)) 5 (nI j45))))) H := hP
    have hD : va_D A (wW h (a 0) t0 l0 m0 ++ sW cI a σ ++ dW cI cZ cG cY o rr h b ((((dr + 1) + 1) + 1) + 1) (e_g δ j16 (upd (upd (d_R δ j16) 4 (nI j36)) 5 (nI j45))) Y ++ bW cI rr (d_n (e_g δ j16 (upd (upd (d_R δ j16) 4 (nI j36)) 5 (nI j45)))) (d_R (e_g δ j16 (upd (upd (d_R δ j16) 4 (nI j36)) 5 (nI j45))))) := hD
    refine lv_iadd hx hb dX5_become_58 ?_
    rw [show (1 + (nI j55)) = nI (1 + j55) from nI_add 1 j55]
    refine va_iast hx hb hK hP hD hS (13 + j16) 0 (bW_at2 rfl hj16) rfl (vp_in_nI (n := 6) (by decide) (by decide)) dX5_become_59 (fun H locs hP hD hS => ?_)
    rw [show (6 : Int32).toNatClampNeg = 6 by decide] at hP hD
    have hP := bW_wrP rfl hP
    have hD := bW_wrD rfl hD
    have hP : va_P D vwCl (wW h (a 0) t0 l0 m0 ++ sW cI a σ ++ dW cI cZ cG cY o rr h b ((((dr + 1) + 1) + 1) + 1) (e_g δ j16 (upd (upd (upd (d_R δ j16) 4 (nI j36)) 5 (nI j45)) 6 (nI (1 + j55)))) Y ++ bW cI rr (d_n (e_g δ j16 (upd (upd (upd (d_R δ j16) 4 (nI j36)) 5 (nI j45)) 6 (nI (1 + j55))))) (d_R (e_g δ j16 (upd (upd (upd (d_R δ j16) 4 (nI j36)) 5 (nI j45)) 6 (nI (1 + j55)))))) H := hP
    have hD : va_D A (wW h (a 0) t0 l0 m0 ++ sW cI a σ ++ dW cI cZ cG cY o rr h b ((((dr + 1) + 1) + 1) + 1) (e_g δ j16 (upd (upd (upd (d_R δ j16) 4 (nI j36)) 5 (nI j45)) 6 (nI (1 + j55)))) Y ++ bW cI rr (d_n (e_g δ j16 (upd (upd (upd (d_R δ j16) 4 (nI j36)) 5 (nI j45)) 6 (nI (1 + j55))))) (d_R (e_g δ j16 (upd (upd (upd (d_R δ j16) 4 (nI j36)) 5 (nI j45)) 6 (nI (1 + j55)))))) := hD
    refine lv_aload_n hx hb dX5_become_60 rfl (lv_at hl 3 rfl) ?_
    refine va_get (D := D) (ci := 5) (v := .ref h) (C := RX5) (T := TX5) (N := 8) hx hb hts (by decide +kernel) hown hK hP 7 rfl rfl 0 (by decide) (hts (.fieldLink RX5 10 "WarrenLaw$Den" "m" "LWarren;") (by decide +kernel)) (fun _ h9 => h9) rfl dX5_become_61 ?_
    refine lv_iload_n hx hb dX5_become_64 rfl (lv_at hl 2 rfl) ?_
    refine lv_aload_n hx hb dX5_become_65 rfl (lv_at hl 1 rfl) ?_
    refine lv_iconst (v := 4) hx hb dX5_become_66 (by decide) ?_
    refine va_iald hx hb hK hP (13 + j16) 0 (bW_at2 rfl hj16) rfl (vp_in_nI (n := 4) (by decide) (by decide)) dX5_become_67 ?_
    rw [show (4 : Int32).toNatClampNeg = 4 by decide]
    rw [pk_un (show 4 ≠ 6 by decide), pk_un (show 4 ≠ 5 by decide), pk_us]
    refine lv_aload_n hx hb dX5_become_68 rfl (lv_at hl 1 rfl) ?_
    refine lv_iconst (v := 5) hx hb dX5_become_69 (by decide) ?_
    refine va_iald hx hb hK hP (13 + j16) 0 (bW_at2 rfl hj16) rfl (vp_in_nI (n := 5) (by decide) (by decide)) dX5_become_70 ?_
    rw [show (5 : Int32).toNatClampNeg = 5 by decide]
    rw [pk_un (show 5 ≠ 6 by decide), pk_us]
    refine lv_aload_n hx hb dX5_become_71 rfl (lv_at hl 1 rfl) ?_
    refine lv_bipush (v := 6) hx hb dX5_become_72 (by decide) ?_
    refine va_iald hx hb hK hP (13 + j16) 0 (bW_at2 rfl hj16) rfl (vp_in_nI (n := 6) (by decide) (by decide)) dX5_become_74 ?_
    rw [show (6 : Int32).toNatClampNeg = 6 by decide]
    rw [pk_us]
    have hFc := va_free (wc := wW h (a 0) t0 l0 m0 ++ sW cI a σ) hD hS hA [0, 1, 2, 3, 4, 5, 6] rfl
    refine vx_calli (vx_runV (As := [.int (nI j16), .int (nI j36), .int (nI j45), .int (nI (1 + j55))]) (rest := []) ⟨hx, hb, hml, hown, hts⟩ (c_X4_become l hst D cI _ h t0 l0 m0 a σ (nI j16) (nI j36) (nI j45) (nI (1 + j55))) (cwV 4 hts gX5_become_X4_become rfl rfl rfl (by decide +kernel) ⟨Nat.le_of_ble_eq_true rfl, Nat.le_of_ble_eq_true rfl⟩) ⟨preX_blind, va_recv hK hP (ci := 4) (q0 := 0) rfl rfl, preX_of (hP.sub (ws' := wW h (a 0) t0 l0 m0 ++ sW cI a σ) [0, 1, 2, 3, 4, 5, 6] rfl) hK1 hXV (hD.sub (ws' := wW h (a 0) t0 l0 m0 ++ sW cI a σ) [0, 1, 2, 3, 4, 5, 6] (by decide) rfl) hTX hS hFc [.ref h, .int (nI j16), .int (nI j36), .int (nI j45), .int (nI (1 + j55))]⟩ rfl rfl hl.1 rfl (lv_room (Nat.le_of_ble_eq_true rfl)) dX5_become_75 ⟨Nat.le_of_ble_eq_true rfl, Nat.le_of_ble_eq_true rfl⟩) hS (fun q _ h => hFc q h) hFc (fun q _ h => hFc q h) (fun E ce q9 u9 t9 H1 locs ht hvm hpx hBX9 hz1 hk1 hS hq9 hce hcl => ?_) (fun r9 u9 t9 H1 locs ht hvm hw hB hz1 hk1 hS => ?_)
    · exact absurd (become_T hI (b := j16) (f := j36) (u := j45) (s := 1 + j55) hj16 (by omega) (by omega) (by omega) (by omega)) hpx
    · obtain ⟨hT9, hR9, hU9⟩ := hw
      obtain ⟨hP1, -, hD1⟩ := hB
      rw [ht] at hP1
      rw [hU9] at hP1 hD1
      rw [hR9]
      obtain ⟨hP, hD⟩ := va_joinQ (wr := dW cI cZ cG cY o rr h b ((((dr + 1) + 1) + 1) + 1) (e_g δ j16 (upd (upd (upd (d_R δ j16) 4 (nI j36)) 5 (nI j45)) 6 (nI (1 + j55)))) Y) (w1 := wW h (a 0) t0 l0 m0 ++ sW cI a (becomeF σ (nI j16) (nI j36) (nI j45) (nI (1 + j55)))) hP hD [0, 1, 2, 3, 4, 5, 6] [7, 8, 9, 10, 11, 12] rfl rfl (by decide) (by decide) hk1 hFc hP1 hD1
      generalize H1 = H at hP hS ⊢
      have hP : va_P D vwCl (dW cI cZ cG cY o rr h b ((((dr + 1) + 1) + 1) + 1) (e_g δ j16 (upd (upd (upd (d_R δ j16) 4 (nI j36)) 5 (nI j45)) 6 (nI (1 + j55)))) Y ++ wW h (a 0) t0 l0 m0 ++ sW cI a (becomeF σ (nI j16) (nI j36) (nI j45) (nI (1 + j55))) ++ bW cI rr (d_n (e_g δ j16 (upd (upd (upd (d_R δ j16) 4 (nI j36)) 5 (nI j45)) 6 (nI (1 + j55))))) (d_R (e_g δ j16 (upd (upd (upd (d_R δ j16) 4 (nI j36)) 5 (nI j45)) 6 (nI (1 + j55)))))) H := hP
      have hD : va_D A (dW cI cZ cG cY o rr h b ((((dr + 1) + 1) + 1) + 1) (e_g δ j16 (upd (upd (upd (d_R δ j16) 4 (nI j36)) 5 (nI j45)) 6 (nI (1 + j55)))) Y ++ wW h (a 0) t0 l0 m0 ++ sW cI a (becomeF σ (nI j16) (nI j36) (nI j45) (nI (1 + j55))) ++ bW cI rr (d_n (e_g δ j16 (upd (upd (upd (d_R δ j16) 4 (nI j36)) 5 (nI j45)) 6 (nI (1 + j55))))) (d_R (e_g δ j16 (upd (upd (upd (d_R δ j16) 4 (nI j36)) 5 (nI j45)) 6 (nI (1 + j55)))))) := hD
      refine lv_iload_n hx hb dX5_become_78 rfl (lv_at hl 0 rfl) ?_
      refine lv_icmp_ne (tgt := 86) hx hb dX5_become_79 (by decide) (fun c_79 => absurd c_79 ((fun z9 => z9 (hI.1.tr (w := 4) hj16 (by omega))))) (fun c_79 => ?_)
      refine lv_iconst (v := 1) hx hb dX5_become_82 (by decide) ?_
      refine lv_goto (tgt := 87) hx hb dX5_become_83 (by decide) ?_
      have hP := hP.part (cx := wW h (a 0) t0 l0 m0 ++ sW cI a (becomeF σ (nI j16) (nI j36) (nI j45) (nI (1 + j55))) ++ dW cI cZ cG cY o rr h b ((((dr + 1) + 1) + 1) + 1) (e_g δ j16 (upd (upd (upd (d_R δ j16) 4 (nI j36)) 5 (nI j45)) 6 (nI (1 + j55)))) Y) [6, 7, 8, 9, 10, 11, 12, 0, 1, 2, 3, 4, 5] rfl
      have hD := hD.part (cx := wW h (a 0) t0 l0 m0 ++ sW cI a (becomeF σ (nI j16) (nI j36) (nI j45) (nI (1 + j55))) ++ dW cI cZ cG cY o rr h b ((((dr + 1) + 1) + 1) + 1) (e_g δ j16 (upd (upd (upd (d_R δ j16) 4 (nI j36)) 5 (nI j45)) 6 (nI (1 + j55)))) Y) [6, 7, 8, 9, 10, 11, 12, 0, 1, 2, 3, 4, 5] (by decide) rfl
      have hP : va_P D vwCl (wW h (a 0) t0 l0 m0 ++ sW cI a (becomeF σ (nI j16) (nI j36) (nI j45) (nI (1 + j55))) ++ dW cI cZ cG cY o rr h b ((((dr + 1) + 1) + 1) + 1) (e_g δ j16 (upd (upd (upd (d_R δ j16) 4 (nI j36)) 5 (nI j45)) 6 (nI (1 + j55)))) Y ++ bW cI rr (d_n (e_g δ j16 (upd (upd (upd (d_R δ j16) 4 (nI j36)) 5 (nI j45)) 6 (nI (1 + j55))))) (d_R (e_g δ j16 (upd (upd (upd (d_R δ j16) 4 (nI j36)) 5 (nI j45)) 6 (nI (1 + j55)))))) H := hP
      have hD : va_D A (wW h (a 0) t0 l0 m0 ++ sW cI a (becomeF σ (nI j16) (nI j36) (nI j45) (nI (1 + j55))) ++ dW cI cZ cG cY o rr h b ((((dr + 1) + 1) + 1) + 1) (e_g δ j16 (upd (upd (upd (d_R δ j16) 4 (nI j36)) 5 (nI j45)) 6 (nI (1 + j55)))) Y ++ bW cI rr (d_n (e_g δ j16 (upd (upd (upd (d_R δ j16) 4 (nI j36)) 5 (nI j45)) 6 (nI (1 + j55))))) (d_R (e_g δ j16 (upd (upd (upd (d_R δ j16) 4 (nI j36)) 5 (nI j45)) 6 (nI (1 + j55)))))) := hD
      have hP9 := hP
      have hD9 := hD
      exact W.zret (v := 1) hx hb hr rfl (fun T9 ht hW => ⟨⟨1, ((becomeF σ (nI j16) (nI j36) (nI j45) (nI (1 + j55))), (e_g δ j16 (upd (upd (upd (d_R δ j16) 4 (nI j36)) 5 (nI j45)) 6 (nI (1 + j55)))), ((((dr + 1) + 1) + 1) + 1), Y, o, rr), rfl, ⟨rfl, hI.become (b := j16) (f := j36) (u := j45) (s := 1 + j55) hj16 (by omega) (by omega) (by omega) (by omega), by show dr + 1 + 1 + 1 + 1 ≤ dr + 200; omega, Nat.le_refl _, rfl⟩, by rw [ht]; exact hP9, va_K.moved hW.alike hK, hD9⟩, hS.F ht⟩) hS.2.2 dX5_become_87
  · refine lv_iconst (v := 1) hx hb dX5_become_8 (by decide) ?_
    have hP9 := hP
    have hD9 := hD
    refine W.widen (k := 1) (n := 6) (Nat.le_of_ble_eq_true rfl) (Nat.le_of_ble_eq_true rfl) ?_
    exact W.zret (v := 1) hx hb hr rfl (fun T9 ht hW => ⟨⟨1, (σ, δ, dr, Y, o, rr), rfl, ⟨rfl, hI, by show dr ≤ dr + 200; omega, Nat.le_refl _, rfl⟩, by rw [ht]; exact hP9, va_K.moved hW.alike hK, hD9⟩, hS.F ht⟩) hS.2.2 dX5_become_9
set_option maxHeartbeats 4000000 in
set_option maxRecDepth 100000 in
theorem c_X5_lay (l : Launch) (hst : l.stackTraces = false) (D : va_G) (cI : ClassId) (sz : Nat) (cZ cG cY : ClassId) (t0 l0 m0 : Nat) (a o rr : Nat → Nat) (h b dr K : Nat) (σ : SS) (δ : DD) (Y : RW) (t L : Nat) (xs : Nat → Int32) (hI : IR K σ δ) (hd : dr < 900000) : Met l yX5_lay wsX5_lay ({ frames := 7, cells := 1, slots := 6, locals := 106 } : Room) (va_Pc [.ref (o 0)] (preD D cI cZ cG cY t b L xs (wW h (a 0) t0 l0 m0 ++ sW cI a σ ++ dW cI cZ cG cY o rr h b dr δ Y ++ bW cI rr (d_n δ) (d_R δ)) sz)) (va_Qi (fun (r : Int32) (u : (SS × DD × Nat × RW × (Nat → Nat) × (Nat → Nat))) => r = 1 ∧ IR (K) u.1 u.2.1 ∧ u.2.2.1 ≤ dr + 200 ∧ d_n u.2.1 ≤ d_n δ + 0 ∧ u.2.2.2.2.1 0 = o 0) (fun (u : (SS × DD × Nat × RW × (Nat → Nat) × (Nat → Nat))) => posD D cI cZ cG cY (va_A (wW h (a 0) t0 l0 m0 ++ sW cI a σ ++ dW cI cZ cG cY o rr h b dr δ Y ++ bW cI rr (d_n δ) (d_R δ)) sz) (wW h (a 0) t0 l0 m0 ++ sW cI a u.1 ++ dW cI cZ cG cY u.2.2.2.2.1 u.2.2.2.2.2 h b u.2.2.1 u.2.1 u.2.2.2.1 ++ bW cI u.2.2.2.2.2 (d_n u.2.1) (d_R u.2.1))) (va_A (wW h (a 0) t0 l0 m0 ++ sW cI a σ ++ dW cI cZ cG cY o rr h b dr δ Y ++ bW cI rr (d_n δ) (d_R δ)) sz)) 1 6 (va_A (wW h (a 0) t0 l0 m0 ++ sW cI a σ ++ dW cI cZ cG cY o rr h b dr δ Y ++ bW cI rr (d_n δ) (d_R δ)) sz) := by
  refine va_MetW (cc := cX5_lay) (maxL := 6) (ret := (some .boolean)) (hh := [(44, 70, 106, 65), (71, 105, 106, 65)]) (by decide) rfl ?_
  intro p e s m args below meth c s₁ B hml hv
  obtain ⟨rfl, ⟨hsz, hP, hK, hD0⟩, hGX⟩ := hv
  have hx := B.exec
  have hb := B.bytes
  have hr := B.returns
  have hts := atoms_spec (ws := wsX5_lay) B.pre
  have hown : s.vm.findClass RX5 = some m.cls := findClass_of_methodNamed B.named
  have hlocks := B.notSynchronized
  have htab : c.exceptionTable.toList = tableOf [(44, 70, 106, 65), (71, 105, 106, 65)] := vx_table (x := yX5_lay) B (hts _ List.mem_cons_self)
  subst hsz
  have hD := hD0.self (sz := s.heap.size)
  generalize hAe : va_A (wW h (a 0) t0 l0 m0 ++ sW cI a σ ++ dW cI cZ cG cY o rr h b dr δ Y ++ bW cI rr (d_n δ) (d_R δ)) s.heap.size = A at hD hGX ⊢
  have hA : ∀ q : Nat, s.heap.size ≤ q → A q := fun q h => by rw [← hAe]; exact Or.inr h
  have hS : va_S A s.heap s.heap [] := va_S.rf
  have hP : va_P D vwCl (wW h (a 0) t0 l0 m0 ++ sW cI a σ ++ dW cI cZ cG cY o rr h b dr δ Y ++ bW cI rr (d_n δ) (d_R δ)) s.heap := hP
  have hl := lv_entry ([.ref (o 0)]) (n := 6) (Nat.le_of_ble_eq_true rfl)
  rw [lg_entry_eq]
  generalize (lg_sl ([.ref (o 0)]) ++ List.replicate (6 - (lg_sl ([.ref (o 0)])).length) Slot.unset).toArray = ls at hl ⊢
  have hl : lv_has ls 6 [(0, .ref (o 0))] := hl
  obtain ⟨hXV, hTX, hN, hSX, hG, hBX, hnc, hnb, hov⟩ := id hGX
  have hK1 := K_D hK
  have hn := hI.1.2.1
  have hnσ : s_n σ ≤ 10 := by rw [hI.1.1]; exact hn
  refine lv_aload_n hx hb dX5_lay_0 rfl (lv_at hl 0 rfl) ?_
  refine va_get (D := D) (ci := 5) (v := .ref (o 5)) (C := RX5) (T := TX5) (N := 8) hx hb hts (by decide +kernel) hown hK hP 7 rfl rfl 5 (by decide) (hts (.fieldLink RX5 26 "WarrenLaw$Den" "beings" "[[I") (by decide +kernel)) (fun _ h9 => h9) rfl dX5_lay_1 ?_
  refine va_alen (v := (nI (d_n δ))) hx hb hK hP 12 2 rfl rfl rfl dX5_lay_4 ?_
  refine lv_if_ne (tgt := 10) hx hb dX5_lay_5 (by decide) (fun c_5 => ?_) (fun c_5 => ?_)
  · refine lv_aload_n hx hb dX5_lay_10 rfl (lv_at hl 0 rfl) ?_
    refine lv_aload_n hx hb dX5_lay_11 rfl (lv_at hl 0 rfl) ?_
    refine va_get (D := D) (ci := 5) (v := .ref (o 5)) (C := RX5) (T := TX5) (N := 8) hx hb hts (by decide +kernel) hown hK hP 7 rfl rfl 5 (by decide) (hts (.fieldLink RX5 26 "WarrenLaw$Den" "beings" "[[I") (by decide +kernel)) (fun _ h9 => h9) rfl dX5_lay_12 ?_
    refine va_alen (v := (nI (d_n δ))) hx hb hK hP 12 2 rfl rfl rfl dX5_lay_15 ?_
    have hFc := va_freeP (cx := dW cI cZ cG cY o rr h b dr δ Y) hD hS hA [7, 8, 9, 10, 11, 12] rfl
    refine va_calli (va_runV (As := [.int (nI (d_n δ))]) (rest := []) ⟨hx, hb, hml, hown, hts⟩ (c_X5_draw l D cI _ cZ cG cY o rr h b dr δ Y t L xs (d_n δ) hn (n_pos c_5) (Nat.lt_of_le_of_lt hn (by decide)) (by omega)) (cwV 1 hts gX5_lay_X5_draw rfl rfl rfl (by decide +kernel) ⟨Nat.le_of_ble_eq_true rfl, Nat.le_of_ble_eq_true rfl⟩) ⟨preD_blind, va_recv hK hP (ci := 5) (q0 := 7) rfl rfl, preD_of (hP.part (cx := dW cI cZ cG cY o rr h b dr δ Y) [7, 8, 9, 10, 11, 12] rfl) hK (hD.part (cx := dW cI cZ cG cY o rr h b dr δ Y) [7, 8, 9, 10, 11, 12] (by decide) rfl) hGX hS hFc [.ref (o 0), .int (nI (d_n δ))]⟩ rfl rfl hl.1 rfl (lv_room (Nat.le_of_ble_eq_true rfl)) dX5_lay_16 ⟨Nat.le_of_ble_eq_true rfl, Nat.le_of_ble_eq_true rfl⟩) hS (fun q _ h => hFc q h) hFc (fun r9 u t9 H1 locs ht hvm hw hB hz1 hk1 hS => ?_)
    obtain ⟨hP1, -, hD1⟩ := hB
    rw [ht] at hP1
    obtain ⟨j16, hj16, rfl⟩ := hw
    obtain ⟨hP, hD⟩ := va_joinP (wr := wW h (a 0) t0 l0 m0 ++ sW cI a σ) hP hD [7, 8, 9, 10, 11, 12] [0, 1, 2, 3, 4, 5, 6] rfl rfl (by decide) (by decide) hk1 hFc hP1 hD1
    generalize H1 = H at hP hS ⊢
    have hP : va_P D vwCl (wW h (a 0) t0 l0 m0 ++ sW cI a σ ++ dW cI cZ cG cY o rr h b (dr + 1) δ Y ++ bW cI rr (d_n δ) (d_R δ)) H := hP
    have hD : va_D A (wW h (a 0) t0 l0 m0 ++ sW cI a σ ++ dW cI cZ cG cY o rr h b (dr + 1) δ Y ++ bW cI rr (d_n δ) (d_R δ)) := hD
    refine lv_istore_n (lv' := [(1, .int (nI j16)), (0, .ref (o 0))]) hx hb dX5_lay_19 rfl hl (by decide) rfl (fun ls hl => ?_)
    refine lv_aload_n hx hb dX5_lay_20 rfl (lv_at hl 1 rfl) ?_
    refine lv_iconst (v := 5) hx hb dX5_lay_21 (by decide) ?_
    have hFc := va_freeP (cx := dW cI cZ cG cY o rr h b (dr + 1) δ Y) hD hS hA [7, 8, 9, 10, 11, 12] rfl
    refine va_calli (va_runV (As := [.int 5]) (rest := []) ⟨hx, hb, hml, hown, hts⟩ (c_X5_draw l D cI _ cZ cG cY o rr h b (dr + 1) δ Y t L xs 5 hn (by omega) (by omega) (by omega)) (cwV 1 hts gX5_lay_X5_draw rfl rfl rfl (by decide +kernel) ⟨Nat.le_of_ble_eq_true rfl, Nat.le_of_ble_eq_true rfl⟩) ⟨preD_blind, va_recv hK hP (ci := 5) (q0 := 7) rfl rfl, preD_of (hP.part (cx := dW cI cZ cG cY o rr h b (dr + 1) δ Y) [7, 8, 9, 10, 11, 12] rfl) hK (hD.part (cx := dW cI cZ cG cY o rr h b (dr + 1) δ Y) [7, 8, 9, 10, 11, 12] (by decide) rfl) hGX hS hFc [.ref (o 0), .int 5]⟩ rfl rfl hl.1 rfl (lv_room (Nat.le_of_ble_eq_true rfl)) dX5_lay_22 ⟨Nat.le_of_ble_eq_true rfl, Nat.le_of_ble_eq_true rfl⟩) hS (fun q _ h => hFc q h) hFc (fun r9 u t9 H1 locs ht hvm hw hB hz1 hk1 hS => ?_)
    obtain ⟨hP1, -, hD1⟩ := hB
    rw [ht] at hP1
    obtain ⟨j22, hj22, rfl⟩ := hw
    obtain ⟨hP, hD⟩ := va_joinP (wr := wW h (a 0) t0 l0 m0 ++ sW cI a σ) hP hD [7, 8, 9, 10, 11, 12] [0, 1, 2, 3, 4, 5, 6] rfl rfl (by decide) (by decide) hk1 hFc hP1 hD1
    generalize H1 = H at hP hS ⊢
    have hP : va_P D vwCl (wW h (a 0) t0 l0 m0 ++ sW cI a σ ++ dW cI cZ cG cY o rr h b ((dr + 1) + 1) δ Y ++ bW cI rr (d_n δ) (d_R δ)) H := hP
    have hD : va_D A (wW h (a 0) t0 l0 m0 ++ sW cI a σ ++ dW cI cZ cG cY o rr h b ((dr + 1) + 1) δ Y ++ bW cI rr (d_n δ) (d_R δ)) := hD
    refine lv_istore_n (lv' := [(2, .int (nI j22)), (1, .int (nI j16)), (0, .ref (o 0))]) hx hb dX5_lay_25 rfl hl (by decide) rfl (fun ls hl => ?_)
    refine lv_iconst (v := 1) hx hb dX5_lay_26 (by decide) ?_
    refine lv_aload_n hx hb dX5_lay_27 rfl (lv_at hl 2 rfl) ?_
    refine lv_iconst (v := 4) hx hb dX5_lay_28 (by decide) ?_
    have hFc := va_freeP (cx := dW cI cZ cG cY o rr h b ((dr + 1) + 1) δ Y) hD hS hA [7, 8, 9, 10, 11, 12] rfl
    refine va_calli (va_runV (As := [.int 4]) (rest := [.int 1]) ⟨hx, hb, hml, hown, hts⟩ (c_X5_draw l D cI _ cZ cG cY o rr h b ((dr + 1) + 1) δ Y t L xs 4 hn (by omega) (by omega) (by omega)) (cwV 1 hts gX5_lay_X5_draw rfl rfl rfl (by decide +kernel) ⟨Nat.le_of_ble_eq_true rfl, Nat.le_of_ble_eq_true rfl⟩) ⟨preD_blind, va_recv hK hP (ci := 5) (q0 := 7) rfl rfl, preD_of (hP.part (cx := dW cI cZ cG cY o rr h b ((dr + 1) + 1) δ Y) [7, 8, 9, 10, 11, 12] rfl) hK (hD.part (cx := dW cI cZ cG cY o rr h b ((dr + 1) + 1) δ Y) [7, 8, 9, 10, 11, 12] (by decide) rfl) hGX hS hFc [.ref (o 0), .int 4]⟩ rfl rfl hl.1 rfl (lv_room (Nat.le_of_ble_eq_true rfl)) dX5_lay_29 ⟨Nat.le_of_ble_eq_true rfl, Nat.le_of_ble_eq_true rfl⟩) hS (fun q _ h => hFc q h) hFc (fun r9 u t9 H1 locs ht hvm hw hB hz1 hk1 hS => ?_)
    obtain ⟨hP1, -, hD1⟩ := hB
    rw [ht] at hP1
    obtain ⟨j29, hj29, rfl⟩ := hw
    obtain ⟨hP, hD⟩ := va_joinP (wr := wW h (a 0) t0 l0 m0 ++ sW cI a σ) hP hD [7, 8, 9, 10, 11, 12] [0, 1, 2, 3, 4, 5, 6] rfl rfl (by decide) (by decide) hk1 hFc hP1 hD1
    generalize H1 = H at hP hS ⊢
    have hP : va_P D vwCl (wW h (a 0) t0 l0 m0 ++ sW cI a σ ++ dW cI cZ cG cY o rr h b (((dr + 1) + 1) + 1) δ Y ++ bW cI rr (d_n δ) (d_R δ)) H := hP
    have hD : va_D A (wW h (a 0) t0 l0 m0 ++ sW cI a σ ++ dW cI cZ cG cY o rr h b (((dr + 1) + 1) + 1) δ Y ++ bW cI rr (d_n δ) (d_R δ)) := hD
    refine lv_iadd hx hb dX5_lay_32 ?_
    rw [show (1 + (nI j29)) = nI (1 + j29) from nI_add 1 j29]
    refine lv_istore_n (lv' := [(3, .int (nI (1 + j29))), (2, .int (nI j22)), (1, .int (nI j16)), (0, .ref (o 0))]) hx hb dX5_lay_33 rfl hl (by decide) rfl (fun ls hl => ?_)
    refine lv_iconst (v := 1) hx hb dX5_lay_34 (by decide) ?_
    refine lv_aload_n hx hb dX5_lay_35 rfl (lv_at hl 3 rfl) ?_
    refine lv_bipush (v := 6) hx hb dX5_lay_36 (by decide) ?_
    have hFc := va_freeP (cx := dW cI cZ cG cY o rr h b (((dr + 1) + 1) + 1) δ Y) hD hS hA [7, 8, 9, 10, 11, 12] rfl
    refine va_calli (va_runV (As := [.int 6]) (rest := [.int 1]) ⟨hx, hb, hml, hown, hts⟩ (c_X5_draw l D cI _ cZ cG cY o rr h b (((dr + 1) + 1) + 1) δ Y t L xs 6 hn (by omega) (by omega) (by omega)) (cwV 1 hts gX5_lay_X5_draw rfl rfl rfl (by decide +kernel) ⟨Nat.le_of_ble_eq_true rfl, Nat.le_of_ble_eq_true rfl⟩) ⟨preD_blind, va_recv hK hP (ci := 5) (q0 := 7) rfl rfl, preD_of (hP.part (cx := dW cI cZ cG cY o rr h b (((dr + 1) + 1) + 1) δ Y) [7, 8, 9, 10, 11, 12] rfl) hK (hD.part (cx := dW cI cZ cG cY o rr h b (((dr + 1) + 1) + 1) δ Y) [7, 8, 9, 10, 11, 12] (by decide) rfl) hGX hS hFc [.ref (o 0), .int 6]⟩ rfl rfl hl.1 rfl (lv_room (Nat.le_of_ble_eq_true rfl)) dX5_lay_38 ⟨Nat.le_of_ble_eq_true rfl, Nat.le_of_ble_eq_true rfl⟩) hS (fun q _ h => hFc q h) hFc (fun r9 u t9 H1 locs ht hvm hw hB hz1 hk1 hS => ?_)
    obtain ⟨hP1, -, hD1⟩ := hB
    rw [ht] at hP1
    obtain ⟨j38, hj38, rfl⟩ := hw
    obtain ⟨hP, hD⟩ := va_joinP (wr := wW h (a 0) t0 l0 m0 ++ sW cI a σ) hP hD [7, 8, 9, 10, 11, 12] [0, 1, 2, 3, 4, 5, 6] rfl rfl (by decide) (by decide) hk1 hFc hP1 hD1
    generalize H1 = H at hP hS ⊢
    have hP : va_P D vwCl (wW h (a 0) t0 l0 m0 ++ sW cI a σ ++ dW cI cZ cG cY o rr h b ((((dr + 1) + 1) + 1) + 1) δ Y ++ bW cI rr (d_n δ) (d_R δ)) H := hP
    have hD : va_D A (wW h (a 0) t0 l0 m0 ++ sW cI a σ ++ dW cI cZ cG cY o rr h b ((((dr + 1) + 1) + 1) + 1) δ Y ++ bW cI rr (d_n δ) (d_R δ)) := hD
    refine lv_iadd hx hb dX5_lay_41 ?_
    rw [show (1 + (nI j38)) = nI (1 + j38) from nI_add 1 j38]
    refine lv_istore (lv' := [(4, .int (nI (1 + j38))), (3, .int (nI (1 + j29))), (2, .int (nI j22)), (1, .int (nI j16)), (0, .ref (o 0))]) hx hb dX5_lay_42 hl (by decide) rfl (fun ls hl => ?_)
    by_cases qd : d_R δ j16 1 < 0
    · refine lv_aload_n hx hb dX5_lay_44 rfl (lv_at hl 4 rfl) ?_
      refine va_get (D := D) (ci := 5) (v := .ref h) (C := RX5) (T := TX5) (N := 8) hx hb hts (by decide +kernel) hown hK hP 7 rfl rfl 0 (by decide) (hts (.fieldLink RX5 10 "WarrenLaw$Den" "m" "LWarren;") (by decide +kernel)) (fun _ h9 => h9) rfl dX5_lay_45 ?_
      refine lv_iload_n hx hb dX5_lay_48 rfl (lv_at hl 3 rfl) ?_
      refine lv_iload_n hx hb dX5_lay_49 rfl (lv_at hl 2 rfl) ?_
      refine lv_iload_n hx hb dX5_lay_50 rfl (lv_at hl 1 rfl) ?_
      refine lv_iload hx hb dX5_lay_51 (lv_at hl 0 rfl) ?_
      have hFc := va_free (wc := wW h (a 0) t0 l0 m0 ++ sW cI a σ) hD hS hA [0, 1, 2, 3, 4, 5, 6] rfl
      refine vx_calli (vx_runV (As := [.int (nI j16), .int (nI j22), .int (nI (1 + j29)), .int (nI (1 + j38))]) (rest := []) ⟨hx, hb, hml, hown, hts⟩ (c_X4_lay l hst D cI _ h t0 l0 m0 a σ (nI j16) (nI j22) (nI (1 + j29)) (nI (1 + j38))) (cwV 4 hts gX5_lay_X4_lay rfl rfl rfl (by decide +kernel) ⟨Nat.le_of_ble_eq_true rfl, Nat.le_of_ble_eq_true rfl⟩) ⟨preX_blind, va_recv hK hP (ci := 4) (q0 := 0) rfl rfl, preX_of (hP.sub (ws' := wW h (a 0) t0 l0 m0 ++ sW cI a σ) [0, 1, 2, 3, 4, 5, 6] rfl) hK1 hXV (hD.sub (ws' := wW h (a 0) t0 l0 m0 ++ sW cI a σ) [0, 1, 2, 3, 4, 5, 6] (by decide) rfl) hTX hS hFc [.ref h, .int (nI j16), .int (nI j22), .int (nI (1 + j29)), .int (nI (1 + j38))]⟩ rfl rfl hl.1 rfl (lv_room (Nat.le_of_ble_eq_true rfl)) dX5_lay_53 ⟨Nat.le_of_ble_eq_true rfl, Nat.le_of_ble_eq_true rfl⟩) hS (fun q _ h => hFc q h) hFc (fun q _ h => hFc q h) (fun E ce q9 u9 t9 H1 locs ht hvm hpx hBX9 hz1 hk1 hS hq9 hce hcl => ?_) (fun r9 u9 t9 H1 locs ht hvm hw hB hz1 hk1 hS => ?_)
      · obtain ⟨hEn, hP1, -, hD1⟩ := hBX9
        rw [ht] at hP1
        obtain ⟨hP, hD⟩ := va_joinQ (wr := dW cI cZ cG cY o rr h b ((((dr + 1) + 1) + 1) + 1) δ Y) (w1 := wW h (a 0) t0 l0 m0 ++ sW cI a σ) hP hD [0, 1, 2, 3, 4, 5, 6] [7, 8, 9, 10, 11, 12] rfl rfl (by decide) (by decide) hk1 hFc hP1 hD1
        have hEn : E = eS := by rw [hEn, ((lay_T hI (b := j16) (e := j22) (s := 1 + j29) (t := 1 + j38) hj16 hj22 (by omega) (by omega) (by omega) (by omega)).2 qd)]; rfl
        subst hEn
        generalize H1 = H at hP hS hq9 ⊢
        refine vx_catch (name := "java/lang/IllegalStateException") hown [] ⟨44, 70, 106, 65⟩ [⟨71, 105, 106, 65⟩] htab (fun z hz => nomatch hz) (by decide) (by decide) (hts (.classLink RX5 65 "java/lang/IllegalStateException") (by decide +kernel)) (va_Nw.use rfl hXV.2.2.2.1) hq9 hce hcl ?_
        have hP : va_P D vwCl (dW cI cZ cG cY o rr h b ((((dr + 1) + 1) + 1) + 1) δ Y ++ wW h (a 0) t0 l0 m0 ++ sW cI a σ ++ bW cI rr (d_n δ) (d_R δ)) H := hP
        have hD : va_D A (dW cI cZ cG cY o rr h b ((((dr + 1) + 1) + 1) + 1) δ Y ++ wW h (a 0) t0 l0 m0 ++ sW cI a σ ++ bW cI rr (d_n δ) (d_R δ)) := hD
        refine lv_astore (lv' := [(5, .ref q9), (4, .int (nI (1 + j38))), (3, .int (nI (1 + j29))), (2, .int (nI j22)), (1, .int (nI j16)), (0, .ref (o 0))]) hx hb dX5_lay_106 hl (by decide) rfl (fun ls hl => ?_)
        refine lv_aload_n hx hb dX5_lay_108 rfl (lv_at hl 5 rfl) ?_
        refine va_get (D := D) (ci := 5) (v := .ref (o 5)) (C := RX5) (T := TX5) (N := 8) hx hb hts (by decide +kernel) hown hK hP 0 rfl rfl 5 (by decide) (hts (.fieldLink RX5 26 "WarrenLaw$Den" "beings" "[[I") (by decide +kernel)) (fun _ h9 => h9) rfl dX5_lay_109 ?_
        refine lv_iload_n hx hb dX5_lay_112 rfl (lv_at hl 4 rfl) ?_
        refine w_ldB hx hb hK hP 5 rfl (vp_in_nI hj16 (by omega)) dX5_lay_113 ?_
        rw [nI_clamp (by omega)]
        refine lv_iconst (v := 1) hx hb dX5_lay_114 (by decide) ?_
        refine va_iald hx hb hK hP (13 + j16) 0 (bW_at rfl hj16) rfl (vp_in_nI (n := 1) (by decide) (by decide)) dX5_lay_115 ?_
        rw [show (1 : Int32).toNatClampNeg = 1 by decide]
        refine lv_if_ge (tgt := 123) hx hb dX5_lay_116 (by decide) (fun c_116 => absurd c_116 ((fun z9 => Int32.not_lt.mpr z9 qd))) (fun c_116 => ?_)
        refine lv_iconst (v := 1) hx hb dX5_lay_119 (by decide) ?_
        refine lv_goto (tgt := 124) hx hb dX5_lay_120 (by decide) ?_
        have hP := hP.part (cx := wW h (a 0) t0 l0 m0 ++ sW cI a σ ++ dW cI cZ cG cY o rr h b ((((dr + 1) + 1) + 1) + 1) δ Y) [6, 7, 8, 9, 10, 11, 12, 0, 1, 2, 3, 4, 5] rfl
        have hD := hD.part (cx := wW h (a 0) t0 l0 m0 ++ sW cI a σ ++ dW cI cZ cG cY o rr h b ((((dr + 1) + 1) + 1) + 1) δ Y) [6, 7, 8, 9, 10, 11, 12, 0, 1, 2, 3, 4, 5] (by decide) rfl
        have hP : va_P D vwCl (wW h (a 0) t0 l0 m0 ++ sW cI a σ ++ dW cI cZ cG cY o rr h b ((((dr + 1) + 1) + 1) + 1) δ Y ++ bW cI rr (d_n δ) (d_R δ)) H := hP
        have hD : va_D A (wW h (a 0) t0 l0 m0 ++ sW cI a σ ++ dW cI cZ cG cY o rr h b ((((dr + 1) + 1) + 1) + 1) δ Y ++ bW cI rr (d_n δ) (d_R δ)) := hD
        have hP9 := hP
        have hD9 := hD
        exact W.zret (v := 1) hx hb hr rfl (fun T9 ht hW => ⟨⟨1, (σ, δ, ((((dr + 1) + 1) + 1) + 1), Y, o, rr), rfl, ⟨rfl, hI, by show dr + 1 + 1 + 1 + 1 ≤ dr + 200; omega, Nat.le_refl _, rfl⟩, by rw [ht]; exact hP9, va_K.moved hW.alike hK, hD9⟩, hS.F ht⟩) hS.2.2 dX5_lay_124
      · obtain ⟨hT9, hR9, hU9⟩ := hw
        exact absurd hT9 (by rw [((lay_T hI (b := j16) (e := j22) (s := 1 + j29) (t := 1 + j38) hj16 hj22 (by omega) (by omega) (by omega) (by omega)).2 qd)]; decide)
    · refine lv_aload_n hx hb dX5_lay_44 rfl (lv_at hl 4 rfl) ?_
      refine va_get (D := D) (ci := 5) (v := .ref h) (C := RX5) (T := TX5) (N := 8) hx hb hts (by decide +kernel) hown hK hP 7 rfl rfl 0 (by decide) (hts (.fieldLink RX5 10 "WarrenLaw$Den" "m" "LWarren;") (by decide +kernel)) (fun _ h9 => h9) rfl dX5_lay_45 ?_
      refine lv_iload_n hx hb dX5_lay_48 rfl (lv_at hl 3 rfl) ?_
      refine lv_iload_n hx hb dX5_lay_49 rfl (lv_at hl 2 rfl) ?_
      refine lv_iload_n hx hb dX5_lay_50 rfl (lv_at hl 1 rfl) ?_
      refine lv_iload hx hb dX5_lay_51 (lv_at hl 0 rfl) ?_
      have hFc := va_free (wc := wW h (a 0) t0 l0 m0 ++ sW cI a σ) hD hS hA [0, 1, 2, 3, 4, 5, 6] rfl
      refine vx_calli (vx_runV (As := [.int (nI j16), .int (nI j22), .int (nI (1 + j29)), .int (nI (1 + j38))]) (rest := []) ⟨hx, hb, hml, hown, hts⟩ (c_X4_lay l hst D cI _ h t0 l0 m0 a σ (nI j16) (nI j22) (nI (1 + j29)) (nI (1 + j38))) (cwV 4 hts gX5_lay_X4_lay rfl rfl rfl (by decide +kernel) ⟨Nat.le_of_ble_eq_true rfl, Nat.le_of_ble_eq_true rfl⟩) ⟨preX_blind, va_recv hK hP (ci := 4) (q0 := 0) rfl rfl, preX_of (hP.sub (ws' := wW h (a 0) t0 l0 m0 ++ sW cI a σ) [0, 1, 2, 3, 4, 5, 6] rfl) hK1 hXV (hD.sub (ws' := wW h (a 0) t0 l0 m0 ++ sW cI a σ) [0, 1, 2, 3, 4, 5, 6] (by decide) rfl) hTX hS hFc [.ref h, .int (nI j16), .int (nI j22), .int (nI (1 + j29)), .int (nI (1 + j38))]⟩ rfl rfl hl.1 rfl (lv_room (Nat.le_of_ble_eq_true rfl)) dX5_lay_53 ⟨Nat.le_of_ble_eq_true rfl, Nat.le_of_ble_eq_true rfl⟩) hS (fun q _ h => hFc q h) hFc (fun q _ h => hFc q h) (fun E ce q9 u9 t9 H1 locs ht hvm hpx hBX9 hz1 hk1 hS hq9 hce hcl => ?_) (fun r9 u9 t9 H1 locs ht hvm hw hB hz1 hk1 hS => ?_)
      · exact absurd ((lay_T hI (b := j16) (e := j22) (s := 1 + j29) (t := 1 + j38) hj16 hj22 (by omega) (by omega) (by omega) (by omega)).1 qd) hpx
      · obtain ⟨hT9, hR9, hU9⟩ := hw
        obtain ⟨hP1, -, hD1⟩ := hB
        rw [ht] at hP1
        rw [hU9] at hP1 hD1
        rw [hR9]
        obtain ⟨hP, hD⟩ := va_joinQ (wr := dW cI cZ cG cY o rr h b ((((dr + 1) + 1) + 1) + 1) δ Y) (w1 := wW h (a 0) t0 l0 m0 ++ sW cI a (addEffectF σ (nI j16) (nI j22) (nI (1 + j29)) (nI (1 + j38)))) hP hD [0, 1, 2, 3, 4, 5, 6] [7, 8, 9, 10, 11, 12] rfl rfl (by decide) (by decide) hk1 hFc hP1 hD1
        generalize H1 = H at hP hS ⊢
        have hP : va_P D vwCl (dW cI cZ cG cY o rr h b ((((dr + 1) + 1) + 1) + 1) δ Y ++ wW h (a 0) t0 l0 m0 ++ sW cI a (addEffectF σ (nI j16) (nI j22) (nI (1 + j29)) (nI (1 + j38))) ++ bW cI rr (d_n δ) (d_R δ)) H := hP
        have hD : va_D A (dW cI cZ cG cY o rr h b ((((dr + 1) + 1) + 1) + 1) δ Y ++ wW h (a 0) t0 l0 m0 ++ sW cI a (addEffectF σ (nI j16) (nI j22) (nI (1 + j29)) (nI (1 + j38))) ++ bW cI rr (d_n δ) (d_R δ)) := hD
        refine lv_istore (lv' := [(5, .int (stackF (addEffectF σ (nI j16) (nI j22) (nI (1 + j29)) (nI (1 + j38))) (nI j16) (nI j22))), (4, .int (nI (1 + j38))), (3, .int (nI (1 + j29))), (2, .int (nI j22)), (1, .int (nI j16)), (0, .ref (o 0))]) hx hb dX5_lay_56 hl (by decide) rfl (fun ls hl => ?_)
        refine lv_aload_n hx hb dX5_lay_58 rfl (lv_at hl 5 rfl) ?_
        refine va_get (D := D) (ci := 5) (v := .ref (o 5)) (C := RX5) (T := TX5) (N := 8) hx hb hts (by decide +kernel) hown hK hP 0 rfl rfl 5 (by decide) (hts (.fieldLink RX5 26 "WarrenLaw$Den" "beings" "[[I") (by decide +kernel)) (fun _ h9 => h9) rfl dX5_lay_59 ?_
        refine lv_iload_n hx hb dX5_lay_62 rfl (lv_at hl 4 rfl) ?_
        refine w_ldB hx hb hK hP 5 rfl (vp_in_nI hj16 (Nat.lt_of_le_of_lt hn (by decide))) dX5_lay_63 ?_
        rw [nI_clamp (by omega)]
        refine lv_iconst (v := 1) hx hb dX5_lay_64 (by decide) ?_
        refine va_iald hx hb hK hP (13 + j16) 0 (bW_at rfl hj16) rfl (vp_in_nI (n := 1) (by decide) (by decide)) dX5_lay_65 ?_
        rw [show (1 : Int32).toNatClampNeg = 1 by decide]
        refine lv_if_ge (tgt := 71) hx hb dX5_lay_66 (by decide) (fun c_66 => ?_) (fun c_66 => absurd ((Int32.not_lt.mp qd)) c_66)
        refine lv_aload_n hx hb dX5_lay_71 rfl (lv_at hl 5 rfl) ?_
        refine va_get (D := D) (ci := 5) (v := .ref (o 5)) (C := RX5) (T := TX5) (N := 8) hx hb hts (by decide +kernel) hown hK hP 0 rfl rfl 5 (by decide) (hts (.fieldLink RX5 26 "WarrenLaw$Den" "beings" "[[I") (by decide +kernel)) (fun _ h9 => h9) rfl dX5_lay_72 ?_
        refine lv_iload_n hx hb dX5_lay_75 rfl (lv_at hl 4 rfl) ?_
        refine w_ldB hx hb hK hP 5 rfl (vp_in_nI hj16 (Nat.lt_of_le_of_lt hn (by decide))) dX5_lay_76 ?_
        rw [nI_clamp (by omega)]
        refine lv_iload_n hx hb dX5_lay_77 rfl (lv_at hl 3 rfl) ?_
        refine lv_iload_n hx hb dX5_lay_78 rfl (lv_at hl 2 rfl) ?_
        refine lv_iload hx hb dX5_lay_79 (lv_at hl 1 rfl) ?_
        have hFc := va_freeP (cx := dW cI cZ cG cY o rr h b ((((dr + 1) + 1) + 1) + 1) δ Y) hD hS hA [0, 1, 2, 3, 4, 5] rfl
        refine va_callv (va_runS (As := [.ref (rr j16), .int (nI j22), .int (nI (1 + j29)), .int (nI (1 + j38))]) (rest := []) ⟨hx, hb, hml, hown, hts⟩ (c_X5_comeOn l D cI _ cZ cG cY o rr h b ((((dr + 1) + 1) + 1) + 1) δ Y t L xs j16 j22 (nI (1 + j29)) (nI (1 + j38)) hn hj16 hj22) (va_cwS 4 hts gX5_lay_X5_comeOn rfl rfl rfl (by decide +kernel) ⟨Nat.le_of_ble_eq_true rfl, Nat.le_of_ble_eq_true rfl⟩) ⟨preD_blind, preD_of (hP.part (cx := dW cI cZ cG cY o rr h b ((((dr + 1) + 1) + 1) + 1) δ Y) [0, 1, 2, 3, 4, 5] rfl) hK (hD.part (cx := dW cI cZ cG cY o rr h b ((((dr + 1) + 1) + 1) + 1) δ Y) [0, 1, 2, 3, 4, 5] (by decide) rfl) hGX hS hFc [.ref (rr j16), .int (nI j22), .int (nI (1 + j29)), .int (nI (1 + j38))]⟩ rfl rfl hl.1 rfl (lv_room (Nat.le_of_ble_eq_true rfl)) dX5_lay_81 ⟨Nat.le_of_ble_eq_true rfl, Nat.le_of_ble_eq_true rfl⟩) hS (fun q _ h => hFc q h) hFc (fun u t9 H1 locs ht hvm hw hB hz1 hk1 hS => ?_)
        obtain ⟨hP1, -, hD1⟩ := hB
        rw [ht] at hP1
        subst hw
        obtain ⟨hP, hD⟩ := va_joinP (wr := wW h (a 0) t0 l0 m0 ++ sW cI a (addEffectF σ (nI j16) (nI j22) (nI (1 + j29)) (nI (1 + j38)))) hP hD [0, 1, 2, 3, 4, 5] [6, 7, 8, 9, 10, 11, 12] rfl rfl (by decide) (by decide) hk1 hFc hP1 hD1
        generalize H1 = H at hP hS ⊢
        have hP : va_P D vwCl (wW h (a 0) t0 l0 m0 ++ sW cI a (addEffectF σ (nI j16) (nI j22) (nI (1 + j29)) (nI (1 + j38))) ++ dW cI cZ cG cY o rr h b ((((dr + 1) + 1) + 1) + 1) (e_g δ j16 (comeR (d_R δ j16) j22 (nI (1 + j29)) (nI (1 + j38)))) Y ++ bW cI rr (d_n (e_g δ j16 (comeR (d_R δ j16) j22 (nI (1 + j29)) (nI (1 + j38))))) (d_R (e_g δ j16 (comeR (d_R δ j16) j22 (nI (1 + j29)) (nI (1 + j38)))))) H := hP
        have hD : va_D A (wW h (a 0) t0 l0 m0 ++ sW cI a (addEffectF σ (nI j16) (nI j22) (nI (1 + j29)) (nI (1 + j38))) ++ dW cI cZ cG cY o rr h b ((((dr + 1) + 1) + 1) + 1) (e_g δ j16 (comeR (d_R δ j16) j22 (nI (1 + j29)) (nI (1 + j38)))) Y ++ bW cI rr (d_n (e_g δ j16 (comeR (d_R δ j16) j22 (nI (1 + j29)) (nI (1 + j38))))) (d_R (e_g δ j16 (comeR (d_R δ j16) j22 (nI (1 + j29)) (nI (1 + j38)))))) := hD
        refine lv_iload hx hb dX5_lay_84 (lv_at hl 0 rfl) ?_
        refine lv_aload_n hx hb dX5_lay_86 rfl (lv_at hl 5 rfl) ?_
        refine va_get (D := D) (ci := 5) (v := .ref (o 5)) (C := RX5) (T := TX5) (N := 8) hx hb hts (by decide +kernel) hown hK hP 7 rfl rfl 5 (by decide) (hts (.fieldLink RX5 26 "WarrenLaw$Den" "beings" "[[I") (by decide +kernel)) (fun _ h9 => h9) rfl dX5_lay_87 ?_
        refine lv_iload_n hx hb dX5_lay_90 rfl (lv_at hl 4 rfl) ?_
        refine w_ldB hx hb hK hP 12 rfl (vp_in_nI hj16 (Nat.lt_of_le_of_lt hn (by decide))) dX5_lay_91 ?_
        rw [nI_clamp (by omega)]
        refine lv_bipush (v := 9) hx hb dX5_lay_92 (by decide) ?_
        refine lv_iload_n hx hb dX5_lay_94 rfl (lv_at hl 3 rfl) ?_
        refine lv_iadd hx hb dX5_lay_95 ?_
        rw [show (9 + (nI j22)) = nI (9 + j22) from nI_add 9 j22]
        refine va_iald hx hb hK hP (13 + j16) 0 (bW_at2 rfl hj16) rfl (vp_in_nI (by omega) (by decide)) dX5_lay_96 ?_
        rw [nI_clamp (by omega)]
        refine lv_icmp_ne (tgt := 104) hx hb dX5_lay_97 (by decide) (fun c_97 => absurd c_97 ((fun z9 => z9 (hI.lay (o := j16) (e := j22) (s := 1 + j29) (t := 1 + j38) hj16 hj22 (by omega) (by omega) (by omega) (by omega)).2))) (fun c_97 => ?_)
        refine lv_iconst (v := 1) hx hb dX5_lay_100 (by decide) ?_
        refine lv_goto (tgt := 105) hx hb dX5_lay_101 (by decide) ?_
        have hP9 := hP
        have hD9 := hD
        exact W.zret (v := 1) hx hb hr rfl (fun T9 ht hW => ⟨⟨1, ((addEffectF σ (nI j16) (nI j22) (nI (1 + j29)) (nI (1 + j38))), (e_g δ j16 (comeR (d_R δ j16) j22 (nI (1 + j29)) (nI (1 + j38)))), ((((dr + 1) + 1) + 1) + 1), Y, o, rr), rfl, ⟨rfl, (hI.lay (o := j16) (e := j22) (s := 1 + j29) (t := 1 + j38) hj16 hj22 (by omega) (by omega) (by omega) (by omega)).1, by show dr + 1 + 1 + 1 + 1 ≤ dr + 200; omega, Nat.le_refl _, rfl⟩, by rw [ht]; exact hP9, va_K.moved hW.alike hK, hD9⟩, hS.F ht⟩) hS.2.2 dX5_lay_105
  · refine lv_iconst (v := 1) hx hb dX5_lay_8 (by decide) ?_
    have hP9 := hP
    have hD9 := hD
    refine W.widen (k := 1) (n := 6) (Nat.le_of_ble_eq_true rfl) (Nat.le_of_ble_eq_true rfl) ?_
    exact W.zret (v := 1) hx hb hr rfl (fun T9 ht hW => ⟨⟨1, (σ, δ, dr, Y, o, rr), rfl, ⟨rfl, hI, by show dr ≤ dr + 200; omega, Nat.le_refl _, rfl⟩, by rw [ht]; exact hP9, va_K.moved hW.alike hK, hD9⟩, hS.F ht⟩) hS.2.2 dX5_lay_9
set_option maxHeartbeats 4000000 in
set_option maxRecDepth 100000 in
theorem c_X5_step_ (l : Launch) (hst : l.stackTraces = false) (D : va_G) (cI : ClassId) (sz : Nat) (cZ cG cY : ClassId) (t0 l0 m0 : Nat) (a o rr : Nat → Nat) (h b dr K : Nat) (σ : SS) (δ : DD) (Y : RW) (t L : Nat) (xs : Nat → Int32) (hI : IR K σ δ) (hd : dr < 900000) (hK9 : K + 1 < 1000) : Met l yX5_step_ wsX5_step_ ({ frames := 7, cells := 1, slots := 6, locals := 164 } : Room) (va_Pc [.ref (o 0)] (preD D cI cZ cG cY t b L xs (wW h (a 0) t0 l0 m0 ++ sW cI a σ ++ dW cI cZ cG cY o rr h b dr δ Y ++ bW cI rr (d_n δ) (d_R δ)) sz)) (va_Qi (fun (r : Int32) (u : (SS × DD × Nat × RW × (Nat → Nat) × (Nat → Nat))) => r = 1 ∧ IR (K + 1) u.1 u.2.1 ∧ u.2.2.1 ≤ dr + 200 ∧ d_n u.2.1 ≤ d_n δ + 0 ∧ u.2.2.2.2.1 0 = o 0) (fun (u : (SS × DD × Nat × RW × (Nat → Nat) × (Nat → Nat))) => posD D cI cZ cG cY (va_A (wW h (a 0) t0 l0 m0 ++ sW cI a σ ++ dW cI cZ cG cY o rr h b dr δ Y ++ bW cI rr (d_n δ) (d_R δ)) sz) (wW h (a 0) t0 l0 m0 ++ sW cI a u.1 ++ dW cI cZ cG cY u.2.2.2.2.1 u.2.2.2.2.2 h b u.2.2.1 u.2.1 u.2.2.2.1 ++ bW cI u.2.2.2.2.2 (d_n u.2.1) (d_R u.2.1))) (va_A (wW h (a 0) t0 l0 m0 ++ sW cI a σ ++ dW cI cZ cG cY o rr h b dr δ Y ++ bW cI rr (d_n δ) (d_R δ)) sz)) 1 6 (va_A (wW h (a 0) t0 l0 m0 ++ sW cI a σ ++ dW cI cZ cG cY o rr h b dr δ Y ++ bW cI rr (d_n δ) (d_R δ)) sz) := by
  refine Met.ofW (cc := cX5_step_) (maxL := 4) (ret := (some .boolean)) (by decide) rfl ?_
  intro p e s m args below meth c s₁ B hml hv
  obtain ⟨rfl, ⟨hsz, hP, hK, hD0⟩, hGX⟩ := hv
  have hx := B.exec
  have hb := B.bytes
  have hr := B.returns
  have hts := atoms_spec (ws := wsX5_step_) B.pre
  have hown : s.vm.findClass RX5 = some m.cls := findClass_of_methodNamed B.named
  have hlocks := B.notSynchronized
  subst hsz
  have hD := hD0.self (sz := s.heap.size)
  generalize hAe : va_A (wW h (a 0) t0 l0 m0 ++ sW cI a σ ++ dW cI cZ cG cY o rr h b dr δ Y ++ bW cI rr (d_n δ) (d_R δ)) s.heap.size = A at hD hGX ⊢
  have hA : ∀ q : Nat, s.heap.size ≤ q → A q := fun q h => by rw [← hAe]; exact Or.inr h
  have hS : va_S A s.heap s.heap [] := va_S.rf
  have hP : va_P D vwCl (wW h (a 0) t0 l0 m0 ++ sW cI a σ ++ dW cI cZ cG cY o rr h b dr δ Y ++ bW cI rr (d_n δ) (d_R δ)) s.heap := hP
  have hl := lv_entry ([.ref (o 0)]) (n := 4) (Nat.le_of_ble_eq_true rfl)
  rw [lg_entry_eq]
  generalize (lg_sl ([.ref (o 0)]) ++ List.replicate (4 - (lg_sl ([.ref (o 0)])).length) Slot.unset).toArray = ls at hl ⊢
  have hl : lv_has ls 4 [(0, .ref (o 0))] := hl
  obtain ⟨hXV, hTX, hN, hSX, hG, hBX, hnc, hnb, hov⟩ := id hGX
  have hK1 := K_D hK
  have hn := hI.1.2.1
  have hnσ : s_n σ ≤ 10 := by rw [hI.1.1]; exact hn
  refine lv_aload_n hx hb dX5_step__0 rfl (lv_at hl 0 rfl) ?_
  refine vp_callSi (va_Run.run (va_runV (As := []) (rest := []) ⟨hx, hb, hml, hown, hts⟩ (c_X5_turn l D cI cZ cG cY o rr h b dr δ Y hn) (cwV 0 hts gX5_step__X5_turn rfl rfl rfl (by decide +kernel) ⟨Nat.le_of_ble_eq_true rfl, Nat.le_of_ble_eq_true rfl⟩) ⟨preDR_blind, va_recv hK hP (ci := 5) (q0 := 7) rfl rfl, preDR_of (hP.part (cx := dW cI cZ cG cY o rr h b dr δ Y) [7, 8, 9, 10, 11, 12] rfl) hK [.ref (o 0)]⟩ rfl rfl hl.1 rfl (lv_room (Nat.le_of_ble_eq_true rfl)) dX5_step__1 ⟨Nat.zero_le _, Nat.zero_le _⟩)) (fun r9 hr9 => ?_)
  subst hr9
  refine lv_istore_n (lv' := [(1, .int (turnD δ)), (0, .ref (o 0))]) hx hb dX5_step__4 rfl hl (by decide) rfl (fun ls hl => ?_)
  refine lv_iload_n hx hb dX5_step__5 rfl (lv_at hl 0 rfl) ?_
  refine lv_if_ge (tgt := 11) hx hb dX5_step__6 (by decide) (fun c_6 => ?_) (fun c_6 => ?_)
  · obtain ⟨j9, hj9, ej9, ha9⟩ := (turnD_or (δ := δ) hn).resolve_left (fun z => absurd c_6 (by rw [z]; decide))
    rw [ej9] at hl
    have hcl9 := hI.cells
    have hin9 := hI.steps hj9 ha9
    refine lv_aload_n hx hb dX5_step__11 rfl (lv_at hl 1 rfl) ?_
    refine lv_bipush (v := 8) hx hb dX5_step__12 (by decide) ?_
    have hFc := va_freeP (cx := dW cI cZ cG cY o rr h b dr δ Y) hD hS hA [7, 8, 9, 10, 11, 12] rfl
    refine va_calli (va_runV (As := [.int 8]) (rest := []) ⟨hx, hb, hml, hown, hts⟩ (c_X5_draw l D cI _ cZ cG cY o rr h b dr δ Y t L xs 8 hn (by omega) (by omega) (by omega)) (cwV 1 hts gX5_step__X5_draw rfl rfl rfl (by decide +kernel) ⟨Nat.le_of_ble_eq_true rfl, Nat.le_of_ble_eq_true rfl⟩) ⟨preD_blind, va_recv hK hP (ci := 5) (q0 := 7) rfl rfl, preD_of (hP.part (cx := dW cI cZ cG cY o rr h b dr δ Y) [7, 8, 9, 10, 11, 12] rfl) hK (hD.part (cx := dW cI cZ cG cY o rr h b dr δ Y) [7, 8, 9, 10, 11, 12] (by decide) rfl) hGX hS hFc [.ref (o 0), .int 8]⟩ rfl rfl hl.1 rfl (lv_room (Nat.le_of_ble_eq_true rfl)) dX5_step__14 ⟨Nat.le_of_ble_eq_true rfl, Nat.le_of_ble_eq_true rfl⟩) hS (fun q _ h => hFc q h) hFc (fun r9 u t9 H1 locs ht hvm hw hB hz1 hk1 hS => ?_)
    obtain ⟨hP1, -, hD1⟩ := hB
    rw [ht] at hP1
    obtain ⟨j14, hj14, rfl⟩ := hw
    obtain ⟨hP, hD⟩ := va_joinP (wr := wW h (a 0) t0 l0 m0 ++ sW cI a σ) hP hD [7, 8, 9, 10, 11, 12] [0, 1, 2, 3, 4, 5, 6] rfl rfl (by decide) (by decide) hk1 hFc hP1 hD1
    generalize H1 = H at hP hS ⊢
    have hP : va_P D vwCl (wW h (a 0) t0 l0 m0 ++ sW cI a σ ++ dW cI cZ cG cY o rr h b (dr + 1) δ Y ++ bW cI rr (d_n δ) (d_R δ)) H := hP
    have hD : va_D A (wW h (a 0) t0 l0 m0 ++ sW cI a σ ++ dW cI cZ cG cY o rr h b (dr + 1) δ Y ++ bW cI rr (d_n δ) (d_R δ)) := hD
    refine lv_istore_n (lv' := [(2, .int (nI j14)), (1, .int (nI j9)), (0, .ref (o 0))]) hx hb dX5_step__17 rfl hl (by decide) rfl (fun ls hl => ?_)
    have L18 : ∀ (n k : Nat) (hk : k = 0 ∨ k + n = 8) (hk8 : k < 8) (H : Heap) (locs : List Loc) (ls : Array Slot), lv_has ls 4 [(2, .int (nI k)), (1, .int (nI j9)), (0, .ref (o 0))] → va_P D vwCl (wW h (a 0) t0 l0 m0 ++ sW cI a σ ++ dW cI cZ cG cY o rr h b (dr + 1) δ Y ++ bW cI rr (d_n δ) (d_R δ)) H → va_D A (wW h (a 0) t0 l0 m0 ++ sW cI a σ ++ dW cI cZ cG cY o rr h b (dr + 1) δ Y ++ bW cI rr (d_n δ) (d_R δ)) → va_S A s.heap H locs → W p l e ({ frames := 7, cells := 1, slots := 6, locals := 164 } : Room) s m ([.ref (o 0)] : List Value).toArray below meth c H locs 0 0 (MQ below (va_Qi (fun (r : Int32) (u : (SS × DD × Nat × RW × (Nat → Nat) × (Nat → Nat))) => r = 1 ∧ IR (K + 1) u.1 u.2.1 ∧ u.2.2.1 ≤ dr + 200 ∧ d_n u.2.1 ≤ d_n δ + 0 ∧ u.2.2.2.2.1 0 = o 0) (fun (u : (SS × DD × Nat × RW × (Nat → Nat) × (Nat → Nat))) => posD D cI cZ cG cY A (wW h (a 0) t0 l0 m0 ++ sW cI a u.1 ++ dW cI cZ cG cY u.2.2.2.2.1 u.2.2.2.2.2 h b u.2.2.1 u.2.1 u.2.2.2.1 ++ bW cI u.2.2.2.2.2 (d_n u.2.1) (d_R u.2.1))) A) ([.ref (o 0)] : List Value).toArray s 1 6 A) (F0 m 18 ls []) := by
      intro n
      induction n with
      | zero =>
        intro k hk hk8 H locs ls hl hP hD hS
        refine lv_aload_n hx hb dX5_step__18 rfl (lv_at hl 2 rfl) ?_
        refine lv_iload_n hx hb dX5_step__19 rfl (lv_at hl 1 rfl) ?_
        refine lv_iload_n hx hb dX5_step__20 rfl (lv_at hl 0 rfl) ?_
        refine vp_callSi (va_Run.run (va_runV (As := [.int (nI j9), .int (nI k)]) (rest := []) ⟨hx, hb, hml, hown, hts⟩ (c_X5_isPossible l D cI cZ cG cY o rr h b (dr + 1) δ Y j9 (nI k) hn hj9 hcl9 hin9) (cwV 2 hts gX5_step__X5_isPossible rfl rfl rfl (by decide +kernel) ⟨Nat.le_of_ble_eq_true rfl, Nat.le_of_ble_eq_true rfl⟩) ⟨preDR_blind, va_recv hK hP (ci := 5) (q0 := 7) rfl rfl, preDR_of (hP.part (cx := dW cI cZ cG cY o rr h b (dr + 1) δ Y) [7, 8, 9, 10, 11, 12] rfl) hK [.ref (o 0), .int (nI j9), .int (nI k)]⟩ rfl rfl hl.1 rfl (lv_room (Nat.le_of_ble_eq_true rfl)) dX5_step__21 ⟨Nat.zero_le _, Nat.zero_le _⟩)) (fun r9 hr9 => ?_)
        subst hr9
        refine w_bnz (tgt := 37) hx hb dX5_step__24 (by decide) (fun c_24 => ?_) (fun c_24 => absurd c_24 ((by rw [show k = 0 by omega, poss_0]; decide)))
        refine lv_aload_n hx hb dX5_step__37 rfl (lv_at hl 2 rfl) ?_
        refine va_get (D := D) (ci := 5) (v := .ref h) (C := RX5) (T := TX5) (N := 8) hx hb hts (by decide +kernel) hown hK hP 7 rfl rfl 0 (by decide) (hts (.fieldLink RX5 10 "WarrenLaw$Den" "m" "LWarren;") (by decide +kernel)) (fun _ h9 => h9) rfl dX5_step__38 ?_
        refine lv_iload_n hx hb dX5_step__41 rfl (lv_at hl 0 rfl) ?_
        have hFc := va_free (wc := wW h (a 0) t0 l0 m0 ++ sW cI a σ) hD hS hA [0, 1, 2, 3, 4, 5, 6] rfl
        refine vx_calli (vx_runV (As := [.int (nI k)]) (rest := []) ⟨hx, hb, hml, hown, hts⟩ (c_X4_act l hst D cI _ h t0 l0 m0 a σ (nI k) t hnσ) (cwV 1 hts gX5_step__X4_act rfl rfl rfl (by decide +kernel) ⟨Nat.le_of_ble_eq_true rfl, Nat.le_of_ble_eq_true rfl⟩) ⟨preXS_blind, va_recv hK hP (ci := 4) (q0 := 0) rfl rfl, preXS_of (hP.sub (ws' := wW h (a 0) t0 l0 m0 ++ sW cI a σ) [0, 1, 2, 3, 4, 5, 6] rfl) hK1 hXV (hD.sub (ws' := wW h (a 0) t0 l0 m0 ++ sW cI a σ) [0, 1, 2, 3, 4, 5, 6] (by decide) rfl) hTX hSX hS hFc [.ref h, .int (nI k)]⟩ rfl rfl hl.1 rfl (lv_room (Nat.le_of_ble_eq_true rfl)) dX5_step__42 ⟨Nat.le_of_ble_eq_true rfl, Nat.le_of_ble_eq_true rfl⟩) hS (fun q _ h => hFc q h) hFc (fun q _ h => hFc q h) (fun E ce q9 u9 t9 H1 locs ht hvm hpx hBX9 hz1 hk1 hS hq9 hce hcl => ?_) (fun r9 u9 t9 H1 locs ht hvm hw hB hz1 hk1 hS => ?_)
        · exact absurd (act_T hI hj9 ej9 ha9 (by omega) c_24) hpx
        · obtain ⟨hT9, hR9, hU9⟩ := hw
          obtain ⟨hP1, -, hD1⟩ := hB
          rw [ht] at hP1
          rw [hU9] at hP1 hD1
          rw [hR9]
          obtain ⟨hP, hD⟩ := va_joinQ (wr := dW cI cZ cG cY o rr h b (dr + 1) δ Y) (w1 := wW h (a 0) t0 l0 m0 ++ sW cI a (perfF σ (turnF σ) (nI k))) hP hD [0, 1, 2, 3, 4, 5, 6] [7, 8, 9, 10, 11, 12] rfl rfl (by decide) (by decide) hk1 hFc hP1 hD1
          generalize H1 = H at hP hS ⊢
          have hP : va_P D vwCl (dW cI cZ cG cY o rr h b (dr + 1) δ Y ++ wW h (a 0) t0 l0 m0 ++ sW cI a (perfF σ (turnF σ) (nI k)) ++ bW cI rr (d_n δ) (d_R δ)) H := hP
          have hD : va_D A (dW cI cZ cG cY o rr h b (dr + 1) δ Y ++ wW h (a 0) t0 l0 m0 ++ sW cI a (perfF σ (turnF σ) (nI k)) ++ bW cI rr (d_n δ) (d_R δ)) := hD
          have eT : turnF σ = nI j9 := by rw [hI.turn, ej9]
          rw [eT] at hP hD
          rw [eT]
          have hP : va_P D vwCl (dW cI cZ cG cY o rr h b (dr + 1) δ Y ++ wW h (a 0) t0 l0 m0 ++ sW cI a (perfF σ (nI j9) (nI k)) ++ bW cI rr (d_n δ) (d_R δ)) H := hP
          have hD : va_D A (dW cI cZ cG cY o rr h b (dr + 1) δ Y ++ wW h (a 0) t0 l0 m0 ++ sW cI a (perfF σ (nI j9) (nI k)) ++ bW cI rr (d_n δ) (d_R δ)) := hD
          obtain ⟨a6, a5, aN, aB, sd9, s2, s0, sc⟩ := act_args hI hK9 hj9 ha9 (by omega) c_24
          obtain ⟨hA1, hA2, hA3⟩ := hI.act hK9 hj9 ha9 (by omega) c_24
          refine lv_istore_n (lv' := [(3, .int (lostF σ (nI j9) (nI k))), (2, .int (nI k)), (1, .int (nI j9)), (0, .ref (o 0))]) hx hb dX5_step__45 rfl hl (by decide) rfl (fun ls hl => ?_)
          refine lv_iload_n hx hb dX5_step__46 rfl (lv_at hl 0 rfl) ?_
          refine lv_aload_n hx hb dX5_step__47 rfl (lv_at hl 3 rfl) ?_
          refine lv_iload_n hx hb dX5_step__48 rfl (lv_at hl 2 rfl) ?_
          refine lv_iload_n hx hb dX5_step__49 rfl (lv_at hl 1 rfl) ?_
          have hFc := va_freeP (cx := dW cI cZ cG cY o rr h b (dr + 1) δ Y) hD hS hA [0, 1, 2, 3, 4, 5] rfl
          refine va_calli (va_runV (As := [.int (nI j9), .int (nI k)]) (rest := [.int (lostF σ (nI j9) (nI k))]) ⟨hx, hb, hml, hown, hts⟩ (c_X5_act l D cI _ cZ cG cY o rr h b (dr + 1) δ Y t L xs j9 (nI k) sd9 hn hj9 (Nat.lt_of_le_of_lt hn (by decide)) a6 hin9 (go1_cells hI hj9 ha9 (by omega) c_24) a5 aN aB s2 s0 sc) (cwV 2 hts gX5_step__X5_act rfl rfl rfl (by decide +kernel) ⟨Nat.le_of_ble_eq_true rfl, Nat.le_of_ble_eq_true rfl⟩) ⟨preD_blind, va_recv hK hP (ci := 5) (q0 := 0) rfl rfl, preD_of (hP.part (cx := dW cI cZ cG cY o rr h b (dr + 1) δ Y) [0, 1, 2, 3, 4, 5] rfl) hK (hD.part (cx := dW cI cZ cG cY o rr h b (dr + 1) δ Y) [0, 1, 2, 3, 4, 5] (by decide) rfl) hGX hS hFc [.ref (o 0), .int (nI j9), .int (nI k)]⟩ rfl rfl hl.1 rfl (lv_room (Nat.le_of_ble_eq_true rfl)) dX5_step__50 ⟨Nat.le_of_ble_eq_true rfl, Nat.le_of_ble_eq_true rfl⟩) hS (fun q _ h => hFc q h) hFc (fun r9 u t9 H1 locs ht hvm hw hB hz1 hk1 hS => ?_)
          obtain ⟨hP1, -, hD1⟩ := hB
          rw [ht] at hP1
          obtain ⟨d50, Y50⟩ := u
          dsimp only at hw hP1 hD1
          obtain ⟨h8, h9⟩ := hw
          rw [h8]
          rw [h9] at hP1 hD1
          obtain ⟨hP, hD⟩ := va_joinP (wr := wW h (a 0) t0 l0 m0 ++ sW cI a (perfF σ (nI j9) (nI k))) hP hD [0, 1, 2, 3, 4, 5] [6, 7, 8, 9, 10, 11, 12] rfl rfl (by decide) (by decide) hk1 hFc hP1 hD1
          generalize H1 = H at hP hS ⊢
          have hP : va_P D vwCl (wW h (a 0) t0 l0 m0 ++ sW cI a (perfF σ (nI j9) (nI k)) ++ dW cI cZ cG cY o rr h b (dr + 1) (actD δ j9 (nI k)) Y50 ++ bW cI rr (d_n (actD δ j9 (nI k))) (d_R (actD δ j9 (nI k)))) H := hP
          have hD : va_D A (wW h (a 0) t0 l0 m0 ++ sW cI a (perfF σ (nI j9) (nI k)) ++ dW cI cZ cG cY o rr h b (dr + 1) (actD δ j9 (nI k)) Y50 ++ bW cI rr (d_n (actD δ j9 (nI k))) (d_R (actD δ j9 (nI k)))) := hD
          refine lv_icmp_ne (tgt := 60) hx hb dX5_step__53 (by decide) (fun c_53 => absurd c_53 ((fun z9 => z9 hA2))) (fun c_53 => ?_)
          refine lv_iconst (v := 1) hx hb dX5_step__56 (by decide) ?_
          refine lv_goto (tgt := 61) hx hb dX5_step__57 (by decide) ?_
          have hP9 := hP
          have hD9 := hD
          exact W.zret (v := 1) hx hb hr rfl (fun T9 ht hW => ⟨⟨1, ((perfF σ (nI j9) (nI k)), (actD δ j9 (nI k)), (dr + 1), Y50, o, rr), rfl, ⟨rfl, hA1, by show dr + 1 ≤ dr + 200; omega, Nat.le_of_eq hA3, rfl⟩, by rw [ht]; exact hP9, va_K.moved hW.alike hK, hD9⟩, hS.F ht⟩) hS.2.2 dX5_step__61
      | succ n ih18 =>
        intro k hk hk8 H locs ls hl hP hD hS
        refine lv_aload_n hx hb dX5_step__18 rfl (lv_at hl 2 rfl) ?_
        refine lv_iload_n hx hb dX5_step__19 rfl (lv_at hl 1 rfl) ?_
        refine lv_iload_n hx hb dX5_step__20 rfl (lv_at hl 0 rfl) ?_
        refine vp_callSi (va_Run.run (va_runV (As := [.int (nI j9), .int (nI k)]) (rest := []) ⟨hx, hb, hml, hown, hts⟩ (c_X5_isPossible l D cI cZ cG cY o rr h b (dr + 1) δ Y j9 (nI k) hn hj9 hcl9 hin9) (cwV 2 hts gX5_step__X5_isPossible rfl rfl rfl (by decide +kernel) ⟨Nat.le_of_ble_eq_true rfl, Nat.le_of_ble_eq_true rfl⟩) ⟨preDR_blind, va_recv hK hP (ci := 5) (q0 := 7) rfl rfl, preDR_of (hP.part (cx := dW cI cZ cG cY o rr h b (dr + 1) δ Y) [7, 8, 9, 10, 11, 12] rfl) hK [.ref (o 0), .int (nI j9), .int (nI k)]⟩ rfl rfl hl.1 rfl (lv_room (Nat.le_of_ble_eq_true rfl)) dX5_step__21 ⟨Nat.zero_le _, Nat.zero_le _⟩)) (fun r9 hr9 => ?_)
        subst hr9
        refine w_bnz (tgt := 37) hx hb dX5_step__24 (by decide) (fun c_24 => ?_) (fun c_24 => ?_)
        · refine lv_aload_n hx hb dX5_step__37 rfl (lv_at hl 2 rfl) ?_
          refine va_get (D := D) (ci := 5) (v := .ref h) (C := RX5) (T := TX5) (N := 8) hx hb hts (by decide +kernel) hown hK hP 7 rfl rfl 0 (by decide) (hts (.fieldLink RX5 10 "WarrenLaw$Den" "m" "LWarren;") (by decide +kernel)) (fun _ h9 => h9) rfl dX5_step__38 ?_
          refine lv_iload_n hx hb dX5_step__41 rfl (lv_at hl 0 rfl) ?_
          have hFc := va_free (wc := wW h (a 0) t0 l0 m0 ++ sW cI a σ) hD hS hA [0, 1, 2, 3, 4, 5, 6] rfl
          refine vx_calli (vx_runV (As := [.int (nI k)]) (rest := []) ⟨hx, hb, hml, hown, hts⟩ (c_X4_act l hst D cI _ h t0 l0 m0 a σ (nI k) t hnσ) (cwV 1 hts gX5_step__X4_act rfl rfl rfl (by decide +kernel) ⟨Nat.le_of_ble_eq_true rfl, Nat.le_of_ble_eq_true rfl⟩) ⟨preXS_blind, va_recv hK hP (ci := 4) (q0 := 0) rfl rfl, preXS_of (hP.sub (ws' := wW h (a 0) t0 l0 m0 ++ sW cI a σ) [0, 1, 2, 3, 4, 5, 6] rfl) hK1 hXV (hD.sub (ws' := wW h (a 0) t0 l0 m0 ++ sW cI a σ) [0, 1, 2, 3, 4, 5, 6] (by decide) rfl) hTX hSX hS hFc [.ref h, .int (nI k)]⟩ rfl rfl hl.1 rfl (lv_room (Nat.le_of_ble_eq_true rfl)) dX5_step__42 ⟨Nat.le_of_ble_eq_true rfl, Nat.le_of_ble_eq_true rfl⟩) hS (fun q _ h => hFc q h) hFc (fun q _ h => hFc q h) (fun E ce q9 u9 t9 H1 locs ht hvm hpx hBX9 hz1 hk1 hS hq9 hce hcl => ?_) (fun r9 u9 t9 H1 locs ht hvm hw hB hz1 hk1 hS => ?_)
          · exact absurd (act_T hI hj9 ej9 ha9 (by omega) c_24) hpx
          · obtain ⟨hT9, hR9, hU9⟩ := hw
            obtain ⟨hP1, -, hD1⟩ := hB
            rw [ht] at hP1
            rw [hU9] at hP1 hD1
            rw [hR9]
            obtain ⟨hP, hD⟩ := va_joinQ (wr := dW cI cZ cG cY o rr h b (dr + 1) δ Y) (w1 := wW h (a 0) t0 l0 m0 ++ sW cI a (perfF σ (turnF σ) (nI k))) hP hD [0, 1, 2, 3, 4, 5, 6] [7, 8, 9, 10, 11, 12] rfl rfl (by decide) (by decide) hk1 hFc hP1 hD1
            generalize H1 = H at hP hS ⊢
            have hP : va_P D vwCl (dW cI cZ cG cY o rr h b (dr + 1) δ Y ++ wW h (a 0) t0 l0 m0 ++ sW cI a (perfF σ (turnF σ) (nI k)) ++ bW cI rr (d_n δ) (d_R δ)) H := hP
            have hD : va_D A (dW cI cZ cG cY o rr h b (dr + 1) δ Y ++ wW h (a 0) t0 l0 m0 ++ sW cI a (perfF σ (turnF σ) (nI k)) ++ bW cI rr (d_n δ) (d_R δ)) := hD
            have eT : turnF σ = nI j9 := by rw [hI.turn, ej9]
            rw [eT] at hP hD
            rw [eT]
            have hP : va_P D vwCl (dW cI cZ cG cY o rr h b (dr + 1) δ Y ++ wW h (a 0) t0 l0 m0 ++ sW cI a (perfF σ (nI j9) (nI k)) ++ bW cI rr (d_n δ) (d_R δ)) H := hP
            have hD : va_D A (dW cI cZ cG cY o rr h b (dr + 1) δ Y ++ wW h (a 0) t0 l0 m0 ++ sW cI a (perfF σ (nI j9) (nI k)) ++ bW cI rr (d_n δ) (d_R δ)) := hD
            obtain ⟨a6, a5, aN, aB, sd9, s2, s0, sc⟩ := act_args hI hK9 hj9 ha9 (by omega) c_24
            obtain ⟨hA1, hA2, hA3⟩ := hI.act hK9 hj9 ha9 (by omega) c_24
            refine lv_istore_n (lv' := [(3, .int (lostF σ (nI j9) (nI k))), (2, .int (nI k)), (1, .int (nI j9)), (0, .ref (o 0))]) hx hb dX5_step__45 rfl hl (by decide) rfl (fun ls hl => ?_)
            refine lv_iload_n hx hb dX5_step__46 rfl (lv_at hl 0 rfl) ?_
            refine lv_aload_n hx hb dX5_step__47 rfl (lv_at hl 3 rfl) ?_
            refine lv_iload_n hx hb dX5_step__48 rfl (lv_at hl 2 rfl) ?_
            refine lv_iload_n hx hb dX5_step__49 rfl (lv_at hl 1 rfl) ?_
            have hFc := va_freeP (cx := dW cI cZ cG cY o rr h b (dr + 1) δ Y) hD hS hA [0, 1, 2, 3, 4, 5] rfl
            refine va_calli (va_runV (As := [.int (nI j9), .int (nI k)]) (rest := [.int (lostF σ (nI j9) (nI k))]) ⟨hx, hb, hml, hown, hts⟩ (c_X5_act l D cI _ cZ cG cY o rr h b (dr + 1) δ Y t L xs j9 (nI k) sd9 hn hj9 (Nat.lt_of_le_of_lt hn (by decide)) a6 hin9 (go1_cells hI hj9 ha9 (by omega) c_24) a5 aN aB s2 s0 sc) (cwV 2 hts gX5_step__X5_act rfl rfl rfl (by decide +kernel) ⟨Nat.le_of_ble_eq_true rfl, Nat.le_of_ble_eq_true rfl⟩) ⟨preD_blind, va_recv hK hP (ci := 5) (q0 := 0) rfl rfl, preD_of (hP.part (cx := dW cI cZ cG cY o rr h b (dr + 1) δ Y) [0, 1, 2, 3, 4, 5] rfl) hK (hD.part (cx := dW cI cZ cG cY o rr h b (dr + 1) δ Y) [0, 1, 2, 3, 4, 5] (by decide) rfl) hGX hS hFc [.ref (o 0), .int (nI j9), .int (nI k)]⟩ rfl rfl hl.1 rfl (lv_room (Nat.le_of_ble_eq_true rfl)) dX5_step__50 ⟨Nat.le_of_ble_eq_true rfl, Nat.le_of_ble_eq_true rfl⟩) hS (fun q _ h => hFc q h) hFc (fun r9 u t9 H1 locs ht hvm hw hB hz1 hk1 hS => ?_)
            obtain ⟨hP1, -, hD1⟩ := hB
            rw [ht] at hP1
            obtain ⟨d50, Y50⟩ := u
            dsimp only at hw hP1 hD1
            obtain ⟨h8, h9⟩ := hw
            rw [h8]
            rw [h9] at hP1 hD1
            obtain ⟨hP, hD⟩ := va_joinP (wr := wW h (a 0) t0 l0 m0 ++ sW cI a (perfF σ (nI j9) (nI k))) hP hD [0, 1, 2, 3, 4, 5] [6, 7, 8, 9, 10, 11, 12] rfl rfl (by decide) (by decide) hk1 hFc hP1 hD1
            generalize H1 = H at hP hS ⊢
            have hP : va_P D vwCl (wW h (a 0) t0 l0 m0 ++ sW cI a (perfF σ (nI j9) (nI k)) ++ dW cI cZ cG cY o rr h b (dr + 1) (actD δ j9 (nI k)) Y50 ++ bW cI rr (d_n (actD δ j9 (nI k))) (d_R (actD δ j9 (nI k)))) H := hP
            have hD : va_D A (wW h (a 0) t0 l0 m0 ++ sW cI a (perfF σ (nI j9) (nI k)) ++ dW cI cZ cG cY o rr h b (dr + 1) (actD δ j9 (nI k)) Y50 ++ bW cI rr (d_n (actD δ j9 (nI k))) (d_R (actD δ j9 (nI k)))) := hD
            refine lv_icmp_ne (tgt := 60) hx hb dX5_step__53 (by decide) (fun c_53 => absurd c_53 ((fun z9 => z9 hA2))) (fun c_53 => ?_)
            refine lv_iconst (v := 1) hx hb dX5_step__56 (by decide) ?_
            refine lv_goto (tgt := 61) hx hb dX5_step__57 (by decide) ?_
            have hP9 := hP
            have hD9 := hD
            exact W.zret (v := 1) hx hb hr rfl (fun T9 ht hW => ⟨⟨1, ((perfF σ (nI j9) (nI k)), (actD δ j9 (nI k)), (dr + 1), Y50, o, rr), rfl, ⟨rfl, hA1, by show dr + 1 ≤ dr + 200; omega, Nat.le_of_eq hA3, rfl⟩, by rw [ht]; exact hP9, va_K.moved hW.alike hK, hD9⟩, hS.F ht⟩) hS.2.2 dX5_step__61
        · refine lv_iload_n hx hb dX5_step__27 rfl (lv_at hl 0 rfl) ?_
          refine lv_iconst (v := 1) hx hb dX5_step__28 (by decide) ?_
          refine lv_iadd hx hb dX5_step__29 ?_
          rw [show ((nI k) + 1) = nI (k + 1) from nI_add k 1]
          refine lv_bipush (v := 8) hx hb dX5_step__30 (by decide) ?_
          refine lv_irem hx hb dX5_step__32 (by decide) ?_
          rw [show nI (k + 1) - nI (k + 1) / 8 * 8 = nI ((k + 1) % 8) from pk_rem (d := 8) (by omega) (by decide) (by decide)]
          refine lv_istore_n (lv' := [(2, .int (nI ((k + 1) % 8))), (1, .int (nI j9)), (0, .ref (o 0))]) hx hb dX5_step__33 rfl hl (by decide) rfl (fun ls hl => ?_)
          refine lv_goto (tgt := 18) hx hb dX5_step__34 (by decide) ?_
          exact ih18 ((k + 1) % 8) (step_next hk8 hk (fun z => by rw [z, poss_0] at c_24; cases c_24)).2 (step_next hk8 hk (fun z => by rw [z, poss_0] at c_24; cases c_24)).1 _ _ ls (lv_sub hl [0, 1, 2] rfl) hP hD hS
    exact L18 (8 - j14) j14 (by omega) (by omega) _ _ ls (lv_sub hl [0, 1, 2] rfl) hP hD hS
  · refine lv_iconst (v := 1) hx hb dX5_step__9 (by decide) ?_
    have hP9 := hP
    have hD9 := hD
    refine W.widen (k := 1) (n := 6) (Nat.le_of_ble_eq_true rfl) (Nat.le_of_ble_eq_true rfl) ?_
    exact W.zret (v := 1) hx hb hr rfl (fun T9 ht hW => ⟨⟨1, (σ, δ, dr, Y, o, rr), rfl, ⟨rfl, hI.up hK9, by show dr ≤ dr + 200; omega, Nat.le_refl _, rfl⟩, by rw [ht]; exact hP9, va_K.moved hW.alike hK, hD9⟩, hS.F ht⟩) hS.2.2 dX5_step__10
