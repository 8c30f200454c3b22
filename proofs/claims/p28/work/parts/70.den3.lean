-- ===== the shadow: what it asks the class, too =====
set_option maxHeartbeats 4000000 in
set_option maxRecDepth 100000 in
theorem c_X5_dig (l : Launch) (hst : l.stackTraces = false) (D : va_G) (cI : ClassId) (sz : Nat) (cZ cG cY : ClassId) (t0 l0 m0 : Nat) (a o rr : Nat → Nat) (h b dr K : Nat) (σ : SS) (δ : DD) (Y : RW) (t L : Nat) (xs : Nat → Int32) (hI : IR K σ δ) (hd : dr < 900000) : Met l yX5_dig wsX5_dig ({ frames := 7, cells := 1, slots := 6, locals := 106 } : Room) (va_Pc [.ref (o 0)] (preD D cI cZ cG cY t b L xs (wW h (a 0) t0 l0 m0 ++ sW cI a σ ++ dW cI cZ cG cY o rr h b dr δ Y ++ bW cI rr (d_n δ) (d_R δ)) sz)) (va_Qi (fun (r : Int32) (u : (SS × DD × Nat × RW × (Nat → Nat) × (Nat → Nat))) => r = 1 ∧ IR (K) u.1 u.2.1 ∧ u.2.2.1 ≤ dr + 200 ∧ d_n u.2.1 ≤ d_n δ + 0) (fun (u : (SS × DD × Nat × RW × (Nat → Nat) × (Nat → Nat))) => posD D cI cZ cG cY (va_A (wW h (a 0) t0 l0 m0 ++ sW cI a σ ++ dW cI cZ cG cY o rr h b dr δ Y ++ bW cI rr (d_n δ) (d_R δ)) sz) (wW h (a 0) t0 l0 m0 ++ sW cI a u.1 ++ dW cI cZ cG cY u.2.2.2.2.1 u.2.2.2.2.2 h b u.2.2.1 u.2.1 u.2.2.2.1 ++ bW cI u.2.2.2.2.2 (d_n u.2.1) (d_R u.2.1))) (va_A (wW h (a 0) t0 l0 m0 ++ sW cI a σ ++ dW cI cZ cG cY o rr h b dr δ Y ++ bW cI rr (d_n δ) (d_R δ)) sz)) 1 6 (va_A (wW h (a 0) t0 l0 m0 ++ sW cI a σ ++ dW cI cZ cG cY o rr h b dr δ Y ++ bW cI rr (d_n δ) (d_R δ)) sz) := by
  refine Met.ofW (cc := cX5_dig) (maxL := 9) (ret := (some .boolean)) (by decide) rfl ?_
  intro p e s m args below meth c s₁ B hml hv
  obtain ⟨rfl, ⟨hsz, hP, hK, hD0⟩, hGX⟩ := hv
  have hx := B.exec
  have hb := B.bytes
  have hr := B.returns
  have hts := atoms_spec (ws := wsX5_dig) B.pre
  have hown : s.vm.findClass RX5 = some m.cls := findClass_of_methodNamed B.named
  have hlocks := B.notSynchronized
  subst hsz
  have hD := hD0.self (sz := s.heap.size)
  generalize hAe : va_A (wW h (a 0) t0 l0 m0 ++ sW cI a σ ++ dW cI cZ cG cY o rr h b dr δ Y ++ bW cI rr (d_n δ) (d_R δ)) s.heap.size = A at hD hGX ⊢
  have hA : ∀ q : Nat, s.heap.size ≤ q → A q := fun q h => by rw [← hAe]; exact Or.inr h
  have hS : va_S A s.heap s.heap [] := va_S.rf
  have hP : va_P D vwCl (wW h (a 0) t0 l0 m0 ++ sW cI a σ ++ dW cI cZ cG cY o rr h b dr δ Y ++ bW cI rr (d_n δ) (d_R δ)) s.heap := hP
  have hl := lv_entry ([.ref (o 0)]) (n := 9) (Nat.le_of_ble_eq_true rfl)
  rw [lg_entry_eq]
  generalize (lg_sl ([.ref (o 0)]) ++ List.replicate (9 - (lg_sl ([.ref (o 0)])).length) Slot.unset).toArray = ls at hl ⊢
  have hl : lv_has ls 9 [(0, .ref (o 0))] := hl
  obtain ⟨hXV, hTX, hN, hSX, hG, hBX, hnc, hnb, hov⟩ := id hGX
  have hK1 := K_D hK
  have hn := hI.1.2.1
  have hnσ : s_n σ ≤ 10 := by rw [hI.1.1]; exact hn
  refine lv_aload_n hx hb dX5_dig_0 rfl (lv_at hl 0 rfl) ?_
  refine lv_bipush (v := 12) hx hb dX5_dig_1 (by decide) ?_
  have hFc := va_freeP (cx := dW cI cZ cG cY o rr h b dr δ Y) hD hS hA [7, 8, 9, 10, 11, 12] rfl
  refine va_calli (va_runV (As := [.int 12]) (rest := []) ⟨hx, hb, hml, hown, hts⟩ (c_X5_draw l D cI _ cZ cG cY o rr h b dr δ Y t L xs 12 hn (by omega) (by omega) (by omega)) (cwV 1 hts gX5_dig_X5_draw rfl rfl rfl (by decide +kernel) ⟨Nat.le_of_ble_eq_true rfl, Nat.le_of_ble_eq_true rfl⟩) ⟨preD_blind, va_recv hK hP (ci := 5) (q0 := 7) rfl rfl, preD_of (hP.part (cx := dW cI cZ cG cY o rr h b dr δ Y) [7, 8, 9, 10, 11, 12] rfl) hK (hD.part (cx := dW cI cZ cG cY o rr h b dr δ Y) [7, 8, 9, 10, 11, 12] (by decide) rfl) hGX hS hFc [.ref (o 0), .int 12]⟩ rfl rfl hl.1 rfl (lv_room (Nat.le_of_ble_eq_true rfl)) dX5_dig_3 ⟨Nat.le_of_ble_eq_true rfl, Nat.le_of_ble_eq_true rfl⟩) hS (fun q _ h => hFc q h) hFc (fun r9 u t9 H1 locs ht hvm hw hB hz1 hk1 hS => ?_)
  obtain ⟨hP1, -, hD1⟩ := hB
  rw [ht] at hP1
  obtain ⟨j3, hj3, rfl⟩ := hw
  obtain ⟨hP, hD⟩ := va_joinP (wr := wW h (a 0) t0 l0 m0 ++ sW cI a σ) hP hD [7, 8, 9, 10, 11, 12] [0, 1, 2, 3, 4, 5, 6] rfl rfl (by decide) (by decide) hk1 hFc hP1 hD1
  generalize H1 = H at hP hS ⊢
  have hP : va_P D vwCl (wW h (a 0) t0 l0 m0 ++ sW cI a σ ++ dW cI cZ cG cY o rr h b (dr + 1) δ Y ++ bW cI rr (d_n δ) (d_R δ)) H := hP
  have hD : va_D A (wW h (a 0) t0 l0 m0 ++ sW cI a σ ++ dW cI cZ cG cY o rr h b (dr + 1) δ Y ++ bW cI rr (d_n δ) (d_R δ)) := hD
  refine lv_istore_n (lv' := [(1, .int (nI j3)), (0, .ref (o 0))]) hx hb dX5_dig_6 rfl hl (by decide) rfl (fun ls hl => ?_)
  refine lv_aload_n hx hb dX5_dig_7 rfl (lv_at hl 1 rfl) ?_
  refine lv_bipush (v := 7) hx hb dX5_dig_8 (by decide) ?_
  have hFc := va_freeP (cx := dW cI cZ cG cY o rr h b (dr + 1) δ Y) hD hS hA [7, 8, 9, 10, 11, 12] rfl
  refine va_calli (va_runV (As := [.int 7]) (rest := []) ⟨hx, hb, hml, hown, hts⟩ (c_X5_draw l D cI _ cZ cG cY o rr h b (dr + 1) δ Y t L xs 7 hn (by omega) (by omega) (by omega)) (cwV 1 hts gX5_dig_X5_draw rfl rfl rfl (by decide +kernel) ⟨Nat.le_of_ble_eq_true rfl, Nat.le_of_ble_eq_true rfl⟩) ⟨preD_blind, va_recv hK hP (ci := 5) (q0 := 7) rfl rfl, preD_of (hP.part (cx := dW cI cZ cG cY o rr h b (dr + 1) δ Y) [7, 8, 9, 10, 11, 12] rfl) hK (hD.part (cx := dW cI cZ cG cY o rr h b (dr + 1) δ Y) [7, 8, 9, 10, 11, 12] (by decide) rfl) hGX hS hFc [.ref (o 0), .int 7]⟩ rfl rfl hl.1 rfl (lv_room (Nat.le_of_ble_eq_true rfl)) dX5_dig_10 ⟨Nat.le_of_ble_eq_true rfl, Nat.le_of_ble_eq_true rfl⟩) hS (fun q _ h => hFc q h) hFc (fun r9 u t9 H1 locs ht hvm hw hB hz1 hk1 hS => ?_)
  obtain ⟨hP1, -, hD1⟩ := hB
  rw [ht] at hP1
  obtain ⟨j10, hj10, rfl⟩ := hw
  obtain ⟨hP, hD⟩ := va_joinP (wr := wW h (a 0) t0 l0 m0 ++ sW cI a σ) hP hD [7, 8, 9, 10, 11, 12] [0, 1, 2, 3, 4, 5, 6] rfl rfl (by decide) (by decide) hk1 hFc hP1 hD1
  generalize H1 = H at hP hS ⊢
  have hP : va_P D vwCl (wW h (a 0) t0 l0 m0 ++ sW cI a σ ++ dW cI cZ cG cY o rr h b ((dr + 1) + 1) δ Y ++ bW cI rr (d_n δ) (d_R δ)) H := hP
  have hD : va_D A (wW h (a 0) t0 l0 m0 ++ sW cI a σ ++ dW cI cZ cG cY o rr h b ((dr + 1) + 1) δ Y ++ bW cI rr (d_n δ) (d_R δ)) := hD
  refine lv_istore_n (lv' := [(2, .int (nI j10)), (1, .int (nI j3)), (0, .ref (o 0))]) hx hb dX5_dig_13 rfl hl (by decide) rfl (fun ls hl => ?_)
  refine lv_iconst (v := 3) hx hb dX5_dig_14 (by decide) ?_
  refine lv_aload_n hx hb dX5_dig_15 rfl (lv_at hl 2 rfl) ?_
  refine lv_bipush (v := 16) hx hb dX5_dig_16 (by decide) ?_
  refine lv_iload_n hx hb dX5_dig_18 rfl (lv_at hl 1 rfl) ?_
  refine lv_isub hx hb dX5_dig_19 ?_
  rw [show (16 - (nI j3)) = nI (16 - j3) from pk_sub (a := 16) (b := j3) (by omega)]
  refine lv_iconst (v := 2) hx hb dX5_dig_20 (by decide) ?_
  refine lv_isub hx hb dX5_dig_21 ?_
  rw [show ((nI (16 - j3)) - 2) = nI (16 - j3 - 2) from pk_sub (a := 16 - j3) (b := 2) (by omega)]
  have hFc := va_freeP (cx := dW cI cZ cG cY o rr h b ((dr + 1) + 1) δ Y) hD hS hA [7, 8, 9, 10, 11, 12] rfl
  refine va_calli (va_runV (As := [.int (nI (16 - j3 - 2))]) (rest := [.int 3]) ⟨hx, hb, hml, hown, hts⟩ (c_X5_draw l D cI _ cZ cG cY o rr h b ((dr + 1) + 1) δ Y t L xs (16 - j3 - 2) hn (by omega) (by omega) (by omega)) (cwV 1 hts gX5_dig_X5_draw rfl rfl rfl (by decide +kernel) ⟨Nat.le_of_ble_eq_true rfl, Nat.le_of_ble_eq_true rfl⟩) ⟨preD_blind, va_recv hK hP (ci := 5) (q0 := 7) rfl rfl, preD_of (hP.part (cx := dW cI cZ cG cY o rr h b ((dr + 1) + 1) δ Y) [7, 8, 9, 10, 11, 12] rfl) hK (hD.part (cx := dW cI cZ cG cY o rr h b ((dr + 1) + 1) δ Y) [7, 8, 9, 10, 11, 12] (by decide) rfl) hGX hS hFc [.ref (o 0), .int (nI (16 - j3 - 2))]⟩ rfl rfl hl.1 rfl (lv_room (Nat.le_of_ble_eq_true rfl)) dX5_dig_22 ⟨Nat.le_of_ble_eq_true rfl, Nat.le_of_ble_eq_true rfl⟩) hS (fun q _ h => hFc q h) hFc (fun r9 u t9 H1 locs ht hvm hw hB hz1 hk1 hS => ?_)
  obtain ⟨hP1, -, hD1⟩ := hB
  rw [ht] at hP1
  obtain ⟨j22, hj22, rfl⟩ := hw
  obtain ⟨hP, hD⟩ := va_joinP (wr := wW h (a 0) t0 l0 m0 ++ sW cI a σ) hP hD [7, 8, 9, 10, 11, 12] [0, 1, 2, 3, 4, 5, 6] rfl rfl (by decide) (by decide) hk1 hFc hP1 hD1
  generalize H1 = H at hP hS ⊢
  have hP : va_P D vwCl (wW h (a 0) t0 l0 m0 ++ sW cI a σ ++ dW cI cZ cG cY o rr h b (((dr + 1) + 1) + 1) δ Y ++ bW cI rr (d_n δ) (d_R δ)) H := hP
  have hD : va_D A (wW h (a 0) t0 l0 m0 ++ sW cI a σ ++ dW cI cZ cG cY o rr h b (((dr + 1) + 1) + 1) δ Y ++ bW cI rr (d_n δ) (d_R δ)) := hD
  refine lv_iadd hx hb dX5_dig_25 ?_
  rw [show (3 + (nI j22)) = nI (3 + j22) from nI_add 3 j22]
  refine lv_istore_n (lv' := [(3, .int (nI (3 + j22))), (2, .int (nI j10)), (1, .int (nI j3)), (0, .ref (o 0))]) hx hb dX5_dig_26 rfl hl (by decide) rfl (fun ls hl => ?_)
  refine lv_iconst (v := 2) hx hb dX5_dig_27 (by decide) ?_
  refine lv_aload_n hx hb dX5_dig_28 rfl (lv_at hl 3 rfl) ?_
  refine lv_bipush (v := 10) hx hb dX5_dig_29 (by decide) ?_
  refine lv_iload_n hx hb dX5_dig_31 rfl (lv_at hl 1 rfl) ?_
  refine lv_isub hx hb dX5_dig_32 ?_
  rw [show (10 - (nI j10)) = nI (10 - j10) from pk_sub (a := 10) (b := j10) (by omega)]
  refine lv_iconst (v := 1) hx hb dX5_dig_33 (by decide) ?_
  refine lv_isub hx hb dX5_dig_34 ?_
  rw [show ((nI (10 - j10)) - 1) = nI (10 - j10 - 1) from pk_sub (a := 10 - j10) (b := 1) (by omega)]
  have hFc := va_freeP (cx := dW cI cZ cG cY o rr h b (((dr + 1) + 1) + 1) δ Y) hD hS hA [7, 8, 9, 10, 11, 12] rfl
  refine va_calli (va_runV (As := [.int (nI (10 - j10 - 1))]) (rest := [.int 2]) ⟨hx, hb, hml, hown, hts⟩ (c_X5_draw l D cI _ cZ cG cY o rr h b (((dr + 1) + 1) + 1) δ Y t L xs (10 - j10 - 1) hn (by omega) (by omega) (by omega)) (cwV 1 hts gX5_dig_X5_draw rfl rfl rfl (by decide +kernel) ⟨Nat.le_of_ble_eq_true rfl, Nat.le_of_ble_eq_true rfl⟩) ⟨preD_blind, va_recv hK hP (ci := 5) (q0 := 7) rfl rfl, preD_of (hP.part (cx := dW cI cZ cG cY o rr h b (((dr + 1) + 1) + 1) δ Y) [7, 8, 9, 10, 11, 12] rfl) hK (hD.part (cx := dW cI cZ cG cY o rr h b (((dr + 1) + 1) + 1) δ Y) [7, 8, 9, 10, 11, 12] (by decide) rfl) hGX hS hFc [.ref (o 0), .int (nI (10 - j10 - 1))]⟩ rfl rfl hl.1 rfl (lv_room (Nat.le_of_ble_eq_true rfl)) dX5_dig_35 ⟨Nat.le_of_ble_eq_true rfl, Nat.le_of_ble_eq_true rfl⟩) hS (fun q _ h => hFc q h) hFc (fun r9 u t9 H1 locs ht hvm hw hB hz1 hk1 hS => ?_)
  obtain ⟨hP1, -, hD1⟩ := hB
  rw [ht] at hP1
  obtain ⟨j35, hj35, rfl⟩ := hw
  obtain ⟨hP, hD⟩ := va_joinP (wr := wW h (a 0) t0 l0 m0 ++ sW cI a σ) hP hD [7, 8, 9, 10, 11, 12] [0, 1, 2, 3, 4, 5, 6] rfl rfl (by decide) (by decide) hk1 hFc hP1 hD1
  generalize H1 = H at hP hS ⊢
  have hP : va_P D vwCl (wW h (a 0) t0 l0 m0 ++ sW cI a σ ++ dW cI cZ cG cY o rr h b ((((dr + 1) + 1) + 1) + 1) δ Y ++ bW cI rr (d_n δ) (d_R δ)) H := hP
  have hD : va_D A (wW h (a 0) t0 l0 m0 ++ sW cI a σ ++ dW cI cZ cG cY o rr h b ((((dr + 1) + 1) + 1) + 1) δ Y ++ bW cI rr (d_n δ) (d_R δ)) := hD
  refine lv_iadd hx hb dX5_dig_38 ?_
  rw [show (2 + (nI j35)) = nI (2 + j35) from nI_add 2 j35]
  refine lv_istore (lv' := [(4, .int (nI (2 + j35))), (3, .int (nI (3 + j22))), (2, .int (nI j10)), (1, .int (nI j3)), (0, .ref (o 0))]) hx hb dX5_dig_39 hl (by decide) rfl (fun ls hl => ?_)
  refine lv_iconst (v := 0) hx hb dX5_dig_41 (by decide) ?_
  refine lv_istore (lv' := [(5, .int 0), (4, .int (nI (2 + j35))), (3, .int (nI (3 + j22))), (2, .int (nI j10)), (1, .int (nI j3)), (0, .ref (o 0))]) hx hb dX5_dig_42 hl (by decide) rfl (fun ls hl => ?_)
  refine lv_iload_n hx hb dX5_dig_44 rfl (lv_at hl 4 rfl) ?_
  refine lv_istore (lv' := [(6, .int (nI j3)), (5, .int 0), (4, .int (nI (2 + j35))), (3, .int (nI (3 + j22))), (2, .int (nI j10)), (1, .int (nI j3)), (0, .ref (o 0))]) hx hb dX5_dig_45 hl (by decide) rfl (fun ls hl => ?_)
  have L47 : ∀ (n k : Nat) (z : ZZ) (hk : k + n = j3 + (3 + j22)) (hz : digDC j10 (2 + j35) (3 + j22) j3 (d_k δ, 0) = digDC j10 (2 + j35) n k z) (H : Heap) (locs : List Loc) (ls : Array Slot), lv_has ls 9 [(6, .int (nI k)), (5, .int z.2), (4, .int (nI (2 + j35))), (3, .int (nI (3 + j22))), (2, .int (nI j10)), (1, .int (nI j3)), (0, .ref (o 0))] → va_P D vwCl (wW h (a 0) t0 l0 m0 ++ sW cI a σ ++ dW cI cZ cG cY o rr h b (dr + 1 + 1 + 1 + 1) (e_k δ z.1) Y ++ bW cI rr (d_n (e_k δ z.1)) (d_R (e_k δ z.1))) H → va_D A (wW h (a 0) t0 l0 m0 ++ sW cI a σ ++ dW cI cZ cG cY o rr h b (dr + 1 + 1 + 1 + 1) (e_k δ z.1) Y ++ bW cI rr (d_n (e_k δ z.1)) (d_R (e_k δ z.1))) → va_S A s.heap H locs → W p l e ({ frames := 7, cells := 1, slots := 6, locals := 106 } : Room) s m ([.ref (o 0)] : List Value).toArray below meth c H locs 0 0 (MQ below (va_Qi (fun (r : Int32) (u : (SS × DD × Nat × RW × (Nat → Nat) × (Nat → Nat))) => r = 1 ∧ IR (K) u.1 u.2.1 ∧ u.2.2.1 ≤ dr + 200 ∧ d_n u.2.1 ≤ d_n δ + 0) (fun (u : (SS × DD × Nat × RW × (Nat → Nat) × (Nat → Nat))) => posD D cI cZ cG cY A (wW h (a 0) t0 l0 m0 ++ sW cI a u.1 ++ dW cI cZ cG cY u.2.2.2.2.1 u.2.2.2.2.2 h b u.2.2.1 u.2.1 u.2.2.2.1 ++ bW cI u.2.2.2.2.2 (d_n u.2.1) (d_R u.2.1))) A) ([.ref (o 0)] : List Value).toArray s 1 6 A) (F0 m 47 ls []) := by
    intro n
    induction n with
    | zero =>
      intro k z hk hz H locs ls hl hP hD hS
      refine lv_iload hx hb dX5_dig_47 (lv_at hl 0 rfl) ?_
      refine lv_iload_n hx hb dX5_dig_49 rfl (lv_at hl 5 rfl) ?_
      refine lv_iload_n hx hb dX5_dig_50 rfl (lv_at hl 3 rfl) ?_
      refine lv_iadd hx hb dX5_dig_51 ?_
      rw [show ((nI j3) + (nI (3 + j22))) = nI (j3 + (3 + j22)) from nI_add j3 (3 + j22)]
      refine lv_icmp_ge (tgt := 121) hx hb dX5_dig_52 (by decide) (fun c_52 => ?_) (fun c_52 => absurd (nI_le (by omega) (by omega)) c_52)
      refine lv_aload_n hx hb dX5_dig_121 rfl (lv_at hl 6 rfl) ?_
      refine va_get (D := D) (ci := 5) (v := .ref h) (C := RX5) (T := TX5) (N := 8) hx hb hts (by decide +kernel) hown hK hP 7 rfl rfl 0 (by decide) (hts (.fieldLink RX5 10 "WarrenLaw$Den" "m" "LWarren;") (by decide +kernel)) (fun _ h9 => h9) rfl dX5_dig_122 ?_
      refine lv_iload_n hx hb dX5_dig_125 rfl (lv_at hl 5 rfl) ?_
      refine lv_iload_n hx hb dX5_dig_126 rfl (lv_at hl 4 rfl) ?_
      refine lv_iload_n hx hb dX5_dig_127 rfl (lv_at hl 3 rfl) ?_
      refine lv_iload hx hb dX5_dig_128 (lv_at hl 2 rfl) ?_
      have hFc := va_free (wc := wW h (a 0) t0 l0 m0 ++ sW cI a σ) hD hS hA [0, 1, 2, 3, 4, 5, 6] rfl
      refine vx_calli (vx_runV (As := [.int (nI j3), .int (nI j10), .int (nI (3 + j22)), .int (nI (2 + j35))]) (rest := []) ⟨hx, hb, hml, hown, hts⟩ (c_X4_dig l hst D cI _ h t0 l0 m0 a σ (nI j3) (nI j10) (nI (3 + j22)) (nI (2 + j35))) (cwV 4 hts gX5_dig_X4_dig rfl rfl rfl (by decide +kernel) ⟨Nat.le_of_ble_eq_true rfl, Nat.le_of_ble_eq_true rfl⟩) ⟨preX_blind, va_recv hK hP (ci := 4) (q0 := 0) rfl rfl, preX_of (hP.sub (ws' := wW h (a 0) t0 l0 m0 ++ sW cI a σ) [0, 1, 2, 3, 4, 5, 6] rfl) hK1 hXV (hD.sub (ws' := wW h (a 0) t0 l0 m0 ++ sW cI a σ) [0, 1, 2, 3, 4, 5, 6] (by decide) rfl) hTX hS hFc [.ref h, .int (nI j3), .int (nI j10), .int (nI (3 + j22)), .int (nI (2 + j35))]⟩ rfl rfl hl.1 rfl (lv_room (Nat.le_of_ble_eq_true rfl)) dX5_dig_130 ⟨Nat.le_of_ble_eq_true rfl, Nat.le_of_ble_eq_true rfl⟩) hS (fun q _ h => hFc q h) hFc (fun q _ h => hFc q h) (fun E ce q9 u9 t9 H1 locs ht hvm hpx hBX9 hz1 hk1 hS hq9 hce hcl => ?_) (fun r9 u9 t9 H1 locs ht hvm hw hB hz1 hk1 hS => ?_)
      · exact absurd (digT_0 (by omega) (by omega) (by omega) (by omega) (by omega) (by omega)) hpx
      · obtain ⟨hT9, hR9, hU9⟩ := hw
        obtain ⟨hP1, -, hD1⟩ := hB
        rw [ht] at hP1
        rw [hU9] at hP1 hD1
        rw [hR9]
        obtain ⟨hP, hD⟩ := va_joinQ (wr := dW cI cZ cG cY o rr h b (dr + 1 + 1 + 1 + 1) (e_k δ z.1) Y) (w1 := wW h (a 0) t0 l0 m0 ++ sW cI a ((digA σ (nI j3) (nI j10) (nI (3 + j22)) (nI (2 + j35))).1)) hP hD [0, 1, 2, 3, 4, 5, 6] [7, 8, 9, 10, 11, 12] rfl rfl (by decide) (by decide) hk1 hFc hP1 hD1
        generalize H1 = H at hP hS ⊢
        have hP : va_P D vwCl (dW cI cZ cG cY o rr h b (dr + 1 + 1 + 1 + 1) (e_k δ z.1) Y ++ wW h (a 0) t0 l0 m0 ++ sW cI a ((digA σ (nI j3) (nI j10) (nI (3 + j22)) (nI (2 + j35))).1) ++ bW cI rr (d_n (e_k δ z.1)) (d_R (e_k δ z.1))) H := hP
        have hD : va_D A (dW cI cZ cG cY o rr h b (dr + 1 + 1 + 1 + 1) (e_k δ z.1) Y ++ wW h (a 0) t0 l0 m0 ++ sW cI a ((digA σ (nI j3) (nI j10) (nI (3 + j22)) (nI (2 + j35))).1) ++ bW cI rr (d_n (e_k δ z.1)) (d_R (e_k δ z.1))) := hD
        have hID := hI.dig (x := j3) (y := j10) (w := 3 + j22) (hh := 2 + j35) (by omega) (by omega)
        have hz0 : digD δ j3 j10 (3 + j22) (2 + j35) = z := hz
        have hA9 := digA_n σ (X := j3) (Y := j10) (W := 3 + j22) (Hh := 2 + j35) (by omega) (by omega)
        rw [hz0] at hID
        rw [← hA9] at hID
        have hres := hID.2
        refine lv_iload hx hb dX5_dig_133 (lv_at hl 1 rfl) ?_
        refine lv_icmp_ne (tgt := 142) hx hb dX5_dig_135 (by decide) (fun c_135 => absurd c_135 ((fun z9 => z9 hres))) (fun c_135 => ?_)
        refine lv_iconst (v := 1) hx hb dX5_dig_138 (by decide) ?_
        refine lv_goto (tgt := 143) hx hb dX5_dig_139 (by decide) ?_
        have hP := hP.part (cx := wW h (a 0) t0 l0 m0 ++ sW cI a ((digA σ (nI j3) (nI j10) (nI (3 + j22)) (nI (2 + j35))).1) ++ dW cI cZ cG cY o rr h b (dr + 1 + 1 + 1 + 1) (e_k δ z.1) Y) [6, 7, 8, 9, 10, 11, 12, 0, 1, 2, 3, 4, 5] rfl
        have hD := hD.part (cx := wW h (a 0) t0 l0 m0 ++ sW cI a ((digA σ (nI j3) (nI j10) (nI (3 + j22)) (nI (2 + j35))).1) ++ dW cI cZ cG cY o rr h b (dr + 1 + 1 + 1 + 1) (e_k δ z.1) Y) [6, 7, 8, 9, 10, 11, 12, 0, 1, 2, 3, 4, 5] (by decide) rfl
        have hP : va_P D vwCl (wW h (a 0) t0 l0 m0 ++ sW cI a ((digA σ (nI j3) (nI j10) (nI (3 + j22)) (nI (2 + j35))).1) ++ dW cI cZ cG cY o rr h b (dr + 1 + 1 + 1 + 1) (e_k δ z.1) Y ++ bW cI rr (d_n (e_k δ z.1)) (d_R (e_k δ z.1))) H := hP
        have hD : va_D A (wW h (a 0) t0 l0 m0 ++ sW cI a ((digA σ (nI j3) (nI j10) (nI (3 + j22)) (nI (2 + j35))).1) ++ dW cI cZ cG cY o rr h b (dr + 1 + 1 + 1 + 1) (e_k δ z.1) Y ++ bW cI rr (d_n (e_k δ z.1)) (d_R (e_k δ z.1))) := hD
        have hP9 := hP
        have hD9 := hD
        exact W.zret (v := 1) hx hb hr rfl (fun T9 ht hW => ⟨⟨1, ((digA σ (nI j3) (nI j10) (nI (3 + j22)) (nI (2 + j35))).1, (e_k δ z.1), (dr + 1 + 1 + 1 + 1), Y, o, rr), rfl, ⟨rfl, hID.1, by show dr + 1 + 1 + 1 + 1 ≤ dr + 200; omega, Nat.le_refl _⟩, by rw [ht]; exact hP9, va_K.moved hW.alike hK, hD9⟩, hS.F ht⟩) hS.2.2 dX5_dig_143
    | succ n ih47 =>
      intro k z hk hz H locs ls hl hP hD hS
      refine lv_iload hx hb dX5_dig_47 (lv_at hl 0 rfl) ?_
      refine lv_iload_n hx hb dX5_dig_49 rfl (lv_at hl 5 rfl) ?_
      refine lv_iload_n hx hb dX5_dig_50 rfl (lv_at hl 3 rfl) ?_
      refine lv_iadd hx hb dX5_dig_51 ?_
      rw [show ((nI j3) + (nI (3 + j22))) = nI (j3 + (3 + j22)) from nI_add j3 (3 + j22)]
      refine lv_icmp_ge (tgt := 121) hx hb dX5_dig_52 (by decide) (fun c_52 => absurd c_52 (nI_ge (by omega) (by omega))) (fun c_52 => ?_)
      refine lv_iload_n hx hb dX5_dig_55 rfl (lv_at hl 4 rfl) ?_
      refine lv_istore (lv' := [(7, .int (nI j10)), (6, .int (nI k)), (5, .int z.2), (4, .int (nI (2 + j35))), (3, .int (nI (3 + j22))), (2, .int (nI j10)), (1, .int (nI j3)), (0, .ref (o 0))]) hx hb dX5_dig_56 hl (by decide) rfl (fun ls hl => ?_)
      have L58 : ∀ (n2 k2 : Nat) (z2 : ZZ) (hk2 : k2 + n2 = j10 + (2 + j35)) (hz2 : digDR k (2 + j35) j10 z = digDR k n2 k2 z2) (H : Heap) (locs : List Loc) (ls : Array Slot), lv_has ls 9 [(7, .int (nI k2)), (6, .int (nI k)), (5, .int z2.2), (4, .int (nI (2 + j35))), (3, .int (nI (3 + j22))), (2, .int (nI j10)), (1, .int (nI j3)), (0, .ref (o 0))] → va_P D vwCl (wW h (a 0) t0 l0 m0 ++ sW cI a σ ++ dW cI cZ cG cY o rr h b (dr + 1 + 1 + 1 + 1) (e_k δ z2.1) Y ++ bW cI rr (d_n (e_k δ z2.1)) (d_R (e_k δ z2.1))) H → va_D A (wW h (a 0) t0 l0 m0 ++ sW cI a σ ++ dW cI cZ cG cY o rr h b (dr + 1 + 1 + 1 + 1) (e_k δ z2.1) Y ++ bW cI rr (d_n (e_k δ z2.1)) (d_R (e_k δ z2.1))) → va_S A s.heap H locs → W p l e ({ frames := 7, cells := 1, slots := 6, locals := 106 } : Room) s m ([.ref (o 0)] : List Value).toArray below meth c H locs 0 0 (MQ below (va_Qi (fun (r : Int32) (u : (SS × DD × Nat × RW × (Nat → Nat) × (Nat → Nat))) => r = 1 ∧ IR (K) u.1 u.2.1 ∧ u.2.2.1 ≤ dr + 200 ∧ d_n u.2.1 ≤ d_n δ + 0) (fun (u : (SS × DD × Nat × RW × (Nat → Nat) × (Nat → Nat))) => posD D cI cZ cG cY A (wW h (a 0) t0 l0 m0 ++ sW cI a u.1 ++ dW cI cZ cG cY u.2.2.2.2.1 u.2.2.2.2.2 h b u.2.2.1 u.2.1 u.2.2.2.1 ++ bW cI u.2.2.2.2.2 (d_n u.2.1) (d_R u.2.1))) A) ([.ref (o 0)] : List Value).toArray s 1 6 A) (F0 m 58 ls []) := by
        intro n2
        induction n2 with
        | zero =>
          intro k2 z2 hk2 hz2 H locs ls hl hP hD hS
          refine lv_iload hx hb dX5_dig_58 (lv_at hl 0 rfl) ?_
          refine lv_iload_n hx hb dX5_dig_60 rfl (lv_at hl 5 rfl) ?_
          refine lv_iload hx hb dX5_dig_61 (lv_at hl 3 rfl) ?_
          refine lv_iadd hx hb dX5_dig_63 ?_
          rw [show ((nI j10) + (nI (2 + j35))) = nI (j10 + (2 + j35)) from nI_add j10 (2 + j35)]
          refine lv_icmp_ge (tgt := 115) hx hb dX5_dig_64 (by decide) (fun c_64 => ?_) (fun c_64 => absurd (nI_le (by omega) (by omega)) c_64)
          refine lv_iinc (v := (nI (k + 1))) (lv' := [(6, .int (nI (k + 1))), (7, .int (nI k2)), (5, .int z2.2), (4, .int (nI (2 + j35))), (3, .int (nI (3 + j22))), (2, .int (nI j10)), (1, .int (nI j3)), (0, .ref (o 0))]) hx hb dX5_dig_115 hl (k := 1) rfl (nI_1 k) (by decide) rfl (fun ls hl => ?_)
          refine lv_goto (tgt := 47) hx hb dX5_dig_118 (by decide) ?_
          exact ih47 (k + 1) z2 (by omega) (by rw [hz]; show digDC j10 (2 + j35) n (k + 1) (digDR k (2 + j35) j10 z) = _; rw [hz2]; rfl) _ _ ls (lv_sub hl [0, 2, 3, 4, 5, 6, 7] rfl) hP hD hS
        | succ n2 ih58 =>
          intro k2 z2 hk2 hz2 H locs ls hl hP hD hS
          refine lv_iload hx hb dX5_dig_58 (lv_at hl 0 rfl) ?_
          refine lv_iload_n hx hb dX5_dig_60 rfl (lv_at hl 5 rfl) ?_
          refine lv_iload hx hb dX5_dig_61 (lv_at hl 3 rfl) ?_
          refine lv_iadd hx hb dX5_dig_63 ?_
          rw [show ((nI j10) + (nI (2 + j35))) = nI (j10 + (2 + j35)) from nI_add j10 (2 + j35)]
          refine lv_icmp_ge (tgt := 115) hx hb dX5_dig_64 (by decide) (fun c_64 => absurd c_64 (nI_ge (by omega) (by omega))) (fun c_64 => ?_)
          refine lv_bipush (v := 16) hx hb dX5_dig_67 (by decide) ?_
          refine lv_iload hx hb dX5_dig_69 (lv_at hl 0 rfl) ?_
          refine lv_imul hx hb dX5_dig_71 ?_
          refine lv_iload hx hb dX5_dig_72 (lv_at hl 1 rfl) ?_
          refine lv_iadd hx hb dX5_dig_74 ?_
          rw [show ((16 * (nI k2)) + (nI k)) = nI (16 * k2 + k) from by rw [show (16 : Int32) * nI k2 = nI (16 * k2) from pk_mul 16 k2, nI_add]]
          refine lv_istore (lv' := [(8, .int (nI (16 * k2 + k))), (7, .int (nI k2)), (6, .int (nI k)), (5, .int z2.2), (4, .int (nI (2 + j35))), (3, .int (nI (3 + j22))), (2, .int (nI j10)), (1, .int (nI j3)), (0, .ref (o 0))]) hx hb dX5_dig_75 hl (by decide) rfl (fun ls hl => ?_)
          refine lv_iload hx hb dX5_dig_77 (lv_at hl 0 rfl) ?_
          refine vp_callSi (va_Run.run (va_runS (As := [.int (nI (16 * k2 + k))]) (rest := []) ⟨hx, hb, hml, hown, hts⟩ (c_X5_isEdge l (nI (16 * k2 + k))) (va_cwS 1 hts gX5_dig_X5_isEdge rfl rfl rfl (by decide +kernel) ⟨Nat.le_of_ble_eq_true rfl, Nat.le_of_ble_eq_true rfl⟩) ⟨fun _ _ _ _ q => q, fun _ _ _ => ⟨rfl, trivial⟩⟩ rfl rfl hl.1 rfl (lv_room (Nat.le_of_ble_eq_true rfl)) dX5_dig_79 ⟨Nat.zero_le _, Nat.zero_le _⟩)) (fun r hr9 => ?_)
          subst hr9
          refine w_bnz (tgt := 109) hx hb dX5_dig_82 (by decide) (fun c_82 => ?_) (fun c_82 => ?_)
          · refine lv_iinc (v := (nI (k2 + 1))) (lv' := [(7, .int (nI (k2 + 1))), (8, .int (nI (16 * k2 + k))), (6, .int (nI k)), (5, .int z2.2), (4, .int (nI (2 + j35))), (3, .int (nI (3 + j22))), (2, .int (nI j10)), (1, .int (nI j3)), (0, .ref (o 0))]) hx hb dX5_dig_109 hl (k := 1) rfl (nI_1 k2) (by decide) rfl (fun ls hl => ?_)
            refine lv_goto (tgt := 58) hx hb dX5_dig_112 (by decide) ?_
            exact ih58 (k2 + 1) z2 (by omega) (by rw [hz2]; simp [digDR, c_82]) _ _ ls (lv_sub hl [0, 2, 3, 4, 5, 6, 7, 8] rfl) hP hD hS
          · refine lv_aload_n hx hb dX5_dig_85 rfl (lv_at hl 8 rfl) ?_
            refine va_get (D := D) (ci := 5) (v := .ref (o 1)) (C := RX5) (T := TX5) (N := 8) hx hb hts (by decide +kernel) hown hK hP 7 rfl rfl 3 (by decide) (hts (.fieldLink RX5 16 "WarrenLaw$Den" "kinds" "[I") (by decide +kernel)) (fun _ h9 => h9) rfl dX5_dig_86 ?_
            refine lv_iload hx hb dX5_dig_89 (lv_at hl 0 rfl) ?_
            refine va_iald hx hb hK hP 8 0 rfl rfl (vp_in_nI (by omega) (by decide)) dX5_dig_91 ?_
            rw [nI_clamp (by omega)]
            refine lv_if_ne (tgt := 98) hx hb dX5_dig_92 (by decide) (fun c_92 => ?_) (fun c_92 => ?_)
            · refine lv_aload_n hx hb dX5_dig_98 rfl (lv_at hl 8 rfl) ?_
              refine va_get (D := D) (ci := 5) (v := .ref (o 1)) (C := RX5) (T := TX5) (N := 8) hx hb hts (by decide +kernel) hown hK hP 7 rfl rfl 3 (by decide) (hts (.fieldLink RX5 16 "WarrenLaw$Den" "kinds" "[I") (by decide +kernel)) (fun _ h9 => h9) rfl dX5_dig_99 ?_
              refine lv_iload hx hb dX5_dig_102 (lv_at hl 0 rfl) ?_
              refine lv_iconst (v := 0) hx hb dX5_dig_104 (by decide) ?_
              refine va_iast hx hb hK hP hD hS 8 0 rfl rfl (vp_in_nI (by omega) (by decide)) dX5_dig_105 (fun H locs hP hD hS => ?_)
              rw [nI_clamp (by omega)] at hP hD
              have hP : va_P D vwCl (wW h (a 0) t0 l0 m0 ++ sW cI a σ ++ dW cI cZ cG cY o rr h b (dr + 1 + 1 + 1 + 1) (e_k (e_k δ z2.1) (upd (d_k (e_k δ z2.1)) (16 * k2 + k) 0)) Y ++ bW cI rr (d_n (e_k (e_k δ z2.1) (upd (d_k (e_k δ z2.1)) (16 * k2 + k) 0))) (d_R (e_k (e_k δ z2.1) (upd (d_k (e_k δ z2.1)) (16 * k2 + k) 0)))) H := hP
              have hD : va_D A (wW h (a 0) t0 l0 m0 ++ sW cI a σ ++ dW cI cZ cG cY o rr h b (dr + 1 + 1 + 1 + 1) (e_k (e_k δ z2.1) (upd (d_k (e_k δ z2.1)) (16 * k2 + k) 0)) Y ++ bW cI rr (d_n (e_k (e_k δ z2.1) (upd (d_k (e_k δ z2.1)) (16 * k2 + k) 0))) (d_R (e_k (e_k δ z2.1) (upd (d_k (e_k δ z2.1)) (16 * k2 + k) 0)))) := hD
              refine lv_iinc (v := (z2.2 + 1)) (lv' := [(5, .int (z2.2 + 1)), (8, .int (nI (16 * k2 + k))), (7, .int (nI k2)), (6, .int (nI k)), (4, .int (nI (2 + j35))), (3, .int (nI (3 + j22))), (2, .int (nI j10)), (1, .int (nI j3)), (0, .ref (o 0))]) hx hb dX5_dig_106 hl (k := 3) rfl rfl (by decide) rfl (fun ls hl => ?_)
              refine lv_iinc (v := (nI (k2 + 1))) (lv' := [(7, .int (nI (k2 + 1))), (5, .int (z2.2 + 1)), (8, .int (nI (16 * k2 + k))), (6, .int (nI k)), (4, .int (nI (2 + j35))), (3, .int (nI (3 + j22))), (2, .int (nI j10)), (1, .int (nI j3)), (0, .ref (o 0))]) hx hb dX5_dig_109 hl (k := 2) rfl (nI_1 k2) (by decide) rfl (fun ls hl => ?_)
              refine lv_goto (tgt := 58) hx hb dX5_dig_112 (by decide) ?_
              exact ih58 (k2 + 1) (upd z2.1 (16 * k2 + k) 0, z2.2 + 1) (by omega) (by rw [hz2]; simp [digDR, c_82, c_92]) _ _ ls (lv_sub hl [0, 3, 1, 4, 5, 6, 7, 8] rfl) hP hD hS
            · refine lv_goto (tgt := 109) hx hb dX5_dig_95 (by decide) ?_
              refine lv_iinc (v := (nI (k2 + 1))) (lv' := [(7, .int (nI (k2 + 1))), (8, .int (nI (16 * k2 + k))), (6, .int (nI k)), (5, .int z2.2), (4, .int (nI (2 + j35))), (3, .int (nI (3 + j22))), (2, .int (nI j10)), (1, .int (nI j3)), (0, .ref (o 0))]) hx hb dX5_dig_109 hl (k := 1) rfl (nI_1 k2) (by decide) rfl (fun ls hl => ?_)
              refine lv_goto (tgt := 58) hx hb dX5_dig_112 (by decide) ?_
              exact ih58 (k2 + 1) z2 (by omega) (by rw [hz2]; simp [digDR, c_82, c_92]) _ _ ls (lv_sub hl [0, 2, 3, 4, 5, 6, 7, 8] rfl) hP hD hS
      exact L58 (2 + j35) j10 z (by omega) rfl _ _ ls (lv_sub hl [0, 1, 2, 3, 4, 5, 6, 7] rfl) hP hD hS
  exact L47 (3 + j22) j3 (d_k δ, 0) (by omega) rfl _ _ ls (lv_sub hl [0, 1, 2, 3, 4, 5, 6] rfl) hP hD hS
