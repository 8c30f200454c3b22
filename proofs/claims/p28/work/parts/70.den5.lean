-- ===== the shadow: one more being =====
set_option maxHeartbeats 4000000 in
set_option maxRecDepth 100000 in
theorem c_X5_come (l : Launch) (hst : l.stackTraces = false) (D : va_G) (cI : ClassId) (sz : Nat) (cZ cG cY : ClassId) (t0 l0 m0 : Nat) (a o rr : Nat → Nat) (h b dr K : Nat) (σ : SS) (δ : DD) (Y : RW) (t L : Nat) (xs : Nat → Int32) (hI : IR K σ δ) (hd : dr < 900000) : Met l yX5_come wsX5_come ({ frames := 7, cells := 4, slots := 45, locals := 143 } : Room) (va_Pc [.ref (o 0)] (preD D cI cZ cG cY t b L xs (wW h (a 0) t0 l0 m0 ++ sW cI a σ ++ dW cI cZ cG cY o rr h b dr δ Y ++ bW cI rr (d_n δ) (d_R δ)) sz)) (va_Qi (fun (r : Int32) (u : (SS × DD × Nat × RW × (Nat → Nat) × (Nat → Nat))) => r = 1 ∧ IR (K) u.1 u.2.1 ∧ u.2.2.1 ≤ dr + 200 ∧ d_n u.2.1 ≤ d_n δ + 1 ∧ u.2.2.2.2.1 0 = o 0) (fun (u : (SS × DD × Nat × RW × (Nat → Nat) × (Nat → Nat))) => posD D cI cZ cG cY (va_A (wW h (a 0) t0 l0 m0 ++ sW cI a σ ++ dW cI cZ cG cY o rr h b dr δ Y ++ bW cI rr (d_n δ) (d_R δ)) sz) (wW h (a 0) t0 l0 m0 ++ sW cI a u.1 ++ dW cI cZ cG cY u.2.2.2.2.1 u.2.2.2.2.2 h b u.2.2.1 u.2.1 u.2.2.2.1 ++ bW cI u.2.2.2.2.2 (d_n u.2.1) (d_R u.2.1))) (va_A (wW h (a 0) t0 l0 m0 ++ sW cI a σ ++ dW cI cZ cG cY o rr h b dr δ Y ++ bW cI rr (d_n δ) (d_R δ)) sz)) 4 45 (va_A (wW h (a 0) t0 l0 m0 ++ sW cI a σ ++ dW cI cZ cG cY o rr h b dr δ Y ++ bW cI rr (d_n δ) (d_R δ)) sz) := by
  refine va_MetW (cc := cX5_come) (maxL := 10) (ret := (some .boolean)) (hh := [(123, 141, 290, 65), (142, 289, 290, 65)]) (by decide) rfl ?_
  intro p e s m args below meth c s₁ B hml hv
  obtain ⟨rfl, ⟨hsz, hP, hK, hD0⟩, hGX⟩ := hv
  have hx := B.exec
  have hb := B.bytes
  have hr := B.returns
  have hts := atoms_spec (ws := wsX5_come) B.pre
  have hown : s.vm.findClass RX5 = some m.cls := findClass_of_methodNamed B.named
  have hlocks := B.notSynchronized
  have htab : c.exceptionTable.toList = tableOf [(123, 141, 290, 65), (142, 289, 290, 65)] := vx_table (x := yX5_come) B (hts _ List.mem_cons_self)
  subst hsz
  have hD := hD0.self (sz := s.heap.size)
  generalize hAe : va_A (wW h (a 0) t0 l0 m0 ++ sW cI a σ ++ dW cI cZ cG cY o rr h b dr δ Y ++ bW cI rr (d_n δ) (d_R δ)) s.heap.size = A at hD hGX ⊢
  have hA : ∀ q : Nat, s.heap.size ≤ q → A q := fun q h => by rw [← hAe]; exact Or.inr h
  have hS : va_S A s.heap s.heap [] := va_S.rf
  have hP : va_P D vwCl (wW h (a 0) t0 l0 m0 ++ sW cI a σ ++ dW cI cZ cG cY o rr h b dr δ Y ++ bW cI rr (d_n δ) (d_R δ)) s.heap := hP
  have hl := lv_entry ([.ref (o 0)]) (n := 10) (Nat.le_of_ble_eq_true rfl)
  rw [lg_entry_eq]
  generalize (lg_sl ([.ref (o 0)]) ++ List.replicate (10 - (lg_sl ([.ref (o 0)])).length) Slot.unset).toArray = ls at hl ⊢
  have hl : lv_has ls 10 [(0, .ref (o 0))] := hl
  obtain ⟨hXV, hTX, hN, hSX, hG, hBX, hnc, hnb, hov⟩ := id hGX
  have hK1 := K_D hK
  have hn := hI.1.2.1
  have hnσ : s_n σ ≤ 10 := by rw [hI.1.1]; exact hn
  refine lv_aload_n hx hb dX5_come_0 rfl (lv_at hl 0 rfl) ?_
  refine lv_iconst (v := 2) hx hb dX5_come_1 (by decide) ?_
  have hFc := va_freeP (cx := dW cI cZ cG cY o rr h b dr δ Y) hD hS hA [7, 8, 9, 10, 11, 12] rfl
  refine va_calli (va_runV (As := [.int 2]) (rest := []) ⟨hx, hb, hml, hown, hts⟩ (c_X5_draw l D cI _ cZ cG cY o rr h b dr δ Y t L xs 2 hn (by omega) (by omega) (by omega)) (cwV 1 hts gX5_come_X5_draw rfl rfl rfl (by decide +kernel) ⟨Nat.le_of_ble_eq_true rfl, Nat.le_of_ble_eq_true rfl⟩) ⟨preD_blind, va_recv hK hP (ci := 5) (q0 := 7) rfl rfl, preD_of (hP.part (cx := dW cI cZ cG cY o rr h b dr δ Y) [7, 8, 9, 10, 11, 12] rfl) hK (hD.part (cx := dW cI cZ cG cY o rr h b dr δ Y) [7, 8, 9, 10, 11, 12] (by decide) rfl) hGX hS hFc [.ref (o 0), .int 2]⟩ rfl rfl hl.1 rfl (lv_room (Nat.le_of_ble_eq_true rfl)) dX5_come_2 ⟨Nat.le_of_ble_eq_true rfl, Nat.le_of_ble_eq_true rfl⟩) hS (fun q _ h => hFc q h) hFc (fun r9 u t9 H1 locs ht hvm hw hB hz1 hk1 hS => ?_)
  obtain ⟨hP1, -, hD1⟩ := hB
  rw [ht] at hP1
  obtain ⟨j2, hj2, rfl⟩ := hw
  obtain ⟨hP, hD⟩ := va_joinP (wr := wW h (a 0) t0 l0 m0 ++ sW cI a σ) hP hD [7, 8, 9, 10, 11, 12] [0, 1, 2, 3, 4, 5, 6] rfl rfl (by decide) (by decide) hk1 hFc hP1 hD1
  generalize H1 = H at hP hS ⊢
  have hP : va_P D vwCl (wW h (a 0) t0 l0 m0 ++ sW cI a σ ++ dW cI cZ cG cY o rr h b (dr + 1) δ Y ++ bW cI rr (d_n δ) (d_R δ)) H := hP
  have hD : va_D A (wW h (a 0) t0 l0 m0 ++ sW cI a σ ++ dW cI cZ cG cY o rr h b (dr + 1) δ Y ++ bW cI rr (d_n δ) (d_R δ)) := hD
  refine lv_istore_n (lv' := [(1, .int (nI j2)), (0, .ref (o 0))]) hx hb dX5_come_5 rfl hl (by decide) rfl (fun ls hl => ?_)
  refine lv_bipush (v := 17) hx hb dX5_come_6 (by decide) ?_
  refine lv_aload_n hx hb dX5_come_8 rfl (lv_at hl 1 rfl) ?_
  refine lv_bipush (v := 126) hx hb dX5_come_9 (by decide) ?_
  have hFc := va_freeP (cx := dW cI cZ cG cY o rr h b (dr + 1) δ Y) hD hS hA [7, 8, 9, 10, 11, 12] rfl
  refine va_calli (va_runV (As := [.int 126]) (rest := [.int 17]) ⟨hx, hb, hml, hown, hts⟩ (c_X5_draw l D cI _ cZ cG cY o rr h b (dr + 1) δ Y t L xs 126 hn (by omega) (by omega) (by omega)) (cwV 1 hts gX5_come_X5_draw rfl rfl rfl (by decide +kernel) ⟨Nat.le_of_ble_eq_true rfl, Nat.le_of_ble_eq_true rfl⟩) ⟨preD_blind, va_recv hK hP (ci := 5) (q0 := 7) rfl rfl, preD_of (hP.part (cx := dW cI cZ cG cY o rr h b (dr + 1) δ Y) [7, 8, 9, 10, 11, 12] rfl) hK (hD.part (cx := dW cI cZ cG cY o rr h b (dr + 1) δ Y) [7, 8, 9, 10, 11, 12] (by decide) rfl) hGX hS hFc [.ref (o 0), .int 126]⟩ rfl rfl hl.1 rfl (lv_room (Nat.le_of_ble_eq_true rfl)) dX5_come_11 ⟨Nat.le_of_ble_eq_true rfl, Nat.le_of_ble_eq_true rfl⟩) hS (fun q _ h => hFc q h) hFc (fun r9 u t9 H1 locs ht hvm hw hB hz1 hk1 hS => ?_)
  obtain ⟨hP1, -, hD1⟩ := hB
  rw [ht] at hP1
  obtain ⟨j11, hj11, rfl⟩ := hw
  obtain ⟨hP, hD⟩ := va_joinP (wr := wW h (a 0) t0 l0 m0 ++ sW cI a σ) hP hD [7, 8, 9, 10, 11, 12] [0, 1, 2, 3, 4, 5, 6] rfl rfl (by decide) (by decide) hk1 hFc hP1 hD1
  generalize H1 = H at hP hS ⊢
  have hP : va_P D vwCl (wW h (a 0) t0 l0 m0 ++ sW cI a σ ++ dW cI cZ cG cY o rr h b ((dr + 1) + 1) δ Y ++ bW cI rr (d_n δ) (d_R δ)) H := hP
  have hD : va_D A (wW h (a 0) t0 l0 m0 ++ sW cI a σ ++ dW cI cZ cG cY o rr h b ((dr + 1) + 1) δ Y ++ bW cI rr (d_n δ) (d_R δ)) := hD
  refine lv_iadd hx hb dX5_come_14 ?_
  rw [show (17 + (nI j11)) = nI (17 + j11) from nI_add 17 j11]
  refine lv_istore_n (lv' := [(2, .int (nI (17 + j11))), (1, .int (nI j2)), (0, .ref (o 0))]) hx hb dX5_come_15 rfl hl (by decide) rfl (fun ls hl => ?_)
  have L59 : ∀ (c8 dr8 : Nat) (hc8 : 17 ≤ c8 ∧ c8 ≤ 142) (hdr8 : dr8 ≤ dr + 130) (H : Heap) (locs : List Loc) (ls : Array Slot), lv_has ls 10 [(2, .int (nI c8)), (1, .int (nI j2)), (0, .ref (o 0))] → va_P D vwCl (wW h (a 0) t0 l0 m0 ++ sW cI a σ ++ dW cI cZ cG cY o rr h b dr8 δ Y ++ bW cI rr (d_n δ) (d_R δ)) H → va_D A (wW h (a 0) t0 l0 m0 ++ sW cI a σ ++ dW cI cZ cG cY o rr h b dr8 δ Y ++ bW cI rr (d_n δ) (d_R δ)) → va_S A s.heap H locs → W p l e ({ frames := 7, cells := 4, slots := 45, locals := 143 } : Room) s m ([.ref (o 0)] : List Value).toArray below meth c H locs 0 0 (MQ below (va_Qi (fun (r : Int32) (u : (SS × DD × Nat × RW × (Nat → Nat) × (Nat → Nat))) => r = 1 ∧ IR (K) u.1 u.2.1 ∧ u.2.2.1 ≤ dr + 200 ∧ d_n u.2.1 ≤ d_n δ + 1 ∧ u.2.2.2.2.1 0 = o 0) (fun (u : (SS × DD × Nat × RW × (Nat → Nat) × (Nat → Nat))) => posD D cI cZ cG cY A (wW h (a 0) t0 l0 m0 ++ sW cI a u.1 ++ dW cI cZ cG cY u.2.2.2.2.1 u.2.2.2.2.2 h b u.2.2.1 u.2.1 u.2.2.2.1 ++ bW cI u.2.2.2.2.2 (d_n u.2.1) (d_R u.2.1))) A) ([.ref (o 0)] : List Value).toArray s 4 45 A) (F0 m 59 ls []) := by
    intro c8 dr8 hc8 hdr8 H locs ls hl hP hD hS
    refine lv_iconst (v := 1) hx hb dX5_come_59 (by decide) ?_
    refine lv_aload_n hx hb dX5_come_60 rfl (lv_at hl 2 rfl) ?_
    refine lv_aload_n hx hb dX5_come_61 rfl (lv_at hl 2 rfl) ?_
    refine lv_iconst (v := 3) hx hb dX5_come_62 (by decide) ?_
    have hFc := va_freeP (cx := dW cI cZ cG cY o rr h b dr8 δ Y) hD hS hA [7, 8, 9, 10, 11, 12] rfl
    refine va_calli (va_runV (As := [.int 3]) (rest := [.ref (o 0), .int 1]) ⟨hx, hb, hml, hown, hts⟩ (c_X5_draw l D cI _ cZ cG cY o rr h b dr8 δ Y t L xs 3 hn (by omega) (by omega) (by omega)) (cwV 1 hts gX5_come_X5_draw rfl rfl rfl (by decide +kernel) ⟨Nat.le_of_ble_eq_true rfl, Nat.le_of_ble_eq_true rfl⟩) ⟨preD_blind, va_recv hK hP (ci := 5) (q0 := 7) rfl rfl, preD_of (hP.part (cx := dW cI cZ cG cY o rr h b dr8 δ Y) [7, 8, 9, 10, 11, 12] rfl) hK (hD.part (cx := dW cI cZ cG cY o rr h b dr8 δ Y) [7, 8, 9, 10, 11, 12] (by decide) rfl) hGX hS hFc [.ref (o 0), .int 3]⟩ rfl rfl hl.1 rfl (lv_room (Nat.le_of_ble_eq_true rfl)) dX5_come_63 ⟨Nat.le_of_ble_eq_true rfl, Nat.le_of_ble_eq_true rfl⟩) hS (fun q _ h => hFc q h) hFc (fun r9 u t9 H1 locs ht hvm hw hB hz1 hk1 hS => ?_)
    obtain ⟨hP1, -, hD1⟩ := hB
    rw [ht] at hP1
    obtain ⟨j63, hj63, rfl⟩ := hw
    obtain ⟨hP, hD⟩ := va_joinP (wr := wW h (a 0) t0 l0 m0 ++ sW cI a σ) hP hD [7, 8, 9, 10, 11, 12] [0, 1, 2, 3, 4, 5, 6] rfl rfl (by decide) (by decide) hk1 hFc hP1 hD1
    generalize H1 = H at hP hS ⊢
    have hP : va_P D vwCl (wW h (a 0) t0 l0 m0 ++ sW cI a σ ++ dW cI cZ cG cY o rr h b (dr8 + 1) δ Y ++ bW cI rr (d_n δ) (d_R δ)) H := hP
    have hD : va_D A (wW h (a 0) t0 l0 m0 ++ sW cI a σ ++ dW cI cZ cG cY o rr h b (dr8 + 1) δ Y ++ bW cI rr (d_n δ) (d_R δ)) := hD
    have L76 : ∀ (N9 : Nat) (hN9 : 1 ≤ N9 ∧ N9 ≤ 60) (H : Heap) (locs : List Loc) (ls : Array Slot), lv_has ls 10 [(2, .int (nI c8)), (1, .int (nI j2)), (0, .ref (o 0))] → va_P D vwCl (wW h (a 0) t0 l0 m0 ++ sW cI a σ ++ dW cI cZ cG cY o rr h b (dr8 + 1) δ Y ++ bW cI rr (d_n δ) (d_R δ)) H → va_D A (wW h (a 0) t0 l0 m0 ++ sW cI a σ ++ dW cI cZ cG cY o rr h b (dr8 + 1) δ Y ++ bW cI rr (d_n δ) (d_R δ)) → va_S A s.heap H locs → W p l e ({ frames := 7, cells := 4, slots := 45, locals := 143 } : Room) s m ([.ref (o 0)] : List Value).toArray below meth c H locs 0 0 (MQ below (va_Qi (fun (r : Int32) (u : (SS × DD × Nat × RW × (Nat → Nat) × (Nat → Nat))) => r = 1 ∧ IR (K) u.1 u.2.1 ∧ u.2.2.1 ≤ dr + 200 ∧ d_n u.2.1 ≤ d_n δ + 1 ∧ u.2.2.2.2.1 0 = o 0) (fun (u : (SS × DD × Nat × RW × (Nat → Nat) × (Nat → Nat))) => posD D cI cZ cG cY A (wW h (a 0) t0 l0 m0 ++ sW cI a u.1 ++ dW cI cZ cG cY u.2.2.2.2.1 u.2.2.2.2.2 h b u.2.2.1 u.2.1 u.2.2.2.1 ++ bW cI u.2.2.2.2.2 (d_n u.2.1) (d_R u.2.1))) A) ([.ref (o 0)] : List Value).toArray s 4 45 A) (F0 m 76 ls [.int (nI N9), .ref (o 0), .int 1]) := by
      intro N9 hN9 H locs ls hl hP hD hS
      have hFc := va_freeP (cx := dW cI cZ cG cY o rr h b (dr8 + 1) δ Y) hD hS hA [7, 8, 9, 10, 11, 12] rfl
      refine va_calli (va_runV (As := [.int (nI N9)]) (rest := [.int 1]) ⟨hx, hb, hml, hown, hts⟩ (c_X5_draw l D cI _ cZ cG cY o rr h b (dr8 + 1) δ Y t L xs N9 hn (by omega) (by omega) (by omega)) (cwV 1 hts gX5_come_X5_draw rfl rfl rfl (by decide +kernel) ⟨Nat.le_of_ble_eq_true rfl, Nat.le_of_ble_eq_true rfl⟩) ⟨preD_blind, va_recv hK hP (ci := 5) (q0 := 7) rfl rfl, preD_of (hP.part (cx := dW cI cZ cG cY o rr h b (dr8 + 1) δ Y) [7, 8, 9, 10, 11, 12] rfl) hK (hD.part (cx := dW cI cZ cG cY o rr h b (dr8 + 1) δ Y) [7, 8, 9, 10, 11, 12] (by decide) rfl) hGX hS hFc [.ref (o 0), .int (nI N9)]⟩ rfl rfl hl.1 rfl (lv_room (Nat.le_of_ble_eq_true rfl)) dX5_come_76 ⟨Nat.le_of_ble_eq_true rfl, Nat.le_of_ble_eq_true rfl⟩) hS (fun q _ h => hFc q h) hFc (fun r9 u t9 H1 locs ht hvm hw hB hz1 hk1 hS => ?_)
      obtain ⟨hP1, -, hD1⟩ := hB
      rw [ht] at hP1
      obtain ⟨j76, hj76, rfl⟩ := hw
      obtain ⟨hP, hD⟩ := va_joinP (wr := wW h (a 0) t0 l0 m0 ++ sW cI a σ) hP hD [7, 8, 9, 10, 11, 12] [0, 1, 2, 3, 4, 5, 6] rfl rfl (by decide) (by decide) hk1 hFc hP1 hD1
      generalize H1 = H at hP hS ⊢
      have hP : va_P D vwCl (wW h (a 0) t0 l0 m0 ++ sW cI a σ ++ dW cI cZ cG cY o rr h b ((dr8 + 1) + 1) δ Y ++ bW cI rr (d_n δ) (d_R δ)) H := hP
      have hD : va_D A (wW h (a 0) t0 l0 m0 ++ sW cI a σ ++ dW cI cZ cG cY o rr h b ((dr8 + 1) + 1) δ Y ++ bW cI rr (d_n δ) (d_R δ)) := hD
      refine lv_iadd hx hb dX5_come_79 ?_
      rw [show (1 + (nI j76)) = nI (1 + j76) from nI_add 1 j76]
      refine lv_istore_n (lv' := [(3, .int (nI (1 + j76))), (2, .int (nI c8)), (1, .int (nI j2)), (0, .ref (o 0))]) hx hb dX5_come_80 rfl hl (by decide) rfl (fun ls hl => ?_)
      refine lv_aload_n hx hb dX5_come_81 rfl (lv_at hl 3 rfl) ?_
      refine va_get (D := D) (ci := 5) (v := .ref (o 5)) (C := RX5) (T := TX5) (N := 8) hx hb hts (by decide +kernel) hown hK hP 7 rfl rfl 5 (by decide) (hts (.fieldLink RX5 26 "WarrenLaw$Den" "beings" "[[I") (by decide +kernel)) (fun _ h9 => h9) rfl dX5_come_82 ?_
      refine va_alen (v := (nI (d_n δ))) hx hb hK hP 12 2 rfl rfl rfl dX5_come_85 ?_
      refine lv_bipush (v := 10) hx hb dX5_come_86 (by decide) ?_
      have L115 : ∀ (m9 : Int32) (hm : (m9 = 1 ∧ d_n δ < 10 ∧ remI (d_k δ c8) 3 = 0 ∧ onD δ (nI c8) < 0) ∨ (m9 = 0 ∧ ¬ (d_n δ < 10 ∧ remI (d_k δ c8) 3 = 0 ∧ onD δ (nI c8) < 0))) (H : Heap) (locs : List Loc) (ls : Array Slot), lv_has ls 10 [(3, .int (nI (1 + j76))), (2, .int (nI c8)), (1, .int (nI j2)), (0, .ref (o 0))] → va_P D vwCl (wW h (a 0) t0 l0 m0 ++ sW cI a σ ++ dW cI cZ cG cY o rr h b ((dr8 + 1) + 1) δ Y ++ bW cI rr (d_n δ) (d_R δ)) H → va_D A (wW h (a 0) t0 l0 m0 ++ sW cI a σ ++ dW cI cZ cG cY o rr h b ((dr8 + 1) + 1) δ Y ++ bW cI rr (d_n δ) (d_R δ)) → va_S A s.heap H locs → W p l e ({ frames := 7, cells := 4, slots := 45, locals := 143 } : Room) s m ([.ref (o 0)] : List Value).toArray below meth c H locs 0 0 (MQ below (va_Qi (fun (r : Int32) (u : (SS × DD × Nat × RW × (Nat → Nat) × (Nat → Nat))) => r = 1 ∧ IR (K) u.1 u.2.1 ∧ u.2.2.1 ≤ dr + 200 ∧ d_n u.2.1 ≤ d_n δ + 1 ∧ u.2.2.2.2.1 0 = o 0) (fun (u : (SS × DD × Nat × RW × (Nat → Nat) × (Nat → Nat))) => posD D cI cZ cG cY A (wW h (a 0) t0 l0 m0 ++ sW cI a u.1 ++ dW cI cZ cG cY u.2.2.2.2.1 u.2.2.2.2.2 h b u.2.2.1 u.2.1 u.2.2.2.1 ++ bW cI u.2.2.2.2.2 (d_n u.2.1) (d_R u.2.1))) A) ([.ref (o 0)] : List Value).toArray s 4 45 A) (F0 m 115 ls [.int m9]) := by
        intro m9 hm H locs ls hl hP hD hS
        refine lv_istore (lv' := [(4, .int m9), (3, .int (nI (1 + j76))), (2, .int (nI c8)), (1, .int (nI j2)), (0, .ref (o 0))]) hx hb dX5_come_115 hl (by decide) rfl (fun ls hl => ?_)
        refine lv_aload_n hx hb dX5_come_117 rfl (lv_at hl 4 rfl) ?_
        refine vp_callSi (va_Run.run (va_runV (As := []) (rest := []) ⟨hx, hb, hml, hown, hts⟩ (c_X5_turn l D cI cZ cG cY o rr h b ((dr8 + 1) + 1) δ Y hn) (cwV 0 hts gX5_come_X5_turn rfl rfl rfl (by decide +kernel) ⟨Nat.le_of_ble_eq_true rfl, Nat.le_of_ble_eq_true rfl⟩) ⟨preDR_blind, va_recv hK hP (ci := 5) (q0 := 7) rfl rfl, preDR_of (hP.part (cx := dW cI cZ cG cY o rr h b ((dr8 + 1) + 1) δ Y) [7, 8, 9, 10, 11, 12] rfl) hK [.ref (o 0)]⟩ rfl rfl hl.1 rfl (lv_room (Nat.le_of_ble_eq_true rfl)) dX5_come_118 ⟨Nat.zero_le _, Nat.zero_le _⟩)) (fun r9 hr9 => ?_)
        subst hr9
        refine lv_istore (lv' := [(5, .int (turnD δ)), (4, .int m9), (3, .int (nI (1 + j76))), (2, .int (nI c8)), (1, .int (nI j2)), (0, .ref (o 0))]) hx hb dX5_come_121 hl (by decide) rfl (fun ls hl => ?_)
        rcases hm with ⟨rfl, hm1, hm2, hm3⟩ | ⟨rfl, hm1⟩
        · refine lv_aload_n hx hb dX5_come_123 rfl (lv_at hl 5 rfl) ?_
          refine va_get (D := D) (ci := 5) (v := .ref h) (C := RX5) (T := TX5) (N := 8) hx hb hts (by decide +kernel) hown hK hP 7 rfl rfl 0 (by decide) (hts (.fieldLink RX5 10 "WarrenLaw$Den" "m" "LWarren;") (by decide +kernel)) (fun _ h9 => h9) rfl dX5_come_124 ?_
          refine lv_iload_n hx hb dX5_come_127 rfl (lv_at hl 4 rfl) ?_
          refine lv_iload_n hx hb dX5_come_128 rfl (lv_at hl 3 rfl) ?_
          refine lv_iload_n hx hb dX5_come_129 rfl (lv_at hl 2 rfl) ?_
          have hFc := va_free (wc := wW h (a 0) t0 l0 m0 ++ sW cI a σ) hD hS hA [0, 1, 2, 3, 4, 5, 6] rfl
          refine vx_calli (vx_runV (As := [.int (nI j2), .int (nI c8), .int (nI (1 + j76))]) (rest := []) ⟨hx, hb, hml, hown, hts⟩ (c_X4_come l hst D cI _ h t0 l0 m0 a σ (nI j2) (nI c8) (nI (1 + j76)) hnσ) (cwV 3 hts gX5_come_X4_come rfl rfl rfl (by decide +kernel) ⟨Nat.le_of_ble_eq_true rfl, Nat.le_of_ble_eq_true rfl⟩) ⟨preX_blind, va_recv hK hP (ci := 4) (q0 := 0) rfl rfl, preX_of (hP.sub (ws' := wW h (a 0) t0 l0 m0 ++ sW cI a σ) [0, 1, 2, 3, 4, 5, 6] rfl) hK1 hXV (hD.sub (ws' := wW h (a 0) t0 l0 m0 ++ sW cI a σ) [0, 1, 2, 3, 4, 5, 6] (by decide) rfl) hTX hS hFc [.ref h, .int (nI j2), .int (nI c8), .int (nI (1 + j76))]⟩ rfl rfl hl.1 rfl (lv_room (Nat.le_of_ble_eq_true rfl)) dX5_come_130 ⟨Nat.le_of_ble_eq_true rfl, Nat.le_of_ble_eq_true rfl⟩) hS (fun q _ h => hFc q h) hFc (fun q _ h => hFc q h) (fun E ce q9 u9 t9 H1 locs ht hvm hpx hBX9 hz1 hk1 hS hq9 hce hcl => ?_) (fun r9 u9 t9 H1 locs ht hvm hw hB hz1 hk1 hS => ?_)
          · exact absurd ((come_T hI (s := j2) (c := c8) (x := 1 + j76) hj2 (by omega) (by omega) (by omega)).1 hm1 hm2 hm3).1 hpx
          · obtain ⟨hT9, hR9, hU9⟩ := hw
            obtain ⟨hP1, -, hD1⟩ := hB
            rw [ht] at hP1
            rw [hU9] at hP1 hD1
            rw [hR9]
            obtain ⟨hP, hD⟩ := va_joinQ (wr := dW cI cZ cG cY o rr h b ((dr8 + 1) + 1) δ Y) (w1 := wW h (a 0) t0 l0 m0 ++ sW cI a (addF σ (nI j2) (nI c8) (nI (1 + j76)))) hP hD [0, 1, 2, 3, 4, 5, 6] [7, 8, 9, 10, 11, 12] rfl rfl (by decide) (by decide) hk1 hFc hP1 hD1
            generalize H1 = H at hP hS ⊢
            have hP : va_P D vwCl (dW cI cZ cG cY o rr h b ((dr8 + 1) + 1) δ Y ++ wW h (a 0) t0 l0 m0 ++ sW cI a (addF σ (nI j2) (nI c8) (nI (1 + j76))) ++ bW cI rr (d_n δ) (d_R δ)) H := hP
            have hD : va_D A (dW cI cZ cG cY o rr h b ((dr8 + 1) + 1) δ Y ++ wW h (a 0) t0 l0 m0 ++ sW cI a (addF σ (nI j2) (nI c8) (nI (1 + j76))) ++ bW cI rr (d_n δ) (d_R δ)) := hD
            rw [hI.1.1]
            refine lv_istore (lv' := [(6, .int (nI (d_n δ))), (5, .int (turnD δ)), (4, .int 1), (3, .int (nI (1 + j76))), (2, .int (nI c8)), (1, .int (nI j2)), (0, .ref (o 0))]) hx hb dX5_come_133 hl (by decide) rfl (fun ls hl => ?_)
            refine lv_iload hx hb dX5_come_135 (lv_at hl 2 rfl) ?_
            refine lv_if_ne (tgt := 142) hx hb dX5_come_137 (by decide) (fun _ => ?_) (fun z9 => absurd z9 (by decide))
            refine lv_bipush (v := 19) hx hb dX5_come_142 (by decide) ?_
            refine w_newI hx hb (hts (.arrayClass .int) (by decide +kernel)) hK1 hP hD hS hA (by decide) (N' := 19) (by decide) (by decide) (Nat.le_of_ble_eq_true rfl) (Nat.le_of_ble_eq_true rfl) dX5_come_144 (fun q144 H hP hD hS => ?_)
            have hP := hP.swap
            have hD := hD.swap
            have hP : va_P D vwCl (dW cI cZ cG cY o rr h b ((dr8 + 1) + 1) δ Y ++ wW h (a 0) t0 l0 m0 ++ sW cI a (addF σ (nI j2) (nI c8) (nI (1 + j76))) ++ [(q144, .inl (cI, 19, .inl (fun _ => 0)))] ++ bW cI rr (d_n δ) (d_R δ)) H := hP
            have hD : va_D A (dW cI cZ cG cY o rr h b ((dr8 + 1) + 1) δ Y ++ wW h (a 0) t0 l0 m0 ++ sW cI a (addF σ (nI j2) (nI c8) (nI (1 + j76))) ++ [(q144, .inl (cI, 19, .inl (fun _ => 0)))] ++ bW cI rr (d_n δ) (d_R δ)) := hD
            refine lv_astore (lv' := [(7, .ref q144), (6, .int (nI (d_n δ))), (5, .int (turnD δ)), (4, .int 1), (3, .int (nI (1 + j76))), (2, .int (nI c8)), (1, .int (nI j2)), (0, .ref (o 0))]) hx hb dX5_come_146 hl (by decide) rfl (fun ls hl => ?_)
            refine lv_bipush (v := 9) hx hb dX5_come_148 (by decide) ?_
            refine w_newI hx hb (hts (.arrayClass .int) (by decide +kernel)) hK1 hP hD hS hA (by decide) (N' := 9) (by decide) (by decide) (Nat.le_of_ble_eq_true rfl) (Nat.le_of_ble_eq_true rfl) dX5_come_150 (fun q150 H hP hD hS => ?_)
            have hP := hP.swap
            have hD := hD.swap
            have hP : va_P D vwCl (dW cI cZ cG cY o rr h b ((dr8 + 1) + 1) δ Y ++ wW h (a 0) t0 l0 m0 ++ sW cI a (addF σ (nI j2) (nI c8) (nI (1 + j76))) ++ [(q144, .inl (cI, 19, .inl (fun _ => 0)))] ++ [(q150, .inl (cI, 9, .inl (fun _ => 0)))] ++ bW cI rr (d_n δ) (d_R δ)) H := hP
            have hD : va_D A (dW cI cZ cG cY o rr h b ((dr8 + 1) + 1) δ Y ++ wW h (a 0) t0 l0 m0 ++ sW cI a (addF σ (nI j2) (nI c8) (nI (1 + j76))) ++ [(q144, .inl (cI, 19, .inl (fun _ => 0)))] ++ [(q150, .inl (cI, 9, .inl (fun _ => 0)))] ++ bW cI rr (d_n δ) (d_R δ)) := hD
            refine lv_dup hx hb dX5_come_152 rfl ?_
            refine lv_iconst (v := 0) hx hb dX5_come_153 (by decide) ?_
            refine lv_iload_n hx hb dX5_come_154 rfl (lv_at hl 6 rfl) ?_
            refine va_iast hx hb hK hP hD hS 14 0 rfl rfl (vp_in_nI (n := 0) (by decide) (by decide)) dX5_come_155 (fun H locs hP hD hS => ?_)
            rw [show (0 : Int32).toNatClampNeg = 0 by decide] at hP hD
            have hP : va_P D vwCl (dW cI cZ cG cY o rr h b ((dr8 + 1) + 1) δ Y ++ wW h (a 0) t0 l0 m0 ++ sW cI a (addF σ (nI j2) (nI c8) (nI (1 + j76))) ++ [(q144, .inl (cI, 19, .inl (fun _ => 0)))] ++ [(q150, .inl (cI, 9, .inl (upd (fun _ => 0) 0 (nI j2))))] ++ bW cI rr (d_n δ) (d_R δ)) H := hP
            have hD : va_D A (dW cI cZ cG cY o rr h b ((dr8 + 1) + 1) δ Y ++ wW h (a 0) t0 l0 m0 ++ sW cI a (addF σ (nI j2) (nI c8) (nI (1 + j76))) ++ [(q144, .inl (cI, 19, .inl (fun _ => 0)))] ++ [(q150, .inl (cI, 9, .inl (upd (fun _ => 0) 0 (nI j2))))] ++ bW cI rr (d_n δ) (d_R δ)) := hD
            refine lv_dup hx hb dX5_come_156 rfl ?_
            refine lv_iconst (v := 1) hx hb dX5_come_157 (by decide) ?_
            refine lv_iload_n hx hb dX5_come_158 rfl (lv_at hl 5 rfl) ?_
            refine va_iast hx hb hK hP hD hS 14 0 rfl rfl (vp_in_nI (n := 1) (by decide) (by decide)) dX5_come_159 (fun H locs hP hD hS => ?_)
            rw [show (1 : Int32).toNatClampNeg = 1 by decide] at hP hD
            have hP : va_P D vwCl (dW cI cZ cG cY o rr h b ((dr8 + 1) + 1) δ Y ++ wW h (a 0) t0 l0 m0 ++ sW cI a (addF σ (nI j2) (nI c8) (nI (1 + j76))) ++ [(q144, .inl (cI, 19, .inl (fun _ => 0)))] ++ [(q150, .inl (cI, 9, .inl (upd (upd (fun _ => 0) 0 (nI j2)) 1 (nI c8))))] ++ bW cI rr (d_n δ) (d_R δ)) H := hP
            have hD : va_D A (dW cI cZ cG cY o rr h b ((dr8 + 1) + 1) δ Y ++ wW h (a 0) t0 l0 m0 ++ sW cI a (addF σ (nI j2) (nI c8) (nI (1 + j76))) ++ [(q144, .inl (cI, 19, .inl (fun _ => 0)))] ++ [(q150, .inl (cI, 9, .inl (upd (upd (fun _ => 0) 0 (nI j2)) 1 (nI c8))))] ++ bW cI rr (d_n δ) (d_R δ)) := hD
            refine lv_dup hx hb dX5_come_160 rfl ?_
            refine lv_iconst (v := 2) hx hb dX5_come_161 (by decide) ?_
            refine lv_iload_n hx hb dX5_come_162 rfl (lv_at hl 4 rfl) ?_
            refine va_iast hx hb hK hP hD hS 14 0 rfl rfl (vp_in_nI (n := 2) (by decide) (by decide)) dX5_come_163 (fun H locs hP hD hS => ?_)
            rw [show (2 : Int32).toNatClampNeg = 2 by decide] at hP hD
            have hP : va_P D vwCl (dW cI cZ cG cY o rr h b ((dr8 + 1) + 1) δ Y ++ wW h (a 0) t0 l0 m0 ++ sW cI a (addF σ (nI j2) (nI c8) (nI (1 + j76))) ++ [(q144, .inl (cI, 19, .inl (fun _ => 0)))] ++ [(q150, .inl (cI, 9, .inl (upd (upd (upd (fun _ => 0) 0 (nI j2)) 1 (nI c8)) 2 (nI (1 + j76)))))] ++ bW cI rr (d_n δ) (d_R δ)) H := hP
            have hD : va_D A (dW cI cZ cG cY o rr h b ((dr8 + 1) + 1) δ Y ++ wW h (a 0) t0 l0 m0 ++ sW cI a (addF σ (nI j2) (nI c8) (nI (1 + j76))) ++ [(q144, .inl (cI, 19, .inl (fun _ => 0)))] ++ [(q150, .inl (cI, 9, .inl (upd (upd (upd (fun _ => 0) 0 (nI j2)) 1 (nI c8)) 2 (nI (1 + j76)))))] ++ bW cI rr (d_n δ) (d_R δ)) := hD
            refine lv_dup hx hb dX5_come_164 rfl ?_
            refine lv_iconst (v := 3) hx hb dX5_come_165 (by decide) ?_
            refine lv_iload_n hx hb dX5_come_166 rfl (lv_at hl 4 rfl) ?_
            refine va_iast hx hb hK hP hD hS 14 0 rfl rfl (vp_in_nI (n := 3) (by decide) (by decide)) dX5_come_167 (fun H locs hP hD hS => ?_)
            rw [show (3 : Int32).toNatClampNeg = 3 by decide] at hP hD
            have hP : va_P D vwCl (dW cI cZ cG cY o rr h b ((dr8 + 1) + 1) δ Y ++ wW h (a 0) t0 l0 m0 ++ sW cI a (addF σ (nI j2) (nI c8) (nI (1 + j76))) ++ [(q144, .inl (cI, 19, .inl (fun _ => 0)))] ++ [(q150, .inl (cI, 9, .inl (upd (upd (upd (upd (fun _ => 0) 0 (nI j2)) 1 (nI c8)) 2 (nI (1 + j76))) 3 (nI (1 + j76)))))] ++ bW cI rr (d_n δ) (d_R δ)) H := hP
            have hD : va_D A (dW cI cZ cG cY o rr h b ((dr8 + 1) + 1) δ Y ++ wW h (a 0) t0 l0 m0 ++ sW cI a (addF σ (nI j2) (nI c8) (nI (1 + j76))) ++ [(q144, .inl (cI, 19, .inl (fun _ => 0)))] ++ [(q150, .inl (cI, 9, .inl (upd (upd (upd (upd (fun _ => 0) 0 (nI j2)) 1 (nI c8)) 2 (nI (1 + j76))) 3 (nI (1 + j76)))))] ++ bW cI rr (d_n δ) (d_R δ)) := hD
            refine lv_dup hx hb dX5_come_168 rfl ?_
            refine lv_iconst (v := 4) hx hb dX5_come_169 (by decide) ?_
            refine lv_iconst (v := 5) hx hb dX5_come_170 (by decide) ?_
            refine va_iast hx hb hK hP hD hS 14 0 rfl rfl (vp_in_nI (n := 4) (by decide) (by decide)) dX5_come_171 (fun H locs hP hD hS => ?_)
            rw [show (4 : Int32).toNatClampNeg = 4 by decide] at hP hD
            have hP : va_P D vwCl (dW cI cZ cG cY o rr h b ((dr8 + 1) + 1) δ Y ++ wW h (a 0) t0 l0 m0 ++ sW cI a (addF σ (nI j2) (nI c8) (nI (1 + j76))) ++ [(q144, .inl (cI, 19, .inl (fun _ => 0)))] ++ [(q150, .inl (cI, 9, .inl (upd (upd (upd (upd (upd (fun _ => 0) 0 (nI j2)) 1 (nI c8)) 2 (nI (1 + j76))) 3 (nI (1 + j76))) 4 5)))] ++ bW cI rr (d_n δ) (d_R δ)) H := hP
            have hD : va_D A (dW cI cZ cG cY o rr h b ((dr8 + 1) + 1) δ Y ++ wW h (a 0) t0 l0 m0 ++ sW cI a (addF σ (nI j2) (nI c8) (nI (1 + j76))) ++ [(q144, .inl (cI, 19, .inl (fun _ => 0)))] ++ [(q150, .inl (cI, 9, .inl (upd (upd (upd (upd (upd (fun _ => 0) 0 (nI j2)) 1 (nI c8)) 2 (nI (1 + j76))) 3 (nI (1 + j76))) 4 5)))] ++ bW cI rr (d_n δ) (d_R δ)) := hD
            refine lv_dup hx hb dX5_come_172 rfl ?_
            refine lv_iconst (v := 5) hx hb dX5_come_173 (by decide) ?_
            refine lv_iconst (v := 2) hx hb dX5_come_174 (by decide) ?_
            refine va_iast hx hb hK hP hD hS 14 0 rfl rfl (vp_in_nI (n := 5) (by decide) (by decide)) dX5_come_175 (fun H locs hP hD hS => ?_)
            rw [show (5 : Int32).toNatClampNeg = 5 by decide] at hP hD
            have hP : va_P D vwCl (dW cI cZ cG cY o rr h b ((dr8 + 1) + 1) δ Y ++ wW h (a 0) t0 l0 m0 ++ sW cI a (addF σ (nI j2) (nI c8) (nI (1 + j76))) ++ [(q144, .inl (cI, 19, .inl (fun _ => 0)))] ++ [(q150, .inl (cI, 9, .inl (upd (upd (upd (upd (upd (upd (fun _ => 0) 0 (nI j2)) 1 (nI c8)) 2 (nI (1 + j76))) 3 (nI (1 + j76))) 4 5) 5 2)))] ++ bW cI rr (d_n δ) (d_R δ)) H := hP
            have hD : va_D A (dW cI cZ cG cY o rr h b ((dr8 + 1) + 1) δ Y ++ wW h (a 0) t0 l0 m0 ++ sW cI a (addF σ (nI j2) (nI c8) (nI (1 + j76))) ++ [(q144, .inl (cI, 19, .inl (fun _ => 0)))] ++ [(q150, .inl (cI, 9, .inl (upd (upd (upd (upd (upd (upd (fun _ => 0) 0 (nI j2)) 1 (nI c8)) 2 (nI (1 + j76))) 3 (nI (1 + j76))) 4 5) 5 2)))] ++ bW cI rr (d_n δ) (d_R δ)) := hD
            refine lv_dup hx hb dX5_come_176 rfl ?_
            refine lv_bipush (v := 6) hx hb dX5_come_177 (by decide) ?_
            refine lv_iconst (v := 2) hx hb dX5_come_179 (by decide) ?_
            refine va_iast hx hb hK hP hD hS 14 0 rfl rfl (vp_in_nI (n := 6) (by decide) (by decide)) dX5_come_180 (fun H locs hP hD hS => ?_)
            rw [show (6 : Int32).toNatClampNeg = 6 by decide] at hP hD
            have hP : va_P D vwCl (dW cI cZ cG cY o rr h b ((dr8 + 1) + 1) δ Y ++ wW h (a 0) t0 l0 m0 ++ sW cI a (addF σ (nI j2) (nI c8) (nI (1 + j76))) ++ [(q144, .inl (cI, 19, .inl (fun _ => 0)))] ++ [(q150, .inl (cI, 9, .inl (upd (upd (upd (upd (upd (upd (upd (fun _ => 0) 0 (nI j2)) 1 (nI c8)) 2 (nI (1 + j76))) 3 (nI (1 + j76))) 4 5) 5 2) 6 2)))] ++ bW cI rr (d_n δ) (d_R δ)) H := hP
            have hD : va_D A (dW cI cZ cG cY o rr h b ((dr8 + 1) + 1) δ Y ++ wW h (a 0) t0 l0 m0 ++ sW cI a (addF σ (nI j2) (nI c8) (nI (1 + j76))) ++ [(q144, .inl (cI, 19, .inl (fun _ => 0)))] ++ [(q150, .inl (cI, 9, .inl (upd (upd (upd (upd (upd (upd (upd (fun _ => 0) 0 (nI j2)) 1 (nI c8)) 2 (nI (1 + j76))) 3 (nI (1 + j76))) 4 5) 5 2) 6 2)))] ++ bW cI rr (d_n δ) (d_R δ)) := hD
            refine lv_dup hx hb dX5_come_181 rfl ?_
            refine lv_bipush (v := 7) hx hb dX5_come_182 (by decide) ?_
            refine lv_iconst (v := 3) hx hb dX5_come_184 (by decide) ?_
            refine va_iast hx hb hK hP hD hS 14 0 rfl rfl (vp_in_nI (n := 7) (by decide) (by decide)) dX5_come_185 (fun H locs hP hD hS => ?_)
            rw [show (7 : Int32).toNatClampNeg = 7 by decide] at hP hD
            have hP : va_P D vwCl (dW cI cZ cG cY o rr h b ((dr8 + 1) + 1) δ Y ++ wW h (a 0) t0 l0 m0 ++ sW cI a (addF σ (nI j2) (nI c8) (nI (1 + j76))) ++ [(q144, .inl (cI, 19, .inl (fun _ => 0)))] ++ [(q150, .inl (cI, 9, .inl (upd (upd (upd (upd (upd (upd (upd (upd (fun _ => 0) 0 (nI j2)) 1 (nI c8)) 2 (nI (1 + j76))) 3 (nI (1 + j76))) 4 5) 5 2) 6 2) 7 3)))] ++ bW cI rr (d_n δ) (d_R δ)) H := hP
            have hD : va_D A (dW cI cZ cG cY o rr h b ((dr8 + 1) + 1) δ Y ++ wW h (a 0) t0 l0 m0 ++ sW cI a (addF σ (nI j2) (nI c8) (nI (1 + j76))) ++ [(q144, .inl (cI, 19, .inl (fun _ => 0)))] ++ [(q150, .inl (cI, 9, .inl (upd (upd (upd (upd (upd (upd (upd (upd (fun _ => 0) 0 (nI j2)) 1 (nI c8)) 2 (nI (1 + j76))) 3 (nI (1 + j76))) 4 5) 5 2) 6 2) 7 3)))] ++ bW cI rr (d_n δ) (d_R δ)) := hD
            refine lv_dup hx hb dX5_come_186 rfl ?_
            refine lv_bipush (v := 8) hx hb dX5_come_187 (by decide) ?_
            refine lv_iload hx hb dX5_come_189 (lv_at hl 2 rfl) ?_
            have L208 : ∀ (t9 : Int32) (ht9 : t9 = timeN δ) (H : Heap) (locs : List Loc) (ls : Array Slot), lv_has ls 10 [(7, .ref q144), (6, .int (nI (d_n δ))), (4, .int 1), (3, .int (nI (1 + j76))), (2, .int (nI c8)), (1, .int (nI j2)), (0, .ref (o 0))] → va_P D vwCl (dW cI cZ cG cY o rr h b ((dr8 + 1) + 1) δ Y ++ wW h (a 0) t0 l0 m0 ++ sW cI a (addF σ (nI j2) (nI c8) (nI (1 + j76))) ++ [(q144, .inl (cI, 19, .inl (fun _ => 0)))] ++ [(q150, .inl (cI, 9, .inl (upd (upd (upd (upd (upd (upd (upd (upd (fun _ => 0) 0 (nI j2)) 1 (nI c8)) 2 (nI (1 + j76))) 3 (nI (1 + j76))) 4 5) 5 2) 6 2) 7 3)))] ++ bW cI rr (d_n δ) (d_R δ)) H → va_D A (dW cI cZ cG cY o rr h b ((dr8 + 1) + 1) δ Y ++ wW h (a 0) t0 l0 m0 ++ sW cI a (addF σ (nI j2) (nI c8) (nI (1 + j76))) ++ [(q144, .inl (cI, 19, .inl (fun _ => 0)))] ++ [(q150, .inl (cI, 9, .inl (upd (upd (upd (upd (upd (upd (upd (upd (fun _ => 0) 0 (nI j2)) 1 (nI c8)) 2 (nI (1 + j76))) 3 (nI (1 + j76))) 4 5) 5 2) 6 2) 7 3)))] ++ bW cI rr (d_n δ) (d_R δ)) → va_S A s.heap H locs → W p l e ({ frames := 7, cells := 4, slots := 45, locals := 143 } : Room) s m ([.ref (o 0)] : List Value).toArray below meth c H locs 3 34 (MQ below (va_Qi (fun (r : Int32) (u : (SS × DD × Nat × RW × (Nat → Nat) × (Nat → Nat))) => r = 1 ∧ IR (K) u.1 u.2.1 ∧ u.2.2.1 ≤ dr + 200 ∧ d_n u.2.1 ≤ d_n δ + 1 ∧ u.2.2.2.2.1 0 = o 0) (fun (u : (SS × DD × Nat × RW × (Nat → Nat) × (Nat → Nat))) => posD D cI cZ cG cY A (wW h (a 0) t0 l0 m0 ++ sW cI a u.1 ++ dW cI cZ cG cY u.2.2.2.2.1 u.2.2.2.2.2 h b u.2.2.1 u.2.1 u.2.2.2.1 ++ bW cI u.2.2.2.2.2 (d_n u.2.1) (d_R u.2.1))) A) ([.ref (o 0)] : List Value).toArray s 4 45 A) (F0 m 208 ls [.int t9, .int 8, .ref q150, .ref q150]) := by
              intro t9 ht9 H locs ls hl hP hD hS
              refine va_iast hx hb hK hP hD hS 14 0 rfl rfl (vp_in_nI (n := 8) (by decide) (by decide)) dX5_come_208 (fun H locs hP hD hS => ?_)
              rw [show (8 : Int32).toNatClampNeg = 8 by decide] at hP hD
              have hP : va_P D vwCl (dW cI cZ cG cY o rr h b ((dr8 + 1) + 1) δ Y ++ wW h (a 0) t0 l0 m0 ++ sW cI a (addF σ (nI j2) (nI c8) (nI (1 + j76))) ++ [(q144, .inl (cI, 19, .inl (fun _ => 0)))] ++ [(q150, .inl (cI, 9, .inl (upd (upd (upd (upd (upd (upd (upd (upd (upd (fun _ => 0) 0 (nI j2)) 1 (nI c8)) 2 (nI (1 + j76))) 3 (nI (1 + j76))) 4 5) 5 2) 6 2) 7 3) 8 t9)))] ++ bW cI rr (d_n δ) (d_R δ)) H := hP
              have hD : va_D A (dW cI cZ cG cY o rr h b ((dr8 + 1) + 1) δ Y ++ wW h (a 0) t0 l0 m0 ++ sW cI a (addF σ (nI j2) (nI c8) (nI (1 + j76))) ++ [(q144, .inl (cI, 19, .inl (fun _ => 0)))] ++ [(q150, .inl (cI, 9, .inl (upd (upd (upd (upd (upd (upd (upd (upd (upd (fun _ => 0) 0 (nI j2)) 1 (nI c8)) 2 (nI (1 + j76))) 3 (nI (1 + j76))) 4 5) 5 2) 6 2) 7 3) 8 t9)))] ++ bW cI rr (d_n δ) (d_R δ)) := hD
              refine lv_astore (lv' := [(8, .ref q150), (7, .ref q144), (6, .int (nI (d_n δ))), (4, .int 1), (3, .int (nI (1 + j76))), (2, .int (nI c8)), (1, .int (nI j2)), (0, .ref (o 0))]) hx hb dX5_come_209 hl (by decide) rfl (fun ls hl => ?_)
              refine lv_aload hx hb dX5_come_211 (lv_at hl 0 rfl) ?_
              refine lv_iconst (v := 0) hx hb dX5_come_213 (by decide) ?_
              refine lv_aload hx hb dX5_come_214 (lv_at hl 1 rfl) ?_
              refine lv_iconst (v := 0) hx hb dX5_come_216 (by decide) ?_
              refine lv_bipush (v := 9) hx hb dX5_come_217 (by decide) ?_
              refine va_copyi hx hb (hml.trans hl.1.symm) hown (hts (.methodLink RX5 93 arraycopyName) (by decide +kernel)) (hts (.native arraycopyName) (by decide +kernel)) (hts (.static arraycopyName) (by decide +kernel)) (hts (.initialized "java/lang/System") (by decide +kernel)) hK hP hD hS 14 13 0 0 rfl rfl rfl rfl rfl (by decide) (by decide) (by decide) (by decide) (by decide) (fun _ _ => rfl) (Nat.le_of_ble_eq_true rfl) (by decide +kernel) dX5_come_219 (fun H locs hP hD hS => ?_)
              have hP := P_row hP hD 13 rfl (newR (nI j2) (nI c8) (nI (1 + j76)) t9) (cpy9 _ _ _ _)
              have hD := hD.set (p := 13) (e := .inl (cI, 19, .inl (newR (nI j2) (nI c8) (nI (1 + j76)) t9))) rfl
              have hP : va_P D vwCl (dW cI cZ cG cY o rr h b ((dr8 + 1) + 1) δ Y ++ wW h (a 0) t0 l0 m0 ++ sW cI a (addF σ (nI j2) (nI c8) (nI (1 + j76))) ++ [(q144, .inl (cI, 19, .inl (newR (nI j2) (nI c8) (nI (1 + j76)) t9)))] ++ [(q150, .inl (cI, 9, .inl (upd (upd (upd (upd (upd (upd (upd (upd (upd (fun _ => 0) 0 (nI j2)) 1 (nI c8)) 2 (nI (1 + j76))) 3 (nI (1 + j76))) 4 5) 5 2) 6 2) 7 3) 8 t9)))] ++ bW cI rr (d_n δ) (d_R δ)) H := hP
              have hD : va_D A (dW cI cZ cG cY o rr h b ((dr8 + 1) + 1) δ Y ++ wW h (a 0) t0 l0 m0 ++ sW cI a (addF σ (nI j2) (nI c8) (nI (1 + j76))) ++ [(q144, .inl (cI, 19, .inl (newR (nI j2) (nI c8) (nI (1 + j76)) t9)))] ++ [(q150, .inl (cI, 9, .inl (upd (upd (upd (upd (upd (upd (upd (upd (upd (fun _ => 0) 0 (nI j2)) 1 (nI c8)) 2 (nI (1 + j76))) 3 (nI (1 + j76))) 4 5) 5 2) 6 2) 7 3) 8 t9)))] ++ bW cI rr (d_n δ) (d_R δ)) := hD
              refine lv_aload_n hx hb dX5_come_222 rfl (lv_at hl 7 rfl) ?_
              refine va_get (D := D) (ci := 5) (v := .ref (o 5)) (C := RX5) (T := TX5) (N := 8) hx hb hts (by decide +kernel) hown hK hP 0 rfl rfl 5 (by decide) (hts (.fieldLink RX5 26 "WarrenLaw$Den" "beings" "[[I") (by decide +kernel)) (fun _ h9 => h9) rfl dX5_come_223 ?_
              refine va_alen (v := (nI (d_n δ))) hx hb hK hP 5 2 rfl rfl rfl dX5_come_226 ?_
              refine lv_iconst (v := 1) hx hb dX5_come_227 (by decide) ?_
              refine lv_iadd hx hb dX5_come_228 ?_
              rw [show ((nI (d_n δ)) + 1) = nI (d_n δ + 1) from nI_add (d_n δ) 1]
              refine w_newG (N' := (d_n δ + 1)) hx hb hown (hts (.classLink RX5 25 "[I") (by decide +kernel)) (over_moved (Vm.Alike.refl s.vm) hov) hP hD hS hA (nI_pos (by omega)) (nI_clamp (by omega)) (by omega) (Nat.le_of_ble_eq_true rfl) (by show 34 + ((d_n δ + 1)) ≤ 45; omega) dX5_come_229 (fun q229 cA9 H hG9 hP hD hS => ?_)
              rw [RowG.eq hG9 hG] at hP hD
              refine W.widen (k := 4) (n := 45) (Nat.le_refl _) (by omega) ?_
              have hP := hP.swap
              have hD := hD.swap
              have hP : va_P D vwCl (dW cI cZ cG cY o rr h b ((dr8 + 1) + 1) δ Y ++ wW h (a 0) t0 l0 m0 ++ sW cI a (addF σ (nI j2) (nI c8) (nI (1 + j76))) ++ [(q144, .inl (cI, 19, .inl (newR (nI j2) (nI c8) (nI (1 + j76)) t9)))] ++ [(q150, .inl (cI, 9, .inl (upd (upd (upd (upd (upd (upd (upd (upd (upd (fun _ => 0) 0 (nI j2)) 1 (nI c8)) 2 (nI (1 + j76))) 3 (nI (1 + j76))) 4 5) 5 2) 6 2) 7 3) 8 t9)))] ++ [(q229, .inl (cG, (d_n δ + 1), .inr (.inr (.inr (.inr (fun _ => none))))))] ++ bW cI rr (d_n δ) (d_R δ)) H := hP
              have hD : va_D A (dW cI cZ cG cY o rr h b ((dr8 + 1) + 1) δ Y ++ wW h (a 0) t0 l0 m0 ++ sW cI a (addF σ (nI j2) (nI c8) (nI (1 + j76))) ++ [(q144, .inl (cI, 19, .inl (newR (nI j2) (nI c8) (nI (1 + j76)) t9)))] ++ [(q150, .inl (cI, 9, .inl (upd (upd (upd (upd (upd (upd (upd (upd (upd (fun _ => 0) 0 (nI j2)) 1 (nI c8)) 2 (nI (1 + j76))) 3 (nI (1 + j76))) 4 5) 5 2) 6 2) 7 3) 8 t9)))] ++ [(q229, .inl (cG, (d_n δ + 1), .inr (.inr (.inr (.inr (fun _ => none))))))] ++ bW cI rr (d_n δ) (d_R δ)) := hD
              refine lv_astore (lv' := [(9, .ref q229), (8, .ref q150), (7, .ref q144), (6, .int (nI (d_n δ))), (4, .int 1), (3, .int (nI (1 + j76))), (2, .int (nI c8)), (1, .int (nI j2)), (0, .ref (o 0))]) hx hb dX5_come_232 hl (by decide) rfl (fun ls hl => ?_)
              refine lv_aload_n hx hb dX5_come_234 rfl (lv_at hl 8 rfl) ?_
              refine va_get (D := D) (ci := 5) (v := .ref (o 5)) (C := RX5) (T := TX5) (N := 8) hx hb hts (by decide +kernel) hown hK hP 0 rfl rfl 5 (by decide) (hts (.fieldLink RX5 26 "WarrenLaw$Den" "beings" "[[I") (by decide +kernel)) (fun _ h9 => h9) rfl dX5_come_235 ?_
              refine lv_iconst (v := 0) hx hb dX5_come_238 (by decide) ?_
              refine lv_aload hx hb dX5_come_239 (lv_at hl 0 rfl) ?_
              refine lv_iconst (v := 0) hx hb dX5_come_241 (by decide) ?_
              refine lv_aload_n hx hb dX5_come_242 rfl (lv_at hl 8 rfl) ?_
              refine va_get (D := D) (ci := 5) (v := .ref (o 5)) (C := RX5) (T := TX5) (N := 8) hx hb hts (by decide +kernel) hown hK hP 0 rfl rfl 5 (by decide) (hts (.fieldLink RX5 26 "WarrenLaw$Den" "beings" "[[I") (by decide +kernel)) (fun _ h9 => h9) rfl dX5_come_243 ?_
              refine va_alen (v := (nI (d_n δ))) hx hb hK hP 5 2 rfl rfl rfl dX5_come_246 ?_
              refine w_copyG (N := 19) (n := d_n δ) hx hb (hml.trans hl.1.symm) hown (hts (.methodLink RX5 93 arraycopyName) (by decide +kernel)) (hts (.native arraycopyName) (by decide +kernel)) (hts (.static arraycopyName) (by decide +kernel)) (hts (.initialized "java/lang/System") (by decide +kernel)) hK1 hG hP hD hS 5 15 rfl rfl (by omega) (Nat.le_refl _) (by omega) (fun i hi y hy => by cases hy; exact ⟨d_R δ i, hP _ _ (bW_at (K := 16) rfl hi)⟩) (Nat.le_of_ble_eq_true rfl) (by decide +kernel) dX5_come_247 (fun H locs hP hD hS => ?_)
              have hP : va_P D vwCl (dW cI cZ cG cY o rr h b ((dr8 + 1) + 1) δ Y ++ wW h (a 0) t0 l0 m0 ++ sW cI a (addF σ (nI j2) (nI c8) (nI (1 + j76))) ++ [(q144, .inl (cI, 19, .inl (newR (nI j2) (nI c8) (nI (1 + j76)) t9)))] ++ [(q150, .inl (cI, 9, .inl (upd (upd (upd (upd (upd (upd (upd (upd (upd (fun _ => 0) 0 (nI j2)) 1 (nI c8)) 2 (nI (1 + j76))) 3 (nI (1 + j76))) 4 5) 5 2) 6 2) 7 3) 8 t9)))] ++ [(q229, .inl (cG, (d_n δ + 1), .inr (.inr (.inr (.inr (va_cpy (fun j => some (rr j)) (fun _ => none) 0 0 (d_n δ)))))))] ++ bW cI rr (d_n δ) (d_R δ)) H := hP
              have hD : va_D A (dW cI cZ cG cY o rr h b ((dr8 + 1) + 1) δ Y ++ wW h (a 0) t0 l0 m0 ++ sW cI a (addF σ (nI j2) (nI c8) (nI (1 + j76))) ++ [(q144, .inl (cI, 19, .inl (newR (nI j2) (nI c8) (nI (1 + j76)) t9)))] ++ [(q150, .inl (cI, 9, .inl (upd (upd (upd (upd (upd (upd (upd (upd (upd (fun _ => 0) 0 (nI j2)) 1 (nI c8)) 2 (nI (1 + j76))) 3 (nI (1 + j76))) 4 5) 5 2) 6 2) 7 3) 8 t9)))] ++ [(q229, .inl (cG, (d_n δ + 1), .inr (.inr (.inr (.inr (va_cpy (fun j => some (rr j)) (fun _ => none) 0 0 (d_n δ)))))))] ++ bW cI rr (d_n δ) (d_R δ)) := hD
              refine lv_aload hx hb dX5_come_250 (lv_at hl 0 rfl) ?_
              refine lv_aload_n hx hb dX5_come_252 rfl (lv_at hl 8 rfl) ?_
              refine va_get (D := D) (ci := 5) (v := .ref (o 5)) (C := RX5) (T := TX5) (N := 8) hx hb hts (by decide +kernel) hown hK hP 0 rfl rfl 5 (by decide) (hts (.fieldLink RX5 26 "WarrenLaw$Den" "beings" "[[I") (by decide +kernel)) (fun _ h9 => h9) rfl dX5_come_253 ?_
              refine va_alen (v := (nI (d_n δ))) hx hb hK hP 5 2 rfl rfl rfl dX5_come_256 ?_
              refine lv_aload hx hb dX5_come_257 (lv_at hl 2 rfl) ?_
              refine w_putG hx hb hK1 hP hD hS 15 13 hG rfl rfl (vp_in_nI (by omega) (by omega)) dX5_come_259 (fun H locs hP hD hS => ?_)
              rw [nI_clamp (by omega)] at hP hD
              have hP : va_P D vwCl (dW cI cZ cG cY o rr h b ((dr8 + 1) + 1) δ Y ++ wW h (a 0) t0 l0 m0 ++ sW cI a (addF σ (nI j2) (nI c8) (nI (1 + j76))) ++ [(q144, .inl (cI, 19, .inl (newR (nI j2) (nI c8) (nI (1 + j76)) t9)))] ++ [(q150, .inl (cI, 9, .inl (upd (upd (upd (upd (upd (upd (upd (upd (upd (fun _ => 0) 0 (nI j2)) 1 (nI c8)) 2 (nI (1 + j76))) 3 (nI (1 + j76))) 4 5) 5 2) 6 2) 7 3) 8 t9)))] ++ [(q229, .inl (cG, (d_n δ + 1), .inr (.inr (.inr (.inr (va_up (va_cpy (fun j => some (rr j)) (fun _ => none) 0 0 (d_n δ)) (d_n δ) (some q144)))))))] ++ bW cI rr (d_n δ) (d_R δ)) H := hP
              have hD : va_D A (dW cI cZ cG cY o rr h b ((dr8 + 1) + 1) δ Y ++ wW h (a 0) t0 l0 m0 ++ sW cI a (addF σ (nI j2) (nI c8) (nI (1 + j76))) ++ [(q144, .inl (cI, 19, .inl (newR (nI j2) (nI c8) (nI (1 + j76)) t9)))] ++ [(q150, .inl (cI, 9, .inl (upd (upd (upd (upd (upd (upd (upd (upd (upd (fun _ => 0) 0 (nI j2)) 1 (nI c8)) 2 (nI (1 + j76))) 3 (nI (1 + j76))) 4 5) 5 2) 6 2) 7 3) 8 t9)))] ++ [(q229, .inl (cG, (d_n δ + 1), .inr (.inr (.inr (.inr (va_up (va_cpy (fun j => some (rr j)) (fun _ => none) 0 0 (d_n δ)) (d_n δ) (some q144)))))))] ++ bW cI rr (d_n δ) (d_R δ)) := hD
              have hP := P_rowq hP hD 15 rfl (fun j => some ((fun j => if j = d_n δ then q144 else rr j) j)) (cpyN rr q144 (d_n δ))
              have hD := hD.set (p := 15) (e := .inl (cG, d_n δ + 1, .inr (.inr (.inr (.inr (fun j => some ((fun j => if j = d_n δ then q144 else rr j) j))))))) rfl
              have hP : va_P D vwCl (dW cI cZ cG cY o rr h b ((dr8 + 1) + 1) δ Y ++ wW h (a 0) t0 l0 m0 ++ sW cI a (addF σ (nI j2) (nI c8) (nI (1 + j76))) ++ [(q144, .inl (cI, 19, .inl (newR (nI j2) (nI c8) (nI (1 + j76)) t9)))] ++ [(q150, .inl (cI, 9, .inl (upd (upd (upd (upd (upd (upd (upd (upd (upd (fun _ => 0) 0 (nI j2)) 1 (nI c8)) 2 (nI (1 + j76))) 3 (nI (1 + j76))) 4 5) 5 2) 6 2) 7 3) 8 t9)))] ++ [(q229, .inl (cG, (d_n δ + 1), .inr (.inr (.inr (.inr (fun j => some ((fun j => if j = d_n δ then q144 else rr j) j)))))))] ++ bW cI rr (d_n δ) (d_R δ)) H := hP
              have hD : va_D A (dW cI cZ cG cY o rr h b ((dr8 + 1) + 1) δ Y ++ wW h (a 0) t0 l0 m0 ++ sW cI a (addF σ (nI j2) (nI c8) (nI (1 + j76))) ++ [(q144, .inl (cI, 19, .inl (newR (nI j2) (nI c8) (nI (1 + j76)) t9)))] ++ [(q150, .inl (cI, 9, .inl (upd (upd (upd (upd (upd (upd (upd (upd (upd (fun _ => 0) 0 (nI j2)) 1 (nI c8)) 2 (nI (1 + j76))) 3 (nI (1 + j76))) 4 5) 5 2) 6 2) 7 3) 8 t9)))] ++ [(q229, .inl (cG, (d_n δ + 1), .inr (.inr (.inr (.inr (fun j => some ((fun j => if j = d_n δ then q144 else rr j) j)))))))] ++ bW cI rr (d_n δ) (d_R δ)) := hD
              refine lv_aload_n hx hb dX5_come_260 rfl (lv_at hl 8 rfl) ?_
              refine lv_aload hx hb dX5_come_261 (lv_at hl 0 rfl) ?_
              refine va_put (D := D) (ci := 5) (v := .ref q229) (ty := .array (.array .int)) (C := RX5) (T := TX5) (N := 8) hx hb hts (by decide +kernel) tyX5 tyX5_ok nmX5 hown hK hP hD hS 0 rfl rfl 5 (by decide) (hts (.fieldLink RX5 26 "WarrenLaw$Den" "beings" "[[I") (by decide +kernel)) (fun _ h9 => h9) rfl (by decide +kernel) rfl rfl (Nat.le_of_ble_eq_true rfl) dX5_come_263 (fun H locs hP hD hS => ?_)
              have hP := P_rowq hP hD 2 rfl (fun j => some ((fun k => if k = 5 then q229 else o k) (3 + j))) (fun j hj => by show some (o (3 + j)) = some (if 3 + j = 5 then q229 else o (3 + j)); rw [if_neg (by omega)])
              have hD := hD.set (p := 2) (e := .inl (cY, 2, .inr (.inr (.inr (.inr (fun j => some ((fun k => if k = 5 then q229 else o k) (3 + j)))))))) rfl
              have hP : va_P D vwCl (([(o 0, .inr (5, [.ref h, .ref b, .int (nI ((dr8 + 1) + 1)), .ref (o 1), .ref (o 2), .ref q229, .int (d_ac δ), .int (d_hi δ)])), (o 1, .inl (cI, 160, .inl (d_k δ))), (o 2, .inl (cY, 2, .inr (.inr (.inr (.inr (fun j => some ((fun k => if k = 5 then q229 else o k) (3 + j)))))))), (o 3, .inl (cZ, 160, .inl (Y 0))), (o 4, .inl (cZ, 160, .inl (Y 1))), (o 5, .inl (cG, d_n δ, .inr (.inr (.inr (.inr (fun j => some (rr j)))))))] : va_W) ++ wW h (a 0) t0 l0 m0 ++ sW cI a (addF σ (nI j2) (nI c8) (nI (1 + j76))) ++ [(q144, .inl (cI, 19, .inl (newR (nI j2) (nI c8) (nI (1 + j76)) t9)))] ++ [(q150, .inl (cI, 9, .inl (upd (upd (upd (upd (upd (upd (upd (upd (upd (fun _ => 0) 0 (nI j2)) 1 (nI c8)) 2 (nI (1 + j76))) 3 (nI (1 + j76))) 4 5) 5 2) 6 2) 7 3) 8 t9)))] ++ [(q229, .inl (cG, (d_n δ + 1), .inr (.inr (.inr (.inr (fun j => some ((fun j => if j = d_n δ then q144 else rr j) j)))))))] ++ bW cI rr (d_n δ) (d_R δ)) H := hP
              have hD : va_D A (([(o 0, .inr (5, [.ref h, .ref b, .int (nI ((dr8 + 1) + 1)), .ref (o 1), .ref (o 2), .ref q229, .int (d_ac δ), .int (d_hi δ)])), (o 1, .inl (cI, 160, .inl (d_k δ))), (o 2, .inl (cY, 2, .inr (.inr (.inr (.inr (fun j => some ((fun k => if k = 5 then q229 else o k) (3 + j)))))))), (o 3, .inl (cZ, 160, .inl (Y 0))), (o 4, .inl (cZ, 160, .inl (Y 1))), (o 5, .inl (cG, d_n δ, .inr (.inr (.inr (.inr (fun j => some (rr j)))))))] : va_W) ++ wW h (a 0) t0 l0 m0 ++ sW cI a (addF σ (nI j2) (nI c8) (nI (1 + j76))) ++ [(q144, .inl (cI, 19, .inl (newR (nI j2) (nI c8) (nI (1 + j76)) t9)))] ++ [(q150, .inl (cI, 9, .inl (upd (upd (upd (upd (upd (upd (upd (upd (upd (fun _ => 0) 0 (nI j2)) 1 (nI c8)) 2 (nI (1 + j76))) 3 (nI (1 + j76))) 4 5) 5 2) 6 2) 7 3) 8 t9)))] ++ [(q229, .inl (cG, (d_n δ + 1), .inr (.inr (.inr (.inr (fun j => some ((fun j => if j = d_n δ then q144 else rr j) j)))))))] ++ bW cI rr (d_n δ) (d_R δ)) := hD
              have hP := va_P.part (pl := bW cI rr (d_n δ) (d_R δ)) (cx := wW h (a 0) t0 l0 m0 ++ sW cI a (addF σ (nI j2) (nI c8) (nI (1 + j76))) ++ dW cI cZ cG cY (fun k => if k = 5 then q229 else o k) (fun j => if j = d_n δ then q144 else rr j) h b ((dr8 + 1) + 1) (comeD δ (nI j2) (nI c8) (nI (1 + j76))) Y ++ [(q144, .inl (cI, 19, .inl (newR (nI j2) (nI c8) (nI (1 + j76)) t9)))]) hP [6, 7, 8, 9, 10, 11, 12, 0, 1, 2, 3, 4, 15, 13] rfl
              have hD := va_D.part (pl := bW cI rr (d_n δ) (d_R δ)) (cx := wW h (a 0) t0 l0 m0 ++ sW cI a (addF σ (nI j2) (nI c8) (nI (1 + j76))) ++ dW cI cZ cG cY (fun k => if k = 5 then q229 else o k) (fun j => if j = d_n δ then q144 else rr j) h b ((dr8 + 1) + 1) (comeD δ (nI j2) (nI c8) (nI (1 + j76))) Y ++ [(q144, .inl (cI, 19, .inl (newR (nI j2) (nI c8) (nI (1 + j76)) t9)))]) hD [6, 7, 8, 9, 10, 11, 12, 0, 1, 2, 3, 4, 15, 13] (by decide) rfl
              have hP := hP.swap
              have hD := hD.swap
              rw [List.append_assoc, bW_push, ht9] at hP hD
              have hP : va_P D vwCl (wW h (a 0) t0 l0 m0 ++ sW cI a (addF σ (nI j2) (nI c8) (nI (1 + j76))) ++ dW cI cZ cG cY (fun k => if k = 5 then q229 else o k) (fun j => if j = d_n δ then q144 else rr j) h b ((dr8 + 1) + 1) (comeD δ (nI j2) (nI c8) (nI (1 + j76))) Y ++ bW cI (fun j => if j = d_n δ then q144 else rr j) (d_n (comeD δ (nI j2) (nI c8) (nI (1 + j76)))) (d_R (comeD δ (nI j2) (nI c8) (nI (1 + j76))))) H := hP
              have hD : va_D A (wW h (a 0) t0 l0 m0 ++ sW cI a (addF σ (nI j2) (nI c8) (nI (1 + j76))) ++ dW cI cZ cG cY (fun k => if k = 5 then q229 else o k) (fun j => if j = d_n δ then q144 else rr j) h b ((dr8 + 1) + 1) (comeD δ (nI j2) (nI c8) (nI (1 + j76))) Y ++ bW cI (fun j => if j = d_n δ then q144 else rr j) (d_n (comeD δ (nI j2) (nI c8) (nI (1 + j76)))) (d_R (comeD δ (nI j2) (nI c8) (nI (1 + j76))))) := hD
              refine lv_aload_n hx hb dX5_come_266 rfl (lv_at hl 8 rfl) ?_
              refine lv_iload hx hb dX5_come_267 (lv_at hl 3 rfl) ?_
              have hFc := va_freeP (cx := dW cI cZ cG cY (fun k => if k = 5 then q229 else o k) (fun j => if j = d_n δ then q144 else rr j) h b ((dr8 + 1) + 1) (comeD δ (nI j2) (nI c8) (nI (1 + j76))) Y) hD hS hA [7, 8, 9, 10, 11, 12] rfl
              refine va_callv (va_runV (As := [.int (nI (d_n δ))]) (rest := []) ⟨hx, hb, hml, hown, hts⟩ (c_X5_look l D cI _ cZ cG cY (fun k => if k = 5 then q229 else o k) (fun j => if j = d_n δ then q144 else rr j) h b ((dr8 + 1) + 1) (comeD δ (nI j2) (nI c8) (nI (1 + j76))) Y t L xs (d_n δ) j2 hm1 (Nat.lt_succ_self _) hj2 (by show upR (d_R δ) (d_n δ) (newR (nI j2) (nI c8) (nI (1 + j76)) (timeN δ)) (d_n δ) 0 = _; rw [upR_s]; rfl) (Or.inr (by show cellB (upR (d_R δ) (d_n δ) (newR (nI j2) (nI c8) (nI (1 + j76)) (timeN δ)) (d_n δ) 1) = true; rw [upR_s]; exact cell_of (by omega)))) (cwV 1 hts gX5_come_X5_look rfl rfl rfl (by decide +kernel) ⟨Nat.le_of_ble_eq_true rfl, Nat.le_of_ble_eq_true rfl⟩) ⟨preD_blind, va_recv hK hP (ci := 5) (q0 := 7) rfl rfl, preD_of (hP.part (cx := dW cI cZ cG cY (fun k => if k = 5 then q229 else o k) (fun j => if j = d_n δ then q144 else rr j) h b ((dr8 + 1) + 1) (comeD δ (nI j2) (nI c8) (nI (1 + j76))) Y) [7, 8, 9, 10, 11, 12] rfl) hK (hD.part (cx := dW cI cZ cG cY (fun k => if k = 5 then q229 else o k) (fun j => if j = d_n δ then q144 else rr j) h b ((dr8 + 1) + 1) (comeD δ (nI j2) (nI c8) (nI (1 + j76))) Y) [7, 8, 9, 10, 11, 12] (by decide) rfl) hGX hS hFc [.ref (o 0), .int (nI (d_n δ))]⟩ rfl rfl hl.1 rfl (lv_room (Nat.le_of_ble_eq_true rfl)) dX5_come_269 ⟨Nat.le_of_ble_eq_true rfl, Nat.le_of_ble_eq_true rfl⟩) hS (fun q _ h => hFc q h) hFc (fun u t9 H1 locs ht hvm hw hB hz1 hk1 hS => ?_)
              obtain ⟨hP1, -, hD1⟩ := hB
              rw [ht] at hP1
              obtain ⟨Y269, rfl⟩ : ∃ z, z = u := ⟨_, rfl⟩
              obtain ⟨hP, hD⟩ := va_joinP (wr := wW h (a 0) t0 l0 m0 ++ sW cI a (addF σ (nI j2) (nI c8) (nI (1 + j76)))) hP hD [7, 8, 9, 10, 11, 12] [0, 1, 2, 3, 4, 5, 6] rfl rfl (by decide) (by decide) hk1 hFc hP1 hD1
              generalize H1 = H at hP hS ⊢
              have hP : va_P D vwCl (wW h (a 0) t0 l0 m0 ++ sW cI a (addF σ (nI j2) (nI c8) (nI (1 + j76))) ++ dW cI cZ cG cY (fun k => if k = 5 then q229 else o k) (fun j => if j = d_n δ then q144 else rr j) h b ((dr8 + 1) + 1) (comeD δ (nI j2) (nI c8) (nI (1 + j76))) Y269 ++ bW cI (fun j => if j = d_n δ then q144 else rr j) (d_n (comeD δ (nI j2) (nI c8) (nI (1 + j76)))) (d_R (comeD δ (nI j2) (nI c8) (nI (1 + j76))))) H := hP
              have hD : va_D A (wW h (a 0) t0 l0 m0 ++ sW cI a (addF σ (nI j2) (nI c8) (nI (1 + j76))) ++ dW cI cZ cG cY (fun k => if k = 5 then q229 else o k) (fun j => if j = d_n δ then q144 else rr j) h b ((dr8 + 1) + 1) (comeD δ (nI j2) (nI c8) (nI (1 + j76))) Y269 ++ bW cI (fun j => if j = d_n δ then q144 else rr j) (d_n (comeD δ (nI j2) (nI c8) (nI (1 + j76)))) (d_R (comeD δ (nI j2) (nI c8) (nI (1 + j76))))) := hD
              refine lv_iload hx hb dX5_come_272 (lv_at hl 3 rfl) ?_
              refine lv_aload_n hx hb dX5_come_274 rfl (lv_at hl 8 rfl) ?_
              refine va_get (D := D) (ci := 5) (v := .ref ((fun k => if k = 5 then q229 else o k) 5)) (C := RX5) (T := TX5) (N := 8) hx hb hts (by decide +kernel) hown hK hP 7 rfl rfl 5 (by decide) (hts (.fieldLink RX5 26 "WarrenLaw$Den" "beings" "[[I") (by decide +kernel)) (fun _ h9 => h9) rfl dX5_come_275 ?_
              refine va_alen (v := (nI (d_n (comeD δ (nI j2) (nI c8) (nI (1 + j76)))))) hx hb hK hP 12 2 rfl rfl rfl dX5_come_278 ?_
              refine lv_iconst (v := 1) hx hb dX5_come_279 (by decide) ?_
              refine lv_isub hx hb dX5_come_280 ?_
              rw [show nI (d_n (comeD δ (nI j2) (nI c8) (nI (1 + j76)))) - 1 = nI (d_n δ) from nI_pred (d_n δ)]
              refine lv_icmp_ne (tgt := 288) hx hb dX5_come_281 (by decide) (fun c_281 => absurd c_281 ((fun z9 => z9 rfl))) (fun c_281 => ?_)
              refine lv_iconst (v := 1) hx hb dX5_come_284 (by decide) ?_
              refine lv_goto (tgt := 289) hx hb dX5_come_285 (by decide) ?_
              have hP9 := hP
              have hD9 := hD
              exact W.zret (v := 1) hx hb hr rfl (fun T9 ht hW => ⟨⟨1, ((addF σ (nI j2) (nI c8) (nI (1 + j76))), (comeD δ (nI j2) (nI c8) (nI (1 + j76))), ((dr8 + 1) + 1), Y269, (fun k => if k = 5 then q229 else o k), (fun j => if j = d_n δ then q144 else rr j)), rfl, ⟨rfl, hI.come hm1 hj2 (by omega) ((come_T hI (s := j2) (c := c8) (x := 1 + j76) hj2 (by omega) (by omega) (by omega)).1 hm1 hm2 hm3).2 ((onD_m1 hn).mp hm3) (by omega) (by omega), by show dr8 + 1 + 1 ≤ dr + 200; omega, Nat.le_refl _, rfl⟩, by rw [ht]; exact hP9, va_K.moved hW.alike hK, hD9⟩, hS.F ht⟩) hS.2.2 dX5_come_289
            refine lv_if_ge (tgt := 198) hx hb dX5_come_191 (by decide) (fun c_191 => ?_) (fun c_191 => ?_)
            · obtain ⟨j5, hj5, ej5, -⟩ := (turnD_or (δ := δ) hn).resolve_left (fun z => absurd c_191 (by rw [z]; decide))
              rw [ej5] at hl
              refine lv_aload_n hx hb dX5_come_198 rfl (lv_at hl 7 rfl) ?_
              refine va_get (D := D) (ci := 5) (v := .ref (o 5)) (C := RX5) (T := TX5) (N := 8) hx hb hts (by decide +kernel) hown hK hP 0 rfl rfl 5 (by decide) (hts (.fieldLink RX5 26 "WarrenLaw$Den" "beings" "[[I") (by decide +kernel)) (fun _ h9 => h9) rfl dX5_come_199 ?_
              refine lv_iload hx hb dX5_come_202 (lv_at hl 2 rfl) ?_
              refine w_ldB hx hb hK hP 5 rfl (vp_in_nI hj5 (by omega)) dX5_come_204 ?_
              rw [nI_clamp (by omega)]
              refine lv_bipush (v := 8) hx hb dX5_come_205 (by decide) ?_
              refine va_iald hx hb hK hP (15 + j5) 0 (bW_at rfl hj5) rfl (vp_in_nI (n := 8) (by decide) (by decide)) dX5_come_207 ?_
              rw [show (8 : Int32).toNatClampNeg = 8 by decide]
              exact L208 ((d_R δ j5) 8) (by unfold timeN; rw [ej5, if_neg (nI_pos (by omega)), nI_clamp (by omega)]) _ _ ls (lv_sub hl [0, 1, 3, 4, 5, 6, 7] rfl) hP hD hS
            · refine lv_iconst (v := 0) hx hb dX5_come_194 (by decide) ?_
              refine lv_goto (tgt := 208) hx hb dX5_come_195 (by decide) ?_
              exact L208 0 (by unfold timeN; rw [if_pos (Int32.not_le.mp c_191)]) _ _ ls (lv_sub hl [0, 1, 3, 4, 5, 6, 7] rfl) hP hD hS
        · refine lv_aload_n hx hb dX5_come_123 rfl (lv_at hl 5 rfl) ?_
          refine va_get (D := D) (ci := 5) (v := .ref h) (C := RX5) (T := TX5) (N := 8) hx hb hts (by decide +kernel) hown hK hP 7 rfl rfl 0 (by decide) (hts (.fieldLink RX5 10 "WarrenLaw$Den" "m" "LWarren;") (by decide +kernel)) (fun _ h9 => h9) rfl dX5_come_124 ?_
          refine lv_iload_n hx hb dX5_come_127 rfl (lv_at hl 4 rfl) ?_
          refine lv_iload_n hx hb dX5_come_128 rfl (lv_at hl 3 rfl) ?_
          refine lv_iload_n hx hb dX5_come_129 rfl (lv_at hl 2 rfl) ?_
          have hFc := va_free (wc := wW h (a 0) t0 l0 m0 ++ sW cI a σ) hD hS hA [0, 1, 2, 3, 4, 5, 6] rfl
          refine vx_calli (vx_runV (As := [.int (nI j2), .int (nI c8), .int (nI (1 + j76))]) (rest := []) ⟨hx, hb, hml, hown, hts⟩ (c_X4_come l hst D cI _ h t0 l0 m0 a σ (nI j2) (nI c8) (nI (1 + j76)) hnσ) (cwV 3 hts gX5_come_X4_come rfl rfl rfl (by decide +kernel) ⟨Nat.le_of_ble_eq_true rfl, Nat.le_of_ble_eq_true rfl⟩) ⟨preX_blind, va_recv hK hP (ci := 4) (q0 := 0) rfl rfl, preX_of (hP.sub (ws' := wW h (a 0) t0 l0 m0 ++ sW cI a σ) [0, 1, 2, 3, 4, 5, 6] rfl) hK1 hXV (hD.sub (ws' := wW h (a 0) t0 l0 m0 ++ sW cI a σ) [0, 1, 2, 3, 4, 5, 6] (by decide) rfl) hTX hS hFc [.ref h, .int (nI j2), .int (nI c8), .int (nI (1 + j76))]⟩ rfl rfl hl.1 rfl (lv_room (Nat.le_of_ble_eq_true rfl)) dX5_come_130 ⟨Nat.le_of_ble_eq_true rfl, Nat.le_of_ble_eq_true rfl⟩) hS (fun q _ h => hFc q h) hFc (fun q _ h => hFc q h) (fun E ce q9 u9 t9 H1 locs ht hvm hpx hBX9 hz1 hk1 hS hq9 hce hcl => ?_) (fun r9 u9 t9 H1 locs ht hvm hw hB hz1 hk1 hS => ?_)
          · obtain ⟨hEn, hP1, -, hD1⟩ := hBX9
            rw [ht] at hP1
            obtain ⟨hP, hD⟩ := va_joinQ (wr := dW cI cZ cG cY o rr h b ((dr8 + 1) + 1) δ Y) (w1 := wW h (a 0) t0 l0 m0 ++ sW cI a σ) hP hD [0, 1, 2, 3, 4, 5, 6] [7, 8, 9, 10, 11, 12] rfl rfl (by decide) (by decide) hk1 hFc hP1 hD1
            have hEn : E = eS := by rw [hEn, ((come_T hI (s := j2) (c := c8) (x := 1 + j76) hj2 (by omega) (by omega) (by omega)).2 hm1)]; rfl
            subst hEn
            generalize H1 = H at hP hS hq9 ⊢
            refine vx_catch (name := "java/lang/IllegalStateException") hown [] ⟨123, 141, 290, 65⟩ [⟨142, 289, 290, 65⟩] htab (fun z hz => nomatch hz) (by decide) (by decide) (hts (.classLink RX5 65 "java/lang/IllegalStateException") (by decide +kernel)) (va_Nw.use rfl hXV.2.2.2.1) hq9 hce hcl ?_
            have hP : va_P D vwCl (dW cI cZ cG cY o rr h b ((dr8 + 1) + 1) δ Y ++ wW h (a 0) t0 l0 m0 ++ sW cI a σ ++ bW cI rr (d_n δ) (d_R δ)) H := hP
            have hD : va_D A (dW cI cZ cG cY o rr h b ((dr8 + 1) + 1) δ Y ++ wW h (a 0) t0 l0 m0 ++ sW cI a σ ++ bW cI rr (d_n δ) (d_R δ)) := hD
            refine lv_astore (lv' := [(6, .ref q9), (5, .int (turnD δ)), (4, .int 0), (3, .int (nI (1 + j76))), (2, .int (nI c8)), (1, .int (nI j2)), (0, .ref (o 0))]) hx hb dX5_come_290 hl (by decide) rfl (fun ls hl => ?_)
            refine lv_iload hx hb dX5_come_292 (lv_at hl 2 rfl) ?_
            refine lv_if_ne (tgt := 301) hx hb dX5_come_294 (by decide) (fun z9 => absurd (by decide) z9) (fun _ => ?_)
            refine lv_iconst (v := 1) hx hb dX5_come_297 (by decide) ?_
            refine lv_goto (tgt := 302) hx hb dX5_come_298 (by decide) ?_
            have hP := hP.part (cx := wW h (a 0) t0 l0 m0 ++ sW cI a σ ++ dW cI cZ cG cY o rr h b ((dr8 + 1) + 1) δ Y) [6, 7, 8, 9, 10, 11, 12, 0, 1, 2, 3, 4, 5] rfl
            have hD := hD.part (cx := wW h (a 0) t0 l0 m0 ++ sW cI a σ ++ dW cI cZ cG cY o rr h b ((dr8 + 1) + 1) δ Y) [6, 7, 8, 9, 10, 11, 12, 0, 1, 2, 3, 4, 5] (by decide) rfl
            have hP : va_P D vwCl (wW h (a 0) t0 l0 m0 ++ sW cI a σ ++ dW cI cZ cG cY o rr h b ((dr8 + 1) + 1) δ Y ++ bW cI rr (d_n δ) (d_R δ)) H := hP
            have hD : va_D A (wW h (a 0) t0 l0 m0 ++ sW cI a σ ++ dW cI cZ cG cY o rr h b ((dr8 + 1) + 1) δ Y ++ bW cI rr (d_n δ) (d_R δ)) := hD
            have hP9 := hP
            have hD9 := hD
            refine W.widen (k := 4) (n := 45) (Nat.le_of_ble_eq_true rfl) (Nat.le_of_ble_eq_true rfl) ?_
            exact W.zret (v := 1) hx hb hr rfl (fun T9 ht hW => ⟨⟨1, (σ, δ, ((dr8 + 1) + 1), Y, o, rr), rfl, ⟨rfl, hI, by show dr8 + 1 + 1 ≤ dr + 200; omega, Nat.le_add_right _ _, rfl⟩, by rw [ht]; exact hP9, va_K.moved hW.alike hK, hD9⟩, hS.F ht⟩) hS.2.2 dX5_come_302
          · obtain ⟨hT9, hR9, hU9⟩ := hw
            exact absurd hT9 (by rw [((come_T hI (s := j2) (c := c8) (x := 1 + j76) hj2 (by omega) (by omega) (by omega)).2 hm1)]; decide)
      refine lv_icmp_ge (tgt := 114) hx hb dX5_come_88 (by decide) (fun c_88 => ?_) (fun c_88 => ?_)
      · refine lv_iconst (v := 0) hx hb dX5_come_114 (by decide) ?_
        exact L115 0 (Or.inr ⟨rfl, (fun z => nI_ge (b := 10) z.1 (by decide) c_88)⟩) _ _ ls (lv_sub hl [0, 1, 2, 3] rfl) hP hD hS
      · refine lv_aload_n hx hb dX5_come_91 rfl (lv_at hl 3 rfl) ?_
        refine va_get (D := D) (ci := 5) (v := .ref (o 1)) (C := RX5) (T := TX5) (N := 8) hx hb hts (by decide +kernel) hown hK hP 7 rfl rfl 3 (by decide) (hts (.fieldLink RX5 16 "WarrenLaw$Den" "kinds" "[I") (by decide +kernel)) (fun _ h9 => h9) rfl dX5_come_92 ?_
        refine lv_iload_n hx hb dX5_come_95 rfl (lv_at hl 1 rfl) ?_
        refine va_iald hx hb hK hP 8 0 rfl rfl (vp_in_nI (by omega) (by decide)) dX5_come_96 ?_
        rw [nI_clamp (by omega)]
        refine lv_iconst (v := 3) hx hb dX5_come_97 (by decide) ?_
        refine lv_irem hx hb dX5_come_98 (by decide) ?_
        refine lv_if_ne (tgt := 114) hx hb dX5_come_99 (by decide) (fun c_99 => ?_) (fun c_99 => ?_)
        · refine lv_iconst (v := 0) hx hb dX5_come_114 (by decide) ?_
          exact L115 0 (Or.inr ⟨rfl, (fun z => c_99 z.2.1)⟩) _ _ ls (lv_sub hl [0, 1, 2, 3] rfl) hP hD hS
        · refine lv_aload_n hx hb dX5_come_102 rfl (lv_at hl 3 rfl) ?_
          refine lv_iload_n hx hb dX5_come_103 rfl (lv_at hl 1 rfl) ?_
          refine vp_callSi (va_Run.run (va_runV (As := [.int (nI c8)]) (rest := []) ⟨hx, hb, hml, hown, hts⟩ (c_X5_on l D cI cZ cG cY o rr h b ((dr8 + 1) + 1) δ Y (nI c8) hn) (cwV 1 hts gX5_come_X5_on rfl rfl rfl (by decide +kernel) ⟨Nat.le_of_ble_eq_true rfl, Nat.le_of_ble_eq_true rfl⟩) ⟨preDR_blind, va_recv hK hP (ci := 5) (q0 := 7) rfl rfl, preDR_of (hP.part (cx := dW cI cZ cG cY o rr h b ((dr8 + 1) + 1) δ Y) [7, 8, 9, 10, 11, 12] rfl) hK [.ref (o 0), .int (nI c8)]⟩ rfl rfl hl.1 rfl (lv_room (Nat.le_of_ble_eq_true rfl)) dX5_come_104 ⟨Nat.zero_le _, Nat.zero_le _⟩)) (fun r9 hr9 => ?_)
          subst hr9
          refine lv_if_ge (tgt := 114) hx hb dX5_come_107 (by decide) (fun c_107 => ?_) (fun c_107 => ?_)
          · refine lv_iconst (v := 0) hx hb dX5_come_114 (by decide) ?_
            exact L115 0 (Or.inr ⟨rfl, (fun z => Int32.not_lt.mpr c_107 z.2.2)⟩) _ _ ls (lv_sub hl [0, 1, 2, 3] rfl) hP hD hS
          · refine lv_iconst (v := 1) hx hb dX5_come_110 (by decide) ?_
            refine lv_goto (tgt := 115) hx hb dX5_come_111 (by decide) ?_
            exact L115 1 (Or.inl ⟨rfl, by have := Int32.not_le.mp c_88; exact (nI_ltI (by omega) (by decide)).mp this, c_99, Int32.not_le.mp c_107⟩) _ _ ls (lv_sub hl [0, 1, 2, 3] rfl) hP hD hS
    refine lv_if_ne (tgt := 74) hx hb dX5_come_66 (by decide) (fun c_66 => ?_) (fun c_66 => ?_)
    · refine lv_bipush (v := 20) hx hb dX5_come_74 (by decide) ?_
      exact L76 20 (by omega) _ _ ls (lv_sub hl [0, 1, 2] rfl) hP hD hS
    · refine lv_bipush (v := 60) hx hb dX5_come_69 (by decide) ?_
      refine lv_goto (tgt := 76) hx hb dX5_come_71 (by decide) ?_
      exact L76 60 (by omega) _ _ ls (lv_sub hl [0, 1, 2] rfl) hP hD hS
  refine lv_iconst (v := 0) hx hb dX5_come_16 (by decide) ?_
  refine lv_istore_n (lv' := [(3, .int 0), (2, .int (nI (17 + j11))), (1, .int (nI j2)), (0, .ref (o 0))]) hx hb dX5_come_17 rfl hl (by decide) rfl (fun ls hl => ?_)
  have L18 : ∀ (n k c9 dr9 : Nat) (hk : k + n = 126) (hc9 : 17 ≤ c9 ∧ c9 ≤ 142) (hdr9 : dr9 ≤ dr + 2 + k) (H : Heap) (locs : List Loc) (ls : Array Slot), lv_has ls 10 [(3, .int (nI k)), (2, .int (nI c9)), (1, .int (nI j2)), (0, .ref (o 0))] → va_P D vwCl (wW h (a 0) t0 l0 m0 ++ sW cI a σ ++ dW cI cZ cG cY o rr h b dr9 δ Y ++ bW cI rr (d_n δ) (d_R δ)) H → va_D A (wW h (a 0) t0 l0 m0 ++ sW cI a σ ++ dW cI cZ cG cY o rr h b dr9 δ Y ++ bW cI rr (d_n δ) (d_R δ)) → va_S A s.heap H locs → W p l e ({ frames := 7, cells := 4, slots := 45, locals := 143 } : Room) s m ([.ref (o 0)] : List Value).toArray below meth c H locs 0 0 (MQ below (va_Qi (fun (r : Int32) (u : (SS × DD × Nat × RW × (Nat → Nat) × (Nat → Nat))) => r = 1 ∧ IR (K) u.1 u.2.1 ∧ u.2.2.1 ≤ dr + 200 ∧ d_n u.2.1 ≤ d_n δ + 1 ∧ u.2.2.2.2.1 0 = o 0) (fun (u : (SS × DD × Nat × RW × (Nat → Nat) × (Nat → Nat))) => posD D cI cZ cG cY A (wW h (a 0) t0 l0 m0 ++ sW cI a u.1 ++ dW cI cZ cG cY u.2.2.2.2.1 u.2.2.2.2.2 h b u.2.2.1 u.2.1 u.2.2.2.1 ++ bW cI u.2.2.2.2.2 (d_n u.2.1) (d_R u.2.1))) A) ([.ref (o 0)] : List Value).toArray s 4 45 A) (F0 m 18 ls []) := by
    intro n
    induction n with
    | zero =>
      intro k c9 dr9 hk hc9 hdr9 H locs ls hl hP hD hS
      refine lv_iload_n hx hb dX5_come_18 rfl (lv_at hl 0 rfl) ?_
      refine lv_bipush (v := 126) hx hb dX5_come_19 (by decide) ?_
      refine lv_icmp_ge (tgt := 59) hx hb dX5_come_21 (by decide) (fun c_21 => ?_) (fun c_21 => absurd (nI_le (b := k) (a := 126) (by omega) (by omega)) c_21)
      exact L59 c9 dr9 (by omega) (by omega) _ _ ls (lv_sub hl [1, 2, 3] rfl) hP hD hS
    | succ n ih18 =>
      intro k c9 dr9 hk hc9 hdr9 H locs ls hl hP hD hS
      refine lv_iload_n hx hb dX5_come_18 rfl (lv_at hl 0 rfl) ?_
      refine lv_bipush (v := 126) hx hb dX5_come_19 (by decide) ?_
      refine lv_icmp_ge (tgt := 59) hx hb dX5_come_21 (by decide) (fun c_21 => absurd c_21 (nI_ge (b := 126) (by omega) (by omega))) (fun c_21 => ?_)
      refine lv_aload_n hx hb dX5_come_24 rfl (lv_at hl 3 rfl) ?_
      refine va_get (D := D) (ci := 5) (v := .ref (o 1)) (C := RX5) (T := TX5) (N := 8) hx hb hts (by decide +kernel) hown hK hP 7 rfl rfl 3 (by decide) (hts (.fieldLink RX5 16 "WarrenLaw$Den" "kinds" "[I") (by decide +kernel)) (fun _ h9 => h9) rfl dX5_come_25 ?_
      refine lv_iload_n hx hb dX5_come_28 rfl (lv_at hl 1 rfl) ?_
      refine va_iald hx hb hK hP 8 0 rfl rfl (vp_in_nI (by omega) (by decide)) dX5_come_29 ?_
      rw [nI_clamp (by omega)]
      refine lv_if_eq (tgt := 59) hx hb dX5_come_30 (by decide) (fun c_30 => ?_) (fun c_30 => ?_)
      · exact L59 c9 dr9 (by omega) (by omega) _ _ ls (lv_sub hl [1, 2, 3] rfl) hP hD hS
      · refine lv_aload_n hx hb dX5_come_33 rfl (lv_at hl 3 rfl) ?_
        refine lv_bipush (v := 8) hx hb dX5_come_34 (by decide) ?_
        have hFc := va_freeP (cx := dW cI cZ cG cY o rr h b dr9 δ Y) hD hS hA [7, 8, 9, 10, 11, 12] rfl
        refine va_calli (va_runV (As := [.int 8]) (rest := []) ⟨hx, hb, hml, hown, hts⟩ (c_X5_draw l D cI _ cZ cG cY o rr h b dr9 δ Y t L xs 8 hn (by omega) (by omega) (by omega)) (cwV 1 hts gX5_come_X5_draw rfl rfl rfl (by decide +kernel) ⟨Nat.le_of_ble_eq_true rfl, Nat.le_of_ble_eq_true rfl⟩) ⟨preD_blind, va_recv hK hP (ci := 5) (q0 := 7) rfl rfl, preD_of (hP.part (cx := dW cI cZ cG cY o rr h b dr9 δ Y) [7, 8, 9, 10, 11, 12] rfl) hK (hD.part (cx := dW cI cZ cG cY o rr h b dr9 δ Y) [7, 8, 9, 10, 11, 12] (by decide) rfl) hGX hS hFc [.ref (o 0), .int 8]⟩ rfl rfl hl.1 rfl (lv_room (Nat.le_of_ble_eq_true rfl)) dX5_come_36 ⟨Nat.le_of_ble_eq_true rfl, Nat.le_of_ble_eq_true rfl⟩) hS (fun q _ h => hFc q h) hFc (fun r9 u t9 H1 locs ht hvm hw hB hz1 hk1 hS => ?_)
        obtain ⟨hP1, -, hD1⟩ := hB
        rw [ht] at hP1
        obtain ⟨j36, hj36, rfl⟩ := hw
        obtain ⟨hP, hD⟩ := va_joinP (wr := wW h (a 0) t0 l0 m0 ++ sW cI a σ) hP hD [7, 8, 9, 10, 11, 12] [0, 1, 2, 3, 4, 5, 6] rfl rfl (by decide) (by decide) hk1 hFc hP1 hD1
        generalize H1 = H at hP hS ⊢
        have hP : va_P D vwCl (wW h (a 0) t0 l0 m0 ++ sW cI a σ ++ dW cI cZ cG cY o rr h b (dr9 + 1) δ Y ++ bW cI rr (d_n δ) (d_R δ)) H := hP
        have hD : va_D A (wW h (a 0) t0 l0 m0 ++ sW cI a σ ++ dW cI cZ cG cY o rr h b (dr9 + 1) δ Y ++ bW cI rr (d_n δ) (d_R δ)) := hD
        refine lv_if_le (tgt := 59) hx hb dX5_come_39 (by decide) (fun c_39 => ?_) (fun c_39 => ?_)
        · exact L59 c9 (dr9 + 1) (by omega) (by omega) _ _ ls (lv_sub hl [1, 2, 3] rfl) hP hD hS
        · refine lv_bipush (v := 17) hx hb dX5_come_42 (by decide) ?_
          refine lv_iload_n hx hb dX5_come_44 rfl (lv_at hl 1 rfl) ?_
          refine lv_bipush (v := 16) hx hb dX5_come_45 (by decide) ?_
          refine lv_isub hx hb dX5_come_47 ?_
          rw [show ((nI c9) - 16) = nI (c9 - 16) from pk_sub (a := c9) (b := 16) (by omega)]
          refine lv_bipush (v := 126) hx hb dX5_come_48 (by decide) ?_
          refine lv_irem hx hb dX5_come_50 (by decide) ?_
          rw [show nI (c9 - 16) - nI (c9 - 16) / 126 * 126 = nI ((c9 - 16) % 126) from pk_rem (d := 126) (by omega) (by decide) (by decide)]
          refine lv_iadd hx hb dX5_come_51 ?_
          rw [show (17 + (nI ((c9 - 16) % 126))) = nI (17 + (c9 - 16) % 126) from nI_add 17 ((c9 - 16) % 126)]
          refine lv_istore_n (lv' := [(2, .int (nI (17 + (c9 - 16) % 126))), (3, .int (nI k)), (1, .int (nI j2)), (0, .ref (o 0))]) hx hb dX5_come_52 rfl hl (by decide) rfl (fun ls hl => ?_)
          refine lv_iinc (v := (nI (k + 1))) (lv' := [(3, .int (nI (k + 1))), (2, .int (nI (17 + (c9 - 16) % 126))), (1, .int (nI j2)), (0, .ref (o 0))]) hx hb dX5_come_53 hl (k := 1) rfl (nI_1 k) (by decide) rfl (fun ls hl => ?_)
          refine lv_goto (tgt := 18) hx hb dX5_come_56 (by decide) ?_
          exact ih18 (k + 1) (17 + (c9 - 16) % 126) (dr9 + 1) (by omega) (by omega) (by omega) _ _ ls (lv_sub hl [0, 1, 2, 3] rfl) hP hD hS
  exact L18 126 0 (17 + j11) (dr + 1 + 1) (by omega) (by omega) (by omega) _ _ ls (lv_sub hl [0, 1, 2, 3] rfl) hP hD hS
