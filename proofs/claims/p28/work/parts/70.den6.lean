-- ===== the shadow: found =====
set_option maxHeartbeats 4000000 in
set_option maxRecDepth 100000 in
theorem c_X5_found (l : Launch) (hst : l.stackTraces = false) (D : va_G) (cI : ClassId) (sz : Nat) (cZ cG cY : ClassId) (t0 l0 m0 : Nat) (a o rr : Nat → Nat) (h b dr K : Nat) (σ : SS) (δ : DD) (Y : RW) (t L : Nat) (xs : Nat → Int32) (mm : Nat) (hI : IR K σ δ) (hd : dr < 800000) (hmm : mm ≤ 6) (hn0 : d_n δ = 0) : Met l yX5_found wsX5_found ({ frames := 8, cells := 40, slots := 360, locals := 172 } : Room) (va_Pc [.ref (o 0), .int (nI mm)] (preD D cI cZ cG cY t b L xs (wW h (a 0) t0 l0 m0 ++ sW cI a σ ++ dW cI cZ cG cY o rr h b dr δ Y ++ bW cI rr (d_n δ) (d_R δ)) sz)) (va_Qi (fun (r : Int32) (u : (SS × DD × Nat × RW × (Nat → Nat) × (Nat → Nat))) => r = 1 ∧ IR K u.1 u.2.1 ∧ u.2.2.1 ≤ dr + 4000 ∧ d_n u.2.1 ≤ d_n δ + mm ∧ u.2.2.2.2.1 0 = o 0) (fun (u : (SS × DD × Nat × RW × (Nat → Nat) × (Nat → Nat))) => posD D cI cZ cG cY (va_A (wW h (a 0) t0 l0 m0 ++ sW cI a σ ++ dW cI cZ cG cY o rr h b dr δ Y ++ bW cI rr (d_n δ) (d_R δ)) sz) (wW h (a 0) t0 l0 m0 ++ sW cI a u.1 ++ dW cI cZ cG cY u.2.2.2.2.1 u.2.2.2.2.2 h b u.2.2.1 u.2.1 u.2.2.2.1 ++ bW cI u.2.2.2.2.2 (d_n u.2.1) (d_R u.2.1))) (va_A (wW h (a 0) t0 l0 m0 ++ sW cI a σ ++ dW cI cZ cG cY o rr h b dr δ Y ++ bW cI rr (d_n δ) (d_R δ)) sz)) 40 360 (va_A (wW h (a 0) t0 l0 m0 ++ sW cI a σ ++ dW cI cZ cG cY o rr h b dr δ Y ++ bW cI rr (d_n δ) (d_R δ)) sz) := by
  refine Met.ofW (cc := cX5_found) (maxL := 3) (ret := (some .boolean)) (by decide) rfl ?_
  intro p e s m args below meth c s₁ B hml hv
  obtain ⟨rfl, ⟨hsz, hP, hK, hD0⟩, hGX⟩ := hv
  have hx := B.exec
  have hb := B.bytes
  have hr := B.returns
  have hts := atoms_spec (ws := wsX5_found) B.pre
  have hown : s.vm.findClass RX5 = some m.cls := findClass_of_methodNamed B.named
  have hlocks := B.notSynchronized
  subst hsz
  have hD := hD0.self (sz := s.heap.size)
  generalize hAe : va_A (wW h (a 0) t0 l0 m0 ++ sW cI a σ ++ dW cI cZ cG cY o rr h b dr δ Y ++ bW cI rr (d_n δ) (d_R δ)) s.heap.size = A at hD hGX ⊢
  have hA : ∀ q : Nat, s.heap.size ≤ q → A q := fun q h => by rw [← hAe]; exact Or.inr h
  have hS : va_S A s.heap s.heap [] := va_S.rf
  have hP : va_P D vwCl (wW h (a 0) t0 l0 m0 ++ sW cI a σ ++ dW cI cZ cG cY o rr h b dr δ Y ++ bW cI rr (d_n δ) (d_R δ)) s.heap := hP
  have hl := lv_entry ([.ref (o 0), .int (nI mm)]) (n := 3) (Nat.le_of_ble_eq_true rfl)
  rw [lg_entry_eq]
  generalize (lg_sl ([.ref (o 0), .int (nI mm)]) ++ List.replicate (3 - (lg_sl ([.ref (o 0), .int (nI mm)])).length) Slot.unset).toArray = ls at hl ⊢
  have hl : lv_has ls 3 [(0, .ref (o 0)), (1, .int (nI mm))] := hl
  obtain ⟨hXV, hTX, hN, hSX, hG, hBX, hnc, hnb, hov⟩ := id hGX
  have hK1 := K_D hK
  have hn := hI.1.2.1
  have hnσ : s_n σ ≤ 10 := by rw [hI.1.1]; exact hn
  have hP : va_P D vwCl (wW h (a 0) t0 l0 m0 ++ sW cI a σ ++ dW cI cZ cG cY (oz o o) rr h b dr δ Y ++ bW cI rr (d_n δ) (d_R δ)) s.heap := by rw [oz_eq (o := o) (o' := o) rfl]; exact hP
  have hD : va_D A (wW h (a 0) t0 l0 m0 ++ sW cI a σ ++ dW cI cZ cG cY (oz o o) rr h b dr δ Y ++ bW cI rr (d_n δ) (d_R δ)) := by rw [oz_eq (o := o) (o' := o) rfl]; exact hD
  refine lv_iconst (v := 0) hx hb dX5_found_0 (by decide) ?_
  refine lv_istore_n (lv' := [(2, .int 0), (0, .ref (o 0)), (1, .int (nI mm))]) hx hb dX5_found_1 rfl hl (by decide) rfl (fun ls hl => ?_)
  have L2 : ∀ (n1a k1 : Nat) (σ1 : SS) (δ1 : DD) (dr1 : Nat) (Y1 : RW) (o1 rr1 : Nat → Nat) (ce1 sl1 : Nat) (hk1 : k1 + n1a = 4) (hI1 : IR K σ1 δ1) (hd1 : dr1 ≤ dr + 200 * (0 + k1)) (hn1 : d_n δ1 ≤ d_n δ + 0) (hce1 : ce1 ≤ 1 * k1) (hsl1 : sl1 ≤ 6 * k1) (H : Heap) (locs : List Loc) (ls : Array Slot), lv_has ls 3 [(2, .int (nI k1)), (0, .ref (o 0)), (1, .int (nI mm))] → va_P D vwCl (wW h (a 0) t0 l0 m0 ++ sW cI a σ1 ++ dW cI cZ cG cY (oz o o1) rr1 h b dr1 δ1 Y1 ++ bW cI rr1 (d_n δ1) (d_R δ1)) H → va_D A (wW h (a 0) t0 l0 m0 ++ sW cI a σ1 ++ dW cI cZ cG cY (oz o o1) rr1 h b dr1 δ1 Y1 ++ bW cI rr1 (d_n δ1) (d_R δ1)) → va_S A s.heap H locs → W p l e ({ frames := 8, cells := 40, slots := 360, locals := 172 } : Room) s m ([.ref (o 0), .int (nI mm)] : List Value).toArray below meth c H locs ce1 sl1 (MQ below (va_Qi (fun (r : Int32) (u : (SS × DD × Nat × RW × (Nat → Nat) × (Nat → Nat))) => r = 1 ∧ IR K u.1 u.2.1 ∧ u.2.2.1 ≤ dr + 4000 ∧ d_n u.2.1 ≤ d_n δ + mm ∧ u.2.2.2.2.1 0 = o 0) (fun (u : (SS × DD × Nat × RW × (Nat → Nat) × (Nat → Nat))) => posD D cI cZ cG cY A (wW h (a 0) t0 l0 m0 ++ sW cI a u.1 ++ dW cI cZ cG cY u.2.2.2.2.1 u.2.2.2.2.2 h b u.2.2.1 u.2.1 u.2.2.2.1 ++ bW cI u.2.2.2.2.2 (d_n u.2.1) (d_R u.2.1))) A) ([.ref (o 0), .int (nI mm)] : List Value).toArray s 40 360 A) (F0 m 2 ls []) := by
    intro n1a
    induction n1a with
    | zero =>
      intro k1 σ1 δ1 dr1 Y1 o1 rr1 ce1 sl1 hk1 hI1 hd1 hn1 hce1 hsl1 H locs ls hl hP hD hS
      refine lv_iload_n hx hb dX5_found_2 rfl (lv_at hl 0 rfl) ?_
      refine lv_iconst (v := 4) hx hb dX5_found_3 (by decide) ?_
      refine lv_icmp_ge (tgt := 22) hx hb dX5_found_4 (by decide) (fun c_4 => ?_) (fun c_4 => absurd (nI_le (b := k1) (a := 4) (by omega) (by omega)) c_4)
      refine lv_iconst (v := 0) hx hb dX5_found_22 (by decide) ?_
      refine lv_istore_n (lv' := [(2, .int 0), (0, .ref (o 0)), (1, .int (nI mm))]) hx hb dX5_found_23 rfl hl (by decide) rfl (fun ls hl => ?_)
      have L24 : ∀ (n2a k2 : Nat) (σ2 : SS) (δ2 : DD) (dr2 : Nat) (Y2 : RW) (o2 rr2 : Nat → Nat) (ce2 sl2 : Nat) (hk2 : k2 + n2a = 7) (hI2 : IR K σ2 δ2) (hd2 : dr2 ≤ dr + 200 * (4 + k2)) (hn2 : d_n δ2 ≤ d_n δ + 0) (hce2 : ce2 ≤ 4 + k2) (hsl2 : sl2 ≤ 24 + 6 * k2) (H : Heap) (locs : List Loc) (ls : Array Slot), lv_has ls 3 [(2, .int (nI k2)), (0, .ref (o 0)), (1, .int (nI mm))] → va_P D vwCl (wW h (a 0) t0 l0 m0 ++ sW cI a σ2 ++ dW cI cZ cG cY (oz o o2) rr2 h b dr2 δ2 Y2 ++ bW cI rr2 (d_n δ2) (d_R δ2)) H → va_D A (wW h (a 0) t0 l0 m0 ++ sW cI a σ2 ++ dW cI cZ cG cY (oz o o2) rr2 h b dr2 δ2 Y2 ++ bW cI rr2 (d_n δ2) (d_R δ2)) → va_S A s.heap H locs → W p l e ({ frames := 8, cells := 40, slots := 360, locals := 172 } : Room) s m ([.ref (o 0), .int (nI mm)] : List Value).toArray below meth c H locs ce2 sl2 (MQ below (va_Qi (fun (r : Int32) (u : (SS × DD × Nat × RW × (Nat → Nat) × (Nat → Nat))) => r = 1 ∧ IR K u.1 u.2.1 ∧ u.2.2.1 ≤ dr + 4000 ∧ d_n u.2.1 ≤ d_n δ + mm ∧ u.2.2.2.2.1 0 = o 0) (fun (u : (SS × DD × Nat × RW × (Nat → Nat) × (Nat → Nat))) => posD D cI cZ cG cY A (wW h (a 0) t0 l0 m0 ++ sW cI a u.1 ++ dW cI cZ cG cY u.2.2.2.2.1 u.2.2.2.2.2 h b u.2.2.1 u.2.1 u.2.2.2.1 ++ bW cI u.2.2.2.2.2 (d_n u.2.1) (d_R u.2.1))) A) ([.ref (o 0), .int (nI mm)] : List Value).toArray s 40 360 A) (F0 m 24 ls []) := by
        intro n2a
        induction n2a with
        | zero =>
          intro k2 σ2 δ2 dr2 Y2 o2 rr2 ce2 sl2 hk2 hI2 hd2 hn2 hce2 hsl2 H locs ls hl hP hD hS
          refine lv_iload_n hx hb dX5_found_24 rfl (lv_at hl 0 rfl) ?_
          refine lv_bipush (v := 7) hx hb dX5_found_25 (by decide) ?_
          refine lv_icmp_ge (tgt := 45) hx hb dX5_found_27 (by decide) (fun c_27 => ?_) (fun c_27 => absurd (nI_le (b := k2) (a := 7) (by omega) (by omega)) c_27)
          refine lv_iconst (v := 0) hx hb dX5_found_45 (by decide) ?_
          refine lv_istore_n (lv' := [(2, .int 0), (0, .ref (o 0)), (1, .int (nI mm))]) hx hb dX5_found_46 rfl hl (by decide) rfl (fun ls hl => ?_)
          have L47 : ∀ (n3a k3 : Nat) (σ3 : SS) (δ3 : DD) (dr3 : Nat) (Y3 : RW) (o3 rr3 : Nat → Nat) (ce3 sl3 : Nat) (hk3 : k3 + n3a = mm) (hI3 : IR K σ3 δ3) (hd3 : dr3 ≤ dr + 200 * (11 + k3)) (hn3 : d_n δ3 ≤ d_n δ + k3) (hce3 : ce3 ≤ 11 + 4 * k3) (hsl3 : sl3 ≤ 66 + 45 * k3) (H : Heap) (locs : List Loc) (ls : Array Slot), lv_has ls 3 [(2, .int (nI k3)), (0, .ref (o 0)), (1, .int (nI mm))] → va_P D vwCl (wW h (a 0) t0 l0 m0 ++ sW cI a σ3 ++ dW cI cZ cG cY (oz o o3) rr3 h b dr3 δ3 Y3 ++ bW cI rr3 (d_n δ3) (d_R δ3)) H → va_D A (wW h (a 0) t0 l0 m0 ++ sW cI a σ3 ++ dW cI cZ cG cY (oz o o3) rr3 h b dr3 δ3 Y3 ++ bW cI rr3 (d_n δ3) (d_R δ3)) → va_S A s.heap H locs → W p l e ({ frames := 8, cells := 40, slots := 360, locals := 172 } : Room) s m ([.ref (o 0), .int (nI mm)] : List Value).toArray below meth c H locs ce3 sl3 (MQ below (va_Qi (fun (r : Int32) (u : (SS × DD × Nat × RW × (Nat → Nat) × (Nat → Nat))) => r = 1 ∧ IR K u.1 u.2.1 ∧ u.2.2.1 ≤ dr + 4000 ∧ d_n u.2.1 ≤ d_n δ + mm ∧ u.2.2.2.2.1 0 = o 0) (fun (u : (SS × DD × Nat × RW × (Nat → Nat) × (Nat → Nat))) => posD D cI cZ cG cY A (wW h (a 0) t0 l0 m0 ++ sW cI a u.1 ++ dW cI cZ cG cY u.2.2.2.2.1 u.2.2.2.2.2 h b u.2.2.1 u.2.1 u.2.2.2.1 ++ bW cI u.2.2.2.2.2 (d_n u.2.1) (d_R u.2.1))) A) ([.ref (o 0), .int (nI mm)] : List Value).toArray s 40 360 A) (F0 m 47 ls []) := by
            intro n3a
            induction n3a with
            | zero =>
              intro k3 σ3 δ3 dr3 Y3 o3 rr3 ce3 sl3 hk3 hI3 hd3 hn3 hce3 hsl3 H locs ls hl hP hD hS
              refine lv_iload_n hx hb dX5_found_47 rfl (lv_at hl 0 rfl) ?_
              refine lv_iload_n hx hb dX5_found_48 rfl (lv_at hl 2 rfl) ?_
              refine lv_icmp_ge (tgt := 67) hx hb dX5_found_49 (by decide) (fun c_49 => ?_) (fun c_49 => absurd (nI_le (by omega) (by omega)) c_49)
              refine lv_aload_n hx hb dX5_found_67 rfl (lv_at hl 1 rfl) ?_
              have hFc := free0 hD hS hA
              refine va_calli (va_runV (As := []) (rest := []) ⟨hx, hb, hml, hown, hts⟩ (c_X5_become l hst D cI _ cZ cG cY t0 l0 m0 a (oz o o3) rr3 h b dr3 K σ3 δ3 Y3 t L xs hI3 (by omega)) (cwV 0 hts gX5_found_X5_become rfl rfl rfl (by decide +kernel) ⟨Nat.le_of_ble_eq_true rfl, Nat.le_of_ble_eq_true rfl⟩) ⟨preD_blind, va_recv hK hP (ci := 5) (q0 := 7) rfl rfl, preD_of hP hK hD hGX hS hFc [.ref (o 0)]⟩ rfl rfl hl.1 rfl (lv_room (Nat.le_of_ble_eq_true rfl)) dX5_found_68 ⟨(by show ce3 + 1 ≤ 40; omega), (by show sl3 + 6 ≤ 360; omega)⟩) hS (fun q _ h => hFc q h) hFc (fun r9 u t9 H1 locs ht hvm hw hB hz1 hk1 hS => ?_)
              obtain ⟨hP1, -, hD1⟩ := hB
              rw [ht] at hP1
              obtain ⟨s68, d68, n68, Y68, o68, rr68⟩ := u
              dsimp only at hw hP1 hD1
              obtain ⟨hr9, hI68, hd68, hn68, ho68⟩ := hw
              rw [hr9]
              obtain ⟨f68, rfl⟩ : ∃ f, o68 = oz o f := ⟨o68, (oz_eq ho68).symm⟩
              have hP := hP1
              have hD := join0 hFc hD1
              generalize H1 = H at hP hS ⊢
              have hP : va_P D vwCl (wW h (a 0) t0 l0 m0 ++ sW cI a s68 ++ dW cI cZ cG cY (oz o f68) rr68 h b n68 d68 Y68 ++ bW cI rr68 (d_n d68) (d_R d68)) H := hP
              have hD : va_D A (wW h (a 0) t0 l0 m0 ++ sW cI a s68 ++ dW cI cZ cG cY (oz o f68) rr68 h b n68 d68 Y68 ++ bW cI rr68 (d_n d68) (d_R d68)) := hD
              refine lv_if_eq (tgt := 85) hx hb dX5_found_71 (by decide) (fun z9 => absurd z9 (by decide)) (fun _ => ?_)
              refine lv_aload_n hx hb dX5_found_74 rfl (lv_at hl 1 rfl) ?_
              have hFc := free0 hD hS hA
              refine va_calli (va_runV (As := []) (rest := []) ⟨hx, hb, hml, hown, hts⟩ (c_X5_become l hst D cI _ cZ cG cY t0 l0 m0 a (oz o f68) rr68 h b n68 K s68 d68 Y68 t L xs hI68 (by omega)) (cwV 0 hts gX5_found_X5_become rfl rfl rfl (by decide +kernel) ⟨Nat.le_of_ble_eq_true rfl, Nat.le_of_ble_eq_true rfl⟩) ⟨preD_blind, va_recv hK hP (ci := 5) (q0 := 7) rfl rfl, preD_of hP hK hD hGX hS hFc [.ref (o 0)]⟩ rfl rfl hl.1 rfl (lv_room (Nat.le_of_ble_eq_true rfl)) dX5_found_75 ⟨(by show (ce3 + 1) + 1 ≤ 40; omega), (by show (sl3 + 6) + 6 ≤ 360; omega)⟩) hS (fun q _ h => hFc q h) hFc (fun r9 u t9 H1 locs ht hvm hw hB hz1 hk1 hS => ?_)
              obtain ⟨hP1, -, hD1⟩ := hB
              rw [ht] at hP1
              obtain ⟨s75, d75, n75, Y75, o75, rr75⟩ := u
              dsimp only at hw hP1 hD1
              obtain ⟨hr9, hI75, hd75, hn75, ho75⟩ := hw
              rw [hr9]
              obtain ⟨f75, rfl⟩ : ∃ f, o75 = oz o f := ⟨o75, (oz_eq ho75).symm⟩
              have hP := hP1
              have hD := join0 hFc hD1
              generalize H1 = H at hP hS ⊢
              have hP : va_P D vwCl (wW h (a 0) t0 l0 m0 ++ sW cI a s75 ++ dW cI cZ cG cY (oz o f75) rr75 h b n75 d75 Y75 ++ bW cI rr75 (d_n d75) (d_R d75)) H := hP
              have hD : va_D A (wW h (a 0) t0 l0 m0 ++ sW cI a s75 ++ dW cI cZ cG cY (oz o f75) rr75 h b n75 d75 Y75 ++ bW cI rr75 (d_n d75) (d_R d75)) := hD
              refine lv_if_eq (tgt := 85) hx hb dX5_found_78 (by decide) (fun z9 => absurd z9 (by decide)) (fun _ => ?_)
              refine lv_iconst (v := 1) hx hb dX5_found_81 (by decide) ?_
              refine lv_goto (tgt := 86) hx hb dX5_found_82 (by decide) ?_
              have hP9 := hP
              have hD9 := hD
              refine W.widen (k := 40) (n := 360) (by omega) (by omega) ?_
              exact W.zret (v := 1) hx hb hr rfl (fun T9 ht hW => ⟨⟨1, (s75, d75, n75, Y75, (oz o f75), rr75), rfl, ⟨rfl, hI75, by show n75 ≤ dr + 4000; omega, by show d_n d75 ≤ d_n δ + mm; omega, rfl⟩, by rw [ht]; exact hP9, va_K.moved hW.alike hK, hD9⟩, hS.F ht⟩) hS.2.2 dX5_found_86
            | succ n3a ih47 =>
              intro k3 σ3 δ3 dr3 Y3 o3 rr3 ce3 sl3 hk3 hI3 hd3 hn3 hce3 hsl3 H locs ls hl hP hD hS
              refine lv_iload_n hx hb dX5_found_47 rfl (lv_at hl 0 rfl) ?_
              refine lv_iload_n hx hb dX5_found_48 rfl (lv_at hl 2 rfl) ?_
              refine lv_icmp_ge (tgt := 67) hx hb dX5_found_49 (by decide) (fun c_49 => absurd c_49 (nI_ge (by omega) (by omega))) (fun c_49 => ?_)
              refine lv_aload_n hx hb dX5_found_52 rfl (lv_at hl 1 rfl) ?_
              have hFc := free0 hD hS hA
              refine va_calli (vx_runVW (As := []) (rest := []) ⟨hx, hb, hml, hown, hts⟩ (c_X5_come l hst D cI _ cZ cG cY t0 l0 m0 a (oz o o3) rr3 h b dr3 K σ3 δ3 Y3 t L xs hI3 (by omega)) (vx_cwVW 0 hts gX5_found_X5_come rfl rfl rfl (by decide +kernel) ⟨Nat.le_of_ble_eq_true rfl, Nat.le_of_ble_eq_true rfl⟩) ⟨preD_blind, va_recv hK hP (ci := 5) (q0 := 7) rfl rfl, preD_of hP hK hD hGX hS hFc [.ref (o 0)]⟩ rfl rfl hl.1 rfl (lv_room (Nat.le_of_ble_eq_true rfl)) dX5_found_53 ⟨(by show ce3 + 4 ≤ 40; omega), (by show sl3 + 45 ≤ 360; omega)⟩) hS (fun q _ h => hFc q h) hFc (fun r9 u t9 H1 locs ht hvm hw hB hz1 hk1 hS => ?_)
              obtain ⟨hP1, -, hD1⟩ := hB
              rw [ht] at hP1
              obtain ⟨s53, d53, n53, Y53, o53, rr53⟩ := u
              dsimp only at hw hP1 hD1
              obtain ⟨hr9, hI53, hd53, hn53, ho53⟩ := hw
              rw [hr9]
              obtain ⟨f53, rfl⟩ : ∃ f, o53 = oz o f := ⟨o53, (oz_eq ho53).symm⟩
              have hP := hP1
              have hD := join0 hFc hD1
              generalize H1 = H at hP hS ⊢
              have hP : va_P D vwCl (wW h (a 0) t0 l0 m0 ++ sW cI a s53 ++ dW cI cZ cG cY (oz o f53) rr53 h b n53 d53 Y53 ++ bW cI rr53 (d_n d53) (d_R d53)) H := hP
              have hD : va_D A (wW h (a 0) t0 l0 m0 ++ sW cI a s53 ++ dW cI cZ cG cY (oz o f53) rr53 h b n53 d53 Y53 ++ bW cI rr53 (d_n d53) (d_R d53)) := hD
              refine lv_if_ne (tgt := 61) hx hb dX5_found_56 (by decide) (fun _ => ?_) (fun z9 => absurd z9 (by decide))
              refine lv_iinc (v := (nI (k3 + 1))) (lv' := [(2, .int (nI (k3 + 1))), (0, .ref (o 0)), (1, .int (nI mm))]) hx hb dX5_found_61 hl (k := 0) rfl (nI_1 k3) (by decide) rfl (fun ls hl => ?_)
              refine lv_goto (tgt := 47) hx hb dX5_found_64 (by decide) ?_
              exact ih47 (k3 + 1) s53 d53 n53 Y53 f53 rr53 (ce3 + 4) (sl3 + 45) (by omega) hI53 (by omega) (by omega) (by omega) (by omega) _ _ ls (lv_sub hl [0, 1, 2] rfl) hP hD hS
          exact L47 mm 0 σ2 δ2 dr2 Y2 o2 rr2 ce2 sl2 (by omega) hI2 (by omega) (by omega) (by omega) (by omega) _ _ ls (lv_sub hl [0, 1, 2] rfl) hP hD hS
        | succ n2a ih24 =>
          intro k2 σ2 δ2 dr2 Y2 o2 rr2 ce2 sl2 hk2 hI2 hd2 hn2 hce2 hsl2 H locs ls hl hP hD hS
          refine lv_iload_n hx hb dX5_found_24 rfl (lv_at hl 0 rfl) ?_
          refine lv_bipush (v := 7) hx hb dX5_found_25 (by decide) ?_
          refine lv_icmp_ge (tgt := 45) hx hb dX5_found_27 (by decide) (fun c_27 => absurd c_27 (nI_ge (b := 7) (by omega) (by omega))) (fun c_27 => ?_)
          refine lv_aload_n hx hb dX5_found_30 rfl (lv_at hl 1 rfl) ?_
          have hFc := free0 hD hS hA
          refine va_calli (vx_runVW (As := []) (rest := []) ⟨hx, hb, hml, hown, hts⟩ (c_X5_set l hst D cI _ cZ cG cY t0 l0 m0 a (oz o o2) rr2 h b dr2 K σ2 δ2 Y2 t L xs hI2 (by omega)) (vx_cwVW 0 hts gX5_found_X5_set rfl rfl rfl (by decide +kernel) ⟨Nat.le_of_ble_eq_true rfl, Nat.le_of_ble_eq_true rfl⟩) ⟨preD_blind, va_recv hK hP (ci := 5) (q0 := 7) rfl rfl, preD_of hP hK hD hGX hS hFc [.ref (o 0)]⟩ rfl rfl hl.1 rfl (lv_room (Nat.le_of_ble_eq_true rfl)) dX5_found_31 ⟨(by show ce2 + 1 ≤ 40; omega), (by show sl2 + 6 ≤ 360; omega)⟩) hS (fun q _ h => hFc q h) hFc (fun r9 u t9 H1 locs ht hvm hw hB hz1 hk1 hS => ?_)
          obtain ⟨hP1, -, hD1⟩ := hB
          rw [ht] at hP1
          obtain ⟨s31, d31, n31, Y31, o31, rr31⟩ := u
          dsimp only at hw hP1 hD1
          obtain ⟨hr9, hI31, hd31, hn31, ho31⟩ := hw
          rw [hr9]
          obtain ⟨f31, rfl⟩ : ∃ f, o31 = oz o f := ⟨o31, (oz_eq ho31).symm⟩
          have hP := hP1
          have hD := join0 hFc hD1
          generalize H1 = H at hP hS ⊢
          have hP : va_P D vwCl (wW h (a 0) t0 l0 m0 ++ sW cI a s31 ++ dW cI cZ cG cY (oz o f31) rr31 h b n31 d31 Y31 ++ bW cI rr31 (d_n d31) (d_R d31)) H := hP
          have hD : va_D A (wW h (a 0) t0 l0 m0 ++ sW cI a s31 ++ dW cI cZ cG cY (oz o f31) rr31 h b n31 d31 Y31 ++ bW cI rr31 (d_n d31) (d_R d31)) := hD
          refine lv_if_ne (tgt := 39) hx hb dX5_found_34 (by decide) (fun _ => ?_) (fun z9 => absurd z9 (by decide))
          refine lv_iinc (v := (nI (k2 + 1))) (lv' := [(2, .int (nI (k2 + 1))), (0, .ref (o 0)), (1, .int (nI mm))]) hx hb dX5_found_39 hl (k := 0) rfl (nI_1 k2) (by decide) rfl (fun ls hl => ?_)
          refine lv_goto (tgt := 24) hx hb dX5_found_42 (by decide) ?_
          exact ih24 (k2 + 1) s31 d31 n31 Y31 f31 rr31 (ce2 + 1) (sl2 + 6) (by omega) hI31 (by omega) (by omega) (by omega) (by omega) _ _ ls (lv_sub hl [0, 1, 2] rfl) hP hD hS
      exact L24 7 0 σ1 δ1 dr1 Y1 o1 rr1 ce1 sl1 (by omega) hI1 (by omega) (by omega) (by omega) (by omega) _ _ ls (lv_sub hl [0, 1, 2] rfl) hP hD hS
    | succ n1a ih2 =>
      intro k1 σ1 δ1 dr1 Y1 o1 rr1 ce1 sl1 hk1 hI1 hd1 hn1 hce1 hsl1 H locs ls hl hP hD hS
      refine lv_iload_n hx hb dX5_found_2 rfl (lv_at hl 0 rfl) ?_
      refine lv_iconst (v := 4) hx hb dX5_found_3 (by decide) ?_
      refine lv_icmp_ge (tgt := 22) hx hb dX5_found_4 (by decide) (fun c_4 => absurd c_4 (nI_ge (b := 4) (by omega) (by omega))) (fun c_4 => ?_)
      refine lv_aload_n hx hb dX5_found_7 rfl (lv_at hl 1 rfl) ?_
      have hFc := free0 hD hS hA
      refine va_calli (va_runV (As := []) (rest := []) ⟨hx, hb, hml, hown, hts⟩ (c_X5_dig l hst D cI _ cZ cG cY t0 l0 m0 a (oz o o1) rr1 h b dr1 K σ1 δ1 Y1 t L xs hI1 (by omega)) (cwV 0 hts gX5_found_X5_dig rfl rfl rfl (by decide +kernel) ⟨Nat.le_of_ble_eq_true rfl, Nat.le_of_ble_eq_true rfl⟩) ⟨preD_blind, va_recv hK hP (ci := 5) (q0 := 7) rfl rfl, preD_of hP hK hD hGX hS hFc [.ref (o 0)]⟩ rfl rfl hl.1 rfl (lv_room (Nat.le_of_ble_eq_true rfl)) dX5_found_8 ⟨(by show ce1 + 1 ≤ 40; omega), (by show sl1 + 6 ≤ 360; omega)⟩) hS (fun q _ h => hFc q h) hFc (fun r9 u t9 H1 locs ht hvm hw hB hz1 hk1 hS => ?_)
      obtain ⟨hP1, -, hD1⟩ := hB
      rw [ht] at hP1
      obtain ⟨s8, d8, n8, Y8, o8, rr8⟩ := u
      dsimp only at hw hP1 hD1
      obtain ⟨hr9, hI8, hd8, hn8, ho8⟩ := hw
      rw [hr9]
      obtain ⟨f8, rfl⟩ : ∃ f, o8 = oz o f := ⟨o8, (oz_eq ho8).symm⟩
      have hP := hP1
      have hD := join0 hFc hD1
      generalize H1 = H at hP hS ⊢
      have hP : va_P D vwCl (wW h (a 0) t0 l0 m0 ++ sW cI a s8 ++ dW cI cZ cG cY (oz o f8) rr8 h b n8 d8 Y8 ++ bW cI rr8 (d_n d8) (d_R d8)) H := hP
      have hD : va_D A (wW h (a 0) t0 l0 m0 ++ sW cI a s8 ++ dW cI cZ cG cY (oz o f8) rr8 h b n8 d8 Y8 ++ bW cI rr8 (d_n d8) (d_R d8)) := hD
      refine lv_if_ne (tgt := 16) hx hb dX5_found_11 (by decide) (fun _ => ?_) (fun z9 => absurd z9 (by decide))
      refine lv_iinc (v := (nI (k1 + 1))) (lv' := [(2, .int (nI (k1 + 1))), (0, .ref (o 0)), (1, .int (nI mm))]) hx hb dX5_found_16 hl (k := 0) rfl (nI_1 k1) (by decide) rfl (fun ls hl => ?_)
      refine lv_goto (tgt := 2) hx hb dX5_found_19 (by decide) ?_
      exact ih2 (k1 + 1) s8 d8 n8 Y8 f8 rr8 (ce1 + 1) (sl1 + 6) (by omega) hI8 (by omega) (by omega) (by omega) (by omega) _ _ ls (lv_sub hl [0, 1, 2] rfl) hP hD hS
  exact L2 4 0 σ δ dr Y o rr 0 0 (by omega) hI (by omega) (by omega) (by omega) (by omega) _ _ ls (lv_sub hl [0, 1, 2] rfl) hP hD hS
