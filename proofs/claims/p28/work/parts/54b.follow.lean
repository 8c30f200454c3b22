-- ===== the face: playing on =====
set_option maxHeartbeats 4000000 in
set_option maxRecDepth 100000 in
theorem c_X4_follow (l : Launch) (hst : l.stackTraces = false) (D : va_G) (cI : ClassId) (sz : Nat) (h t0 l0 m0 w0 : Nat) (a b : Nat → Nat) (σ : SS) (f : Nat → Int32) (ψ : YS) (T : Nat) (t : Nat) (hn : s_n σ ≤ 10) (hT1 : 1 ≤ T) (hT2 : T ≤ 40) : vx_Met l yX4_follow wsX4_follow ({ frames := 7, cells := 1, slots := 6, locals := 167 } : Room) (va_Pc [.ref h, .int (nI T)] (preXS D cI (wW h (a 0) t0 l0 m0 ++ sW cI a σ ++ mW cI m0 (b 0) w0 f ++ yW cI b ψ) sz t)) (va_Qi (fun (r : Int32) (u : (SS × (Nat → Int32) × YS)) => 0 = 0 ∧ r = nI (playN T σ) ∧ u.1 = playS T σ) (fun (u : (SS × (Nat → Int32) × YS)) => posM D cI (va_A (wW h (a 0) t0 l0 m0 ++ sW cI a σ ++ mW cI m0 (b 0) w0 f ++ yW cI b ψ) sz) (wW h (a 0) t0 l0 m0 ++ sW cI a u.1 ++ mW cI m0 (b 0) w0 u.2.1 ++ yW cI b u.2.2)) (va_A (wW h (a 0) t0 l0 m0 ++ sW cI a σ ++ mW cI m0 (b 0) w0 f ++ yW cI b ψ) sz)) (thrX (0) nmA D cI (va_A (wW h (a 0) t0 l0 m0 ++ sW cI a σ ++ mW cI m0 (b 0) w0 f ++ yW cI b ψ) sz) (wW h (a 0) t0 l0 m0 ++ sW cI a σ ++ mW cI m0 (b 0) w0 f ++ yW cI b ψ)) 1 6 (va_A (wW h (a 0) t0 l0 m0 ++ sW cI a σ ++ mW cI m0 (b 0) w0 f ++ yW cI b ψ) sz) := by
  refine vx_ofW (cc := cX4_follow) (maxL := 2) (ret := (some .int)) (by decide) rfl ?_
  intro p e s m args below meth c s₁ B hml hno hv
  obtain ⟨rfl, ⟨hsz, hP, hK, hXV, hD0, hTX⟩, hSX⟩ := hv
  have hE := hXV.1
  have hx := B.exec
  have hb := B.bytes
  have hr := B.returns
  have hts := atoms_spec (ws := wsX4_follow) B.pre
  have hown : s.vm.findClass RX4 = some m.cls := findClass_of_methodNamed B.named
  have hlocks := B.notSynchronized
  subst hsz
  have hD := hD0.self (sz := s.heap.size)
  generalize hAe : va_A (wW h (a 0) t0 l0 m0 ++ sW cI a σ ++ mW cI m0 (b 0) w0 f ++ yW cI b ψ) s.heap.size = A at hD hTX hSX ⊢
  have hA : ∀ q : Nat, s.heap.size ≤ q → A q := fun q h => by rw [← hAe]; exact Or.inr h
  have hS : va_S A s.heap s.heap [] := va_S.rf
  have hP : va_P D vwCl (wW h (a 0) t0 l0 m0 ++ sW cI a σ ++ mW cI m0 (b 0) w0 f ++ yW cI b ψ) s.heap := hP
  have hl := lv_entry ([.ref h, .int (nI T)]) (n := 2) (Nat.le_of_ble_eq_true rfl)
  rw [lg_entry_eq]
  generalize (lg_sl ([.ref h, .int (nI T)]) ++ List.replicate (2 - (lg_sl ([.ref h, .int (nI T)])).length) Slot.unset).toArray = ls at hl ⊢
  have hl : lv_has ls 2 [(0, .ref h), (1, .int (nI T))] := hl
  refine lv_iload_n hx hb dX4_follow_0 rfl (lv_at hl 1 rfl) ?_
  refine lv_iconst (v := 1) hx hb dX4_follow_1 (by decide) ?_
  refine lv_bipush (v := 40) hx hb dX4_follow_2 (by decide) ?_
  refine vp_callSi (va_Run.run (va_runS (As := [.int (nI T), .int 1, .int 40]) (rest := []) ⟨hx, hb, hml, hown, hts⟩ (c_X4_isWithin l (nI T) 1 40) (va_cwS 3 hts gX4_follow_X4_isWithin rfl rfl rfl (by decide +kernel) ⟨Nat.le_of_ble_eq_true rfl, Nat.le_of_ble_eq_true rfl⟩) ⟨fun _ _ _ _ q => q, fun _ _ _ => ⟨rfl, trivial⟩⟩ rfl rfl hl.1 rfl (lv_room (Nat.le_of_ble_eq_true rfl)) dX4_follow_4 ⟨Nat.zero_le _, Nat.zero_le _⟩)) (fun r hr9 => ?_)
  subst hr9
  refine w_bnz (tgt := 20) hx hb dX4_follow_7 (by decide) (fun c_7 => ?_) (fun c_7 => absurd c_7 ((fun z9 => by rw [within_t hT1 hT2] at z9; cases z9)))
  refine lv_aload_n hx hb dX4_follow_20 rfl (lv_at hl 0 rfl) ?_
  refine lv_iload_n hx hb dX4_follow_21 rfl (lv_at hl 1 rfl) ?_
  have hFc := va_free (wc := wW h (a 0) t0 l0 m0 ++ sW cI a σ ++ mW cI m0 (b 0) w0 f ++ yW cI b ψ) hD hS hA [0, 1, 2, 3, 4, 5, 6, 7, 8, 9, 10, 11] rfl
  refine va_calli (va_runV (As := [.int (nI T)]) (rest := []) ⟨hx, hb, hml, hown, hts⟩ (c_X4_play l D cI _ h t0 l0 m0 w0 a b σ f ψ T t hn hT2) (cwV 1 hts gX4_follow_X4_play rfl rfl rfl (by decide +kernel) ⟨Nat.le_of_ble_eq_true rfl, Nat.le_of_ble_eq_true rfl⟩) ⟨preSX_blind, va_recv hK hP (ci := 4) (q0 := 0) rfl rfl, preSX_of hP hK hE hD hSX hS hFc [.ref h, .int (nI T)]⟩ rfl rfl hl.1 rfl (lv_room (Nat.le_of_ble_eq_true rfl)) dX4_follow_22 ⟨Nat.le_of_ble_eq_true rfl, Nat.le_of_ble_eq_true rfl⟩) hS (fun q _ h => hFc q h) hFc (fun r u t9 H1 locs ht hvm hw hB hz1 hk1 hS => ?_)
  obtain ⟨hP1, hK1, hD1⟩ := hB
  rw [ht] at hP1
  obtain ⟨s22, f22, φ22⟩ := u
  dsimp only at hw hP1 hD1
  obtain ⟨rfl, rfl⟩ := hw
  obtain ⟨hP, hD⟩ := va_join (wr := []) (w1 := wW h (a 0) t0 l0 m0 ++ sW cI a (playS T σ) ++ mW cI m0 (b 0) w0 f22 ++ yW cI b φ22) hP hD [0, 1, 2, 3, 4, 5, 6, 7, 8, 9, 10, 11] [] rfl rfl (by decide) (by decide) hk1 hFc hP1 hD1
  generalize H1 = H at hP hS ⊢
  have hP : va_P D vwCl (wW h (a 0) t0 l0 m0 ++ sW cI a (playS T σ) ++ mW cI m0 (b 0) w0 f22 ++ yW cI b φ22) H := hP
  have hD : va_D A (wW h (a 0) t0 l0 m0 ++ sW cI a (playS T σ) ++ mW cI m0 (b 0) w0 f22 ++ yW cI b φ22) := hD
  have hP9 := hP.sub (ws' := wW h (a 0) t0 l0 m0 ++ sW cI a (playS T σ) ++ mW cI m0 (b 0) w0 f22 ++ yW cI b φ22) [0, 1, 2, 3, 4, 5, 6, 7, 8, 9, 10, 11] rfl
  have hD9 := hD.sub (ws' := wW h (a 0) t0 l0 m0 ++ sW cI a (playS T σ) ++ mW cI m0 (b 0) w0 f22 ++ yW cI b φ22) [0, 1, 2, 3, 4, 5, 6, 7, 8, 9, 10, 11] (by decide) rfl
  refine W.widen (k := 1) (n := 6) (Nat.le_of_ble_eq_true rfl) (Nat.le_of_ble_eq_true rfl) ?_
  refine vx_ret ?_
  exact W.iret (v := (nI (playN T σ))) hx hb hr (fun T9 ht hW => ⟨⟨(nI (playN T σ)), ((playS T σ), f22, φ22), rfl, ⟨rfl, rfl, rfl⟩, by rw [ht]; exact hP9, va_K.moved hW.alike hK, hD9⟩, hS.F ht⟩) hS.2.2 dX4_follow_25
set_option maxHeartbeats 4000000 in
set_option maxRecDepth 100000 in
theorem c_X4_ahead (l : Launch) (hst : l.stackTraces = false) (D : va_G) (cI : ClassId) (sz : Nat) (h l0 m0 w0 : Nat) (a z b : Nat → Nat) (σ τ : SS) (f : Nat → Int32) (ψ : YS) (T : Nat) (t : Nat) (hn : s_n σ ≤ 10) (hT1 : 1 ≤ T) (hT2 : T ≤ 40) : vx_Met l yX4_ahead wsX4_ahead ({ frames := 7, cells := 1, slots := 6, locals := 167 } : Room) (va_Pc [.ref h, .int (nI T)] (preXS D cI (wW h (a 0) (z 0) l0 m0 ++ sW cI a σ ++ sW cI z τ ++ mW cI m0 (b 0) w0 f ++ yW cI b ψ) sz t)) (va_Qi (fun (r : Int32) (u : (SS × (Nat → Int32) × YS)) => 0 = 0 ∧ r = lifeF (playS T σ) 0 - lifeF (playS T σ) 1 ∧ u.1 = playS T σ) (fun (u : (SS × (Nat → Int32) × YS)) => posM D cI (va_A (wW h (a 0) (z 0) l0 m0 ++ sW cI a σ ++ sW cI z τ ++ mW cI m0 (b 0) w0 f ++ yW cI b ψ) sz) (wW h (a 0) (z 0) l0 m0 ++ sW cI a σ ++ sW cI z u.1 ++ mW cI m0 (b 0) w0 u.2.1 ++ yW cI b u.2.2)) (va_A (wW h (a 0) (z 0) l0 m0 ++ sW cI a σ ++ sW cI z τ ++ mW cI m0 (b 0) w0 f ++ yW cI b ψ) sz)) (thrX (0) nmA D cI (va_A (wW h (a 0) (z 0) l0 m0 ++ sW cI a σ ++ sW cI z τ ++ mW cI m0 (b 0) w0 f ++ yW cI b ψ) sz) (wW h (a 0) (z 0) l0 m0 ++ sW cI a σ ++ sW cI z τ ++ mW cI m0 (b 0) w0 f ++ yW cI b ψ)) 1 6 (va_A (wW h (a 0) (z 0) l0 m0 ++ sW cI a σ ++ sW cI z τ ++ mW cI m0 (b 0) w0 f ++ yW cI b ψ) sz) := by
  refine vx_ofW (cc := cX4_ahead) (maxL := 3) (ret := (some .int)) (by decide) rfl ?_
  intro p e s m args below meth c s₁ B hml hno hv
  obtain ⟨rfl, ⟨hsz, hP, hK, hXV, hD0, hTX⟩, hSX⟩ := hv
  have hE := hXV.1
  have hx := B.exec
  have hb := B.bytes
  have hr := B.returns
  have hts := atoms_spec (ws := wsX4_ahead) B.pre
  have hown : s.vm.findClass RX4 = some m.cls := findClass_of_methodNamed B.named
  have hlocks := B.notSynchronized
  subst hsz
  have hD := hD0.self (sz := s.heap.size)
  generalize hAe : va_A (wW h (a 0) (z 0) l0 m0 ++ sW cI a σ ++ sW cI z τ ++ mW cI m0 (b 0) w0 f ++ yW cI b ψ) s.heap.size = A at hD hTX hSX ⊢
  have hA : ∀ q : Nat, s.heap.size ≤ q → A q := fun q h => by rw [← hAe]; exact Or.inr h
  have hS : va_S A s.heap s.heap [] := va_S.rf
  have hP : va_P D vwCl (wW h (a 0) (z 0) l0 m0 ++ sW cI a σ ++ sW cI z τ ++ mW cI m0 (b 0) w0 f ++ yW cI b ψ) s.heap := hP
  have hl := lv_entry ([.ref h, .int (nI T)]) (n := 3) (Nat.le_of_ble_eq_true rfl)
  rw [lg_entry_eq]
  generalize (lg_sl ([.ref h, .int (nI T)]) ++ List.replicate (3 - (lg_sl ([.ref h, .int (nI T)])).length) Slot.unset).toArray = ls at hl ⊢
  have hl : lv_has ls 3 [(0, .ref h), (1, .int (nI T))] := hl
  refine lv_iload_n hx hb dX4_ahead_0 rfl (lv_at hl 1 rfl) ?_
  refine lv_iconst (v := 1) hx hb dX4_ahead_1 (by decide) ?_
  refine lv_bipush (v := 40) hx hb dX4_ahead_2 (by decide) ?_
  refine vp_callSi (va_Run.run (va_runS (As := [.int (nI T), .int 1, .int 40]) (rest := []) ⟨hx, hb, hml, hown, hts⟩ (c_X4_isWithin l (nI T) 1 40) (va_cwS 3 hts gX4_ahead_X4_isWithin rfl rfl rfl (by decide +kernel) ⟨Nat.le_of_ble_eq_true rfl, Nat.le_of_ble_eq_true rfl⟩) ⟨fun _ _ _ _ q => q, fun _ _ _ => ⟨rfl, trivial⟩⟩ rfl rfl hl.1 rfl (lv_room (Nat.le_of_ble_eq_true rfl)) dX4_ahead_4 ⟨Nat.zero_le _, Nat.zero_le _⟩)) (fun r hr9 => ?_)
  subst hr9
  refine w_bnz (tgt := 20) hx hb dX4_ahead_7 (by decide) (fun c_7 => ?_) (fun c_7 => absurd c_7 ((fun z9 => by rw [within_t hT1 hT2] at z9; cases z9)))
  refine lv_aload_n hx hb dX4_ahead_20 rfl (lv_at hl 0 rfl) ?_
  refine va_get (D := D) (ci := 4) (v := .ref (a 0)) (C := RX4) (T := TX4) (N := 4) hx hb hts (by decide +kernel) hown hK hP 0 rfl rfl 0 (by decide) (hts (.fieldLink RX4 12 "Warren" "state" "LWarren$State;") (by decide +kernel)) (fun _ h9 => h9) rfl dX4_ahead_21 ?_
  refine lv_astore_n (lv' := [(2, .ref (a 0)), (0, .ref h), (1, .int (nI T))]) hx hb dX4_ahead_24 rfl hl (by decide) rfl (fun ls hl => ?_)
  refine lv_aload_n hx hb dX4_ahead_25 rfl (lv_at hl 1 rfl) ?_
  refine va_get (D := D) (ci := 4) (v := .ref (z 0)) (C := RX4) (T := TX4) (N := 4) hx hb hts (by decide +kernel) hown hK hP 0 rfl rfl 1 (by decide) (hts (.fieldLink RX4 16 "Warren" "trial" "LWarren$State;") (by decide +kernel)) (fun _ h9 => h9) rfl dX4_ahead_26 ?_
  refine lv_aload_n hx hb dX4_ahead_29 rfl (lv_at hl 0 rfl) ?_
  have hFc := va_free (wc := sW cI z τ ++ sW cI a σ) hD hS hA [7, 8, 9, 10, 11, 12, 1, 2, 3, 4, 5, 6] rfl
  refine va_callv (va_runV (As := [.ref (a 0)]) (rest := []) ⟨hx, hb, hml, hown, hts⟩ (c_X2_copyFrom l D cI _ z τ a σ) (cwV 1 hts gX4_ahead_X2_copyFrom rfl rfl rfl (by decide +kernel) ⟨Nat.le_of_ble_eq_true rfl, Nat.le_of_ble_eq_true rfl⟩) ⟨preM_blind, va_recv hK hP (ci := 2) (q0 := 7) rfl rfl, preM_of (hP.sub (ws' := sW cI z τ ++ sW cI a σ) [7, 8, 9, 10, 11, 12, 1, 2, 3, 4, 5, 6] rfl) hK hE (hD.sub (ws' := sW cI z τ ++ sW cI a σ) [7, 8, 9, 10, 11, 12, 1, 2, 3, 4, 5, 6] (by decide) rfl) [.ref (z 0), .ref (a 0)]⟩ rfl rfl hl.1 rfl (lv_room (Nat.le_of_ble_eq_true rfl)) dX4_ahead_30 ⟨Nat.le_of_ble_eq_true rfl, Nat.le_of_ble_eq_true rfl⟩) hS (fun q _ h => hFc q h) hFc (fun u t9 H1 locs ht hvm hw hB hz1 hk1 hS => ?_)
  obtain ⟨hP1, hK1, hD1⟩ := hB
  rw [ht] at hP1
  replace hw := hw.symm
  subst hw
  obtain ⟨hP, hD⟩ := va_join (wr := wW h (a 0) (z 0) l0 m0 ++ mW cI m0 (b 0) w0 f ++ yW cI b ψ) (w1 := sW cI z σ ++ sW cI a σ) hP hD [7, 8, 9, 10, 11, 12, 1, 2, 3, 4, 5, 6] [0, 13, 14, 15, 16, 17] rfl rfl (by decide) (by decide) hk1 hFc hP1 hD1
  generalize H1 = H at hP hS ⊢
  have hP : va_P D vwCl (wW h (a 0) (z 0) l0 m0 ++ mW cI m0 (b 0) w0 f ++ yW cI b ψ ++ sW cI z σ ++ sW cI a σ) H := hP
  have hD : va_D A (wW h (a 0) (z 0) l0 m0 ++ mW cI m0 (b 0) w0 f ++ yW cI b ψ ++ sW cI z σ ++ sW cI a σ) := hD
  refine lv_aload_n hx hb dX4_ahead_33 rfl (lv_at hl 1 rfl) ?_
  refine lv_aload_n hx hb dX4_ahead_34 rfl (lv_at hl 1 rfl) ?_
  refine va_get (D := D) (ci := 4) (v := .ref (z 0)) (C := RX4) (T := TX4) (N := 4) hx hb hts (by decide +kernel) hown hK hP 0 rfl rfl 1 (by decide) (hts (.fieldLink RX4 16 "Warren" "trial" "LWarren$State;") (by decide +kernel)) (fun _ h9 => h9) rfl dX4_ahead_35 ?_
  refine va_put (D := D) (ci := 4) (v := .ref (z 0)) (ty := (.object "Warren$State")) (C := RX4) (T := TX4) (N := 4) hx hb hts (by decide +kernel) tyX4 tyX4_ok nmX4 hown hK hP hD hS 0 rfl rfl 0 (by decide) (hts (.fieldLink RX4 12 "Warren" "state" "LWarren$State;") (by decide +kernel)) (fun _ h9 => h9) rfl (by decide +kernel) rfl rfl (Nat.le_of_ble_eq_true rfl) dX4_ahead_38 (fun H locs hP hD hS => ?_)
  have hP : va_P D vwCl (wW h (z 0) (z 0) l0 m0 ++ mW cI m0 (b 0) w0 f ++ yW cI b ψ ++ sW cI z σ ++ sW cI a σ) H := hP
  have hD : va_D A (wW h (z 0) (z 0) l0 m0 ++ mW cI m0 (b 0) w0 f ++ yW cI b ψ ++ sW cI z σ ++ sW cI a σ) := hD
  refine lv_aload_n hx hb dX4_ahead_41 rfl (lv_at hl 1 rfl) ?_
  refine lv_iload_n hx hb dX4_ahead_42 rfl (lv_at hl 2 rfl) ?_
  have hFc := va_free (wc := wW h (z 0) (z 0) l0 m0 ++ sW cI z σ ++ mW cI m0 (b 0) w0 f ++ yW cI b ψ) hD hS hA [0, 6, 7, 8, 9, 10, 11, 1, 2, 3, 4, 5] rfl
  refine va_calli (va_runV (As := [.int (nI T)]) (rest := []) ⟨hx, hb, hml, hown, hts⟩ (c_X4_play l D cI _ h (z 0) l0 m0 w0 z b σ f ψ T t hn hT2) (cwV 1 hts gX4_ahead_X4_play rfl rfl rfl (by decide +kernel) ⟨Nat.le_of_ble_eq_true rfl, Nat.le_of_ble_eq_true rfl⟩) ⟨preSX_blind, va_recv hK hP (ci := 4) (q0 := 0) rfl rfl, preSX_of (hP.sub (ws' := wW h (z 0) (z 0) l0 m0 ++ sW cI z σ ++ mW cI m0 (b 0) w0 f ++ yW cI b ψ) [0, 6, 7, 8, 9, 10, 11, 1, 2, 3, 4, 5] rfl) hK hE (hD.sub (ws' := wW h (z 0) (z 0) l0 m0 ++ sW cI z σ ++ mW cI m0 (b 0) w0 f ++ yW cI b ψ) [0, 6, 7, 8, 9, 10, 11, 1, 2, 3, 4, 5] (by decide) rfl) hSX hS hFc [.ref h, .int (nI T)]⟩ rfl rfl hl.1 rfl (lv_room (Nat.le_of_ble_eq_true rfl)) dX4_ahead_43 ⟨Nat.le_of_ble_eq_true rfl, Nat.le_of_ble_eq_true rfl⟩) hS (fun q _ h => hFc q h) hFc (fun r u t9 H1 locs ht hvm hw hB hz1 hk1 hS => ?_)
  obtain ⟨hP1, hK1, hD1⟩ := hB
  rw [ht] at hP1
  obtain ⟨s43, f43, φ43⟩ := u
  dsimp only at hw hP1 hD1
  obtain ⟨rfl, rfl⟩ := hw
  obtain ⟨hP, hD⟩ := va_join (wr := sW cI a σ) (w1 := wW h (z 0) (z 0) l0 m0 ++ sW cI z (playS T σ) ++ mW cI m0 (b 0) w0 f43 ++ yW cI b φ43) hP hD [0, 6, 7, 8, 9, 10, 11, 1, 2, 3, 4, 5] [12, 13, 14, 15, 16, 17] rfl rfl (by decide) (by decide) hk1 hFc hP1 hD1
  generalize H1 = H at hP hS ⊢
  have hP : va_P D vwCl (sW cI a σ ++ wW h (z 0) (z 0) l0 m0 ++ sW cI z (playS T σ) ++ mW cI m0 (b 0) w0 f43 ++ yW cI b φ43) H := hP
  have hD : va_D A (sW cI a σ ++ wW h (z 0) (z 0) l0 m0 ++ sW cI z (playS T σ) ++ mW cI m0 (b 0) w0 f43 ++ yW cI b φ43) := hD
  refine lv_pop hx hb dX4_ahead_46 rfl ?_
  refine lv_aload_n hx hb dX4_ahead_47 rfl (lv_at hl 1 rfl) ?_
  refine lv_aload_n hx hb dX4_ahead_48 rfl (lv_at hl 0 rfl) ?_
  refine va_put (D := D) (ci := 4) (v := .ref (a 0)) (ty := (.object "Warren$State")) (C := RX4) (T := TX4) (N := 4) hx hb hts (by decide +kernel) tyX4 tyX4_ok nmX4 hown hK hP hD hS 6 rfl rfl 0 (by decide) (hts (.fieldLink RX4 12 "Warren" "state" "LWarren$State;") (by decide +kernel)) (fun _ h9 => h9) rfl (by decide +kernel) rfl rfl (Nat.le_of_ble_eq_true rfl) dX4_ahead_49 (fun H locs hP hD hS => ?_)
  have hP : va_P D vwCl (sW cI a σ ++ wW h (a 0) (z 0) l0 m0 ++ sW cI z (playS T σ) ++ mW cI m0 (b 0) w0 f43 ++ yW cI b φ43) H := hP
  have hD : va_D A (sW cI a σ ++ wW h (a 0) (z 0) l0 m0 ++ sW cI z (playS T σ) ++ mW cI m0 (b 0) w0 f43 ++ yW cI b φ43) := hD
  have hnp : s_n (playS T σ) ≤ 10 := by rw [n_play]; exact hn
  refine lv_aload_n hx hb dX4_ahead_52 rfl (lv_at hl 1 rfl) ?_
  refine va_get (D := D) (ci := 4) (v := .ref (z 0)) (C := RX4) (T := TX4) (N := 4) hx hb hts (by decide +kernel) hown hK hP 6 rfl rfl 1 (by decide) (hts (.fieldLink RX4 16 "Warren" "trial" "LWarren$State;") (by decide +kernel)) (fun _ h9 => h9) rfl dX4_ahead_53 ?_
  refine lv_iconst (v := 0) hx hb dX4_ahead_56 (by decide) ?_
  refine vp_callSi (va_Run.run (va_runV (As := [.int 0]) (rest := []) ⟨hx, hb, hml, hown, hts⟩ (c_X2_lifeOf l D cI z (playS T σ) 0 hnp) (cwV 1 hts gX4_ahead_X2_lifeOf rfl rfl rfl (by decide +kernel) ⟨Nat.le_of_ble_eq_true rfl, Nat.le_of_ble_eq_true rfl⟩) ⟨preR_blind, va_recv hK hP (ci := 2) (q0 := 7) rfl rfl, preR_of (hP.sub (ws' := sW cI z (playS T σ)) [7, 8, 9, 10, 11, 12] rfl) hK hE [.ref (z 0), .int 0]⟩ rfl rfl hl.1 rfl (lv_room (Nat.le_of_ble_eq_true rfl)) dX4_ahead_57 ⟨Nat.zero_le _, Nat.zero_le _⟩)) (fun r hr9 => ?_)
  subst hr9
  refine lv_aload_n hx hb dX4_ahead_60 rfl (lv_at hl 1 rfl) ?_
  refine va_get (D := D) (ci := 4) (v := .ref (z 0)) (C := RX4) (T := TX4) (N := 4) hx hb hts (by decide +kernel) hown hK hP 6 rfl rfl 1 (by decide) (hts (.fieldLink RX4 16 "Warren" "trial" "LWarren$State;") (by decide +kernel)) (fun _ h9 => h9) rfl dX4_ahead_61 ?_
  refine lv_iconst (v := 1) hx hb dX4_ahead_64 (by decide) ?_
  refine vp_callSi (va_Run.run (va_runV (As := [.int 1]) (rest := [.int (lifeF (playS T σ) 0)]) ⟨hx, hb, hml, hown, hts⟩ (c_X2_lifeOf l D cI z (playS T σ) 1 hnp) (cwV 1 hts gX4_ahead_X2_lifeOf rfl rfl rfl (by decide +kernel) ⟨Nat.le_of_ble_eq_true rfl, Nat.le_of_ble_eq_true rfl⟩) ⟨preR_blind, va_recv hK hP (ci := 2) (q0 := 7) rfl rfl, preR_of (hP.sub (ws' := sW cI z (playS T σ)) [7, 8, 9, 10, 11, 12] rfl) hK hE [.ref (z 0), .int 1]⟩ rfl rfl hl.1 rfl (lv_room (Nat.le_of_ble_eq_true rfl)) dX4_ahead_65 ⟨Nat.zero_le _, Nat.zero_le _⟩)) (fun r hr9 => ?_)
  subst hr9
  refine lv_isub hx hb dX4_ahead_68 ?_
  have hP9 := hP.sub (ws' := wW h (a 0) (z 0) l0 m0 ++ sW cI a σ ++ sW cI z (playS T σ) ++ mW cI m0 (b 0) w0 f43 ++ yW cI b φ43) [6, 0, 1, 2, 3, 4, 5, 7, 8, 9, 10, 11, 12, 13, 14, 15, 16, 17] rfl
  have hD9 := hD.sub (ws' := wW h (a 0) (z 0) l0 m0 ++ sW cI a σ ++ sW cI z (playS T σ) ++ mW cI m0 (b 0) w0 f43 ++ yW cI b φ43) [6, 0, 1, 2, 3, 4, 5, 7, 8, 9, 10, 11, 12, 13, 14, 15, 16, 17] (by decide) rfl
  refine W.widen (k := 1) (n := 6) (Nat.le_of_ble_eq_true rfl) (Nat.le_of_ble_eq_true rfl) ?_
  refine vx_ret ?_
  exact W.iret (v := ((lifeF (playS T σ) 0) - (lifeF (playS T σ) 1))) hx hb hr (fun T9 ht hW => ⟨⟨((lifeF (playS T σ) 0) - (lifeF (playS T σ) 1)), ((playS T σ), f43, φ43), rfl, ⟨rfl, rfl, rfl⟩, by rw [ht]; exact hP9, va_K.moved hW.alike hK, hD9⟩, hS.F ht⟩) hS.2.2 dX4_ahead_69
