set_option maxHeartbeats 4000000 in
set_option maxRecDepth 100000 in
theorem c_X2_digRoom (l : Launch) (D : va_G) (cI : ClassId) (sz : Nat) (a : Nat → Nat) (σ : SS) (x y w h : Nat) (hxw : x + w ≤ 16) (hyh : y + h ≤ 10) : Met l yX2_digRoom wsX2_digRoom ({ frames := 1, cells := 0, slots := 0, locals := 22 } : Room) (va_Pc [.ref (a 0), .int (nI x), .int (nI y), .int (nI w), .int (nI h)] (preM D cI (sW cI a σ) sz)) (va_Qi (fun (r : Int32) (u : SS) => r = (digF σ x y w h).2 ∧ u = (digF σ x y w h).1) (fun (u : SS) => posM D cI (va_A (sW cI a σ) sz) (sW cI a u)) (va_A (sW cI a σ) sz)) 0 0 (va_A (sW cI a σ) sz) := by
  refine Met.ofW (cc := cX2_digRoom) (maxL := 9) (ret := (some .int)) (by decide) rfl ?_
  intro p e s m args below meth c s₁ B hml hv
  obtain ⟨rfl, hsz, hP, hK, hE, hD0⟩ := hv
  have hx := B.exec
  have hb := B.bytes
  have hr := B.returns
  have hts := atoms_spec (ws := wsX2_digRoom) B.pre
  have hown : s.vm.findClass RX2 = some m.cls := findClass_of_methodNamed B.named
  have hlocks := B.notSynchronized
  subst hsz
  have hD := hD0.self (sz := s.heap.size)
  generalize hAe : va_A (sW cI a σ) s.heap.size = A at hD ⊢
  have hA : ∀ q : Nat, s.heap.size ≤ q → A q := fun q h => by rw [← hAe]; exact Or.inr h
  have hS : va_S A s.heap s.heap [] := va_S.rf
  have hP : va_P D vwCl (sW cI a σ) s.heap := hP
  have hl := lv_entry ([.ref (a 0), .int (nI x), .int (nI y), .int (nI w), .int (nI h)]) (n := 9) (Nat.le_of_ble_eq_true rfl)
  rw [lg_entry_eq]
  generalize (lg_sl ([.ref (a 0), .int (nI x), .int (nI y), .int (nI w), .int (nI h)]) ++ List.replicate (9 - (lg_sl ([.ref (a 0), .int (nI x), .int (nI y), .int (nI w), .int (nI h)])).length) Slot.unset).toArray = ls at hl ⊢
  have hl : lv_has ls 9 [(0, .ref (a 0)), (1, .int (nI x)), (2, .int (nI y)), (3, .int (nI w)), (4, .int (nI h))] := hl
  refine lv_iconst (v := 0) hx hb dX2_digRoom_0 (by decide) ?_
  refine lv_istore (lv' := [(5, .int 0), (0, .ref (a 0)), (1, .int (nI x)), (2, .int (nI y)), (3, .int (nI w)), (4, .int (nI h))]) hx hb dX2_digRoom_1 hl (by decide) rfl (fun ls hl => ?_)
  refine lv_iload_n hx hb dX2_digRoom_3 rfl (lv_at hl 3 rfl) ?_
  refine lv_istore (lv' := [(6, .int (nI y)), (5, .int 0), (0, .ref (a 0)), (1, .int (nI x)), (2, .int (nI y)), (3, .int (nI w)), (4, .int (nI h))]) hx hb dX2_digRoom_4 hl (by decide) rfl (fun ls hl => ?_)
  have L6 : ∀ (n r : Nat) (τ : SS) (t : Int32) (hk : r + n = y + h) (hsp : digF σ x y w h = digR x w n r τ t) (H : Heap) (locs : List Loc) (ls : Array Slot), lv_has ls 9 [(6, .int (nI r)), (5, .int t), (0, .ref (a 0)), (1, .int (nI x)), (2, .int (nI y)), (3, .int (nI w)), (4, .int (nI h))] → va_P D vwCl (sW cI a τ) H → va_D A (sW cI a τ) → va_S A s.heap H locs → W p l e ({ frames := 1, cells := 0, slots := 0, locals := 22 } : Room) s m ([.ref (a 0), .int (nI x), .int (nI y), .int (nI w), .int (nI h)] : List Value).toArray below meth c H locs 0 0 (MQ below (va_Qi (fun (r : Int32) (u : SS) => r = (digF σ x y w h).2 ∧ u = (digF σ x y w h).1) (fun (u : SS) => posM D cI A (sW cI a u)) A) ([.ref (a 0), .int (nI x), .int (nI y), .int (nI w), .int (nI h)] : List Value).toArray s 0 0 A) (F0 m 6 ls []) := by
    intro n
    induction n with
    | zero =>
      intro r τ t hk hsp H locs ls hl hP hD hS
      refine lv_iload hx hb dX2_digRoom_6 (lv_at hl 0 rfl) ?_
      refine lv_iload_n hx hb dX2_digRoom_8 rfl (lv_at hl 4 rfl) ?_
      refine lv_iload hx hb dX2_digRoom_9 (lv_at hl 6 rfl) ?_
      refine lv_iadd hx hb dX2_digRoom_11 ?_
      rw [nI_add y h]
      refine lv_icmp_ge (tgt := 75) hx hb dX2_digRoom_12 (by decide) (fun c_12 => ?_) (fun c_12 => absurd (nI_le (by omega) (by omega)) c_12)
      refine lv_iload hx hb dX2_digRoom_75 (lv_at hl 1 rfl) ?_
      have hP9 := hP
      have hD9 := hD
      exact W.iret (v := t) hx hb hr (fun T9 ht hW => ⟨⟨t, τ, rfl, ⟨by rw [hsp]; rfl, by rw [hsp]; rfl⟩, by rw [ht]; exact hP9, va_K.moved hW.alike hK, hD9⟩, hS.F ht⟩) hS.2.2 dX2_digRoom_77
    | succ n ih6 =>
      intro r τ t hk hsp H locs ls hl hP hD hS
      refine lv_iload hx hb dX2_digRoom_6 (lv_at hl 0 rfl) ?_
      refine lv_iload_n hx hb dX2_digRoom_8 rfl (lv_at hl 4 rfl) ?_
      refine lv_iload hx hb dX2_digRoom_9 (lv_at hl 6 rfl) ?_
      refine lv_iadd hx hb dX2_digRoom_11 ?_
      rw [nI_add y h]
      refine lv_icmp_ge (tgt := 75) hx hb dX2_digRoom_12 (by decide) (fun c_12 => absurd c_12 (nI_ge (by omega) (by omega))) (fun c_12 => ?_)
      refine lv_iload_n hx hb dX2_digRoom_15 rfl (lv_at hl 3 rfl) ?_
      refine lv_istore (lv' := [(7, .int (nI x)), (6, .int (nI r)), (5, .int t), (0, .ref (a 0)), (1, .int (nI x)), (2, .int (nI y)), (3, .int (nI w)), (4, .int (nI h))]) hx hb dX2_digRoom_16 hl (by decide) rfl (fun ls hl => ?_)
      have L18 : ∀ (n1 k : Nat) (τ1 : SS) (t1 : Int32) (hk1 : k + n1 = x + w) (hsp1 : digC r w x τ t = digC r n1 k τ1 t1) (H : Heap) (locs : List Loc) (ls : Array Slot), lv_has ls 9 [(7, .int (nI k)), (6, .int (nI r)), (5, .int t1), (0, .ref (a 0)), (1, .int (nI x)), (2, .int (nI y)), (3, .int (nI w)), (4, .int (nI h))] → va_P D vwCl (sW cI a τ1) H → va_D A (sW cI a τ1) → va_S A s.heap H locs → W p l e ({ frames := 1, cells := 0, slots := 0, locals := 22 } : Room) s m ([.ref (a 0), .int (nI x), .int (nI y), .int (nI w), .int (nI h)] : List Value).toArray below meth c H locs 0 0 (MQ below (va_Qi (fun (r : Int32) (u : SS) => r = (digF σ x y w h).2 ∧ u = (digF σ x y w h).1) (fun (u : SS) => posM D cI A (sW cI a u)) A) ([.ref (a 0), .int (nI x), .int (nI y), .int (nI w), .int (nI h)] : List Value).toArray s 0 0 A) (F0 m 18 ls []) := by
        intro n1
        induction n1 with
        | zero =>
          intro k τ1 t1 hk1 hsp1 H locs ls hl hP hD hS
          refine lv_iload hx hb dX2_digRoom_18 (lv_at hl 0 rfl) ?_
          refine lv_iload_n hx hb dX2_digRoom_20 rfl (lv_at hl 4 rfl) ?_
          refine lv_iload_n hx hb dX2_digRoom_21 rfl (lv_at hl 6 rfl) ?_
          refine lv_iadd hx hb dX2_digRoom_22 ?_
          rw [nI_add x w]
          refine lv_icmp_ge (tgt := 69) hx hb dX2_digRoom_23 (by decide) (fun c_23 => ?_) (fun c_23 => absurd (nI_le (by omega) (by omega)) c_23)
          refine lv_iinc (v := (nI (r + 1))) (lv' := [(6, .int (nI (r + 1))), (7, .int (nI k)), (5, .int t1), (0, .ref (a 0)), (1, .int (nI x)), (2, .int (nI y)), (3, .int (nI w)), (4, .int (nI h))]) hx hb dX2_digRoom_69 hl (k := 1) rfl (nI_1 r) (by decide) rfl (fun ls hl => ?_)
          refine lv_goto (tgt := 6) hx hb dX2_digRoom_72 (by decide) ?_
          exact ih6 (r + 1) τ1 t1 (by omega) (by rw [hsp, digR, hsp1]; rfl) _ _ ls (lv_sub hl [0, 2, 3, 4, 5, 6, 7] rfl) hP hD hS
        | succ n1 ih18 =>
          intro k τ1 t1 hk1 hsp1 H locs ls hl hP hD hS
          refine lv_iload hx hb dX2_digRoom_18 (lv_at hl 0 rfl) ?_
          refine lv_iload_n hx hb dX2_digRoom_20 rfl (lv_at hl 4 rfl) ?_
          refine lv_iload_n hx hb dX2_digRoom_21 rfl (lv_at hl 6 rfl) ?_
          refine lv_iadd hx hb dX2_digRoom_22 ?_
          rw [nI_add x w]
          refine lv_icmp_ge (tgt := 69) hx hb dX2_digRoom_23 (by decide) (fun c_23 => absurd c_23 (nI_ge (by omega) (by omega))) (fun c_23 => ?_)
          refine lv_iload hx hb dX2_digRoom_26 (lv_at hl 1 rfl) ?_
          refine lv_bipush (v := 16) hx hb dX2_digRoom_28 (by decide) ?_
          refine lv_imul hx hb dX2_digRoom_30 ?_
          refine lv_iload hx hb dX2_digRoom_31 (lv_at hl 0 rfl) ?_
          refine lv_iadd hx hb dX2_digRoom_33 ?_
          refine lv_istore (lv' := [(8, .int (((nI r) * 16) + (nI k))), (7, .int (nI k)), (6, .int (nI r)), (5, .int t1), (0, .ref (a 0)), (1, .int (nI x)), (2, .int (nI y)), (3, .int (nI w)), (4, .int (nI h))]) hx hb dX2_digRoom_34 hl (by decide) rfl (fun ls hl => ?_)
          refine lv_iload hx hb dX2_digRoom_36 (lv_at hl 0 rfl) ?_
          refine vp_callSi (va_Run.run (va_runSN (As := [.int (((nI r) * 16) + (nI k))]) (rest := []) ⟨hx, hb, hml, hown, hts⟩ (c_X4_isEdge l (((nI r) * 16) + (nI k))) ⟨va_cnB 1 hts gX2_digRoom_X4_isEdge_n49 rfl rfl rfl hE.1 (hts _ (by decide +kernel : Cond.initialized yX4_isEdge.cls ∈ _)) (by decide +kernel) ⟨Nat.le_of_ble_eq_true rfl, Nat.le_of_ble_eq_true rfl⟩, (hts _ (by decide +kernel : Cond.static yX4_isEdge ∈ _)), trivial⟩ ⟨fun _ _ _ _ q => q, fun _ _ _ => ⟨rfl, trivial⟩⟩ rfl rfl hl.1 rfl (lv_room (Nat.le_of_ble_eq_true rfl)) dX2_digRoom_38 ⟨Nat.zero_le _, Nat.zero_le _⟩)) (fun r hr9 => ?_)
          subst hr9
          refine w_bnz (tgt := 63) hx hb dX2_digRoom_41 (by decide) (fun c_41 => ?_) (fun c_41 => ?_)
          · refine lv_iinc (v := (nI (k + 1))) (lv' := [(7, .int (nI (k + 1))), (8, .int (((nI r) * 16) + (nI k))), (6, .int (nI r)), (5, .int t1), (0, .ref (a 0)), (1, .int (nI x)), (2, .int (nI y)), (3, .int (nI w)), (4, .int (nI h))]) hx hb dX2_digRoom_63 hl (k := 1) rfl (nI_1 k) (by decide) rfl (fun ls hl => ?_)
            refine lv_goto (tgt := 18) hx hb dX2_digRoom_66 (by decide) ?_
            exact ih18 (k + 1) τ1 t1 (by omega) (by rw [hsp1]; simp [digC, c_41]) _ _ ls (lv_sub hl [0, 2, 3, 4, 5, 6, 7, 8] rfl) hP hD hS
          · refine lv_aload_n hx hb dX2_digRoom_44 rfl (lv_at hl 4 rfl) ?_
            refine lv_iload hx hb dX2_digRoom_45 (lv_at hl 0 rfl) ?_
            refine vp_callSi (va_Run.run (va_runV (As := [.int (((nI r) * 16) + (nI k))]) (rest := []) ⟨hx, hb, hml, hown, hts⟩ (c_X2_kindAt l D cI a τ1 (((nI r) * 16) + (nI k))) (cwV 1 hts gX2_digRoom_X2_kindAt rfl rfl rfl (by decide +kernel) ⟨Nat.le_of_ble_eq_true rfl, Nat.le_of_ble_eq_true rfl⟩) ⟨preR_blind, va_recv hK hP (ci := 2) (q0 := 0) rfl rfl, preR_of hP hK hE [.ref (a 0), .int (((nI r) * 16) + (nI k))]⟩ rfl rfl hl.1 rfl (lv_room (Nat.le_of_ble_eq_true rfl)) dX2_digRoom_47 ⟨Nat.zero_le _, Nat.zero_le _⟩)) (fun r hr9 => ?_)
            subst hr9
            refine lv_if_eq (tgt := 63) hx hb dX2_digRoom_50 (by decide) (fun c_50 => ?_) (fun c_50 => ?_)
            · refine lv_iinc (v := (nI (k + 1))) (lv' := [(7, .int (nI (k + 1))), (8, .int (((nI r) * 16) + (nI k))), (6, .int (nI r)), (5, .int t1), (0, .ref (a 0)), (1, .int (nI x)), (2, .int (nI y)), (3, .int (nI w)), (4, .int (nI h))]) hx hb dX2_digRoom_63 hl (k := 1) rfl (nI_1 k) (by decide) rfl (fun ls hl => ?_)
              refine lv_goto (tgt := 18) hx hb dX2_digRoom_66 (by decide) ?_
              exact ih18 (k + 1) τ1 t1 (by omega) (by rw [hsp1]; simp [digC, c_41, c_50]) _ _ ls (lv_sub hl [0, 2, 3, 4, 5, 6, 7, 8] rfl) hP hD hS
            · refine lv_aload_n hx hb dX2_digRoom_53 rfl (lv_at hl 4 rfl) ?_
              refine lv_iload hx hb dX2_digRoom_54 (lv_at hl 0 rfl) ?_
              refine lv_iconst (v := 0) hx hb dX2_digRoom_56 (by decide) ?_
              have hFc := va_free (wc := sW cI a τ1) hD hS hA [0, 1, 2, 3, 4, 5] rfl
              refine va_callv (va_runV (As := [.int (((nI r) * 16) + (nI k)), .int 0]) (rest := []) ⟨hx, hb, hml, hown, hts⟩ (c_X2_putKind l D cI _ a τ1 (((nI r) * 16) + (nI k)) 0) (cwV 2 hts gX2_digRoom_X2_putKind rfl rfl rfl (by decide +kernel) ⟨Nat.le_of_ble_eq_true rfl, Nat.le_of_ble_eq_true rfl⟩) ⟨preM_blind, va_recv hK hP (ci := 2) (q0 := 0) rfl rfl, preM_of hP hK hE hD [.ref (a 0), .int (((nI r) * 16) + (nI k)), .int 0]⟩ rfl rfl hl.1 rfl (lv_room (Nat.le_of_ble_eq_true rfl)) dX2_digRoom_57 ⟨Nat.zero_le _, Nat.zero_le _⟩) hS (fun q _ h => hFc q h) hFc (fun u t H1 locs ht hvm hw hB hz1 hk1 hS => ?_)
              obtain ⟨hP1, hK1, hD1⟩ := hB
              rw [ht] at hP1
              subst hw
              obtain ⟨hP, hD⟩ := va_join (wr := []) (w1 := sW cI a (putKindF τ1 (((nI r) * 16) + (nI k)) 0)) hP hD [0, 1, 2, 3, 4, 5] [] rfl rfl (by decide) (by decide) hk1 hFc hP1 hD1
              generalize H1 = H at hP hS ⊢
              have hP : va_P D vwCl (sW cI a (putKindF τ1 (((nI r) * 16) + (nI k)) 0)) H := hP
              have hD : va_D A (sW cI a (putKindF τ1 (((nI r) * 16) + (nI k)) 0)) := hD
              refine lv_iinc (v := (t1 + 1)) (lv' := [(5, .int (t1 + 1)), (8, .int (((nI r) * 16) + (nI k))), (7, .int (nI k)), (6, .int (nI r)), (0, .ref (a 0)), (1, .int (nI x)), (2, .int (nI y)), (3, .int (nI w)), (4, .int (nI h))]) hx hb dX2_digRoom_60 hl (k := 3) rfl rfl (by decide) rfl (fun ls hl => ?_)
              refine lv_iinc (v := (nI (k + 1))) (lv' := [(7, .int (nI (k + 1))), (5, .int (t1 + 1)), (8, .int (((nI r) * 16) + (nI k))), (6, .int (nI r)), (0, .ref (a 0)), (1, .int (nI x)), (2, .int (nI y)), (3, .int (nI w)), (4, .int (nI h))]) hx hb dX2_digRoom_63 hl (k := 2) rfl (nI_1 k) (by decide) rfl (fun ls hl => ?_)
              refine lv_goto (tgt := 18) hx hb dX2_digRoom_66 (by decide) ?_
              exact ih18 (k + 1) (putKindF τ1 (((nI r) * 16) + (nI k)) 0) (t1 + 1) (by omega) (by rw [hsp1]; simp [digC, c_41, c_50]) _ _ ls (lv_sub hl [0, 3, 1, 4, 5, 6, 7, 8] rfl) hP hD hS
      exact L18 w x τ t (by omega) rfl _ _ ls (lv_sub hl [0, 1, 2, 3, 4, 5, 6, 7] rfl) hP hD hS
  exact L6 h y σ 0 (by omega) rfl _ _ ls (lv_sub hl [0, 1, 2, 3, 4, 5, 6] rfl) hP hD hS

