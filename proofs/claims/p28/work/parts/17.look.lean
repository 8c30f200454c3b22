set_option maxHeartbeats 4000000 in
set_option maxRecDepth 100000 in
theorem c_X2_look (l : Launch) (D : va_G) (cI : ClassId) (sz : Nat) (a : Nat → Nat) (σ : SS) (x : Int32) : Met l yX2_look wsX2_look ({ frames := 3, cells := 0, slots := 0, locals := 70 } : Room) (va_Pc [.ref (a 0), .int x] (preM D cI (sW cI a σ) sz)) (va_Qv (fun (u : SS) => u = lookF σ x) (fun (u : SS) => posM D cI (va_A (sW cI a σ) sz) (sW cI a u)) (va_A (sW cI a σ) sz)) 0 0 (va_A (sW cI a σ) sz) := by
  refine Met.ofW (cc := cX2_look) (maxL := 5) (ret := none) (by decide) rfl ?_
  intro p e s m args below meth c s₁ B hml hv
  obtain ⟨rfl, hsz, hP, hK, hE, hD0⟩ := hv
  have hx := B.exec
  have hb := B.bytes
  have hr := B.returns
  have hts := atoms_spec (ws := wsX2_look) B.pre
  have hown : s.vm.findClass RX2 = some m.cls := findClass_of_methodNamed B.named
  have hlocks := B.notSynchronized
  subst hsz
  have hD := hD0.self (sz := s.heap.size)
  generalize hAe : va_A (sW cI a σ) s.heap.size = A at hD ⊢
  have hA : ∀ q : Nat, s.heap.size ≤ q → A q := fun q h => by rw [← hAe]; exact Or.inr h
  have hS : va_S A s.heap s.heap [] := va_S.rf
  have hP : va_P D vwCl (sW cI a σ) s.heap := hP
  have hl := lv_entry ([.ref (a 0), .int x]) (n := 5) (Nat.le_of_ble_eq_true rfl)
  rw [lg_entry_eq]
  generalize (lg_sl ([.ref (a 0), .int x]) ++ List.replicate (5 - (lg_sl ([.ref (a 0), .int x])).length) Slot.unset).toArray = ls at hl ⊢
  have hl : lv_has ls 5 [(0, .ref (a 0)), (1, .int x)] := hl
  refine lv_aload_n hx hb dX2_look_0 rfl (lv_at hl 0 rfl) ?_
  refine lv_iload_n hx hb dX2_look_1 rfl (lv_at hl 1 rfl) ?_
  refine lv_iconst (v := 1) hx hb dX2_look_2 (by decide) ?_
  refine vp_callSi (va_Run.run (va_runV (As := [.int x, .int 1]) (rest := []) ⟨hx, hb, hml, hown, hts⟩ (c_X2_trait l D cI a σ x 1) (cwV 2 hts gX2_look_X2_trait rfl rfl rfl (by decide +kernel) ⟨Nat.le_of_ble_eq_true rfl, Nat.le_of_ble_eq_true rfl⟩) ⟨preR_blind, va_recv hK hP (ci := 2) (q0 := 0) rfl rfl, preR_of hP hK hE [.ref (a 0), .int x, .int 1]⟩ rfl rfl hl.1 rfl (lv_room (Nat.le_of_ble_eq_true rfl)) dX2_look_3 ⟨Nat.zero_le _, Nat.zero_le _⟩)) (fun r hr9 => ?_)
  subst hr9
  refine lv_istore_n (lv' := [(2, .int (traitF σ x 1)), (0, .ref (a 0)), (1, .int x)]) hx hb dX2_look_6 rfl hl (by decide) rfl (fun ls hl => ?_)
  refine lv_aload_n hx hb dX2_look_7 rfl (lv_at hl 1 rfl) ?_
  refine lv_iload_n hx hb dX2_look_8 rfl (lv_at hl 2 rfl) ?_
  refine lv_iconst (v := 0) hx hb dX2_look_9 (by decide) ?_
  refine vp_callSi (va_Run.run (va_runV (As := [.int x, .int 0]) (rest := []) ⟨hx, hb, hml, hown, hts⟩ (c_X2_trait l D cI a σ x 0) (cwV 2 hts gX2_look_X2_trait rfl rfl rfl (by decide +kernel) ⟨Nat.le_of_ble_eq_true rfl, Nat.le_of_ble_eq_true rfl⟩) ⟨preR_blind, va_recv hK hP (ci := 2) (q0 := 0) rfl rfl, preR_of hP hK hE [.ref (a 0), .int x, .int 0]⟩ rfl rfl hl.1 rfl (lv_room (Nat.le_of_ble_eq_true rfl)) dX2_look_10 ⟨Nat.zero_le _, Nat.zero_le _⟩)) (fun r hr9 => ?_)
  subst hr9
  refine lv_istore_n (lv' := [(3, .int (traitF σ x 0)), (2, .int (traitF σ x 1)), (0, .ref (a 0)), (1, .int x)]) hx hb dX2_look_13 rfl hl (by decide) rfl (fun ls hl => ?_)
  refine lv_iconst (v := 0) hx hb dX2_look_14 (by decide) ?_
  refine lv_istore (lv' := [(4, .int 0), (3, .int (traitF σ x 0)), (2, .int (traitF σ x 1)), (0, .ref (a 0)), (1, .int x)]) hx hb dX2_look_15 hl (by decide) rfl (fun ls hl => ?_)
  have L17 : ∀ (n k : Nat) (τ : SS) (hk : k + n = 160) (hsp : lookF σ x = lookL (traitF σ x 1) (traitF σ x 0) n k τ) (H : Heap) (locs : List Loc) (ls : Array Slot), lv_has ls 5 [(4, .int (nI k)), (3, .int (traitF σ x 0)), (2, .int (traitF σ x 1)), (0, .ref (a 0)), (1, .int x)] → va_P D vwCl (sW cI a τ) H → va_D A (sW cI a τ) → va_S A s.heap H locs → W p l e ({ frames := 3, cells := 0, slots := 0, locals := 70 } : Room) s m ([.ref (a 0), .int x] : List Value).toArray below meth c H locs 0 0 (MQ below (va_Qv (fun (u : SS) => u = lookF σ x) (fun (u : SS) => posM D cI A (sW cI a u)) A) ([.ref (a 0), .int x] : List Value).toArray s 0 0 A) (F0 m 17 ls []) := by
    intro n
    induction n with
    | zero =>
      intro k τ hk hsp H locs ls hl hP hD hS
      refine lv_iload hx hb dX2_look_17 (lv_at hl 0 rfl) ?_
      refine lv_aload_n hx hb dX2_look_19 rfl (lv_at hl 3 rfl) ?_
      refine va_get (D := D) (ci := 2) (v := .ref (a 2)) (C := RX2) (T := TX2) (N := 8) hx hb hts (by decide +kernel) hown hK hP 0 rfl rfl 1 (by decide) (hts (.fieldLink RX2 15 "Warren$State" "known" "[I") (by decide +kernel)) (fun _ h9 => h9) rfl dX2_look_20 ?_
      refine va_alen (v := nI 160) hx hb hK hP 2 0 rfl rfl rfl dX2_look_23 ?_
      refine lv_icmp_ge (tgt := 66) hx hb dX2_look_24 (by decide) (fun c_24 => ?_) (fun c_24 => absurd (nI_le (by omega) (by omega)) c_24)
      have hP9 := hP
      have hD9 := hD
      exact W.vret hx hb hr (fun t ht hW => ⟨⟨τ, rfl, by rw [hsp]; rfl, by rw [ht]; exact hP9, va_K.moved hW.alike hK, hD9⟩, hS.F ht⟩) hS.2.2 dX2_look_66
    | succ n ih17 =>
      intro k τ hk hsp H locs ls hl hP hD hS
      refine lv_iload hx hb dX2_look_17 (lv_at hl 0 rfl) ?_
      refine lv_aload_n hx hb dX2_look_19 rfl (lv_at hl 3 rfl) ?_
      refine va_get (D := D) (ci := 2) (v := .ref (a 2)) (C := RX2) (T := TX2) (N := 8) hx hb hts (by decide +kernel) hown hK hP 0 rfl rfl 1 (by decide) (hts (.fieldLink RX2 15 "Warren$State" "known" "[I") (by decide +kernel)) (fun _ h9 => h9) rfl dX2_look_20 ?_
      refine va_alen (v := nI 160) hx hb hK hP 2 0 rfl rfl rfl dX2_look_23 ?_
      refine lv_icmp_ge (tgt := 66) hx hb dX2_look_24 (by decide) (fun c_24 => absurd c_24 (nI_ge (by omega) (by omega))) (fun c_24 => ?_)
      refine lv_aload_n hx hb dX2_look_27 rfl (lv_at hl 3 rfl) ?_
      refine lv_iload_n hx hb dX2_look_28 rfl (lv_at hl 1 rfl) ?_
      refine lv_iload hx hb dX2_look_29 (lv_at hl 0 rfl) ?_
      refine vp_callSi (va_Run.run (va_runV (As := [.int (traitF σ x 0), .int (nI k)]) (rest := []) ⟨hx, hb, hml, hown, hts⟩ (c_X2_isKnown l D cI a τ (traitF σ x 0) (nI k)) (cwV 2 hts gX2_look_X2_isKnown rfl rfl rfl (by decide +kernel) ⟨Nat.le_of_ble_eq_true rfl, Nat.le_of_ble_eq_true rfl⟩) ⟨preR_blind, va_recv hK hP (ci := 2) (q0 := 0) rfl rfl, preR_of hP hK hE [.ref (a 0), .int (traitF σ x 0), .int (nI k)]⟩ rfl rfl hl.1 rfl (lv_room (Nat.le_of_ble_eq_true rfl)) dX2_look_31 ⟨Nat.zero_le _, Nat.zero_le _⟩)) (fun r hr9 => ?_)
      subst hr9
      refine w_bnz (tgt := 60) hx hb dX2_look_34 (by decide) (fun c_34 => ?_) (fun c_34 => ?_)
      · refine lv_iinc (v := (nI (k + 1))) (lv' := [(4, .int (nI (k + 1))), (3, .int (traitF σ x 0)), (2, .int (traitF σ x 1)), (0, .ref (a 0)), (1, .int x)]) hx hb dX2_look_60 hl (k := 0) rfl (nI_1 k) (by decide) rfl (fun ls hl => ?_)
        refine lv_goto (tgt := 17) hx hb dX2_look_63 (by decide) ?_
        exact ih17 (k + 1) τ (by omega) (by rw [hsp]; simp [lookL, c_24, c_34]) _ _ ls (lv_sub hl [0, 1, 2, 3, 4] rfl) hP hD hS
      · refine lv_aload_n hx hb dX2_look_37 rfl (lv_at hl 3 rfl) ?_
        refine lv_iload_n hx hb dX2_look_38 rfl (lv_at hl 2 rfl) ?_
        refine lv_iload hx hb dX2_look_39 (lv_at hl 0 rfl) ?_
        refine vp_callSi (va_Run.run (va_runV (As := [.int (traitF σ x 1), .int (nI k)]) (rest := []) ⟨hx, hb, hml, hown, hts⟩ (c_X2_isSeenFrom l D cI a τ (traitF σ x 1) (nI k)) (cwV 2 hts gX2_look_X2_isSeenFrom rfl rfl rfl (by decide +kernel) ⟨Nat.le_of_ble_eq_true rfl, Nat.le_of_ble_eq_true rfl⟩) ⟨preR_blind, va_recv hK hP (ci := 2) (q0 := 0) rfl rfl, preR_of hP hK hE [.ref (a 0), .int (traitF σ x 1), .int (nI k)]⟩ rfl rfl hl.1 rfl (lv_room (Nat.le_of_ble_eq_true rfl)) dX2_look_41 ⟨Nat.zero_le _, Nat.zero_le _⟩)) (fun r hr9 => ?_)
        subst hr9
        refine w_bz (tgt := 60) hx hb dX2_look_44 (by decide) (fun c_44 => ?_) (fun c_44 => ?_)
        · refine lv_iinc (v := (nI (k + 1))) (lv' := [(4, .int (nI (k + 1))), (3, .int (traitF σ x 0)), (2, .int (traitF σ x 1)), (0, .ref (a 0)), (1, .int x)]) hx hb dX2_look_60 hl (k := 0) rfl (nI_1 k) (by decide) rfl (fun ls hl => ?_)
          refine lv_goto (tgt := 17) hx hb dX2_look_63 (by decide) ?_
          exact ih17 (k + 1) τ (by omega) (by rw [hsp]; simp [lookL, c_24, c_34, c_44]) _ _ ls (lv_sub hl [0, 1, 2, 3, 4] rfl) hP hD hS
        · refine lv_aload_n hx hb dX2_look_47 rfl (lv_at hl 3 rfl) ?_
          refine va_get (D := D) (ci := 2) (v := .ref (a 2)) (C := RX2) (T := TX2) (N := 8) hx hb hts (by decide +kernel) hown hK hP 0 rfl rfl 1 (by decide) (hts (.fieldLink RX2 15 "Warren$State" "known" "[I") (by decide +kernel)) (fun _ h9 => h9) rfl dX2_look_48 ?_
          refine lv_iload hx hb dX2_look_51 (lv_at hl 0 rfl) ?_
          refine lv_dup2_11 hx hb dX2_look_53 rfl rfl ?_
          refine va_iald hx hb hK hP 2 0 rfl rfl (vp_in_nI (by omega) (by decide)) dX2_look_54 ?_
          refine lv_iconst (v := 1) hx hb dX2_look_55 (by decide) ?_
          refine lv_iload_n hx hb dX2_look_56 rfl (lv_at hl 1 rfl) ?_
          refine lv_ishl hx hb dX2_look_57 ?_
          refine lv_ior hx hb dX2_look_58 ?_
          refine va_iast hx hb hK hP hD hS 2 0 rfl rfl (vp_in_nI (by omega) (by decide)) dX2_look_59 (fun H locs hP hD hS => ?_)
          have hP : va_P D vwCl (sW cI a (w_kn τ (upd (s_kn τ) (nI k).toNatClampNeg (((s_kn τ) (nI k).toNatClampNeg) ||| (1 <<< ((traitF σ x 0) &&& 31)))))) H := hP
          have hD : va_D A (sW cI a (w_kn τ (upd (s_kn τ) (nI k).toNatClampNeg (((s_kn τ) (nI k).toNatClampNeg) ||| (1 <<< ((traitF σ x 0) &&& 31)))))) := hD
          refine lv_iinc (v := (nI (k + 1))) (lv' := [(4, .int (nI (k + 1))), (3, .int (traitF σ x 0)), (2, .int (traitF σ x 1)), (0, .ref (a 0)), (1, .int x)]) hx hb dX2_look_60 hl (k := 0) rfl (nI_1 k) (by decide) rfl (fun ls hl => ?_)
          refine lv_goto (tgt := 17) hx hb dX2_look_63 (by decide) ?_
          exact ih17 (k + 1) (w_kn τ (upd (s_kn τ) (nI k).toNatClampNeg (((s_kn τ) (nI k).toNatClampNeg) ||| (1 <<< ((traitF σ x 0) &&& 31))))) (by omega) (by rw [hsp]; simp [lookL, c_24, c_34, c_44]) _ _ ls (lv_sub hl [0, 1, 2, 3, 4] rfl) hP hD hS
  exact L17 160 0 σ (by omega) rfl _ _ ls (lv_sub hl [0, 1, 2, 3, 4] rfl) hP hD hS

