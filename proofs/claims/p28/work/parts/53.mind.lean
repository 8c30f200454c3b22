-- ===== what an action is worth =====
set_option maxHeartbeats 4000000 in
set_option maxRecDepth 100000 in
theorem c_X0_worthOf (l : Launch) (D : va_G) (cI : ClassId) (m0 y0 w0 : Nat) (f : Nat → Int32) (x : Int32) : Met l yX0_worthOf wsX0_worthOf ({ frames := 0, cells := 0, slots := 0, locals := 0 } : Room) (va_Pc [.ref m0, .int x] (preR D cI (mW cI m0 y0 w0 f))) (vp_Si (fun r => r = worthOfF f x)) 0 0 (fun _ => False) := by
  refine Met.ofW (cc := cX0_worthOf) (maxL := 2) (ret := (some .int)) (by decide) rfl ?_
  intro p e s m args below meth c s₁ B hml hv
  obtain ⟨rfl, hP, hK, hE⟩ := hv
  have hx := B.exec
  have hb := B.bytes
  have hr := B.returns
  have hts := atoms_spec (ws := wsX0_worthOf) B.pre
  have hown : s.vm.findClass RX0 = some m.cls := findClass_of_methodNamed B.named
  have hlocks := B.notSynchronized
  have hl := lv_entry ([.ref m0, .int x]) (n := 2) (Nat.le_of_ble_eq_true rfl)
  rw [lg_entry_eq]
  generalize (lg_sl ([.ref m0, .int x]) ++ List.replicate (2 - (lg_sl ([.ref m0, .int x])).length) Slot.unset).toArray = ls at hl ⊢
  have hl : lv_has ls 2 [(0, .ref m0), (1, .int x)] := hl
  refine lv_iload_n hx hb dX0_worthOf_0 rfl (lv_at hl 1 rfl) ?_
  refine lv_if_lt (tgt := 22) hx hb dX0_worthOf_1 (by decide) (fun c_1 => ?_) (fun c_1 => ?_)
  · refine lv_sipush (v := (-1000)) hx hb dX0_worthOf_22 (by decide) ?_
    exact W.iret (v := (-1000)) hx hb hr (fun T9 ht _ => ⟨_, rfl, by first | rfl | (simp only [worthOfF, rd, if_pos c_1]; done) | (simp only [worthOfF, rd, if_pos c_1]; rfl) | (simp [worthOfF, rd, c_1]; done) | (simp [worthOfF, rd, c_1]; rfl), ht⟩) hnil dX0_worthOf_25
  · refine lv_iload_n hx hb dX0_worthOf_4 rfl (lv_at hl 1 rfl) ?_
    refine lv_aload_n hx hb dX0_worthOf_5 rfl (lv_at hl 0 rfl) ?_
    refine va_get (D := D) (ci := 1) (v := .ref w0) (C := RX0) (T := TX0) (N := 2) hx hb hts (by decide +kernel) hown hK hP 0 rfl rfl 1 (by decide) (hts (.fieldLink RX0 18 "Warren$Mind" "worths" "[I") (by decide +kernel)) (fun _ h9 => h9) rfl dX0_worthOf_6 ?_
    refine va_alen (v := nI 8) hx hb hK hP 1 0 rfl rfl rfl dX0_worthOf_9 ?_
    refine lv_icmp_ge (tgt := 22) hx hb dX0_worthOf_10 (by decide) (fun c_10 => ?_) (fun c_10 => ?_)
    · refine lv_sipush (v := (-1000)) hx hb dX0_worthOf_22 (by decide) ?_
      exact W.iret (v := (-1000)) hx hb hr (fun T9 ht _ => ⟨_, rfl, by first | rfl | (simp only [worthOfF, rd, if_neg c_1, if_pos c_10]; done) | (simp only [worthOfF, rd, if_neg c_1, if_pos c_10]; rfl) | (simp [worthOfF, rd, c_1, c_10]; done) | (simp [worthOfF, rd, c_1, c_10]; rfl), ht⟩) hnil dX0_worthOf_25
    · refine lv_aload_n hx hb dX0_worthOf_13 rfl (lv_at hl 0 rfl) ?_
      refine va_get (D := D) (ci := 1) (v := .ref w0) (C := RX0) (T := TX0) (N := 2) hx hb hts (by decide +kernel) hown hK hP 0 rfl rfl 1 (by decide) (hts (.fieldLink RX0 18 "Warren$Mind" "worths" "[I") (by decide +kernel)) (fun _ h9 => h9) rfl dX0_worthOf_14 ?_
      refine lv_iload_n hx hb dX0_worthOf_17 rfl (lv_at hl 1 rfl) ?_
      refine va_iald hx hb hK hP 1 0 rfl rfl (vin (by decide) (by assumption) (by assumption)) dX0_worthOf_18 ?_
      refine lv_goto (tgt := 25) hx hb dX0_worthOf_19 (by decide) ?_
      exact W.iret (v := (f x.toNatClampNeg)) hx hb hr (fun T9 ht _ => ⟨_, rfl, by first | rfl | (simp only [worthOfF, rd, if_neg c_1, if_neg c_10]; done) | (simp only [worthOfF, rd, if_neg c_1, if_neg c_10]; rfl) | (simp [worthOfF, rd, c_1, c_10]; done) | (simp [worthOfF, rd, c_1, c_10]; rfl), ht⟩) hnil dX0_worthOf_25
set_option maxHeartbeats 4000000 in
set_option maxRecDepth 100000 in
theorem c_X0_best (l : Launch) (D : va_G) (cI : ClassId) (m0 y0 w0 : Nat) (f : Nat → Int32) : Met l yX0_best wsX0_best ({ frames := 0, cells := 0, slots := 0, locals := 0 } : Room) (va_Pc [.ref m0] (preR D cI (mW cI m0 y0 w0 f))) (vp_Si (fun r => r = bestF f)) 0 0 (fun _ => False) := by
  refine Met.ofW (cc := cX0_best) (maxL := 4) (ret := (some .int)) (by decide) rfl ?_
  intro p e s m args below meth c s₁ B hml hv
  obtain ⟨rfl, hP, hK, hE⟩ := hv
  have hx := B.exec
  have hb := B.bytes
  have hr := B.returns
  have hts := atoms_spec (ws := wsX0_best) B.pre
  have hown : s.vm.findClass RX0 = some m.cls := findClass_of_methodNamed B.named
  have hlocks := B.notSynchronized
  have hl := lv_entry ([.ref m0]) (n := 4) (Nat.le_of_ble_eq_true rfl)
  rw [lg_entry_eq]
  generalize (lg_sl ([.ref m0]) ++ List.replicate (4 - (lg_sl ([.ref m0])).length) Slot.unset).toArray = ls at hl ⊢
  have hl : lv_has ls 4 [(0, .ref m0)] := hl
  refine lv_iconst (v := (-1)) hx hb dX0_best_0 (by decide) ?_
  refine lv_istore_n (lv' := [(1, .int (-1)), (0, .ref m0)]) hx hb dX0_best_1 rfl hl (by decide) rfl (fun ls hl => ?_)
  refine lv_sipush (v := (-1000)) hx hb dX0_best_2 (by decide) ?_
  refine lv_istore_n (lv' := [(2, .int (-1000)), (1, .int (-1)), (0, .ref m0)]) hx hb dX0_best_5 rfl hl (by decide) rfl (fun ls hl => ?_)
  refine lv_iconst (v := 0) hx hb dX0_best_6 (by decide) ?_
  refine lv_istore_n (lv' := [(3, .int 0), (2, .int (-1000)), (1, .int (-1)), (0, .ref m0)]) hx hb dX0_best_7 rfl hl (by decide) rfl (fun ls hl => ?_)
  have L8 : ∀ (n k : Nat) (z v : Int32) (hk : k + n = 8) (hsp : bestF f = bestL f n k z v) (ls : Array Slot), lv_has ls 4 [(3, .int (nI k)), (2, .int v), (1, .int z), (0, .ref m0)] → W p l e ({ frames := 0, cells := 0, slots := 0, locals := 0 } : Room) s m ([.ref m0] : List Value).toArray below meth c s.heap [] 0 0 (MQ below (vp_Si (fun r => r = bestF f)) ([.ref m0] : List Value).toArray s 0 0 (fun _ => False)) (F0 m 8 ls []) := by
    intro n
    induction n with
    | zero =>
      intro k z v hk hsp ls hl
      refine lv_iload_n hx hb dX0_best_8 rfl (lv_at hl 0 rfl) ?_
      refine lv_aload_n hx hb dX0_best_9 rfl (lv_at hl 3 rfl) ?_
      refine va_get (D := D) (ci := 1) (v := .ref w0) (C := RX0) (T := TX0) (N := 2) hx hb hts (by decide +kernel) hown hK hP 0 rfl rfl 1 (by decide) (hts (.fieldLink RX0 18 "Warren$Mind" "worths" "[I") (by decide +kernel)) (fun _ h9 => h9) rfl dX0_best_10 ?_
      refine va_alen (v := nI 8) hx hb hK hP 1 0 rfl rfl rfl dX0_best_13 ?_
      refine lv_icmp_ge (tgt := 42) hx hb dX0_best_14 (by decide) (fun c_14 => ?_) (fun c_14 => absurd (nI_le (by omega) (by omega)) c_14)
      refine lv_iload_n hx hb dX0_best_42 rfl (lv_at hl 2 rfl) ?_
      exact W.iret (v := z) hx hb hr (fun T9 ht _ => ⟨_, rfl, by rw [hsp]; rfl, ht⟩) hnil dX0_best_43
    | succ n ih8 =>
      intro k z v hk hsp ls hl
      refine lv_iload_n hx hb dX0_best_8 rfl (lv_at hl 0 rfl) ?_
      refine lv_aload_n hx hb dX0_best_9 rfl (lv_at hl 3 rfl) ?_
      refine va_get (D := D) (ci := 1) (v := .ref w0) (C := RX0) (T := TX0) (N := 2) hx hb hts (by decide +kernel) hown hK hP 0 rfl rfl 1 (by decide) (hts (.fieldLink RX0 18 "Warren$Mind" "worths" "[I") (by decide +kernel)) (fun _ h9 => h9) rfl dX0_best_10 ?_
      refine va_alen (v := nI 8) hx hb hK hP 1 0 rfl rfl rfl dX0_best_13 ?_
      refine lv_icmp_ge (tgt := 42) hx hb dX0_best_14 (by decide) (fun c_14 => absurd c_14 (nI_ge (by omega) (by omega))) (fun c_14 => ?_)
      refine lv_aload_n hx hb dX0_best_17 rfl (lv_at hl 3 rfl) ?_
      refine va_get (D := D) (ci := 1) (v := .ref w0) (C := RX0) (T := TX0) (N := 2) hx hb hts (by decide +kernel) hown hK hP 0 rfl rfl 1 (by decide) (hts (.fieldLink RX0 18 "Warren$Mind" "worths" "[I") (by decide +kernel)) (fun _ h9 => h9) rfl dX0_best_18 ?_
      refine lv_iload_n hx hb dX0_best_21 rfl (lv_at hl 0 rfl) ?_
      refine va_iald hx hb hK hP 1 0 rfl rfl (vp_in_nI (by omega) (by decide)) dX0_best_22 ?_
      rw [nI_clamp (by omega)]
      refine lv_iload_n hx hb dX0_best_23 rfl (lv_at hl 1 rfl) ?_
      refine lv_icmp_le (tgt := 36) hx hb dX0_best_24 (by decide) (fun c_24 => ?_) (fun c_24 => ?_)
      · refine lv_iinc (v := (nI (k + 1))) (lv' := [(3, .int (nI (k + 1))), (2, .int v), (1, .int z), (0, .ref m0)]) hx hb dX0_best_36 hl (k := 0) rfl (nI_1 k) (by decide) rfl (fun ls hl => ?_)
        refine lv_goto (tgt := 8) hx hb dX0_best_39 (by decide) ?_
        exact ih8 (k + 1) z v (by omega) (by rw [hsp]; simp [bestL, c_24]) ls (lv_sub hl [0, 1, 2, 3] rfl)
      · refine lv_iload_n hx hb dX0_best_27 rfl (lv_at hl 0 rfl) ?_
        refine lv_istore_n (lv' := [(1, .int (nI k)), (3, .int (nI k)), (2, .int v), (0, .ref m0)]) hx hb dX0_best_28 rfl hl (by decide) rfl (fun ls hl => ?_)
        refine lv_aload_n hx hb dX0_best_29 rfl (lv_at hl 3 rfl) ?_
        refine va_get (D := D) (ci := 1) (v := .ref w0) (C := RX0) (T := TX0) (N := 2) hx hb hts (by decide +kernel) hown hK hP 0 rfl rfl 1 (by decide) (hts (.fieldLink RX0 18 "Warren$Mind" "worths" "[I") (by decide +kernel)) (fun _ h9 => h9) rfl dX0_best_30 ?_
        refine lv_iload_n hx hb dX0_best_33 rfl (lv_at hl 1 rfl) ?_
        refine va_iald hx hb hK hP 1 0 rfl rfl (vp_in_nI (by omega) (by decide)) dX0_best_34 ?_
        rw [nI_clamp (by omega)]
        refine lv_istore_n (lv' := [(2, .int (f k)), (1, .int (nI k)), (3, .int (nI k)), (0, .ref m0)]) hx hb dX0_best_35 rfl hl (by decide) rfl (fun ls hl => ?_)
        refine lv_iinc (v := (nI (k + 1))) (lv' := [(3, .int (nI (k + 1))), (2, .int (f k)), (1, .int (nI k)), (0, .ref m0)]) hx hb dX0_best_36 hl (k := 2) rfl (nI_1 k) (by decide) rfl (fun ls hl => ?_)
        refine lv_goto (tgt := 8) hx hb dX0_best_39 (by decide) ?_
        exact ih8 (k + 1) (nI k) (f k) (by omega) (by rw [hsp]; simp [bestL, c_24]) ls (lv_sub hl [0, 1, 2, 3] rfl)
  exact L8 8 0 (-1) (-1000) (by omega) rfl ls (lv_sub hl [0, 1, 2, 3] rfl)
set_option maxHeartbeats 4000000 in
set_option maxRecDepth 100000 in
theorem c_X0_worthOfGuard (l : Launch) (D : va_G) (cI : ClassId) (m0 y0 w0 : Nat) (f : Nat → Int32) (a : Nat → Nat) (σ : SS) (x : Int32) (t : Nat) (hn : s_n σ ≤ 10) : Met l yX0_worthOfGuard wsX0_worthOfGuard ({ frames := 3, cells := 0, slots := 0, locals := 67 } : Room) (va_Pc [.ref m0, .ref (a 0), .int x] (preRS D cI (mW cI m0 y0 w0 f ++ sW cI a σ) t)) (vp_Si (fun r => r = guardF σ x)) 0 0 (fun _ => False) := by
  refine Met.ofW (cc := cX0_worthOfGuard) (maxL := 4) (ret := (some .int)) (by decide) rfl ?_
  intro p e s m args below meth c s₁ B hml hv
  obtain ⟨rfl, ⟨hP, hK, hE⟩, hSX⟩ := hv
  have hS : va_S (fun _ => False) s.heap s.heap [] := va_S.rf
  have hx := B.exec
  have hb := B.bytes
  have hr := B.returns
  have hts := atoms_spec (ws := wsX0_worthOfGuard) B.pre
  have hown : s.vm.findClass RX0 = some m.cls := findClass_of_methodNamed B.named
  have hlocks := B.notSynchronized
  have hl := lv_entry ([.ref m0, .ref (a 0), .int x]) (n := 4) (Nat.le_of_ble_eq_true rfl)
  rw [lg_entry_eq]
  generalize (lg_sl ([.ref m0, .ref (a 0), .int x]) ++ List.replicate (4 - (lg_sl ([.ref m0, .ref (a 0), .int x])).length) Slot.unset).toArray = ls at hl ⊢
  have hl : lv_has ls 4 [(0, .ref m0), (1, .ref (a 0)), (2, .int x)] := hl
  refine lv_aload_n hx hb dX0_worthOfGuard_0 rfl (lv_at hl 1 rfl) ?_
  refine lv_iload_n hx hb dX0_worthOfGuard_1 rfl (lv_at hl 2 rfl) ?_
  refine vp_callSi (va_Run.run (va_runV (As := [.int x]) (rest := []) ⟨hx, hb, hml, hown, hts⟩ (c_X2_isAfraid l D cI a σ x) (cwV 1 hts gX0_worthOfGuard_X2_isAfraid rfl rfl rfl (by decide +kernel) ⟨Nat.le_of_ble_eq_true rfl, Nat.le_of_ble_eq_true rfl⟩) ⟨preR_blind, va_recv hK hP (ci := 2) (q0 := 2) rfl rfl, preR_of (hP.sub (ws' := sW cI a σ) [2, 3, 4, 5, 6, 7] rfl) hK hE [.ref (a 0), .int x]⟩ rfl rfl hl.1 rfl (lv_room (Nat.le_of_ble_eq_true rfl)) dX0_worthOfGuard_2 ⟨Nat.zero_le _, Nat.zero_le _⟩)) (fun r hr9 => ?_)
  subst hr9
  refine w_bnz (tgt := 16) hx hb dX0_worthOfGuard_5 (by decide) (fun c_5 => ?_) (fun c_5 => ?_)
  · refine lv_iconst (v := 1) hx hb dX0_worthOfGuard_16 (by decide) ?_
    refine lv_goto (tgt := 21) hx hb dX0_worthOfGuard_17 (by decide) ?_
    refine lv_istore_n (lv' := [(3, .int 1), (0, .ref m0), (1, .ref (a 0)), (2, .int x)]) hx hb dX0_worthOfGuard_21 rfl hl (by decide) rfl (fun ls hl => ?_)
    refine lv_iload_n hx hb dX0_worthOfGuard_22 rfl (lv_at hl 0 rfl) ?_
    refine lv_if_eq (tgt := 40) hx hb dX0_worthOfGuard_23 (by decide) (fun z9 => absurd z9 (by decide)) (fun _ => ?_)
    refine lv_bipush (v := 24) hx hb dX0_worthOfGuard_26 (by decide) ?_
    refine lv_iconst (v := 3) hx hb dX0_worthOfGuard_28 (by decide) ?_
    refine lv_aload_n hx hb dX0_worthOfGuard_29 rfl (lv_at hl 2 rfl) ?_
    refine lv_iload_n hx hb dX0_worthOfGuard_30 rfl (lv_at hl 3 rfl) ?_
    refine lv_iconst (v := 3) hx hb dX0_worthOfGuard_31 (by decide) ?_
    refine vp_callSi (va_Run.run (va_runV (As := [.int x, .int 3]) (rest := [.int 3, .int 24]) ⟨hx, hb, hml, hown, hts⟩ (c_X2_stackOf l D cI a σ x 3) (cwV 2 hts gX0_worthOfGuard_X2_stackOf rfl rfl rfl (by decide +kernel) ⟨Nat.le_of_ble_eq_true rfl, Nat.le_of_ble_eq_true rfl⟩) ⟨preR_blind, va_recv hK hP (ci := 2) (q0 := 2) rfl rfl, preR_of (hP.sub (ws' := sW cI a σ) [2, 3, 4, 5, 6, 7] rfl) hK hE [.ref (a 0), .int x, .int 3]⟩ rfl rfl hl.1 rfl (lv_room (Nat.le_of_ble_eq_true rfl)) dX0_worthOfGuard_32 ⟨Nat.zero_le _, Nat.zero_le _⟩)) (fun r hr9 => ?_)
    subst hr9
    refine lv_imul hx hb dX0_worthOfGuard_35 ?_
    refine lv_isub hx hb dX0_worthOfGuard_36 ?_
    refine lv_goto (tgt := 41) hx hb dX0_worthOfGuard_37 (by decide) ?_
    exact W.iret (v := (24 - (3 * (stackF σ x 3)))) hx hb hr (fun T9 ht _ => ⟨_, rfl, by first | rfl | (simp only [guardF, c_5, Bool.false_eq_true, if_false, if_true]; done) | (simp only [guardF, c_5, Bool.false_eq_true, if_false, if_true]; rfl) | (simp [guardF, c_5]; done) | (simp [guardF, c_5]; rfl), ht⟩) hnil dX0_worthOfGuard_41
  · refine lv_aload_n hx hb dX0_worthOfGuard_8 rfl (lv_at hl 1 rfl) ?_
    refine lv_iload_n hx hb dX0_worthOfGuard_9 rfl (lv_at hl 2 rfl) ?_
    refine vp_callSi (va_Run.run (va_runV (As := [.int x]) (rest := []) ⟨hx, hb, hml, hown, hts⟩ (c_X2_hasFoeBeside l D cI a σ x t hn) (cwV 1 hts gX0_worthOfGuard_X2_hasFoeBeside rfl rfl rfl (by decide +kernel) ⟨Nat.le_of_ble_eq_true rfl, Nat.le_of_ble_eq_true rfl⟩) ⟨preRS_blind, va_recv hK hP (ci := 2) (q0 := 2) rfl rfl, preRS_of (hP.sub (ws' := sW cI a σ) [2, 3, 4, 5, 6, 7] rfl) hK hE hSX hS [.ref (a 0), .int x]⟩ rfl rfl hl.1 rfl (lv_room (Nat.le_of_ble_eq_true rfl)) dX0_worthOfGuard_10 ⟨Nat.zero_le _, Nat.zero_le _⟩)) (fun r hr9 => ?_)
    subst hr9
    refine w_bz (tgt := 20) hx hb dX0_worthOfGuard_13 (by decide) (fun c_13 => ?_) (fun c_13 => ?_)
    · refine lv_iconst (v := 0) hx hb dX0_worthOfGuard_20 (by decide) ?_
      refine lv_istore_n (lv' := [(3, .int 0), (0, .ref m0), (1, .ref (a 0)), (2, .int x)]) hx hb dX0_worthOfGuard_21 rfl hl (by decide) rfl (fun ls hl => ?_)
      refine lv_iload_n hx hb dX0_worthOfGuard_22 rfl (lv_at hl 0 rfl) ?_
      refine lv_if_eq (tgt := 40) hx hb dX0_worthOfGuard_23 (by decide) (fun _ => ?_) (fun z9 => absurd (by decide) z9)
      refine lv_iconst (v := 0) hx hb dX0_worthOfGuard_40 (by decide) ?_
      exact W.iret (v := 0) hx hb hr (fun T9 ht _ => ⟨_, rfl, by first | rfl | (simp only [guardF, c_5, c_13, Bool.false_eq_true, if_false, if_true]; done) | (simp only [guardF, c_5, c_13, Bool.false_eq_true, if_false, if_true]; rfl) | (simp [guardF, c_5, c_13]; done) | (simp [guardF, c_5, c_13]; rfl), ht⟩) hnil dX0_worthOfGuard_41
    · refine lv_iconst (v := 1) hx hb dX0_worthOfGuard_16 (by decide) ?_
      refine lv_goto (tgt := 21) hx hb dX0_worthOfGuard_17 (by decide) ?_
      refine lv_istore_n (lv' := [(3, .int 1), (0, .ref m0), (1, .ref (a 0)), (2, .int x)]) hx hb dX0_worthOfGuard_21 rfl hl (by decide) rfl (fun ls hl => ?_)
      refine lv_iload_n hx hb dX0_worthOfGuard_22 rfl (lv_at hl 0 rfl) ?_
      refine lv_if_eq (tgt := 40) hx hb dX0_worthOfGuard_23 (by decide) (fun z9 => absurd z9 (by decide)) (fun _ => ?_)
      refine lv_bipush (v := 24) hx hb dX0_worthOfGuard_26 (by decide) ?_
      refine lv_iconst (v := 3) hx hb dX0_worthOfGuard_28 (by decide) ?_
      refine lv_aload_n hx hb dX0_worthOfGuard_29 rfl (lv_at hl 2 rfl) ?_
      refine lv_iload_n hx hb dX0_worthOfGuard_30 rfl (lv_at hl 3 rfl) ?_
      refine lv_iconst (v := 3) hx hb dX0_worthOfGuard_31 (by decide) ?_
      refine vp_callSi (va_Run.run (va_runV (As := [.int x, .int 3]) (rest := [.int 3, .int 24]) ⟨hx, hb, hml, hown, hts⟩ (c_X2_stackOf l D cI a σ x 3) (cwV 2 hts gX0_worthOfGuard_X2_stackOf rfl rfl rfl (by decide +kernel) ⟨Nat.le_of_ble_eq_true rfl, Nat.le_of_ble_eq_true rfl⟩) ⟨preR_blind, va_recv hK hP (ci := 2) (q0 := 2) rfl rfl, preR_of (hP.sub (ws' := sW cI a σ) [2, 3, 4, 5, 6, 7] rfl) hK hE [.ref (a 0), .int x, .int 3]⟩ rfl rfl hl.1 rfl (lv_room (Nat.le_of_ble_eq_true rfl)) dX0_worthOfGuard_32 ⟨Nat.zero_le _, Nat.zero_le _⟩)) (fun r hr9 => ?_)
      subst hr9
      refine lv_imul hx hb dX0_worthOfGuard_35 ?_
      refine lv_isub hx hb dX0_worthOfGuard_36 ?_
      refine lv_goto (tgt := 41) hx hb dX0_worthOfGuard_37 (by decide) ?_
      exact W.iret (v := (24 - (3 * (stackF σ x 3)))) hx hb hr (fun T9 ht _ => ⟨_, rfl, by first | rfl | (simp only [guardF, c_5, c_13, Bool.false_eq_true, if_false, if_true]; done) | (simp only [guardF, c_5, c_13, Bool.false_eq_true, if_false, if_true]; rfl) | (simp [guardF, c_5, c_13]; done) | (simp [guardF, c_5, c_13]; rfl), ht⟩) hnil dX0_worthOfGuard_41
set_option maxHeartbeats 4000000 in
set_option maxRecDepth 100000 in
theorem c_X0_worthOfGo (l : Launch) (D : va_G) (cI : ClassId) (m0 w0 : Nat) (f : Nat → Int32) (b : Nat → Nat) (ψ : YS) (a : Nat → Nat) (σ : SS) (L : Nat → Int32) (x y : Int32) (hn : s_n σ ≤ 10) (hL : ψ.1 = L) : Met l yX0_worthOfGo wsX0_worthOfGo ({ frames := 3, cells := 0, slots := 0, locals := 68 } : Room) (va_Pc [.ref m0, .ref (a 0), .int x, .int y] (preR D cI (mW cI m0 (b 0) w0 f ++ yW cI b ψ ++ sW cI a σ))) (vp_Si (fun r => r = goW σ L x y)) 0 0 (fun _ => False) := by
  refine Met.ofW (cc := cX0_worthOfGo) (maxL := 7) (ret := (some .int)) (by decide) rfl ?_
  intro p e s m args below meth c s₁ B hml hv
  obtain ⟨rfl, hP, hK, hE⟩ := hv
  have hx := B.exec
  have hb := B.bytes
  have hr := B.returns
  have hts := atoms_spec (ws := wsX0_worthOfGo) B.pre
  have hown : s.vm.findClass RX0 = some m.cls := findClass_of_methodNamed B.named
  have hlocks := B.notSynchronized
  have hl := lv_entry ([.ref m0, .ref (a 0), .int x, .int y]) (n := 7) (Nat.le_of_ble_eq_true rfl)
  rw [lg_entry_eq]
  generalize (lg_sl ([.ref m0, .ref (a 0), .int x, .int y]) ++ List.replicate (7 - (lg_sl ([.ref m0, .ref (a 0), .int x, .int y])).length) Slot.unset).toArray = ls at hl ⊢
  have hl : lv_has ls 7 [(0, .ref m0), (1, .ref (a 0)), (2, .int x), (3, .int y)] := hl
  refine lv_aload_n hx hb dX0_worthOfGo_0 rfl (lv_at hl 1 rfl) ?_
  refine lv_iload_n hx hb dX0_worthOfGo_1 rfl (lv_at hl 3 rfl) ?_
  refine vp_callSi (va_Run.run (va_runV (As := [.int y]) (rest := []) ⟨hx, hb, hml, hown, hts⟩ (c_X2_whoIsOn l D cI a σ y hn) (cwV 1 hts gX0_worthOfGo_X2_whoIsOn rfl rfl rfl (by decide +kernel) ⟨Nat.le_of_ble_eq_true rfl, Nat.le_of_ble_eq_true rfl⟩) ⟨preR_blind, va_recv hK hP (ci := 2) (q0 := 5) rfl rfl, preR_of (hP.sub (ws' := sW cI a σ) [5, 6, 7, 8, 9, 10] rfl) hK hE [.ref (a 0), .int y]⟩ rfl rfl hl.1 rfl (lv_room (Nat.le_of_ble_eq_true rfl)) dX0_worthOfGo_2 ⟨Nat.zero_le _, Nat.zero_le _⟩)) (fun r hr9 => ?_)
  subst hr9
  refine lv_istore (lv' := [(4, .int (onF σ y)), (0, .ref m0), (1, .ref (a 0)), (2, .int x), (3, .int y)]) hx hb dX0_worthOfGo_5 hl (by decide) rfl (fun ls hl => ?_)
  refine lv_iload hx hb dX0_worthOfGo_7 (lv_at hl 0 rfl) ?_
  refine lv_iconst (v := (-1)) hx hb dX0_worthOfGo_9 (by decide) ?_
  refine lv_icmp_eq (tgt := 49) hx hb dX0_worthOfGo_10 (by decide) (fun c_10 => ?_) (fun c_10 => ?_)
  · refine lv_aload_n hx hb dX0_worthOfGo_49 rfl (lv_at hl 2 rfl) ?_
    refine lv_iload_n hx hb dX0_worthOfGo_50 rfl (lv_at hl 4 rfl) ?_
    refine vp_callSi (va_Run.run (va_runV (As := [.int y]) (rest := []) ⟨hx, hb, hml, hown, hts⟩ (c_X2_kindAt l D cI a σ y) (cwV 1 hts gX0_worthOfGo_X2_kindAt rfl rfl rfl (by decide +kernel) ⟨Nat.le_of_ble_eq_true rfl, Nat.le_of_ble_eq_true rfl⟩) ⟨preR_blind, va_recv hK hP (ci := 2) (q0 := 5) rfl rfl, preR_of (hP.sub (ws' := sW cI a σ) [5, 6, 7, 8, 9, 10] rfl) hK hE [.ref (a 0), .int y]⟩ rfl rfl hl.1 rfl (lv_room (Nat.le_of_ble_eq_true rfl)) dX0_worthOfGo_51 ⟨Nat.zero_le _, Nat.zero_le _⟩)) (fun r hr9 => ?_)
    subst hr9
    refine lv_iconst (v := 2) hx hb dX0_worthOfGo_54 (by decide) ?_
    refine lv_icmp_ne (tgt := 61) hx hb dX0_worthOfGo_55 (by decide) (fun c_55 => ?_) (fun c_55 => ?_)
    · refine lv_aload_n hx hb dX0_worthOfGo_61 rfl (lv_at hl 1 rfl) ?_
      refine va_get (D := D) (ci := 1) (v := .ref (b 0)) (C := RX0) (T := TX0) (N := 2) hx hb hts (by decide +kernel) hown hK hP 0 rfl rfl 0 (by decide) (hts (.fieldLink RX0 12 "Warren$Mind" "ways" "LWarren$Ways;") (by decide +kernel)) (fun _ h9 => h9) rfl dX0_worthOfGo_62 ?_
      refine lv_aload_n hx hb dX0_worthOfGo_65 rfl (lv_at hl 2 rfl) ?_
      refine lv_iload_n hx hb dX0_worthOfGo_66 rfl (lv_at hl 3 rfl) ?_
      refine lv_iconst (v := 1) hx hb dX0_worthOfGo_67 (by decide) ?_
      refine vp_callSi (va_Run.run (va_runV (As := [.int x, .int 1]) (rest := [.ref (b 0)]) ⟨hx, hb, hml, hown, hts⟩ (c_X2_trait l D cI a σ x 1) (cwV 2 hts gX0_worthOfGo_X2_trait rfl rfl rfl (by decide +kernel) ⟨Nat.le_of_ble_eq_true rfl, Nat.le_of_ble_eq_true rfl⟩) ⟨preR_blind, va_recv hK hP (ci := 2) (q0 := 5) rfl rfl, preR_of (hP.sub (ws' := sW cI a σ) [5, 6, 7, 8, 9, 10] rfl) hK hE [.ref (a 0), .int x, .int 1]⟩ rfl rfl hl.1 rfl (lv_room (Nat.le_of_ble_eq_true rfl)) dX0_worthOfGo_68 ⟨Nat.zero_le _, Nat.zero_le _⟩)) (fun r hr9 => ?_)
      subst hr9
      refine vp_callSi (va_Run.run (va_runV (As := [.int (traitF σ x 1)]) (rest := []) ⟨hx, hb, hml, hown, hts⟩ (c_X3_from l D cI b ψ (traitF σ x 1)) (cwV 1 hts gX0_worthOfGo_X3_from rfl rfl rfl (by decide +kernel) ⟨Nat.le_of_ble_eq_true rfl, Nat.le_of_ble_eq_true rfl⟩) ⟨preR_blind, va_recv hK hP (ci := 3) (q0 := 2) rfl rfl, preR_of (hP.sub (ws' := yW cI b ψ) [2, 3, 4] rfl) hK hE [.ref (b 0), .int (traitF σ x 1)]⟩ rfl rfl hl.1 rfl (lv_room (Nat.le_of_ble_eq_true rfl)) dX0_worthOfGo_71 ⟨Nat.zero_le _, Nat.zero_le _⟩)) (fun r hr9 => ?_)
      subst hr9
      refine lv_istore (lv' := [(5, .int (fromF ψ (traitF σ x 1))), (4, .int (onF σ y)), (0, .ref m0), (1, .ref (a 0)), (2, .int x), (3, .int y)]) hx hb dX0_worthOfGo_74 hl (by decide) rfl (fun ls hl => ?_)
      refine lv_aload_n hx hb dX0_worthOfGo_76 rfl (lv_at hl 2 rfl) ?_
      refine va_get (D := D) (ci := 1) (v := .ref (b 0)) (C := RX0) (T := TX0) (N := 2) hx hb hts (by decide +kernel) hown hK hP 0 rfl rfl 0 (by decide) (hts (.fieldLink RX0 12 "Warren$Mind" "ways" "LWarren$Ways;") (by decide +kernel)) (fun _ h9 => h9) rfl dX0_worthOfGo_77 ?_
      refine lv_iload_n hx hb dX0_worthOfGo_80 rfl (lv_at hl 5 rfl) ?_
      refine vp_callSi (va_Run.run (va_runV (As := [.int y]) (rest := []) ⟨hx, hb, hml, hown, hts⟩ (c_X3_from l D cI b ψ y) (cwV 1 hts gX0_worthOfGo_X3_from rfl rfl rfl (by decide +kernel) ⟨Nat.le_of_ble_eq_true rfl, Nat.le_of_ble_eq_true rfl⟩) ⟨preR_blind, va_recv hK hP (ci := 3) (q0 := 2) rfl rfl, preR_of (hP.sub (ws' := yW cI b ψ) [2, 3, 4] rfl) hK hE [.ref (b 0), .int y]⟩ rfl rfl hl.1 rfl (lv_room (Nat.le_of_ble_eq_true rfl)) dX0_worthOfGo_81 ⟨Nat.zero_le _, Nat.zero_le _⟩)) (fun r hr9 => ?_)
      subst hr9
      refine lv_istore (lv' := [(6, .int (fromF ψ y)), (5, .int (fromF ψ (traitF σ x 1))), (4, .int (onF σ y)), (0, .ref m0), (1, .ref (a 0)), (2, .int x), (3, .int y)]) hx hb dX0_worthOfGo_84 hl (by decide) rfl (fun ls hl => ?_)
      refine lv_iload hx hb dX0_worthOfGo_86 (lv_at hl 1 rfl) ?_
      refine lv_iconst (v := (-1)) hx hb dX0_worthOfGo_88 (by decide) ?_
      refine lv_icmp_eq (tgt := 98) hx hb dX0_worthOfGo_89 (by decide) (fun c_89 => ?_) (fun c_89 => ?_)
      · refine lv_iconst (v := 0) hx hb dX0_worthOfGo_98 (by decide) ?_
        exact W.iret (v := 0) hx hb hr (fun T9 ht _ => ⟨_, rfl, by subst hL; first | (simp [goW, fromL, fromF, lenF, lenA, c_10, c_55, c_89]; done) | (simp [goW, ← from_L, c_10, c_55, c_89]; done) | (unfold goW; simp [← from_L, c_10, c_55, c_89]; done), ht⟩) hnil dX0_worthOfGo_99
      · refine lv_iload hx hb dX0_worthOfGo_92 (lv_at hl 0 rfl) ?_
        refine lv_iconst (v := (-1)) hx hb dX0_worthOfGo_94 (by decide) ?_
        refine lv_icmp_ne (tgt := 100) hx hb dX0_worthOfGo_95 (by decide) (fun c_95 => ?_) (fun c_95 => ?_)
        · refine lv_bipush (v := 10) hx hb dX0_worthOfGo_100 (by decide) ?_
          refine lv_iconst (v := 4) hx hb dX0_worthOfGo_102 (by decide) ?_
          refine lv_aload_n hx hb dX0_worthOfGo_103 rfl (lv_at hl 4 rfl) ?_
          refine lv_iload_n hx hb dX0_worthOfGo_104 rfl (lv_at hl 5 rfl) ?_
          refine vp_callSi (va_Run.run (va_runV (As := [.int x]) (rest := [.int 4, .int 10]) ⟨hx, hb, hml, hown, hts⟩ (c_X2_isAfraid l D cI a σ x) (cwV 1 hts gX0_worthOfGo_X2_isAfraid rfl rfl rfl (by decide +kernel) ⟨Nat.le_of_ble_eq_true rfl, Nat.le_of_ble_eq_true rfl⟩) ⟨preR_blind, va_recv hK hP (ci := 2) (q0 := 5) rfl rfl, preR_of (hP.sub (ws' := sW cI a σ) [5, 6, 7, 8, 9, 10] rfl) hK hE [.ref (a 0), .int x]⟩ rfl rfl hl.1 rfl (lv_room (Nat.le_of_ble_eq_true rfl)) dX0_worthOfGo_105 ⟨Nat.zero_le _, Nat.zero_le _⟩)) (fun r hr9 => ?_)
          subst hr9
          refine w_bz (tgt := 119) hx hb dX0_worthOfGo_108 (by decide) (fun c_108 => ?_) (fun c_108 => ?_)
          · refine lv_iload hx hb dX0_worthOfGo_119 (lv_at hl 1 rfl) ?_
            refine lv_iload hx hb dX0_worthOfGo_121 (lv_at hl 0 rfl) ?_
            refine lv_isub hx hb dX0_worthOfGo_123 ?_
            refine lv_imul hx hb dX0_worthOfGo_124 ?_
            refine lv_iadd hx hb dX0_worthOfGo_125 ?_
            exact W.iret (v := (10 + (4 * ((fromF ψ (traitF σ x 1)) - (fromF ψ y))))) hx hb hr (fun T9 ht _ => ⟨_, rfl, by subst hL; first | (simp [goW, fromL, fromF, lenF, lenA, c_10, c_55, c_89, c_95, c_108]; done) | (simp [goW, ← from_L, c_10, c_55, c_89, c_95, c_108]; done) | (unfold goW; simp [← from_L, c_10, c_55, c_89, c_95, c_108]; done), ht⟩) hnil dX0_worthOfGo_126
          · refine lv_iload hx hb dX0_worthOfGo_111 (lv_at hl 0 rfl) ?_
            refine lv_iload hx hb dX0_worthOfGo_113 (lv_at hl 1 rfl) ?_
            refine lv_isub hx hb dX0_worthOfGo_115 ?_
            refine lv_goto (tgt := 124) hx hb dX0_worthOfGo_116 (by decide) ?_
            refine lv_imul hx hb dX0_worthOfGo_124 ?_
            refine lv_iadd hx hb dX0_worthOfGo_125 ?_
            exact W.iret (v := (10 + (4 * ((fromF ψ y) - (fromF ψ (traitF σ x 1)))))) hx hb hr (fun T9 ht _ => ⟨_, rfl, by subst hL; first | (simp [goW, fromL, fromF, lenF, lenA, c_10, c_55, c_89, c_95, c_108]; done) | (simp [goW, ← from_L, c_10, c_55, c_89, c_95, c_108]; done) | (unfold goW; simp [← from_L, c_10, c_55, c_89, c_95, c_108]; done), ht⟩) hnil dX0_worthOfGo_126
        · refine lv_iconst (v := 0) hx hb dX0_worthOfGo_98 (by decide) ?_
          exact W.iret (v := 0) hx hb hr (fun T9 ht _ => ⟨_, rfl, by subst hL; first | (simp [goW, fromL, fromF, lenF, lenA, c_10, c_55, c_89, c_95]; done) | (simp [goW, ← from_L, c_10, c_55, c_89, c_95]; done) | (unfold goW; simp [← from_L, c_10, c_55, c_89, c_95]; done), ht⟩) hnil dX0_worthOfGo_99
    · refine lv_bipush (v := 6) hx hb dX0_worthOfGo_58 (by decide) ?_
      exact W.iret (v := 6) hx hb hr (fun T9 ht _ => ⟨_, rfl, by subst hL; first | (simp [goW, fromL, fromF, lenF, lenA, c_10, c_55]; done) | (simp [goW, ← from_L, c_10, c_55]; done) | (unfold goW; simp [← from_L, c_10, c_55]; done), ht⟩) hnil dX0_worthOfGo_60
  · refine lv_aload_n hx hb dX0_worthOfGo_13 rfl (lv_at hl 2 rfl) ?_
    refine lv_iload_n hx hb dX0_worthOfGo_14 rfl (lv_at hl 3 rfl) ?_
    refine lv_iload hx hb dX0_worthOfGo_15 (lv_at hl 0 rfl) ?_
    refine vp_callSi (va_Run.run (va_runV (As := [.int x, .int (onF σ y)]) (rest := []) ⟨hx, hb, hml, hown, hts⟩ (c_X2_hitOf l D cI a σ x (onF σ y)) (cwV 2 hts gX0_worthOfGo_X2_hitOf rfl rfl rfl (by decide +kernel) ⟨Nat.le_of_ble_eq_true rfl, Nat.le_of_ble_eq_true rfl⟩) ⟨preR_blind, va_recv hK hP (ci := 2) (q0 := 5) rfl rfl, preR_of (hP.sub (ws' := sW cI a σ) [5, 6, 7, 8, 9, 10] rfl) hK hE [.ref (a 0), .int x, .int (onF σ y)]⟩ rfl rfl hl.1 rfl (lv_room (Nat.le_of_ble_eq_true rfl)) dX0_worthOfGo_17 ⟨Nat.zero_le _, Nat.zero_le _⟩)) (fun r hr9 => ?_)
    subst hr9
    refine lv_istore (lv' := [(5, .int (hitF σ x (onF σ y))), (4, .int (onF σ y)), (0, .ref m0), (1, .ref (a 0)), (2, .int x), (3, .int y)]) hx hb dX0_worthOfGo_20 hl (by decide) rfl (fun ls hl => ?_)
    refine lv_bipush (v := 20) hx hb dX0_worthOfGo_22 (by decide) ?_
    refine lv_iconst (v := 3) hx hb dX0_worthOfGo_24 (by decide) ?_
    refine lv_iload hx hb dX0_worthOfGo_25 (lv_at hl 0 rfl) ?_
    refine lv_imul hx hb dX0_worthOfGo_27 ?_
    refine lv_iadd hx hb dX0_worthOfGo_28 ?_
    refine lv_iload hx hb dX0_worthOfGo_29 (lv_at hl 0 rfl) ?_
    refine lv_aload_n hx hb dX0_worthOfGo_31 rfl (lv_at hl 3 rfl) ?_
    refine lv_iload hx hb dX0_worthOfGo_32 (lv_at hl 1 rfl) ?_
    refine lv_iconst (v := 2) hx hb dX0_worthOfGo_34 (by decide) ?_
    refine vp_callSi (va_Run.run (va_runV (As := [.int (onF σ y), .int 2]) (rest := [.int (hitF σ x (onF σ y)), .int (20 + (3 * (hitF σ x (onF σ y))))]) ⟨hx, hb, hml, hown, hts⟩ (c_X2_trait l D cI a σ (onF σ y) 2) (cwV 2 hts gX0_worthOfGo_X2_trait rfl rfl rfl (by decide +kernel) ⟨Nat.le_of_ble_eq_true rfl, Nat.le_of_ble_eq_true rfl⟩) ⟨preR_blind, va_recv hK hP (ci := 2) (q0 := 5) rfl rfl, preR_of (hP.sub (ws' := sW cI a σ) [5, 6, 7, 8, 9, 10] rfl) hK hE [.ref (a 0), .int (onF σ y), .int 2]⟩ rfl rfl hl.1 rfl (lv_room (Nat.le_of_ble_eq_true rfl)) dX0_worthOfGo_35 ⟨Nat.zero_le _, Nat.zero_le _⟩)) (fun r hr9 => ?_)
    subst hr9
    refine lv_icmp_lt (tgt := 46) hx hb dX0_worthOfGo_38 (by decide) (fun c_38 => ?_) (fun c_38 => ?_)
    · refine lv_iconst (v := 0) hx hb dX0_worthOfGo_46 (by decide) ?_
      refine lv_iadd hx hb dX0_worthOfGo_47 ?_
      exact W.iret (v := ((20 + (3 * (hitF σ x (onF σ y)))) + 0)) hx hb hr (fun T9 ht _ => ⟨_, rfl, by subst hL; first | (simp [goW, fromL, fromF, lenF, lenA, c_10, c_38]; done) | (simp [goW, ← from_L, c_10, c_38]; done) | (unfold goW; simp [← from_L, c_10, c_38]; done), ht⟩) hnil dX0_worthOfGo_48
    · refine lv_bipush (v := 30) hx hb dX0_worthOfGo_41 (by decide) ?_
      refine lv_goto (tgt := 47) hx hb dX0_worthOfGo_43 (by decide) ?_
      refine lv_iadd hx hb dX0_worthOfGo_47 ?_
      exact W.iret (v := ((20 + (3 * (hitF σ x (onF σ y)))) + 30)) hx hb hr (fun T9 ht _ => ⟨_, rfl, by subst hL; first | (simp [goW, fromL, fromF, lenF, lenA, c_10, c_38]; done) | (simp [goW, ← from_L, c_10, c_38]; done) | (unfold goW; simp [← from_L, c_10, c_38]; done), ht⟩) hnil dX0_worthOfGo_48
set_option maxHeartbeats 4000000 in
set_option maxRecDepth 100000 in
theorem c_X0_worthIfPossible (l : Launch) (D : va_G) (cI : ClassId) (m0 w0 : Nat) (f : Nat → Int32) (b : Nat → Nat) (ψ : YS) (a : Nat → Nat) (σ : SS) (L : Nat → Int32) (x : Int32) (j : Nat) (z : Int32) (t : Nat) (hn : s_n σ ≤ 10) (hL : ψ.1 = L) (hj : j < 8) : Met l yX0_worthIfPossible wsX0_worthIfPossible ({ frames := 4, cells := 0, slots := 0, locals := 94 } : Room) (va_Pc [.ref m0, .ref (a 0), .int x, .int (nI j), .int z] (preRS D cI (mW cI m0 (b 0) w0 f ++ yW cI b ψ ++ sW cI a σ) t)) (vp_Si (fun r => r = worthP σ L x (nI j) z)) 0 0 (fun _ => False) := by
  refine Met.ofW (cc := cX0_worthIfPossible) (maxL := 5) (ret := (some .int)) (by decide) rfl ?_
  intro p e s m args below meth c s₁ B hml hv
  obtain ⟨rfl, ⟨hP, hK, hE⟩, hSX⟩ := hv
  have hS : va_S (fun _ => False) s.heap s.heap [] := va_S.rf
  have hx := B.exec
  have hb := B.bytes
  have hr := B.returns
  have hts := atoms_spec (ws := wsX0_worthIfPossible) B.pre
  have hown : s.vm.findClass RX0 = some m.cls := findClass_of_methodNamed B.named
  have hlocks := B.notSynchronized
  have hl := lv_entry ([.ref m0, .ref (a 0), .int x, .int (nI j), .int z]) (n := 5) (Nat.le_of_ble_eq_true rfl)
  rw [lg_entry_eq]
  generalize (lg_sl ([.ref m0, .ref (a 0), .int x, .int (nI j), .int z]) ++ List.replicate (5 - (lg_sl ([.ref m0, .ref (a 0), .int x, .int (nI j), .int z])).length) Slot.unset).toArray = ls at hl ⊢
  have hl : lv_has ls 5 [(0, .ref m0), (1, .ref (a 0)), (2, .int x), (3, .int (nI j)), (4, .int z)] := hl
  refine lv_iload_n hx hb dX0_worthIfPossible_0 rfl (lv_at hl 3 rfl) ?_
  rcases (show j = 0 ∨ j = 1 ∨ j = 2 ∨ j = 3 ∨ j = 4 ∨ j = 5 ∨ j = 6 ∨ j = 7 by omega) with rfl | rfl | rfl | rfl | rfl | rfl | rfl | rfl
  · refine lv_tableIn (off := 47) (tgt := 48) hx hb dX0_worthIfPossible_1 (by decide) (by decide) (by decide) (by decide) ?_
    refine lv_iconst (v := 1) hx hb dX0_worthIfPossible_48 (by decide) ?_
    exact W.iret (v := 1) hx hb hr (fun T9 ht _ => ⟨_, rfl, by unfold worthP; rw [if_pos (show nI 0 = 0 by decide)], ht⟩) hnil dX0_worthIfPossible_49
  · refine lv_tableIn (off := 90) (tgt := 91) hx hb dX0_worthIfPossible_1 (by decide) (by decide) (by decide) (by decide) ?_
    refine lv_aload_n hx hb dX0_worthIfPossible_91 rfl (lv_at hl 0 rfl) ?_
    refine lv_aload_n hx hb dX0_worthIfPossible_92 rfl (lv_at hl 1 rfl) ?_
    refine lv_iload_n hx hb dX0_worthIfPossible_93 rfl (lv_at hl 2 rfl) ?_
    refine lv_aload_n hx hb dX0_worthIfPossible_94 rfl (lv_at hl 1 rfl) ?_
    refine lv_iload_n hx hb dX0_worthIfPossible_95 rfl (lv_at hl 2 rfl) ?_
    refine lv_iload_n hx hb dX0_worthIfPossible_96 rfl (lv_at hl 3 rfl) ?_
    refine vp_callSi (va_Run.run (va_runS (As := [.ref (a 0), .int x, .int (nI 1)]) (rest := [.int x, .ref (a 0), .ref m0]) ⟨hx, hb, hml, hown, hts⟩ (c_X1_cellTowards l D cI a σ x (nI 1) t) (va_cwS 3 hts gX0_worthIfPossible_X1_cellTowards rfl rfl rfl (by decide +kernel) ⟨Nat.le_of_ble_eq_true rfl, Nat.le_of_ble_eq_true rfl⟩) ⟨preRS_blind, preRS_of (hP.sub (ws' := sW cI a σ) [5, 6, 7, 8, 9, 10] rfl) hK hE hSX hS [.ref (a 0), .int x, .int (nI 1)]⟩ rfl rfl hl.1 rfl (lv_room (Nat.le_of_ble_eq_true rfl)) dX0_worthIfPossible_97 ⟨Nat.zero_le _, Nat.zero_le _⟩)) (fun r hr9 => ?_)
    subst hr9
    refine vp_callSi (va_Run.run (va_runV (As := [.ref (a 0), .int x, .int (towF σ x (nI 1))]) (rest := []) ⟨hx, hb, hml, hown, hts⟩ (c_X0_worthOfGo l D cI m0 w0 f b ψ a σ L x (towF σ x (nI 1)) hn hL) (cwV 3 hts gX0_worthIfPossible_X0_worthOfGo rfl rfl rfl (by decide +kernel) ⟨Nat.le_of_ble_eq_true rfl, Nat.le_of_ble_eq_true rfl⟩) ⟨preR_blind, va_recv hK hP (ci := 1) (q0 := 0) rfl rfl, preR_of hP hK hE [.ref m0, .ref (a 0), .int x, .int (towF σ x (nI 1))]⟩ rfl rfl hl.1 rfl (lv_room (Nat.le_of_ble_eq_true rfl)) dX0_worthIfPossible_100 ⟨Nat.zero_le _, Nat.zero_le _⟩)) (fun r hr9 => ?_)
    subst hr9
    exact W.iret (v := (goW σ L x (towF σ x (nI 1)))) hx hb hr (fun T9 ht _ => ⟨_, rfl, by unfold worthP; rw [if_neg (show ¬ nI 1 = 0 by decide), if_neg (show ¬ nI 1 = 5 by decide), if_neg (show ¬ nI 1 = 6 by decide), if_neg (show ¬ nI 1 = 7 by decide)], ht⟩) hnil dX0_worthIfPossible_103
  · refine lv_tableIn (off := 90) (tgt := 91) hx hb dX0_worthIfPossible_1 (by decide) (by decide) (by decide) (by decide) ?_
    refine lv_aload_n hx hb dX0_worthIfPossible_91 rfl (lv_at hl 0 rfl) ?_
    refine lv_aload_n hx hb dX0_worthIfPossible_92 rfl (lv_at hl 1 rfl) ?_
    refine lv_iload_n hx hb dX0_worthIfPossible_93 rfl (lv_at hl 2 rfl) ?_
    refine lv_aload_n hx hb dX0_worthIfPossible_94 rfl (lv_at hl 1 rfl) ?_
    refine lv_iload_n hx hb dX0_worthIfPossible_95 rfl (lv_at hl 2 rfl) ?_
    refine lv_iload_n hx hb dX0_worthIfPossible_96 rfl (lv_at hl 3 rfl) ?_
    refine vp_callSi (va_Run.run (va_runS (As := [.ref (a 0), .int x, .int (nI 2)]) (rest := [.int x, .ref (a 0), .ref m0]) ⟨hx, hb, hml, hown, hts⟩ (c_X1_cellTowards l D cI a σ x (nI 2) t) (va_cwS 3 hts gX0_worthIfPossible_X1_cellTowards rfl rfl rfl (by decide +kernel) ⟨Nat.le_of_ble_eq_true rfl, Nat.le_of_ble_eq_true rfl⟩) ⟨preRS_blind, preRS_of (hP.sub (ws' := sW cI a σ) [5, 6, 7, 8, 9, 10] rfl) hK hE hSX hS [.ref (a 0), .int x, .int (nI 2)]⟩ rfl rfl hl.1 rfl (lv_room (Nat.le_of_ble_eq_true rfl)) dX0_worthIfPossible_97 ⟨Nat.zero_le _, Nat.zero_le _⟩)) (fun r hr9 => ?_)
    subst hr9
    refine vp_callSi (va_Run.run (va_runV (As := [.ref (a 0), .int x, .int (towF σ x (nI 2))]) (rest := []) ⟨hx, hb, hml, hown, hts⟩ (c_X0_worthOfGo l D cI m0 w0 f b ψ a σ L x (towF σ x (nI 2)) hn hL) (cwV 3 hts gX0_worthIfPossible_X0_worthOfGo rfl rfl rfl (by decide +kernel) ⟨Nat.le_of_ble_eq_true rfl, Nat.le_of_ble_eq_true rfl⟩) ⟨preR_blind, va_recv hK hP (ci := 1) (q0 := 0) rfl rfl, preR_of hP hK hE [.ref m0, .ref (a 0), .int x, .int (towF σ x (nI 2))]⟩ rfl rfl hl.1 rfl (lv_room (Nat.le_of_ble_eq_true rfl)) dX0_worthIfPossible_100 ⟨Nat.zero_le _, Nat.zero_le _⟩)) (fun r hr9 => ?_)
    subst hr9
    exact W.iret (v := (goW σ L x (towF σ x (nI 2)))) hx hb hr (fun T9 ht _ => ⟨_, rfl, by unfold worthP; rw [if_neg (show ¬ nI 2 = 0 by decide), if_neg (show ¬ nI 2 = 5 by decide), if_neg (show ¬ nI 2 = 6 by decide), if_neg (show ¬ nI 2 = 7 by decide)], ht⟩) hnil dX0_worthIfPossible_103
  · refine lv_tableIn (off := 90) (tgt := 91) hx hb dX0_worthIfPossible_1 (by decide) (by decide) (by decide) (by decide) ?_
    refine lv_aload_n hx hb dX0_worthIfPossible_91 rfl (lv_at hl 0 rfl) ?_
    refine lv_aload_n hx hb dX0_worthIfPossible_92 rfl (lv_at hl 1 rfl) ?_
    refine lv_iload_n hx hb dX0_worthIfPossible_93 rfl (lv_at hl 2 rfl) ?_
    refine lv_aload_n hx hb dX0_worthIfPossible_94 rfl (lv_at hl 1 rfl) ?_
    refine lv_iload_n hx hb dX0_worthIfPossible_95 rfl (lv_at hl 2 rfl) ?_
    refine lv_iload_n hx hb dX0_worthIfPossible_96 rfl (lv_at hl 3 rfl) ?_
    refine vp_callSi (va_Run.run (va_runS (As := [.ref (a 0), .int x, .int (nI 3)]) (rest := [.int x, .ref (a 0), .ref m0]) ⟨hx, hb, hml, hown, hts⟩ (c_X1_cellTowards l D cI a σ x (nI 3) t) (va_cwS 3 hts gX0_worthIfPossible_X1_cellTowards rfl rfl rfl (by decide +kernel) ⟨Nat.le_of_ble_eq_true rfl, Nat.le_of_ble_eq_true rfl⟩) ⟨preRS_blind, preRS_of (hP.sub (ws' := sW cI a σ) [5, 6, 7, 8, 9, 10] rfl) hK hE hSX hS [.ref (a 0), .int x, .int (nI 3)]⟩ rfl rfl hl.1 rfl (lv_room (Nat.le_of_ble_eq_true rfl)) dX0_worthIfPossible_97 ⟨Nat.zero_le _, Nat.zero_le _⟩)) (fun r hr9 => ?_)
    subst hr9
    refine vp_callSi (va_Run.run (va_runV (As := [.ref (a 0), .int x, .int (towF σ x (nI 3))]) (rest := []) ⟨hx, hb, hml, hown, hts⟩ (c_X0_worthOfGo l D cI m0 w0 f b ψ a σ L x (towF σ x (nI 3)) hn hL) (cwV 3 hts gX0_worthIfPossible_X0_worthOfGo rfl rfl rfl (by decide +kernel) ⟨Nat.le_of_ble_eq_true rfl, Nat.le_of_ble_eq_true rfl⟩) ⟨preR_blind, va_recv hK hP (ci := 1) (q0 := 0) rfl rfl, preR_of hP hK hE [.ref m0, .ref (a 0), .int x, .int (towF σ x (nI 3))]⟩ rfl rfl hl.1 rfl (lv_room (Nat.le_of_ble_eq_true rfl)) dX0_worthIfPossible_100 ⟨Nat.zero_le _, Nat.zero_le _⟩)) (fun r hr9 => ?_)
    subst hr9
    exact W.iret (v := (goW σ L x (towF σ x (nI 3)))) hx hb hr (fun T9 ht _ => ⟨_, rfl, by unfold worthP; rw [if_neg (show ¬ nI 3 = 0 by decide), if_neg (show ¬ nI 3 = 5 by decide), if_neg (show ¬ nI 3 = 6 by decide), if_neg (show ¬ nI 3 = 7 by decide)], ht⟩) hnil dX0_worthIfPossible_103
  · refine lv_tableIn (off := 90) (tgt := 91) hx hb dX0_worthIfPossible_1 (by decide) (by decide) (by decide) (by decide) ?_
    refine lv_aload_n hx hb dX0_worthIfPossible_91 rfl (lv_at hl 0 rfl) ?_
    refine lv_aload_n hx hb dX0_worthIfPossible_92 rfl (lv_at hl 1 rfl) ?_
    refine lv_iload_n hx hb dX0_worthIfPossible_93 rfl (lv_at hl 2 rfl) ?_
    refine lv_aload_n hx hb dX0_worthIfPossible_94 rfl (lv_at hl 1 rfl) ?_
    refine lv_iload_n hx hb dX0_worthIfPossible_95 rfl (lv_at hl 2 rfl) ?_
    refine lv_iload_n hx hb dX0_worthIfPossible_96 rfl (lv_at hl 3 rfl) ?_
    refine vp_callSi (va_Run.run (va_runS (As := [.ref (a 0), .int x, .int (nI 4)]) (rest := [.int x, .ref (a 0), .ref m0]) ⟨hx, hb, hml, hown, hts⟩ (c_X1_cellTowards l D cI a σ x (nI 4) t) (va_cwS 3 hts gX0_worthIfPossible_X1_cellTowards rfl rfl rfl (by decide +kernel) ⟨Nat.le_of_ble_eq_true rfl, Nat.le_of_ble_eq_true rfl⟩) ⟨preRS_blind, preRS_of (hP.sub (ws' := sW cI a σ) [5, 6, 7, 8, 9, 10] rfl) hK hE hSX hS [.ref (a 0), .int x, .int (nI 4)]⟩ rfl rfl hl.1 rfl (lv_room (Nat.le_of_ble_eq_true rfl)) dX0_worthIfPossible_97 ⟨Nat.zero_le _, Nat.zero_le _⟩)) (fun r hr9 => ?_)
    subst hr9
    refine vp_callSi (va_Run.run (va_runV (As := [.ref (a 0), .int x, .int (towF σ x (nI 4))]) (rest := []) ⟨hx, hb, hml, hown, hts⟩ (c_X0_worthOfGo l D cI m0 w0 f b ψ a σ L x (towF σ x (nI 4)) hn hL) (cwV 3 hts gX0_worthIfPossible_X0_worthOfGo rfl rfl rfl (by decide +kernel) ⟨Nat.le_of_ble_eq_true rfl, Nat.le_of_ble_eq_true rfl⟩) ⟨preR_blind, va_recv hK hP (ci := 1) (q0 := 0) rfl rfl, preR_of hP hK hE [.ref m0, .ref (a 0), .int x, .int (towF σ x (nI 4))]⟩ rfl rfl hl.1 rfl (lv_room (Nat.le_of_ble_eq_true rfl)) dX0_worthIfPossible_100 ⟨Nat.zero_le _, Nat.zero_le _⟩)) (fun r hr9 => ?_)
    subst hr9
    exact W.iret (v := (goW σ L x (towF σ x (nI 4)))) hx hb hr (fun T9 ht _ => ⟨_, rfl, by unfold worthP; rw [if_neg (show ¬ nI 4 = 0 by decide), if_neg (show ¬ nI 4 = 5 by decide), if_neg (show ¬ nI 4 = 6 by decide), if_neg (show ¬ nI 4 = 7 by decide)], ht⟩) hnil dX0_worthIfPossible_103
  · refine lv_tableIn (off := 49) (tgt := 50) hx hb dX0_worthIfPossible_1 (by decide) (by decide) (by decide) (by decide) ?_
    refine lv_bipush (v := 14) hx hb dX0_worthIfPossible_50 (by decide) ?_
    refine lv_aload_n hx hb dX0_worthIfPossible_52 rfl (lv_at hl 1 rfl) ?_
    refine lv_iload hx hb dX0_worthIfPossible_53 (lv_at hl 4 rfl) ?_
    refine lv_iconst (v := 0) hx hb dX0_worthIfPossible_55 (by decide) ?_
    refine vp_callSi (va_Run.run (va_runV (As := [.int z, .int 0]) (rest := [.int 14]) ⟨hx, hb, hml, hown, hts⟩ (c_X2_stackOf l D cI a σ z 0) (cwV 2 hts gX0_worthIfPossible_X2_stackOf rfl rfl rfl (by decide +kernel) ⟨Nat.le_of_ble_eq_true rfl, Nat.le_of_ble_eq_true rfl⟩) ⟨preR_blind, va_recv hK hP (ci := 2) (q0 := 5) rfl rfl, preR_of (hP.sub (ws' := sW cI a σ) [5, 6, 7, 8, 9, 10] rfl) hK hE [.ref (a 0), .int z, .int 0]⟩ rfl rfl hl.1 rfl (lv_room (Nat.le_of_ble_eq_true rfl)) dX0_worthIfPossible_56 ⟨Nat.zero_le _, Nat.zero_le _⟩)) (fun r hr9 => ?_)
    subst hr9
    refine lv_isub hx hb dX0_worthIfPossible_59 ?_
    exact W.iret (v := (14 - (stackF σ z 0))) hx hb hr (fun T9 ht _ => ⟨_, rfl, by unfold worthP; rw [if_neg (show ¬ nI 5 = 0 by decide)]; rw [if_pos (show nI 5 = 5 by decide)], ht⟩) hnil dX0_worthIfPossible_60
  · refine lv_tableIn (off := 60) (tgt := 61) hx hb dX0_worthIfPossible_1 (by decide) (by decide) (by decide) (by decide) ?_
    refine lv_aload_n hx hb dX0_worthIfPossible_61 rfl (lv_at hl 0 rfl) ?_
    refine lv_aload_n hx hb dX0_worthIfPossible_62 rfl (lv_at hl 1 rfl) ?_
    refine lv_iload_n hx hb dX0_worthIfPossible_63 rfl (lv_at hl 2 rfl) ?_
    refine vp_callSi (va_Run.run (va_runV (As := [.ref (a 0), .int x]) (rest := []) ⟨hx, hb, hml, hown, hts⟩ (c_X0_worthOfGuard l D cI m0 (b 0) w0 f a σ x t hn) (cwV 2 hts gX0_worthIfPossible_X0_worthOfGuard rfl rfl rfl (by decide +kernel) ⟨Nat.le_of_ble_eq_true rfl, Nat.le_of_ble_eq_true rfl⟩) ⟨preRS_blind, va_recv hK hP (ci := 1) (q0 := 0) rfl rfl, preRS_of (hP.sub (ws' := mW cI m0 (b 0) w0 f ++ sW cI a σ) [0, 1, 5, 6, 7, 8, 9, 10] rfl) hK hE hSX hS [.ref m0, .ref (a 0), .int x]⟩ rfl rfl hl.1 rfl (lv_room (Nat.le_of_ble_eq_true rfl)) dX0_worthIfPossible_64 ⟨Nat.zero_le _, Nat.zero_le _⟩)) (fun r hr9 => ?_)
    subst hr9
    exact W.iret (v := (guardF σ x)) hx hb hr (fun T9 ht _ => ⟨_, rfl, by unfold worthP; rw [if_neg (show ¬ nI 6 = 0 by decide), if_neg (show ¬ nI 6 = 5 by decide)]; rw [if_pos (show nI 6 = 6 by decide)], ht⟩) hnil dX0_worthIfPossible_67
  · refine lv_tableIn (off := 67) (tgt := 68) hx hb dX0_worthIfPossible_1 (by decide) (by decide) (by decide) (by decide) ?_
    refine lv_aload_n hx hb dX0_worthIfPossible_68 rfl (lv_at hl 1 rfl) ?_
    refine lv_iload_n hx hb dX0_worthIfPossible_69 rfl (lv_at hl 2 rfl) ?_
    refine lv_iconst (v := 3) hx hb dX0_worthIfPossible_70 (by decide) ?_
    refine vp_callSi (va_Run.run (va_runV (As := [.int x, .int 3]) (rest := []) ⟨hx, hb, hml, hown, hts⟩ (c_X2_trait l D cI a σ x 3) (cwV 2 hts gX0_worthIfPossible_X2_trait rfl rfl rfl (by decide +kernel) ⟨Nat.le_of_ble_eq_true rfl, Nat.le_of_ble_eq_true rfl⟩) ⟨preR_blind, va_recv hK hP (ci := 2) (q0 := 5) rfl rfl, preR_of (hP.sub (ws' := sW cI a σ) [5, 6, 7, 8, 9, 10] rfl) hK hE [.ref (a 0), .int x, .int 3]⟩ rfl rfl hl.1 rfl (lv_room (Nat.le_of_ble_eq_true rfl)) dX0_worthIfPossible_71 ⟨Nat.zero_le _, Nat.zero_le _⟩)) (fun r hr9 => ?_)
    subst hr9
    refine lv_aload_n hx hb dX0_worthIfPossible_74 rfl (lv_at hl 1 rfl) ?_
    refine lv_iload_n hx hb dX0_worthIfPossible_75 rfl (lv_at hl 2 rfl) ?_
    refine lv_iconst (v := 2) hx hb dX0_worthIfPossible_76 (by decide) ?_
    refine vp_callSi (va_Run.run (va_runV (As := [.int x, .int 2]) (rest := [.int (traitF σ x 3)]) ⟨hx, hb, hml, hown, hts⟩ (c_X2_trait l D cI a σ x 2) (cwV 2 hts gX0_worthIfPossible_X2_trait rfl rfl rfl (by decide +kernel) ⟨Nat.le_of_ble_eq_true rfl, Nat.le_of_ble_eq_true rfl⟩) ⟨preR_blind, va_recv hK hP (ci := 2) (q0 := 5) rfl rfl, preR_of (hP.sub (ws' := sW cI a σ) [5, 6, 7, 8, 9, 10] rfl) hK hE [.ref (a 0), .int x, .int 2]⟩ rfl rfl hl.1 rfl (lv_room (Nat.le_of_ble_eq_true rfl)) dX0_worthIfPossible_77 ⟨Nat.zero_le _, Nat.zero_le _⟩)) (fun r hr9 => ?_)
    subst hr9
    refine lv_isub hx hb dX0_worthIfPossible_80 ?_
    refine lv_iconst (v := 2) hx hb dX0_worthIfPossible_81 (by decide) ?_
    refine lv_aload_n hx hb dX0_worthIfPossible_82 rfl (lv_at hl 1 rfl) ?_
    refine lv_iload_n hx hb dX0_worthIfPossible_83 rfl (lv_at hl 2 rfl) ?_
    refine lv_iconst (v := 1) hx hb dX0_worthIfPossible_84 (by decide) ?_
    refine vp_callSi (va_Run.run (va_runV (As := [.int x, .int 1]) (rest := [.int 2, .int ((traitF σ x 3) - (traitF σ x 2))]) ⟨hx, hb, hml, hown, hts⟩ (c_X2_stackOf l D cI a σ x 1) (cwV 2 hts gX0_worthIfPossible_X2_stackOf rfl rfl rfl (by decide +kernel) ⟨Nat.le_of_ble_eq_true rfl, Nat.le_of_ble_eq_true rfl⟩) ⟨preR_blind, va_recv hK hP (ci := 2) (q0 := 5) rfl rfl, preR_of (hP.sub (ws' := sW cI a σ) [5, 6, 7, 8, 9, 10] rfl) hK hE [.ref (a 0), .int x, .int 1]⟩ rfl rfl hl.1 rfl (lv_room (Nat.le_of_ble_eq_true rfl)) dX0_worthIfPossible_85 ⟨Nat.zero_le _, Nat.zero_le _⟩)) (fun r hr9 => ?_)
    subst hr9
    refine lv_imul hx hb dX0_worthIfPossible_88 ?_
    refine lv_isub hx hb dX0_worthIfPossible_89 ?_
    exact W.iret (v := (((traitF σ x 3) - (traitF σ x 2)) - (2 * (stackF σ x 1)))) hx hb hr (fun T9 ht _ => ⟨_, rfl, by unfold worthP; rw [if_neg (show ¬ nI 7 = 0 by decide), if_neg (show ¬ nI 7 = 5 by decide), if_neg (show ¬ nI 7 = 6 by decide)]; rw [if_pos (show nI 7 = 7 by decide)], ht⟩) hnil dX0_worthIfPossible_90
set_option maxHeartbeats 4000000 in
set_option maxRecDepth 100000 in
theorem c_X0_weigh (l : Launch) (D : va_G) (cI : ClassId) (sz : Nat) (m0 w0 : Nat) (f : Nat → Int32) (b : Nat → Nat) (ψ : YS) (a : Nat → Nat) (σ : SS) (x : Int32) (t : Nat) (hn : s_n σ ≤ 10) : Met l yX0_weigh wsX0_weigh ({ frames := 5, cells := 0, slots := 0, locals := 118 } : Room) (va_Pc [.ref m0, .ref (a 0), .int x] (preSX D cI (mW cI m0 (b 0) w0 f ++ yW cI b ψ ++ sW cI a σ) sz t)) (va_Qv (fun (u : YS) => u.1 = lensF σ x (goalF σ x)) (fun (u : YS) => posM D cI (va_A (mW cI m0 (b 0) w0 f ++ yW cI b ψ ++ sW cI a σ) sz) (mW cI m0 (b 0) w0 (worthF σ x) ++ yW cI b u ++ sW cI a σ)) (va_A (mW cI m0 (b 0) w0 f ++ yW cI b ψ ++ sW cI a σ) sz)) 0 0 (va_A (mW cI m0 (b 0) w0 f ++ yW cI b ψ ++ sW cI a σ) sz) := by
  refine Met.ofW (cc := cX0_weigh) (maxL := 7) (ret := none) (by decide) rfl ?_
  intro p e s m args below meth c s₁ B hml hv
  obtain ⟨rfl, ⟨hsz, hP, hK, hE, hD0⟩, hSX⟩ := hv
  have hx := B.exec
  have hb := B.bytes
  have hr := B.returns
  have hts := atoms_spec (ws := wsX0_weigh) B.pre
  have hown : s.vm.findClass RX0 = some m.cls := findClass_of_methodNamed B.named
  have hlocks := B.notSynchronized
  subst hsz
  have hD := hD0.self (sz := s.heap.size)
  generalize hAe : va_A (mW cI m0 (b 0) w0 f ++ yW cI b ψ ++ sW cI a σ) s.heap.size = A at hD hSX ⊢
  have hA : ∀ q : Nat, s.heap.size ≤ q → A q := fun q h => by rw [← hAe]; exact Or.inr h
  have hS : va_S A s.heap s.heap [] := va_S.rf
  have hP : va_P D vwCl (mW cI m0 (b 0) w0 f ++ yW cI b ψ ++ sW cI a σ) s.heap := hP
  have hl := lv_entry ([.ref m0, .ref (a 0), .int x]) (n := 7) (Nat.le_of_ble_eq_true rfl)
  rw [lg_entry_eq]
  generalize (lg_sl ([.ref m0, .ref (a 0), .int x]) ++ List.replicate (7 - (lg_sl ([.ref m0, .ref (a 0), .int x])).length) Slot.unset).toArray = ls at hl ⊢
  have hl : lv_has ls 7 [(0, .ref m0), (1, .ref (a 0)), (2, .int x)] := hl
  refine lv_aload_n hx hb dX0_weigh_0 rfl (lv_at hl 1 rfl) ?_
  refine lv_iload_n hx hb dX0_weigh_1 rfl (lv_at hl 2 rfl) ?_
  refine vp_callSi (va_Run.run (va_runV (As := [.int x]) (rest := []) ⟨hx, hb, hml, hown, hts⟩ (c_X2_targetOf l D cI a σ x hn) (cwV 1 hts gX0_weigh_X2_targetOf rfl rfl rfl (by decide +kernel) ⟨Nat.le_of_ble_eq_true rfl, Nat.le_of_ble_eq_true rfl⟩) ⟨preR_blind, va_recv hK hP (ci := 2) (q0 := 5) rfl rfl, preR_of (hP.sub (ws' := sW cI a σ) [5, 6, 7, 8, 9, 10] rfl) hK hE [.ref (a 0), .int x]⟩ rfl rfl hl.1 rfl (lv_room (Nat.le_of_ble_eq_true rfl)) dX0_weigh_2 ⟨Nat.zero_le _, Nat.zero_le _⟩)) (fun r hr9 => ?_)
  subst hr9
  refine lv_istore_n (lv' := [(3, .int (targetF σ x)), (0, .ref m0), (1, .ref (a 0)), (2, .int x)]) hx hb dX0_weigh_5 rfl hl (by decide) rfl (fun ls hl => ?_)
  refine lv_iload_n hx hb dX0_weigh_6 rfl (lv_at hl 0 rfl) ?_
  refine lv_iconst (v := (-1)) hx hb dX0_weigh_7 (by decide) ?_
  have L20 : ∀ (pv : Int32) (hpv : pv = preyF σ x) (H : Heap) (locs : List Loc) (ls : Array Slot), lv_has ls 7 [(3, .int (targetF σ x)), (0, .ref m0), (1, .ref (a 0)), (2, .int x)] → va_P D vwCl (mW cI m0 (b 0) w0 f ++ yW cI b ψ ++ sW cI a σ) H → va_D A (mW cI m0 (b 0) w0 f ++ yW cI b ψ ++ sW cI a σ) → va_S A s.heap H locs → W p l e ({ frames := 5, cells := 0, slots := 0, locals := 118 } : Room) s m ([.ref m0, .ref (a 0), .int x] : List Value).toArray below meth c H locs 0 0 (MQ below (va_Qv (fun (u : YS) => u.1 = lensF σ x (goalF σ x)) (fun (u : YS) => posM D cI A (mW cI m0 (b 0) w0 (worthF σ x) ++ yW cI b u ++ sW cI a σ)) A) ([.ref m0, .ref (a 0), .int x] : List Value).toArray s 0 0 A) (F0 m 20 ls [.int pv]) := by
    intro pv hpv H locs ls hl hP hD hS
    refine lv_istore (lv' := [(4, .int pv), (3, .int (targetF σ x)), (0, .ref m0), (1, .ref (a 0)), (2, .int x)]) hx hb dX0_weigh_20 hl (by decide) rfl (fun ls hl => ?_)
    refine lv_aload_n hx hb dX0_weigh_22 rfl (lv_at hl 2 rfl) ?_
    refine va_get (D := D) (ci := 1) (v := .ref (b 0)) (C := RX0) (T := TX0) (N := 2) hx hb hts (by decide +kernel) hown hK hP 0 rfl rfl 0 (by decide) (hts (.fieldLink RX0 12 "Warren$Mind" "ways" "LWarren$Ways;") (by decide +kernel)) (fun _ h9 => h9) rfl dX0_weigh_23 ?_
    refine lv_aload_n hx hb dX0_weigh_26 rfl (lv_at hl 3 rfl) ?_
    refine lv_iload_n hx hb dX0_weigh_27 rfl (lv_at hl 4 rfl) ?_
    refine lv_iload hx hb dX0_weigh_28 (lv_at hl 0 rfl) ?_
    refine lv_iconst (v := (-1)) hx hb dX0_weigh_30 (by decide) ?_
    have L45 : ∀ (gv : Int32) (hgv : gv = goalF σ x) (H : Heap) (locs : List Loc) (ls : Array Slot), lv_has ls 7 [(4, .int pv), (3, .int (targetF σ x)), (0, .ref m0), (1, .ref (a 0)), (2, .int x)] → va_P D vwCl (mW cI m0 (b 0) w0 f ++ yW cI b ψ ++ sW cI a σ) H → va_D A (mW cI m0 (b 0) w0 f ++ yW cI b ψ ++ sW cI a σ) → va_S A s.heap H locs → W p l e ({ frames := 5, cells := 0, slots := 0, locals := 118 } : Room) s m ([.ref m0, .ref (a 0), .int x] : List Value).toArray below meth c H locs 0 0 (MQ below (va_Qv (fun (u : YS) => u.1 = lensF σ x (goalF σ x)) (fun (u : YS) => posM D cI A (mW cI m0 (b 0) w0 (worthF σ x) ++ yW cI b u ++ sW cI a σ)) A) ([.ref m0, .ref (a 0), .int x] : List Value).toArray s 0 0 A) (F0 m 45 ls [.int gv, .int x, .ref (a 0), .ref (b 0)]) := by
      intro gv hgv H locs ls hl hP hD hS
      have hFc := va_free (wc := yW cI b ψ ++ sW cI a σ) hD hS hA [2, 3, 4, 5, 6, 7, 8, 9, 10] rfl
      refine va_callv (va_runV (As := [.ref (a 0), .int x, .int gv]) (rest := []) ⟨hx, hb, hml, hown, hts⟩ (c_X3_measure l D cI _ b ψ a σ x gv t hn) (cwV 3 hts gX0_weigh_X3_measure rfl rfl rfl (by decide +kernel) ⟨Nat.le_of_ble_eq_true rfl, Nat.le_of_ble_eq_true rfl⟩) ⟨preSX_blind, va_recv hK hP (ci := 3) (q0 := 2) rfl rfl, preSX_of (hP.sub (ws' := yW cI b ψ ++ sW cI a σ) [2, 3, 4, 5, 6, 7, 8, 9, 10] rfl) hK hE (hD.sub (ws' := yW cI b ψ ++ sW cI a σ) [2, 3, 4, 5, 6, 7, 8, 9, 10] (by decide) rfl) hSX hS hFc [.ref (b 0), .ref (a 0), .int x, .int gv]⟩ rfl rfl hl.1 rfl (lv_room (Nat.le_of_ble_eq_true rfl)) dX0_weigh_45 ⟨Nat.le_of_ble_eq_true rfl, Nat.le_of_ble_eq_true rfl⟩) hS (fun q _ h => hFc q h) hFc (fun u t9 H1 locs ht hvm hw hB hz1 hk1 hS => ?_)
      obtain ⟨hP1, hK1, hD1⟩ := hB
      rw [ht] at hP1
      obtain ⟨φ45, rfl⟩ : ∃ z, z = u := ⟨_, rfl⟩
      have hL45 := hw
      obtain ⟨hP, hD⟩ := va_join (wr := mW cI m0 (b 0) w0 f) (w1 := yW cI b φ45 ++ sW cI a σ) hP hD [2, 3, 4, 5, 6, 7, 8, 9, 10] [0, 1] rfl rfl (by decide) (by decide) hk1 hFc hP1 hD1
      generalize H1 = H at hP hS ⊢
      have hP : va_P D vwCl (mW cI m0 (b 0) w0 f ++ yW cI b φ45 ++ sW cI a σ) H := hP
      have hD : va_D A (mW cI m0 (b 0) w0 f ++ yW cI b φ45 ++ sW cI a σ) := hD
      refine lv_iconst (v := 0) hx hb dX0_weigh_48 (by decide) ?_
      refine lv_istore (lv' := [(5, .int 0), (4, .int pv), (3, .int (targetF σ x)), (0, .ref m0), (1, .ref (a 0)), (2, .int x)]) hx hb dX0_weigh_49 hl (by decide) rfl (fun ls hl => ?_)
      have L51 : ∀ (n k : Nat) (f1 : Nat → Int32) (φ : YS) (hk : k + n = 8) (h1 : ∀ j, j < k → f1 j = worthF σ x j) (hL1 : φ.1 = lensF σ x (goalF σ x)) (H : Heap) (locs : List Loc) (ls : Array Slot), lv_has ls 7 [(5, .int (nI k)), (3, .int (targetF σ x)), (0, .ref m0), (1, .ref (a 0)), (2, .int x)] → va_P D vwCl (mW cI m0 (b 0) w0 f1 ++ yW cI b φ ++ sW cI a σ) H → va_D A (mW cI m0 (b 0) w0 f1 ++ yW cI b φ ++ sW cI a σ) → va_S A s.heap H locs → W p l e ({ frames := 5, cells := 0, slots := 0, locals := 118 } : Room) s m ([.ref m0, .ref (a 0), .int x] : List Value).toArray below meth c H locs 0 0 (MQ below (va_Qv (fun (u : YS) => u.1 = lensF σ x (goalF σ x)) (fun (u : YS) => posM D cI A (mW cI m0 (b 0) w0 (worthF σ x) ++ yW cI b u ++ sW cI a σ)) A) ([.ref m0, .ref (a 0), .int x] : List Value).toArray s 0 0 A) (F0 m 51 ls []) := by
        intro n
        induction n with
        | zero =>
          intro k f1 φ hk h1 hL1 H locs ls hl hP hD hS
          refine lv_iload hx hb dX0_weigh_51 (lv_at hl 0 rfl) ?_
          refine lv_aload_n hx hb dX0_weigh_53 rfl (lv_at hl 2 rfl) ?_
          refine va_get (D := D) (ci := 1) (v := .ref w0) (C := RX0) (T := TX0) (N := 2) hx hb hts (by decide +kernel) hown hK hP 0 rfl rfl 1 (by decide) (hts (.fieldLink RX0 18 "Warren$Mind" "worths" "[I") (by decide +kernel)) (fun _ h9 => h9) rfl dX0_weigh_54 ?_
          refine va_alen (v := nI 8) hx hb hK hP 1 0 rfl rfl rfl dX0_weigh_57 ?_
          refine lv_icmp_ge (tgt := 103) hx hb dX0_weigh_58 (by decide) (fun c_58 => ?_) (fun c_58 => absurd (nI_le (by omega) (by omega)) c_58)
          have hP := P_row hP hD 1 rfl (worthF σ x) (fun j hj => h1 j (by omega))
          have hD := hD.set (p := 1) (e := .inl (cI, 8, .inl (worthF σ x))) rfl
          have hP : va_P D vwCl (mW cI m0 (b 0) w0 (worthF σ x) ++ yW cI b φ ++ sW cI a σ) H := hP
          have hD : va_D A (mW cI m0 (b 0) w0 (worthF σ x) ++ yW cI b φ ++ sW cI a σ) := hD
          have hP9 := hP
          have hD9 := hD
          exact W.vret hx hb hr (fun T9 ht hW => ⟨⟨φ, rfl, hL1, by rw [ht]; exact hP9, va_K.moved hW.alike hK, hD9⟩, hS.F ht⟩) hS.2.2 dX0_weigh_103
        | succ n ih51 =>
          intro k f1 φ hk h1 hL1 H locs ls hl hP hD hS
          refine lv_iload hx hb dX0_weigh_51 (lv_at hl 0 rfl) ?_
          refine lv_aload_n hx hb dX0_weigh_53 rfl (lv_at hl 2 rfl) ?_
          refine va_get (D := D) (ci := 1) (v := .ref w0) (C := RX0) (T := TX0) (N := 2) hx hb hts (by decide +kernel) hown hK hP 0 rfl rfl 1 (by decide) (hts (.fieldLink RX0 18 "Warren$Mind" "worths" "[I") (by decide +kernel)) (fun _ h9 => h9) rfl dX0_weigh_54 ?_
          refine va_alen (v := nI 8) hx hb hK hP 1 0 rfl rfl rfl dX0_weigh_57 ?_
          refine lv_icmp_ge (tgt := 103) hx hb dX0_weigh_58 (by decide) (fun c_58 => absurd c_58 (nI_ge (by omega) (by omega))) (fun c_58 => ?_)
          refine lv_aload_n hx hb dX0_weigh_61 rfl (lv_at hl 3 rfl) ?_
          refine lv_iload_n hx hb dX0_weigh_62 rfl (lv_at hl 4 rfl) ?_
          refine lv_iload hx hb dX0_weigh_63 (lv_at hl 0 rfl) ?_
          refine vp_callSi (va_Run.run (va_runS (As := [.ref (a 0), .int x, .int (nI k)]) (rest := []) ⟨hx, hb, hml, hown, hts⟩ (c_X1_isPossible l D cI a σ x (nI k) t hn) (va_cwS 3 hts gX0_weigh_X1_isPossible rfl rfl rfl (by decide +kernel) ⟨Nat.le_of_ble_eq_true rfl, Nat.le_of_ble_eq_true rfl⟩) ⟨preRS_blind, preRS_of (hP.sub (ws' := sW cI a σ) [5, 6, 7, 8, 9, 10] rfl) hK hE hSX hS [.ref (a 0), .int x, .int (nI k)]⟩ rfl rfl hl.1 rfl (lv_room (Nat.le_of_ble_eq_true rfl)) dX0_weigh_65 ⟨Nat.zero_le _, Nat.zero_le _⟩)) (fun r hr9 => ?_)
          subst hr9
          refine lv_istore (lv' := [(6, .int (bi (possB σ x (nI k)))), (5, .int (nI k)), (3, .int (targetF σ x)), (0, .ref m0), (1, .ref (a 0)), (2, .int x)]) hx hb dX0_weigh_68 hl (by decide) rfl (fun ls hl => ?_)
          refine lv_aload_n hx hb dX0_weigh_70 rfl (lv_at hl 3 rfl) ?_
          refine va_get (D := D) (ci := 1) (v := .ref w0) (C := RX0) (T := TX0) (N := 2) hx hb hts (by decide +kernel) hown hK hP 0 rfl rfl 1 (by decide) (hts (.fieldLink RX0 18 "Warren$Mind" "worths" "[I") (by decide +kernel)) (fun _ h9 => h9) rfl dX0_weigh_71 ?_
          refine lv_iload hx hb dX0_weigh_74 (lv_at hl 1 rfl) ?_
          refine lv_iload hx hb dX0_weigh_76 (lv_at hl 0 rfl) ?_
          refine w_bz (tgt := 93) hx hb dX0_weigh_78 (by decide) (fun c_78 => ?_) (fun c_78 => ?_)
          · refine lv_sipush (v := (-1000)) hx hb dX0_weigh_93 (by decide) ?_
            refine va_iast hx hb hK hP hD hS 1 0 rfl rfl (vp_in_nI (by omega) (by decide)) dX0_weigh_96 (fun H locs hP hD hS => ?_)
            have hP : va_P D vwCl (mW cI m0 (b 0) w0 (upd f1 (nI k).toNatClampNeg (-1000)) ++ yW cI b φ ++ sW cI a σ) H := hP
            have hD : va_D A (mW cI m0 (b 0) w0 (upd f1 (nI k).toNatClampNeg (-1000)) ++ yW cI b φ ++ sW cI a σ) := hD
            refine lv_iinc (v := (nI (k + 1))) (lv' := [(5, .int (nI (k + 1))), (6, .int (bi (possB σ x (nI k)))), (3, .int (targetF σ x)), (0, .ref m0), (1, .ref (a 0)), (2, .int x)]) hx hb dX0_weigh_97 hl (k := 1) rfl (nI_1 k) (by decide) rfl (fun ls hl => ?_)
            refine lv_goto (tgt := 51) hx hb dX0_weigh_100 (by decide) ?_
            exact ih51 (k + 1) (upd f1 (nI k).toNatClampNeg (-1000)) φ (by omega) (wv_put h1 (by omega) (by simp [worthF, c_78])) hL1 _ _ ls (lv_sub hl [0, 2, 3, 4, 5] rfl) hP hD hS
          · refine lv_aload_n hx hb dX0_weigh_81 rfl (lv_at hl 3 rfl) ?_
            refine lv_aload_n hx hb dX0_weigh_82 rfl (lv_at hl 4 rfl) ?_
            refine lv_iload_n hx hb dX0_weigh_83 rfl (lv_at hl 5 rfl) ?_
            refine lv_iload hx hb dX0_weigh_84 (lv_at hl 1 rfl) ?_
            refine lv_iload_n hx hb dX0_weigh_86 rfl (lv_at hl 2 rfl) ?_
            refine vp_callSi (va_Run.run (va_runV (As := [.ref (a 0), .int x, .int (nI k), .int (targetF σ x)]) (rest := [.int (nI k), .ref w0]) ⟨hx, hb, hml, hown, hts⟩ (c_X0_worthIfPossible l D cI m0 w0 f1 b φ a σ (lensF σ x (goalF σ x)) x k (targetF σ x) t hn hL1 (by omega)) (cwV 4 hts gX0_weigh_X0_worthIfPossible rfl rfl rfl (by decide +kernel) ⟨Nat.le_of_ble_eq_true rfl, Nat.le_of_ble_eq_true rfl⟩) ⟨preRS_blind, va_recv hK hP (ci := 1) (q0 := 0) rfl rfl, preRS_of hP hK hE hSX hS [.ref m0, .ref (a 0), .int x, .int (nI k), .int (targetF σ x)]⟩ rfl rfl hl.1 rfl (lv_room (Nat.le_of_ble_eq_true rfl)) dX0_weigh_87 ⟨Nat.zero_le _, Nat.zero_le _⟩)) (fun r hr9 => ?_)
            subst hr9
            refine lv_goto (tgt := 96) hx hb dX0_weigh_90 (by decide) ?_
            refine va_iast hx hb hK hP hD hS 1 0 rfl rfl (vp_in_nI (by omega) (by decide)) dX0_weigh_96 (fun H locs hP hD hS => ?_)
            have hP : va_P D vwCl (mW cI m0 (b 0) w0 (upd f1 (nI k).toNatClampNeg (worthP σ (lensF σ x (goalF σ x)) x (nI k) (targetF σ x))) ++ yW cI b φ ++ sW cI a σ) H := hP
            have hD : va_D A (mW cI m0 (b 0) w0 (upd f1 (nI k).toNatClampNeg (worthP σ (lensF σ x (goalF σ x)) x (nI k) (targetF σ x))) ++ yW cI b φ ++ sW cI a σ) := hD
            refine lv_iinc (v := (nI (k + 1))) (lv' := [(5, .int (nI (k + 1))), (6, .int (bi (possB σ x (nI k)))), (3, .int (targetF σ x)), (0, .ref m0), (1, .ref (a 0)), (2, .int x)]) hx hb dX0_weigh_97 hl (k := 1) rfl (nI_1 k) (by decide) rfl (fun ls hl => ?_)
            refine lv_goto (tgt := 51) hx hb dX0_weigh_100 (by decide) ?_
            exact ih51 (k + 1) (upd f1 (nI k).toNatClampNeg (worthP σ (lensF σ x (goalF σ x)) x (nI k) (targetF σ x))) φ (by omega) (wv_put h1 (by omega) (by simp [worthF, c_78])) hL1 _ _ ls (lv_sub hl [0, 2, 3, 4, 5] rfl) hP hD hS
      exact L51 8 0 f φ45 (by omega) (fun j hj => absurd hj (Nat.not_lt_zero j)) (by subst hgv; exact hL45) _ _ ls (lv_sub hl [0, 2, 3, 4, 5] rfl) hP hD hS
    refine lv_icmp_eq (tgt := 44) hx hb dX0_weigh_31 (by decide) (fun c_31 => ?_) (fun c_31 => ?_)
    · refine lv_iconst (v := (-1)) hx hb dX0_weigh_44 (by decide) ?_
      exact L45 (-1) (by subst hpv; simp [goalF, c_31]) _ _ ls (lv_sub hl [0, 1, 2, 3, 4] rfl) hP hD hS
    · refine lv_aload_n hx hb dX0_weigh_34 rfl (lv_at hl 3 rfl) ?_
      refine lv_iload hx hb dX0_weigh_35 (lv_at hl 0 rfl) ?_
      refine lv_iconst (v := 1) hx hb dX0_weigh_37 (by decide) ?_
      refine vp_callSi (va_Run.run (va_runV (As := [.int pv, .int 1]) (rest := [.int x, .ref (a 0), .ref (b 0)]) ⟨hx, hb, hml, hown, hts⟩ (c_X2_trait l D cI a σ pv 1) (cwV 2 hts gX0_weigh_X2_trait rfl rfl rfl (by decide +kernel) ⟨Nat.le_of_ble_eq_true rfl, Nat.le_of_ble_eq_true rfl⟩) ⟨preR_blind, va_recv hK hP (ci := 2) (q0 := 5) rfl rfl, preR_of (hP.sub (ws' := sW cI a σ) [5, 6, 7, 8, 9, 10] rfl) hK hE [.ref (a 0), .int pv, .int 1]⟩ rfl rfl hl.1 rfl (lv_room (Nat.le_of_ble_eq_true rfl)) dX0_weigh_38 ⟨Nat.zero_le _, Nat.zero_le _⟩)) (fun r hr9 => ?_)
      subst hr9
      refine lv_goto (tgt := 45) hx hb dX0_weigh_41 (by decide) ?_
      exact L45 (traitF σ pv 1) (by subst hpv; simp [goalF, c_31]) _ _ ls (lv_sub hl [0, 1, 2, 3, 4] rfl) hP hD hS
  refine lv_icmp_eq (tgt := 15) hx hb dX0_weigh_8 (by decide) (fun c_8 => ?_) (fun c_8 => ?_)
  · refine lv_aload_n hx hb dX0_weigh_15 rfl (lv_at hl 2 rfl) ?_
    refine lv_iload_n hx hb dX0_weigh_16 rfl (lv_at hl 3 rfl) ?_
    refine vp_callSi (va_Run.run (va_runV (As := [.int x]) (rest := []) ⟨hx, hb, hml, hown, hts⟩ (c_X2_firstFoe l D cI a σ x hn) (cwV 1 hts gX0_weigh_X2_firstFoe rfl rfl rfl (by decide +kernel) ⟨Nat.le_of_ble_eq_true rfl, Nat.le_of_ble_eq_true rfl⟩) ⟨preR_blind, va_recv hK hP (ci := 2) (q0 := 5) rfl rfl, preR_of (hP.sub (ws' := sW cI a σ) [5, 6, 7, 8, 9, 10] rfl) hK hE [.ref (a 0), .int x]⟩ rfl rfl hl.1 rfl (lv_room (Nat.le_of_ble_eq_true rfl)) dX0_weigh_17 ⟨Nat.zero_le _, Nat.zero_le _⟩)) (fun r hr9 => ?_)
    subst hr9
    exact L20 (firstFoeF σ x) (by simp [preyF, c_8]) _ _ ls (lv_sub hl [0, 1, 2, 3] rfl) hP hD hS
  · refine lv_iload_n hx hb dX0_weigh_11 rfl (lv_at hl 0 rfl) ?_
    refine lv_goto (tgt := 20) hx hb dX0_weigh_12 (by decide) ?_
    exact L20 (targetF σ x) (by simp [preyF, c_8]) _ _ ls (lv_sub hl [0, 1, 2, 3] rfl) hP hD hS
set_option maxHeartbeats 4000000 in
set_option maxRecDepth 100000 in
theorem c_X0_wayOf (l : Launch) (D : va_G) (cI : ClassId) (sz : Nat) (m0 w0 : Nat) (f : Nat → Int32) (b : Nat → Nat) (ψ : YS) (a : Nat → Nat) (σ : SS) (x y : Int32) (t : Nat) (hn : s_n σ ≤ 10) : Met l yX0_wayOf wsX0_wayOf ({ frames := 4, cells := 0, slots := 0, locals := 96 } : Room) (va_Pc [.ref m0, .ref (a 0), .int x, .int y] (preSX D cI (mW cI m0 (b 0) w0 f ++ yW cI b ψ ++ sW cI a σ) sz t)) (va_Qi (fun (r : Int32) (u : YS) => r = wayF σ x y) (fun (u : YS) => posM D cI (va_A (mW cI m0 (b 0) w0 f ++ yW cI b ψ ++ sW cI a σ) sz) (mW cI m0 (b 0) w0 f ++ yW cI b u ++ sW cI a σ)) (va_A (mW cI m0 (b 0) w0 f ++ yW cI b ψ ++ sW cI a σ) sz)) 0 0 (va_A (mW cI m0 (b 0) w0 f ++ yW cI b ψ ++ sW cI a σ) sz) := by
  refine Met.ofW (cc := cX0_wayOf) (maxL := 4) (ret := (some .int)) (by decide) rfl ?_
  intro p e s m args below meth c s₁ B hml hv
  obtain ⟨rfl, ⟨hsz, hP, hK, hE, hD0⟩, hSX⟩ := hv
  have hx := B.exec
  have hb := B.bytes
  have hr := B.returns
  have hts := atoms_spec (ws := wsX0_wayOf) B.pre
  have hown : s.vm.findClass RX0 = some m.cls := findClass_of_methodNamed B.named
  have hlocks := B.notSynchronized
  subst hsz
  have hD := hD0.self (sz := s.heap.size)
  generalize hAe : va_A (mW cI m0 (b 0) w0 f ++ yW cI b ψ ++ sW cI a σ) s.heap.size = A at hD hSX ⊢
  have hA : ∀ q : Nat, s.heap.size ≤ q → A q := fun q h => by rw [← hAe]; exact Or.inr h
  have hS : va_S A s.heap s.heap [] := va_S.rf
  have hP : va_P D vwCl (mW cI m0 (b 0) w0 f ++ yW cI b ψ ++ sW cI a σ) s.heap := hP
  have hl := lv_entry ([.ref m0, .ref (a 0), .int x, .int y]) (n := 4) (Nat.le_of_ble_eq_true rfl)
  rw [lg_entry_eq]
  generalize (lg_sl ([.ref m0, .ref (a 0), .int x, .int y]) ++ List.replicate (4 - (lg_sl ([.ref m0, .ref (a 0), .int x, .int y])).length) Slot.unset).toArray = ls at hl ⊢
  have hl : lv_has ls 4 [(0, .ref m0), (1, .ref (a 0)), (2, .int x), (3, .int y)] := hl
  refine lv_aload_n hx hb dX0_wayOf_0 rfl (lv_at hl 1 rfl) ?_
  refine lv_iload_n hx hb dX0_wayOf_1 rfl (lv_at hl 2 rfl) ?_
  refine vp_callSi (va_Run.run (va_runV (As := [.int x]) (rest := []) ⟨hx, hb, hml, hown, hts⟩ (c_X2_isAlive l D cI a σ x) (cwV 1 hts gX0_wayOf_X2_isAlive rfl rfl rfl (by decide +kernel) ⟨Nat.le_of_ble_eq_true rfl, Nat.le_of_ble_eq_true rfl⟩) ⟨preR_blind, va_recv hK hP (ci := 2) (q0 := 5) rfl rfl, preR_of (hP.sub (ws' := sW cI a σ) [5, 6, 7, 8, 9, 10] rfl) hK hE [.ref (a 0), .int x]⟩ rfl rfl hl.1 rfl (lv_room (Nat.le_of_ble_eq_true rfl)) dX0_wayOf_2 ⟨Nat.zero_le _, Nat.zero_le _⟩)) (fun r hr9 => ?_)
  subst hr9
  refine w_bnz (tgt := 10) hx hb dX0_wayOf_5 (by decide) (fun c_5 => ?_) (fun c_5 => ?_)
  · refine lv_aload_n hx hb dX0_wayOf_10 rfl (lv_at hl 0 rfl) ?_
    refine va_get (D := D) (ci := 1) (v := .ref (b 0)) (C := RX0) (T := TX0) (N := 2) hx hb hts (by decide +kernel) hown hK hP 0 rfl rfl 0 (by decide) (hts (.fieldLink RX0 12 "Warren$Mind" "ways" "LWarren$Ways;") (by decide +kernel)) (fun _ h9 => h9) rfl dX0_wayOf_11 ?_
    refine lv_aload_n hx hb dX0_wayOf_14 rfl (lv_at hl 1 rfl) ?_
    refine lv_iload_n hx hb dX0_wayOf_15 rfl (lv_at hl 2 rfl) ?_
    refine lv_iload_n hx hb dX0_wayOf_16 rfl (lv_at hl 3 rfl) ?_
    have hFc := va_free (wc := yW cI b ψ ++ sW cI a σ) hD hS hA [2, 3, 4, 5, 6, 7, 8, 9, 10] rfl
    refine va_callv (va_runV (As := [.ref (a 0), .int x, .int y]) (rest := []) ⟨hx, hb, hml, hown, hts⟩ (c_X3_measure l D cI _ b ψ a σ x y t hn) (cwV 3 hts gX0_wayOf_X3_measure rfl rfl rfl (by decide +kernel) ⟨Nat.le_of_ble_eq_true rfl, Nat.le_of_ble_eq_true rfl⟩) ⟨preSX_blind, va_recv hK hP (ci := 3) (q0 := 2) rfl rfl, preSX_of (hP.sub (ws' := yW cI b ψ ++ sW cI a σ) [2, 3, 4, 5, 6, 7, 8, 9, 10] rfl) hK hE (hD.sub (ws' := yW cI b ψ ++ sW cI a σ) [2, 3, 4, 5, 6, 7, 8, 9, 10] (by decide) rfl) hSX hS hFc [.ref (b 0), .ref (a 0), .int x, .int y]⟩ rfl rfl hl.1 rfl (lv_room (Nat.le_of_ble_eq_true rfl)) dX0_wayOf_17 ⟨Nat.le_of_ble_eq_true rfl, Nat.le_of_ble_eq_true rfl⟩) hS (fun q _ h => hFc q h) hFc (fun u t9 H1 locs ht hvm hw hB hz1 hk1 hS => ?_)
    obtain ⟨hP1, hK1, hD1⟩ := hB
    rw [ht] at hP1
    obtain ⟨φ17, rfl⟩ : ∃ z, z = u := ⟨_, rfl⟩
    have hL17 := hw
    obtain ⟨hP, hD⟩ := va_join (wr := mW cI m0 (b 0) w0 f) (w1 := yW cI b φ17 ++ sW cI a σ) hP hD [2, 3, 4, 5, 6, 7, 8, 9, 10] [0, 1] rfl rfl (by decide) (by decide) hk1 hFc hP1 hD1
    generalize H1 = H at hP hS ⊢
    have hP : va_P D vwCl (mW cI m0 (b 0) w0 f ++ yW cI b φ17 ++ sW cI a σ) H := hP
    have hD : va_D A (mW cI m0 (b 0) w0 f ++ yW cI b φ17 ++ sW cI a σ) := hD
    refine lv_aload_n hx hb dX0_wayOf_20 rfl (lv_at hl 0 rfl) ?_
    refine va_get (D := D) (ci := 1) (v := .ref (b 0)) (C := RX0) (T := TX0) (N := 2) hx hb hts (by decide +kernel) hown hK hP 0 rfl rfl 0 (by decide) (hts (.fieldLink RX0 12 "Warren$Mind" "ways" "LWarren$Ways;") (by decide +kernel)) (fun _ h9 => h9) rfl dX0_wayOf_21 ?_
    refine lv_aload_n hx hb dX0_wayOf_24 rfl (lv_at hl 1 rfl) ?_
    refine lv_iload_n hx hb dX0_wayOf_25 rfl (lv_at hl 2 rfl) ?_
    refine lv_iconst (v := 1) hx hb dX0_wayOf_26 (by decide) ?_
    refine vp_callSi (va_Run.run (va_runV (As := [.int x, .int 1]) (rest := [.ref (b 0)]) ⟨hx, hb, hml, hown, hts⟩ (c_X2_trait l D cI a σ x 1) (cwV 2 hts gX0_wayOf_X2_trait rfl rfl rfl (by decide +kernel) ⟨Nat.le_of_ble_eq_true rfl, Nat.le_of_ble_eq_true rfl⟩) ⟨preR_blind, va_recv hK hP (ci := 2) (q0 := 5) rfl rfl, preR_of (hP.sub (ws' := sW cI a σ) [5, 6, 7, 8, 9, 10] rfl) hK hE [.ref (a 0), .int x, .int 1]⟩ rfl rfl hl.1 rfl (lv_room (Nat.le_of_ble_eq_true rfl)) dX0_wayOf_27 ⟨Nat.zero_le _, Nat.zero_le _⟩)) (fun r hr9 => ?_)
    subst hr9
    refine vp_callSi (va_Run.run (va_runV (As := [.int (traitF σ x 1)]) (rest := []) ⟨hx, hb, hml, hown, hts⟩ (c_X3_from l D cI b φ17 (traitF σ x 1)) (cwV 1 hts gX0_wayOf_X3_from rfl rfl rfl (by decide +kernel) ⟨Nat.le_of_ble_eq_true rfl, Nat.le_of_ble_eq_true rfl⟩) ⟨preR_blind, va_recv hK hP (ci := 3) (q0 := 2) rfl rfl, preR_of (hP.sub (ws' := yW cI b φ17) [2, 3, 4] rfl) hK hE [.ref (b 0), .int (traitF σ x 1)]⟩ rfl rfl hl.1 rfl (lv_room (Nat.le_of_ble_eq_true rfl)) dX0_wayOf_30 ⟨Nat.zero_le _, Nat.zero_le _⟩)) (fun r hr9 => ?_)
    subst hr9
    have hP9 := hP.sub (ws' := mW cI m0 (b 0) w0 f ++ yW cI b φ17 ++ sW cI a σ) [0, 1, 2, 3, 4, 5, 6, 7, 8, 9, 10] rfl
    have hD9 := hD.sub (ws' := mW cI m0 (b 0) w0 f ++ yW cI b φ17 ++ sW cI a σ) [0, 1, 2, 3, 4, 5, 6, 7, 8, 9, 10] (by decide) rfl
    exact W.iret (v := (fromF φ17 (traitF σ x 1))) hx hb hr (fun T9 ht hW => ⟨⟨(fromF φ17 (traitF σ x 1)), φ17, rfl, by simp [wayF, c_5, from_L, hL17], by rw [ht]; exact hP9, va_K.moved hW.alike hK, hD9⟩, hS.F ht⟩) hS.2.2 dX0_wayOf_33
  · refine lv_iconst (v := (-1)) hx hb dX0_wayOf_8 (by decide) ?_
    have hP9 := hP.sub (ws' := mW cI m0 (b 0) w0 f ++ yW cI b ψ ++ sW cI a σ) [0, 1, 2, 3, 4, 5, 6, 7, 8, 9, 10] rfl
    have hD9 := hD.sub (ws' := mW cI m0 (b 0) w0 f ++ yW cI b ψ ++ sW cI a σ) [0, 1, 2, 3, 4, 5, 6, 7, 8, 9, 10] (by decide) rfl
    exact W.iret (v := (-1)) hx hb hr (fun T9 ht hW => ⟨⟨(-1), ψ, rfl, by simp [wayF, c_5], by rw [ht]; exact hP9, va_K.moved hW.alike hK, hD9⟩, hS.F ht⟩) hS.2.2 dX0_wayOf_9
