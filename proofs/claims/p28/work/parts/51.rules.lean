-- ===== what is possible, and what it brings about =====
set_option maxHeartbeats 4000000 in
set_option maxRecDepth 100000 in
theorem c_X1_cellTowards (l : Launch) (D : va_G) (cI : ClassId) (a : Nat → Nat) (σ : SS) (x y : Int32) (t : Nat) : Met l yX1_cellTowards wsX1_cellTowards ({ frames := 1, cells := 0, slots := 0, locals := 23 } : Room) (va_Pc [.ref (a 0), .int x, .int y] (preRS D cI (sW cI a σ) t)) (vp_Si (fun r => r = towF σ x y)) 0 0 (fun _ => False) := by
  refine Met.ofW (cc := cX1_cellTowards) (maxL := 5) (ret := (some .int)) (by decide) rfl ?_
  intro p e s m args below meth c s₁ B hml hv
  obtain ⟨rfl, ⟨hP, hK, hE⟩, hSX⟩ := hv
  have hS : va_S (fun _ => False) s.heap s.heap [] := va_S.rf
  have hx := B.exec
  have hb := B.bytes
  have hr := B.returns
  have hts := atoms_spec (ws := wsX1_cellTowards) B.pre
  have hown : s.vm.findClass RX1 = some m.cls := findClass_of_methodNamed B.named
  have hlocks := B.notSynchronized
  have hl := lv_entry ([.ref (a 0), .int x, .int y]) (n := 5) (Nat.le_of_ble_eq_true rfl)
  rw [lg_entry_eq]
  generalize (lg_sl ([.ref (a 0), .int x, .int y]) ++ List.replicate (5 - (lg_sl ([.ref (a 0), .int x, .int y])).length) Slot.unset).toArray = ls at hl ⊢
  have hl : lv_has ls 5 [(0, .ref (a 0)), (1, .int x), (2, .int y)] := hl
  refine lv_iload_n hx hb dX1_cellTowards_0 rfl (lv_at hl 2 rfl) ?_
  refine lv_iconst (v := 1) hx hb dX1_cellTowards_1 (by decide) ?_
  refine lv_isub hx hb dX1_cellTowards_2 ?_
  refine lv_istore_n (lv' := [(3, .int (y - 1)), (0, .ref (a 0)), (1, .int x), (2, .int y)]) hx hb dX1_cellTowards_3 rfl hl (by decide) rfl (fun ls hl => ?_)
  refine lv_iload_n hx hb dX1_cellTowards_4 rfl (lv_at hl 0 rfl) ?_
  refine lv_if_lt (tgt := 24) hx hb dX1_cellTowards_5 (by decide) (fun c_5 => ?_) (fun c_5 => ?_)
  · refine lv_iconst (v := 0) hx hb dX1_cellTowards_24 (by decide) ?_
    refine lv_istore (lv' := [(4, .int 0), (3, .int (y - 1)), (0, .ref (a 0)), (1, .int x), (2, .int y)]) hx hb dX1_cellTowards_25 hl (by decide) rfl (fun ls hl => ?_)
    refine lv_aload_n hx hb dX1_cellTowards_27 rfl (lv_at hl 2 rfl) ?_
    refine lv_iload_n hx hb dX1_cellTowards_28 rfl (lv_at hl 3 rfl) ?_
    refine lv_iconst (v := 1) hx hb dX1_cellTowards_29 (by decide) ?_
    refine vp_callSi (va_Run.run (va_runV (As := [.int x, .int 1]) (rest := []) ⟨hx, hb, hml, hown, hts⟩ (c_X2_trait l D cI a σ x 1) (cwV 2 hts gX1_cellTowards_X2_trait rfl rfl rfl (by decide +kernel) ⟨Nat.le_of_ble_eq_true rfl, Nat.le_of_ble_eq_true rfl⟩) ⟨preR_blind, va_recv hK hP (ci := 2) (q0 := 0) rfl rfl, preR_of hP hK hE [.ref (a 0), .int x, .int 1]⟩ rfl rfl hl.1 rfl (lv_room (Nat.le_of_ble_eq_true rfl)) dX1_cellTowards_30 ⟨Nat.zero_le _, Nat.zero_le _⟩)) (fun r hr9 => ?_)
    subst hr9
    refine lv_iload hx hb dX1_cellTowards_33 (lv_at hl 0 rfl) ?_
    refine lv_iadd hx hb dX1_cellTowards_35 ?_
    exact W.iret (v := ((traitF σ x 1) + 0)) hx hb hr (fun T9 ht _ => ⟨_, rfl, by first | rfl | (simp only [towF, if_pos c_5]; done) | (simp only [towF, if_pos c_5]; rfl) | (simp [towF, c_5]; done) | (simp [towF, c_5]; rfl), ht⟩) hnil dX1_cellTowards_36
  · refine lv_iload_n hx hb dX1_cellTowards_8 rfl (lv_at hl 0 rfl) ?_
    refine va_getsN hx hb hSX.1 hS hown (va_Nw.use rfl hE.2.2.2.2.2.1) (fun _ h9 => h9) dX1_cellTowards_9 ?_
    refine va_tlen (v := nI 4) hx hb hSX.2 hS rfl dX1_cellTowards_12 ?_
    refine lv_icmp_ge (tgt := 24) hx hb dX1_cellTowards_13 (by decide) (fun c_13 => ?_) (fun c_13 => ?_)
    · refine lv_iconst (v := 0) hx hb dX1_cellTowards_24 (by decide) ?_
      refine lv_istore (lv' := [(4, .int 0), (3, .int (y - 1)), (0, .ref (a 0)), (1, .int x), (2, .int y)]) hx hb dX1_cellTowards_25 hl (by decide) rfl (fun ls hl => ?_)
      refine lv_aload_n hx hb dX1_cellTowards_27 rfl (lv_at hl 2 rfl) ?_
      refine lv_iload_n hx hb dX1_cellTowards_28 rfl (lv_at hl 3 rfl) ?_
      refine lv_iconst (v := 1) hx hb dX1_cellTowards_29 (by decide) ?_
      refine vp_callSi (va_Run.run (va_runV (As := [.int x, .int 1]) (rest := []) ⟨hx, hb, hml, hown, hts⟩ (c_X2_trait l D cI a σ x 1) (cwV 2 hts gX1_cellTowards_X2_trait rfl rfl rfl (by decide +kernel) ⟨Nat.le_of_ble_eq_true rfl, Nat.le_of_ble_eq_true rfl⟩) ⟨preR_blind, va_recv hK hP (ci := 2) (q0 := 0) rfl rfl, preR_of hP hK hE [.ref (a 0), .int x, .int 1]⟩ rfl rfl hl.1 rfl (lv_room (Nat.le_of_ble_eq_true rfl)) dX1_cellTowards_30 ⟨Nat.zero_le _, Nat.zero_le _⟩)) (fun r hr9 => ?_)
      subst hr9
      refine lv_iload hx hb dX1_cellTowards_33 (lv_at hl 0 rfl) ?_
      refine lv_iadd hx hb dX1_cellTowards_35 ?_
      exact W.iret (v := ((traitF σ x 1) + 0)) hx hb hr (fun T9 ht _ => ⟨_, rfl, by first | rfl | (simp only [towF, if_neg c_5, if_pos c_13]; done) | (simp only [towF, if_neg c_5, if_pos c_13]; rfl) | (simp [towF, c_5, c_13]; done) | (simp [towF, c_5, c_13]; rfl), ht⟩) hnil dX1_cellTowards_36
    · refine va_getsN hx hb hSX.1 hS hown (va_Nw.use rfl hE.2.2.2.2.2.1) (fun _ h9 => h9) dX1_cellTowards_16 ?_
      refine lv_iload_n hx hb dX1_cellTowards_19 rfl (lv_at hl 0 rfl) ?_
      refine va_ti (v := .int (stF (y - 1).toNatClampNeg)) hx hb hSX.2 hS (vin (by decide) (by assumption) (by assumption)) rfl dX1_cellTowards_20 ?_
      refine lv_goto (tgt := 25) hx hb dX1_cellTowards_21 (by decide) ?_
      refine lv_istore (lv' := [(4, .int (stF (y - 1).toNatClampNeg)), (3, .int (y - 1)), (0, .ref (a 0)), (1, .int x), (2, .int y)]) hx hb dX1_cellTowards_25 hl (by decide) rfl (fun ls hl => ?_)
      refine lv_aload_n hx hb dX1_cellTowards_27 rfl (lv_at hl 2 rfl) ?_
      refine lv_iload_n hx hb dX1_cellTowards_28 rfl (lv_at hl 3 rfl) ?_
      refine lv_iconst (v := 1) hx hb dX1_cellTowards_29 (by decide) ?_
      refine vp_callSi (va_Run.run (va_runV (As := [.int x, .int 1]) (rest := []) ⟨hx, hb, hml, hown, hts⟩ (c_X2_trait l D cI a σ x 1) (cwV 2 hts gX1_cellTowards_X2_trait rfl rfl rfl (by decide +kernel) ⟨Nat.le_of_ble_eq_true rfl, Nat.le_of_ble_eq_true rfl⟩) ⟨preR_blind, va_recv hK hP (ci := 2) (q0 := 0) rfl rfl, preR_of hP hK hE [.ref (a 0), .int x, .int 1]⟩ rfl rfl hl.1 rfl (lv_room (Nat.le_of_ble_eq_true rfl)) dX1_cellTowards_30 ⟨Nat.zero_le _, Nat.zero_le _⟩)) (fun r hr9 => ?_)
      subst hr9
      refine lv_iload hx hb dX1_cellTowards_33 (lv_at hl 0 rfl) ?_
      refine lv_iadd hx hb dX1_cellTowards_35 ?_
      exact W.iret (v := ((traitF σ x 1) + (stF (y - 1).toNatClampNeg))) hx hb hr (fun T9 ht _ => ⟨_, rfl, by first | rfl | (simp only [towF, if_neg c_5, if_neg c_13]; done) | (simp only [towF, if_neg c_5, if_neg c_13]; rfl) | (simp [towF, c_5, c_13]; done) | (simp [towF, c_5, c_13]; rfl), ht⟩) hnil dX1_cellTowards_36
set_option maxHeartbeats 4000000 in
set_option maxRecDepth 100000 in
theorem c_X1_canGo (l : Launch) (D : va_G) (cI : ClassId) (a : Nat → Nat) (σ : SS) (x y : Int32) (hn : s_n σ ≤ 10) : Met l yX1_canGo wsX1_canGo ({ frames := 2, cells := 0, slots := 0, locals := 45 } : Room) (va_Pc [.ref (a 0), .int x, .int y] (preR D cI (sW cI a σ))) (vp_Si (fun r => r = bi (canGoB σ x y))) 0 0 (fun _ => False) := by
  refine Met.ofW (cc := cX1_canGo) (maxL := 4) (ret := (some .boolean)) (by decide) rfl ?_
  intro p e s m args below meth c s₁ B hml hv
  obtain ⟨rfl, hP, hK, hE⟩ := hv
  have hx := B.exec
  have hb := B.bytes
  have hr := B.returns
  have hts := atoms_spec (ws := wsX1_canGo) B.pre
  have hown : s.vm.findClass RX1 = some m.cls := findClass_of_methodNamed B.named
  have hlocks := B.notSynchronized
  have hl := lv_entry ([.ref (a 0), .int x, .int y]) (n := 4) (Nat.le_of_ble_eq_true rfl)
  rw [lg_entry_eq]
  generalize (lg_sl ([.ref (a 0), .int x, .int y]) ++ List.replicate (4 - (lg_sl ([.ref (a 0), .int x, .int y])).length) Slot.unset).toArray = ls at hl ⊢
  have hl : lv_has ls 4 [(0, .ref (a 0)), (1, .int x), (2, .int y)] := hl
  refine lv_aload_n hx hb dX1_canGo_0 rfl (lv_at hl 0 rfl) ?_
  refine lv_iload_n hx hb dX1_canGo_1 rfl (lv_at hl 2 rfl) ?_
  refine vp_callSi (va_Run.run (va_runV (As := [.int y]) (rest := []) ⟨hx, hb, hml, hown, hts⟩ (c_X2_kindAt l D cI a σ y) (cwV 1 hts gX1_canGo_X2_kindAt rfl rfl rfl (by decide +kernel) ⟨Nat.le_of_ble_eq_true rfl, Nat.le_of_ble_eq_true rfl⟩) ⟨preR_blind, va_recv hK hP (ci := 2) (q0 := 0) rfl rfl, preR_of hP hK hE [.ref (a 0), .int y]⟩ rfl rfl hl.1 rfl (lv_room (Nat.le_of_ble_eq_true rfl)) dX1_canGo_2 ⟨Nat.zero_le _, Nat.zero_le _⟩)) (fun r hr9 => ?_)
  subst hr9
  refine lv_iconst (v := 1) hx hb dX1_canGo_5 (by decide) ?_
  refine lv_icmp_ne (tgt := 11) hx hb dX1_canGo_6 (by decide) (fun c_6 => ?_) (fun c_6 => ?_)
  · refine lv_aload_n hx hb dX1_canGo_11 rfl (lv_at hl 0 rfl) ?_
    refine lv_iload_n hx hb dX1_canGo_12 rfl (lv_at hl 2 rfl) ?_
    refine vp_callSi (va_Run.run (va_runV (As := [.int y]) (rest := []) ⟨hx, hb, hml, hown, hts⟩ (c_X2_whoIsOn l D cI a σ y hn) (cwV 1 hts gX1_canGo_X2_whoIsOn rfl rfl rfl (by decide +kernel) ⟨Nat.le_of_ble_eq_true rfl, Nat.le_of_ble_eq_true rfl⟩) ⟨preR_blind, va_recv hK hP (ci := 2) (q0 := 0) rfl rfl, preR_of hP hK hE [.ref (a 0), .int y]⟩ rfl rfl hl.1 rfl (lv_room (Nat.le_of_ble_eq_true rfl)) dX1_canGo_13 ⟨Nat.zero_le _, Nat.zero_le _⟩)) (fun r hr9 => ?_)
    subst hr9
    refine lv_istore_n (lv' := [(3, .int (onF σ y)), (0, .ref (a 0)), (1, .int x), (2, .int y)]) hx hb dX1_canGo_16 rfl hl (by decide) rfl (fun ls hl => ?_)
    refine lv_iload_n hx hb dX1_canGo_17 rfl (lv_at hl 0 rfl) ?_
    refine lv_iconst (v := (-1)) hx hb dX1_canGo_18 (by decide) ?_
    refine lv_icmp_eq (tgt := 31) hx hb dX1_canGo_19 (by decide) (fun c_19 => ?_) (fun c_19 => ?_)
    · refine lv_iconst (v := 1) hx hb dX1_canGo_31 (by decide) ?_
      refine lv_goto (tgt := 36) hx hb dX1_canGo_32 (by decide) ?_
      exact W.zret (v := 1) hx hb hr rfl (fun T9 ht _ => ⟨_, rfl, by first | rfl | (simp only [canGoB, if_neg c_6, if_pos c_19]; done) | (simp only [canGoB, if_neg c_6, if_pos c_19]; rfl) | (simp [canGoB, c_6, c_19]; done) | (simp [canGoB, c_6, c_19]; rfl), ht⟩) hnil dX1_canGo_36
    · refine lv_aload_n hx hb dX1_canGo_22 rfl (lv_at hl 1 rfl) ?_
      refine lv_iload_n hx hb dX1_canGo_23 rfl (lv_at hl 2 rfl) ?_
      refine lv_iload_n hx hb dX1_canGo_24 rfl (lv_at hl 0 rfl) ?_
      refine vp_callSi (va_Run.run (va_runV (As := [.int x, .int (onF σ y)]) (rest := []) ⟨hx, hb, hml, hown, hts⟩ (c_X2_isFoe l D cI a σ x (onF σ y)) (cwV 2 hts gX1_canGo_X2_isFoe rfl rfl rfl (by decide +kernel) ⟨Nat.le_of_ble_eq_true rfl, Nat.le_of_ble_eq_true rfl⟩) ⟨preR_blind, va_recv hK hP (ci := 2) (q0 := 0) rfl rfl, preR_of hP hK hE [.ref (a 0), .int x, .int (onF σ y)]⟩ rfl rfl hl.1 rfl (lv_room (Nat.le_of_ble_eq_true rfl)) dX1_canGo_25 ⟨Nat.zero_le _, Nat.zero_le _⟩)) (fun r hr9 => ?_)
      subst hr9
      refine w_bz (tgt := 35) hx hb dX1_canGo_28 (by decide) (fun c_28 => ?_) (fun c_28 => ?_)
      · refine lv_iconst (v := 0) hx hb dX1_canGo_35 (by decide) ?_
        exact W.zret (v := 0) hx hb hr rfl (fun T9 ht _ => ⟨_, rfl, by first | rfl | (simp only [canGoB, if_neg c_6, if_neg c_19, c_28, Bool.false_eq_true, if_false, if_true]; done) | (simp only [canGoB, if_neg c_6, if_neg c_19, c_28, Bool.false_eq_true, if_false, if_true]; rfl) | (simp [canGoB, c_6, c_19, c_28]; done) | (simp [canGoB, c_6, c_19, c_28]; rfl), ht⟩) hnil dX1_canGo_36
      · refine lv_iconst (v := 1) hx hb dX1_canGo_31 (by decide) ?_
        refine lv_goto (tgt := 36) hx hb dX1_canGo_32 (by decide) ?_
        exact W.zret (v := 1) hx hb hr rfl (fun T9 ht _ => ⟨_, rfl, by first | rfl | (simp only [canGoB, if_neg c_6, if_neg c_19, c_28, Bool.false_eq_true, if_false, if_true]; done) | (simp only [canGoB, if_neg c_6, if_neg c_19, c_28, Bool.false_eq_true, if_false, if_true]; rfl) | (simp [canGoB, c_6, c_19, c_28]; done) | (simp [canGoB, c_6, c_19, c_28]; rfl), ht⟩) hnil dX1_canGo_36
  · refine lv_iconst (v := 0) hx hb dX1_canGo_9 (by decide) ?_
    exact W.zret (v := 0) hx hb hr rfl (fun T9 ht _ => ⟨_, rfl, by first | rfl | (simp only [canGoB, if_pos c_6]; done) | (simp only [canGoB, if_pos c_6]; rfl) | (simp [canGoB, c_6]; done) | (simp [canGoB, c_6]; rfl), ht⟩) hnil dX1_canGo_10
set_option maxHeartbeats 4000000 in
set_option maxRecDepth 100000 in
theorem c_X2_hasFoeBeside (l : Launch) (D : va_G) (cI : ClassId) (a : Nat → Nat) (σ : SS) (x : Int32) (t : Nat) (hn : s_n σ ≤ 10) : Met l yX2_hasFoeBeside wsX2_hasFoeBeside ({ frames := 2, cells := 0, slots := 0, locals := 45 } : Room) (va_Pc [.ref (a 0), .int x] (preRS D cI (sW cI a σ) t)) (vp_Si (fun r => r = bi (besideB σ x))) 0 0 (fun _ => False) := by
  refine Met.ofW (cc := cX2_hasFoeBeside) (maxL := 3) (ret := (some .boolean)) (by decide) rfl ?_
  intro p e s m args below meth c s₁ B hml hv
  obtain ⟨rfl, ⟨hP, hK, hE⟩, hSX⟩ := hv
  have hS : va_S (fun _ => False) s.heap s.heap [] := va_S.rf
  have hx := B.exec
  have hb := B.bytes
  have hr := B.returns
  have hts := atoms_spec (ws := wsX2_hasFoeBeside) B.pre
  have hown : s.vm.findClass RX2 = some m.cls := findClass_of_methodNamed B.named
  have hlocks := B.notSynchronized
  have hl := lv_entry ([.ref (a 0), .int x]) (n := 3) (Nat.le_of_ble_eq_true rfl)
  rw [lg_entry_eq]
  generalize (lg_sl ([.ref (a 0), .int x]) ++ List.replicate (3 - (lg_sl ([.ref (a 0), .int x])).length) Slot.unset).toArray = ls at hl ⊢
  have hl : lv_has ls 3 [(0, .ref (a 0)), (1, .int x)] := hl
  refine lv_iconst (v := 0) hx hb dX2_hasFoeBeside_0 (by decide) ?_
  refine lv_istore_n (lv' := [(2, .int 0), (0, .ref (a 0)), (1, .int x)]) hx hb dX2_hasFoeBeside_1 rfl hl (by decide) rfl (fun ls hl => ?_)
  have L2 : ∀ (n k : Nat) (hk : k + n = 4) (hsp : besideB σ x = besideL σ x n k) (ls : Array Slot), lv_has ls 3 [(2, .int (nI k)), (0, .ref (a 0)), (1, .int x)] → W p l e ({ frames := 2, cells := 0, slots := 0, locals := 45 } : Room) s m ([.ref (a 0), .int x] : List Value).toArray below meth c s.heap [] 0 0 (MQ below (vp_Si (fun r => r = bi (besideB σ x))) ([.ref (a 0), .int x] : List Value).toArray s 0 0 (fun _ => False)) (F0 m 2 ls []) := by
    intro n
    induction n with
    | zero =>
      intro k hk hsp ls hl
      refine lv_iload_n hx hb dX2_hasFoeBeside_2 rfl (lv_at hl 0 rfl) ?_
      refine va_getsN hx hb hSX.1 hS hown (va_Nw.use rfl hE.2.2.1) (fun _ h9 => h9) dX2_hasFoeBeside_3 ?_
      refine va_tlen (v := nI 4) hx hb hSX.2 hS rfl dX2_hasFoeBeside_6 ?_
      refine lv_icmp_ge (tgt := 42) hx hb dX2_hasFoeBeside_7 (by decide) (fun c_7 => ?_) (fun c_7 => absurd (nI_le (by omega) (by omega)) c_7)
      refine lv_iconst (v := 0) hx hb dX2_hasFoeBeside_42 (by decide) ?_
      exact W.zret (v := 0) hx hb hr rfl (fun T9 ht _ => ⟨_, rfl, by rw [hsp]; rfl, ht⟩) hnil dX2_hasFoeBeside_43
    | succ n ih2 =>
      intro k hk hsp ls hl
      refine lv_iload_n hx hb dX2_hasFoeBeside_2 rfl (lv_at hl 0 rfl) ?_
      refine va_getsN hx hb hSX.1 hS hown (va_Nw.use rfl hE.2.2.1) (fun _ h9 => h9) dX2_hasFoeBeside_3 ?_
      refine va_tlen (v := nI 4) hx hb hSX.2 hS rfl dX2_hasFoeBeside_6 ?_
      refine lv_icmp_ge (tgt := 42) hx hb dX2_hasFoeBeside_7 (by decide) (fun c_7 => absurd c_7 (nI_ge (by omega) (by omega))) (fun c_7 => ?_)
      refine lv_aload_n hx hb dX2_hasFoeBeside_10 rfl (lv_at hl 1 rfl) ?_
      refine lv_iload_n hx hb dX2_hasFoeBeside_11 rfl (lv_at hl 2 rfl) ?_
      refine lv_aload_n hx hb dX2_hasFoeBeside_12 rfl (lv_at hl 1 rfl) ?_
      refine lv_aload_n hx hb dX2_hasFoeBeside_13 rfl (lv_at hl 1 rfl) ?_
      refine lv_iload_n hx hb dX2_hasFoeBeside_14 rfl (lv_at hl 2 rfl) ?_
      refine lv_iconst (v := 1) hx hb dX2_hasFoeBeside_15 (by decide) ?_
      refine vp_callSi (va_Run.run (va_runV (As := [.int x, .int 1]) (rest := [.ref (a 0), .int x, .ref (a 0)]) ⟨hx, hb, hml, hown, hts⟩ (c_X2_trait l D cI a σ x 1) (cwV 2 hts gX2_hasFoeBeside_X2_trait rfl rfl rfl (by decide +kernel) ⟨Nat.le_of_ble_eq_true rfl, Nat.le_of_ble_eq_true rfl⟩) ⟨preR_blind, va_recv hK hP (ci := 2) (q0 := 0) rfl rfl, preR_of hP hK hE [.ref (a 0), .int x, .int 1]⟩ rfl rfl hl.1 rfl (lv_room (Nat.le_of_ble_eq_true rfl)) dX2_hasFoeBeside_16 ⟨Nat.zero_le _, Nat.zero_le _⟩)) (fun r hr9 => ?_)
      subst hr9
      refine va_getsN hx hb hSX.1 hS hown (va_Nw.use rfl hE.2.2.1) (fun _ h9 => h9) dX2_hasFoeBeside_19 ?_
      refine lv_iload_n hx hb dX2_hasFoeBeside_22 rfl (lv_at hl 0 rfl) ?_
      refine va_ti (v := .int (stF (nI k).toNatClampNeg)) hx hb hSX.2 hS (vp_in_nI (by omega) (by decide)) rfl dX2_hasFoeBeside_23 ?_
      rw [nI_clamp (by omega)]
      refine lv_iadd hx hb dX2_hasFoeBeside_24 ?_
      refine vp_callSi (va_Run.run (va_runV (As := [.int ((traitF σ x 1) + (stF k))]) (rest := [.int x, .ref (a 0)]) ⟨hx, hb, hml, hown, hts⟩ (c_X2_whoIsOn l D cI a σ ((traitF σ x 1) + (stF k)) hn) (cwV 1 hts gX2_hasFoeBeside_X2_whoIsOn rfl rfl rfl (by decide +kernel) ⟨Nat.le_of_ble_eq_true rfl, Nat.le_of_ble_eq_true rfl⟩) ⟨preR_blind, va_recv hK hP (ci := 2) (q0 := 0) rfl rfl, preR_of hP hK hE [.ref (a 0), .int ((traitF σ x 1) + (stF k))]⟩ rfl rfl hl.1 rfl (lv_room (Nat.le_of_ble_eq_true rfl)) dX2_hasFoeBeside_25 ⟨Nat.zero_le _, Nat.zero_le _⟩)) (fun r hr9 => ?_)
      subst hr9
      refine vp_callSi (va_Run.run (va_runV (As := [.int x, .int (onF σ ((traitF σ x 1) + (stF k)))]) (rest := []) ⟨hx, hb, hml, hown, hts⟩ (c_X2_isFoe l D cI a σ x (onF σ ((traitF σ x 1) + (stF k)))) (cwV 2 hts gX2_hasFoeBeside_X2_isFoe rfl rfl rfl (by decide +kernel) ⟨Nat.le_of_ble_eq_true rfl, Nat.le_of_ble_eq_true rfl⟩) ⟨preR_blind, va_recv hK hP (ci := 2) (q0 := 0) rfl rfl, preR_of hP hK hE [.ref (a 0), .int x, .int (onF σ ((traitF σ x 1) + (stF k)))]⟩ rfl rfl hl.1 rfl (lv_room (Nat.le_of_ble_eq_true rfl)) dX2_hasFoeBeside_28 ⟨Nat.zero_le _, Nat.zero_le _⟩)) (fun r hr9 => ?_)
      subst hr9
      refine w_bz (tgt := 36) hx hb dX2_hasFoeBeside_31 (by decide) (fun c_31 => ?_) (fun c_31 => ?_)
      · refine lv_iinc (v := (nI (k + 1))) (lv' := [(2, .int (nI (k + 1))), (0, .ref (a 0)), (1, .int x)]) hx hb dX2_hasFoeBeside_36 hl (k := 0) rfl (nI_1 k) (by decide) rfl (fun ls hl => ?_)
        refine lv_goto (tgt := 2) hx hb dX2_hasFoeBeside_39 (by decide) ?_
        exact ih2 (k + 1) (by omega) (by rw [hsp]; simp [besideL, c_31]) ls (lv_sub hl [0, 1, 2] rfl)
      · refine lv_iconst (v := 1) hx hb dX2_hasFoeBeside_34 (by decide) ?_
        exact W.zret (v := 1) hx hb hr rfl (fun T9 ht _ => ⟨_, rfl, by rw [hsp]; simp [besideL, c_31, bi], ht⟩) hnil dX2_hasFoeBeside_35
  exact L2 4 0 (by omega) rfl ls (lv_sub hl [0, 1, 2] rfl)
set_option maxHeartbeats 4000000 in
set_option maxRecDepth 100000 in
theorem c_X1_isPossible (l : Launch) (D : va_G) (cI : ClassId) (a : Nat → Nat) (σ : SS) (x y : Int32) (t : Nat) (hn : s_n σ ≤ 10) : Met l yX1_isPossible wsX1_isPossible ({ frames := 4, cells := 0, slots := 0, locals := 96 } : Room) (va_Pc [.ref (a 0), .int x, .int y] (preRS D cI (sW cI a σ) t)) (vp_Si (fun r => r = bi (possB σ x y))) 0 0 (fun _ => False) := by
  refine Met.ofW (cc := cX1_isPossible) (maxL := 3) (ret := (some .boolean)) (by decide) rfl ?_
  intro p e s m args below meth c s₁ B hml hv
  obtain ⟨rfl, ⟨hP, hK, hE⟩, hSX⟩ := hv
  have hS : va_S (fun _ => False) s.heap s.heap [] := va_S.rf
  have hx := B.exec
  have hb := B.bytes
  have hr := B.returns
  have hts := atoms_spec (ws := wsX1_isPossible) B.pre
  have hown : s.vm.findClass RX1 = some m.cls := findClass_of_methodNamed B.named
  have hlocks := B.notSynchronized
  have hl := lv_entry ([.ref (a 0), .int x, .int y]) (n := 3) (Nat.le_of_ble_eq_true rfl)
  rw [lg_entry_eq]
  generalize (lg_sl ([.ref (a 0), .int x, .int y]) ++ List.replicate (3 - (lg_sl ([.ref (a 0), .int x, .int y])).length) Slot.unset).toArray = ls at hl ⊢
  have hl : lv_has ls 3 [(0, .ref (a 0)), (1, .int x), (2, .int y)] := hl
  refine lv_aload_n hx hb dX1_isPossible_0 rfl (lv_at hl 0 rfl) ?_
  refine lv_iload_n hx hb dX1_isPossible_1 rfl (lv_at hl 1 rfl) ?_
  refine vp_callSi (va_Run.run (va_runV (As := [.int x]) (rest := []) ⟨hx, hb, hml, hown, hts⟩ (c_X2_isAlive l D cI a σ x) (cwV 1 hts gX1_isPossible_X2_isAlive rfl rfl rfl (by decide +kernel) ⟨Nat.le_of_ble_eq_true rfl, Nat.le_of_ble_eq_true rfl⟩) ⟨preR_blind, va_recv hK hP (ci := 2) (q0 := 0) rfl rfl, preR_of hP hK hE [.ref (a 0), .int x]⟩ rfl rfl hl.1 rfl (lv_room (Nat.le_of_ble_eq_true rfl)) dX1_isPossible_2 ⟨Nat.zero_le _, Nat.zero_le _⟩)) (fun r hr9 => ?_)
  subst hr9
  refine w_bnz (tgt := 10) hx hb dX1_isPossible_5 (by decide) (fun c_5 => ?_) (fun c_5 => ?_)
  · refine lv_iload_n hx hb dX1_isPossible_10 rfl (lv_at hl 2 rfl) ?_
    refine lv_if_ne (tgt := 16) hx hb dX1_isPossible_11 (by decide) (fun c_11 => ?_) (fun c_11 => ?_)
    · refine lv_iload_n hx hb dX1_isPossible_16 rfl (lv_at hl 2 rfl) ?_
      refine lv_iconst (v := 1) hx hb dX1_isPossible_17 (by decide) ?_
      refine lv_icmp_lt (tgt := 38) hx hb dX1_isPossible_18 (by decide) (fun c_18 => ?_) (fun c_18 => ?_)
      · refine lv_aload_n hx hb dX1_isPossible_38 rfl (lv_at hl 0 rfl) ?_
        refine lv_iload_n hx hb dX1_isPossible_39 rfl (lv_at hl 1 rfl) ?_
        refine lv_bipush (v := 7) hx hb dX1_isPossible_40 (by decide) ?_
        refine vp_callSi (va_Run.run (va_runV (As := [.int x, .int 7]) (rest := []) ⟨hx, hb, hml, hown, hts⟩ (c_X2_trait l D cI a σ x 7) (cwV 2 hts gX1_isPossible_X2_trait rfl rfl rfl (by decide +kernel) ⟨Nat.le_of_ble_eq_true rfl, Nat.le_of_ble_eq_true rfl⟩) ⟨preR_blind, va_recv hK hP (ci := 2) (q0 := 0) rfl rfl, preR_of hP hK hE [.ref (a 0), .int x, .int 7]⟩ rfl rfl hl.1 rfl (lv_room (Nat.le_of_ble_eq_true rfl)) dX1_isPossible_42 ⟨Nat.zero_le _, Nat.zero_le _⟩)) (fun r hr9 => ?_)
        subst hr9
        refine lv_iconst (v := 3) hx hb dX1_isPossible_45 (by decide) ?_
        refine lv_icmp_lt (tgt := 67) hx hb dX1_isPossible_46 (by decide) (fun c_46 => ?_) (fun c_46 => ?_)
        · refine lv_iconst (v := 0) hx hb dX1_isPossible_67 (by decide) ?_
          exact W.zret (v := 0) hx hb hr rfl (fun T9 ht _ => ⟨_, rfl, by first | rfl | (simp only [possB, magicB, c_5, if_neg c_11, if_pos c_18, if_pos c_46, Bool.false_eq_true, if_false, if_true]; done) | (simp only [possB, magicB, c_5, if_neg c_11, if_pos c_18, if_pos c_46, Bool.false_eq_true, if_false, if_true]; rfl) | (simp [possB, magicB, c_5, c_11, c_18, c_46]; done) | (simp [possB, magicB, c_5, c_11, c_18, c_46]; rfl), ht⟩) hnil dX1_isPossible_68
        · refine lv_iload_n hx hb dX1_isPossible_49 rfl (lv_at hl 2 rfl) ?_
          refine lv_iconst (v := 5) hx hb dX1_isPossible_50 (by decide) ?_
          refine lv_icmp_ne (tgt := 63) hx hb dX1_isPossible_51 (by decide) (fun c_51 => ?_) (fun c_51 => ?_)
          · refine lv_iconst (v := 1) hx hb dX1_isPossible_63 (by decide) ?_
            refine lv_goto (tgt := 68) hx hb dX1_isPossible_64 (by decide) ?_
            exact W.zret (v := 1) hx hb hr rfl (fun T9 ht _ => ⟨_, rfl, by first | rfl | (simp only [possB, magicB, c_5, if_neg c_11, if_pos c_18, if_neg c_46, if_neg c_51, Bool.false_eq_true, if_false, if_true]; done) | (simp only [possB, magicB, c_5, if_neg c_11, if_pos c_18, if_neg c_46, if_neg c_51, Bool.false_eq_true, if_false, if_true]; rfl) | (simp [possB, magicB, c_5, c_11, c_18, c_46, c_51]; done) | (simp [possB, magicB, c_5, c_11, c_18, c_46, c_51]; rfl), ht⟩) hnil dX1_isPossible_68
          · refine lv_aload_n hx hb dX1_isPossible_54 rfl (lv_at hl 0 rfl) ?_
            refine lv_iload_n hx hb dX1_isPossible_55 rfl (lv_at hl 1 rfl) ?_
            refine vp_callSi (va_Run.run (va_runV (As := [.int x]) (rest := []) ⟨hx, hb, hml, hown, hts⟩ (c_X2_targetOf l D cI a σ x hn) (cwV 1 hts gX1_isPossible_X2_targetOf rfl rfl rfl (by decide +kernel) ⟨Nat.le_of_ble_eq_true rfl, Nat.le_of_ble_eq_true rfl⟩) ⟨preR_blind, va_recv hK hP (ci := 2) (q0 := 0) rfl rfl, preR_of hP hK hE [.ref (a 0), .int x]⟩ rfl rfl hl.1 rfl (lv_room (Nat.le_of_ble_eq_true rfl)) dX1_isPossible_56 ⟨Nat.zero_le _, Nat.zero_le _⟩)) (fun r hr9 => ?_)
            subst hr9
            refine lv_iconst (v := (-1)) hx hb dX1_isPossible_59 (by decide) ?_
            refine lv_icmp_eq (tgt := 67) hx hb dX1_isPossible_60 (by decide) (fun c_60 => ?_) (fun c_60 => ?_)
            · refine lv_iconst (v := 0) hx hb dX1_isPossible_67 (by decide) ?_
              exact W.zret (v := 0) hx hb hr rfl (fun T9 ht _ => ⟨_, rfl, by first | rfl | (simp only [possB, magicB, c_5, if_neg c_11, if_pos c_18, if_neg c_46, if_pos c_51, if_pos c_60, Bool.false_eq_true, if_false, if_true]; done) | (simp only [possB, magicB, c_5, if_neg c_11, if_pos c_18, if_neg c_46, if_pos c_51, if_pos c_60, Bool.false_eq_true, if_false, if_true]; rfl) | (simp [possB, magicB, c_5, c_11, c_18, c_46, c_51, c_60]; done) | (simp [possB, magicB, c_5, c_11, c_18, c_46, c_51, c_60]; rfl), ht⟩) hnil dX1_isPossible_68
            · refine lv_iconst (v := 1) hx hb dX1_isPossible_63 (by decide) ?_
              refine lv_goto (tgt := 68) hx hb dX1_isPossible_64 (by decide) ?_
              exact W.zret (v := 1) hx hb hr rfl (fun T9 ht _ => ⟨_, rfl, by first | rfl | (simp only [possB, magicB, c_5, if_neg c_11, if_pos c_18, if_neg c_46, if_pos c_51, if_neg c_60, Bool.false_eq_true, if_false, if_true]; done) | (simp only [possB, magicB, c_5, if_neg c_11, if_pos c_18, if_neg c_46, if_pos c_51, if_neg c_60, Bool.false_eq_true, if_false, if_true]; rfl) | (simp [possB, magicB, c_5, c_11, c_18, c_46, c_51, c_60]; done) | (simp [possB, magicB, c_5, c_11, c_18, c_46, c_51, c_60]; rfl), ht⟩) hnil dX1_isPossible_68
      · refine lv_iload_n hx hb dX1_isPossible_21 rfl (lv_at hl 2 rfl) ?_
        refine lv_iconst (v := 4) hx hb dX1_isPossible_22 (by decide) ?_
        refine lv_icmp_gt (tgt := 38) hx hb dX1_isPossible_23 (by decide) (fun c_23 => ?_) (fun c_23 => ?_)
        · refine lv_aload_n hx hb dX1_isPossible_38 rfl (lv_at hl 0 rfl) ?_
          refine lv_iload_n hx hb dX1_isPossible_39 rfl (lv_at hl 1 rfl) ?_
          refine lv_bipush (v := 7) hx hb dX1_isPossible_40 (by decide) ?_
          refine vp_callSi (va_Run.run (va_runV (As := [.int x, .int 7]) (rest := []) ⟨hx, hb, hml, hown, hts⟩ (c_X2_trait l D cI a σ x 7) (cwV 2 hts gX1_isPossible_X2_trait rfl rfl rfl (by decide +kernel) ⟨Nat.le_of_ble_eq_true rfl, Nat.le_of_ble_eq_true rfl⟩) ⟨preR_blind, va_recv hK hP (ci := 2) (q0 := 0) rfl rfl, preR_of hP hK hE [.ref (a 0), .int x, .int 7]⟩ rfl rfl hl.1 rfl (lv_room (Nat.le_of_ble_eq_true rfl)) dX1_isPossible_42 ⟨Nat.zero_le _, Nat.zero_le _⟩)) (fun r hr9 => ?_)
          subst hr9
          refine lv_iconst (v := 3) hx hb dX1_isPossible_45 (by decide) ?_
          refine lv_icmp_lt (tgt := 67) hx hb dX1_isPossible_46 (by decide) (fun c_46 => ?_) (fun c_46 => ?_)
          · refine lv_iconst (v := 0) hx hb dX1_isPossible_67 (by decide) ?_
            exact W.zret (v := 0) hx hb hr rfl (fun T9 ht _ => ⟨_, rfl, by first | rfl | (simp only [possB, magicB, c_5, if_neg c_11, if_neg c_18, if_pos c_23, if_pos c_46, Bool.false_eq_true, if_false, if_true]; done) | (simp only [possB, magicB, c_5, if_neg c_11, if_neg c_18, if_pos c_23, if_pos c_46, Bool.false_eq_true, if_false, if_true]; rfl) | (simp [possB, magicB, c_5, c_11, c_18, c_23, c_46]; done) | (simp [possB, magicB, c_5, c_11, c_18, c_23, c_46]; rfl), ht⟩) hnil dX1_isPossible_68
          · refine lv_iload_n hx hb dX1_isPossible_49 rfl (lv_at hl 2 rfl) ?_
            refine lv_iconst (v := 5) hx hb dX1_isPossible_50 (by decide) ?_
            refine lv_icmp_ne (tgt := 63) hx hb dX1_isPossible_51 (by decide) (fun c_51 => ?_) (fun c_51 => ?_)
            · refine lv_iconst (v := 1) hx hb dX1_isPossible_63 (by decide) ?_
              refine lv_goto (tgt := 68) hx hb dX1_isPossible_64 (by decide) ?_
              exact W.zret (v := 1) hx hb hr rfl (fun T9 ht _ => ⟨_, rfl, by first | rfl | (simp only [possB, magicB, c_5, if_neg c_11, if_neg c_18, if_pos c_23, if_neg c_46, if_neg c_51, Bool.false_eq_true, if_false, if_true]; done) | (simp only [possB, magicB, c_5, if_neg c_11, if_neg c_18, if_pos c_23, if_neg c_46, if_neg c_51, Bool.false_eq_true, if_false, if_true]; rfl) | (simp [possB, magicB, c_5, c_11, c_18, c_23, c_46, c_51]; done) | (simp [possB, magicB, c_5, c_11, c_18, c_23, c_46, c_51]; rfl), ht⟩) hnil dX1_isPossible_68
            · refine lv_aload_n hx hb dX1_isPossible_54 rfl (lv_at hl 0 rfl) ?_
              refine lv_iload_n hx hb dX1_isPossible_55 rfl (lv_at hl 1 rfl) ?_
              refine vp_callSi (va_Run.run (va_runV (As := [.int x]) (rest := []) ⟨hx, hb, hml, hown, hts⟩ (c_X2_targetOf l D cI a σ x hn) (cwV 1 hts gX1_isPossible_X2_targetOf rfl rfl rfl (by decide +kernel) ⟨Nat.le_of_ble_eq_true rfl, Nat.le_of_ble_eq_true rfl⟩) ⟨preR_blind, va_recv hK hP (ci := 2) (q0 := 0) rfl rfl, preR_of hP hK hE [.ref (a 0), .int x]⟩ rfl rfl hl.1 rfl (lv_room (Nat.le_of_ble_eq_true rfl)) dX1_isPossible_56 ⟨Nat.zero_le _, Nat.zero_le _⟩)) (fun r hr9 => ?_)
              subst hr9
              refine lv_iconst (v := (-1)) hx hb dX1_isPossible_59 (by decide) ?_
              refine lv_icmp_eq (tgt := 67) hx hb dX1_isPossible_60 (by decide) (fun c_60 => ?_) (fun c_60 => ?_)
              · refine lv_iconst (v := 0) hx hb dX1_isPossible_67 (by decide) ?_
                exact W.zret (v := 0) hx hb hr rfl (fun T9 ht _ => ⟨_, rfl, by first | rfl | (simp only [possB, magicB, c_5, if_neg c_11, if_neg c_18, if_pos c_23, if_neg c_46, if_pos c_51, if_pos c_60, Bool.false_eq_true, if_false, if_true]; done) | (simp only [possB, magicB, c_5, if_neg c_11, if_neg c_18, if_pos c_23, if_neg c_46, if_pos c_51, if_pos c_60, Bool.false_eq_true, if_false, if_true]; rfl) | (simp [possB, magicB, c_5, c_11, c_18, c_23, c_46, c_51, c_60]; done) | (simp [possB, magicB, c_5, c_11, c_18, c_23, c_46, c_51, c_60]; rfl), ht⟩) hnil dX1_isPossible_68
              · refine lv_iconst (v := 1) hx hb dX1_isPossible_63 (by decide) ?_
                refine lv_goto (tgt := 68) hx hb dX1_isPossible_64 (by decide) ?_
                exact W.zret (v := 1) hx hb hr rfl (fun T9 ht _ => ⟨_, rfl, by first | rfl | (simp only [possB, magicB, c_5, if_neg c_11, if_neg c_18, if_pos c_23, if_neg c_46, if_pos c_51, if_neg c_60, Bool.false_eq_true, if_false, if_true]; done) | (simp only [possB, magicB, c_5, if_neg c_11, if_neg c_18, if_pos c_23, if_neg c_46, if_pos c_51, if_neg c_60, Bool.false_eq_true, if_false, if_true]; rfl) | (simp [possB, magicB, c_5, c_11, c_18, c_23, c_46, c_51, c_60]; done) | (simp [possB, magicB, c_5, c_11, c_18, c_23, c_46, c_51, c_60]; rfl), ht⟩) hnil dX1_isPossible_68
        · refine lv_aload_n hx hb dX1_isPossible_26 rfl (lv_at hl 0 rfl) ?_
          refine lv_iload_n hx hb dX1_isPossible_27 rfl (lv_at hl 1 rfl) ?_
          refine lv_aload_n hx hb dX1_isPossible_28 rfl (lv_at hl 0 rfl) ?_
          refine lv_iload_n hx hb dX1_isPossible_29 rfl (lv_at hl 1 rfl) ?_
          refine lv_iload_n hx hb dX1_isPossible_30 rfl (lv_at hl 2 rfl) ?_
          refine vp_callSi (va_Run.run (va_runS (As := [.ref (a 0), .int x, .int y]) (rest := [.int x, .ref (a 0)]) ⟨hx, hb, hml, hown, hts⟩ (c_X1_cellTowards l D cI a σ x y t) (va_cwS 3 hts gX1_isPossible_X1_cellTowards rfl rfl rfl (by decide +kernel) ⟨Nat.le_of_ble_eq_true rfl, Nat.le_of_ble_eq_true rfl⟩) ⟨preRS_blind, preRS_of hP hK hE hSX hS [.ref (a 0), .int x, .int y]⟩ rfl rfl hl.1 rfl (lv_room (Nat.le_of_ble_eq_true rfl)) dX1_isPossible_31 ⟨Nat.zero_le _, Nat.zero_le _⟩)) (fun r hr9 => ?_)
          subst hr9
          refine vp_callSi (va_Run.run (va_runS (As := [.ref (a 0), .int x, .int (towF σ x y)]) (rest := []) ⟨hx, hb, hml, hown, hts⟩ (c_X1_canGo l D cI a σ x (towF σ x y) hn) (va_cwS 3 hts gX1_isPossible_X1_canGo rfl rfl rfl (by decide +kernel) ⟨Nat.le_of_ble_eq_true rfl, Nat.le_of_ble_eq_true rfl⟩) ⟨preR_blind, preR_of hP hK hE [.ref (a 0), .int x, .int (towF σ x y)]⟩ rfl rfl hl.1 rfl (lv_room (Nat.le_of_ble_eq_true rfl)) dX1_isPossible_34 ⟨Nat.zero_le _, Nat.zero_le _⟩)) (fun r hr9 => ?_)
          subst hr9
          exact W.zret (v := (bi (canGoB σ x (towF σ x y)))) hx hb hr (bi_nar _) (fun T9 ht _ => ⟨_, rfl, by first | rfl | (simp only [possB, magicB, c_5, if_neg c_11, if_neg c_18, if_neg c_23, Bool.false_eq_true, if_false, if_true]; done) | (simp only [possB, magicB, c_5, if_neg c_11, if_neg c_18, if_neg c_23, Bool.false_eq_true, if_false, if_true]; rfl) | (simp [possB, magicB, c_5, c_11, c_18, c_23]; done) | (simp [possB, magicB, c_5, c_11, c_18, c_23]; rfl), ht⟩) hnil dX1_isPossible_37
    · refine lv_iconst (v := 1) hx hb dX1_isPossible_14 (by decide) ?_
      exact W.zret (v := 1) hx hb hr rfl (fun T9 ht _ => ⟨_, rfl, by first | rfl | (simp only [possB, magicB, c_5, if_pos c_11, Bool.false_eq_true, if_false, if_true]; done) | (simp only [possB, magicB, c_5, if_pos c_11, Bool.false_eq_true, if_false, if_true]; rfl) | (simp [possB, magicB, c_5, c_11]; done) | (simp [possB, magicB, c_5, c_11]; rfl), ht⟩) hnil dX1_isPossible_15
  · refine lv_iconst (v := 0) hx hb dX1_isPossible_8 (by decide) ?_
    exact W.zret (v := 0) hx hb hr rfl (fun T9 ht _ => ⟨_, rfl, by first | rfl | (simp only [possB, magicB, c_5, Bool.false_eq_true, if_false, if_true]; done) | (simp only [possB, magicB, c_5, Bool.false_eq_true, if_false, if_true]; rfl) | (simp [possB, magicB, c_5]; done) | (simp [possB, magicB, c_5]; rfl), ht⟩) hnil dX1_isPossible_9
set_option maxHeartbeats 4000000 in
set_option maxRecDepth 100000 in
theorem c_X1_passTime (l : Launch) (D : va_G) (cI : ClassId) (sz : Nat) (a : Nat → Nat) (σ : SS) (x z : Int32) : Met l yX1_passTime wsX1_passTime ({ frames := 1, cells := 0, slots := 0, locals := 24 } : Room) (va_Pc [.ref (a 0), .int x, .int z] (preM D cI (sW cI a σ) sz)) (va_Qv (fun (u : SS) => u = passF σ x z) (fun (u : SS) => posM D cI (va_A (sW cI a σ) sz) (sW cI a u)) (va_A (sW cI a σ) sz)) 0 0 (va_A (sW cI a σ) sz) := by
  refine Met.ofW (cc := cX1_passTime) (maxL := 5) (ret := none) (by decide) rfl ?_
  intro p e s m args below meth c s₁ B hml hv
  obtain ⟨rfl, hsz, hP, hK, hE, hD0⟩ := hv
  have hx := B.exec
  have hb := B.bytes
  have hr := B.returns
  have hts := atoms_spec (ws := wsX1_passTime) B.pre
  have hown : s.vm.findClass RX1 = some m.cls := findClass_of_methodNamed B.named
  have hlocks := B.notSynchronized
  subst hsz
  have hD := hD0.self (sz := s.heap.size)
  generalize hAe : va_A (sW cI a σ) s.heap.size = A at hD ⊢
  have hA : ∀ q : Nat, s.heap.size ≤ q → A q := fun q h => by rw [← hAe]; exact Or.inr h
  have hS : va_S A s.heap s.heap [] := va_S.rf
  have hP : va_P D vwCl (sW cI a σ) s.heap := hP
  have hl := lv_entry ([.ref (a 0), .int x, .int z]) (n := 5) (Nat.le_of_ble_eq_true rfl)
  rw [lg_entry_eq]
  generalize (lg_sl ([.ref (a 0), .int x, .int z]) ++ List.replicate (5 - (lg_sl ([.ref (a 0), .int x, .int z])).length) Slot.unset).toArray = ls at hl ⊢
  have hl : lv_has ls 5 [(0, .ref (a 0)), (1, .int x), (2, .int z)] := hl
  refine lv_aload_n hx hb dX1_passTime_0 rfl (lv_at hl 0 rfl) ?_
  refine lv_iload_n hx hb dX1_passTime_1 rfl (lv_at hl 1 rfl) ?_
  refine lv_bipush (v := 6) hx hb dX1_passTime_2 (by decide) ?_
  refine vp_callSi (va_Run.run (va_runV (As := [.int x, .int 6]) (rest := []) ⟨hx, hb, hml, hown, hts⟩ (c_X2_trait l D cI a σ x 6) (cwV 2 hts gX1_passTime_X2_trait rfl rfl rfl (by decide +kernel) ⟨Nat.le_of_ble_eq_true rfl, Nat.le_of_ble_eq_true rfl⟩) ⟨preR_blind, va_recv hK hP (ci := 2) (q0 := 0) rfl rfl, preR_of hP hK hE [.ref (a 0), .int x, .int 6]⟩ rfl rfl hl.1 rfl (lv_room (Nat.le_of_ble_eq_true rfl)) dX1_passTime_4 ⟨Nat.zero_le _, Nat.zero_le _⟩)) (fun r hr9 => ?_)
  subst hr9
  refine lv_istore_n (lv' := [(3, .int (traitF σ x 6)), (0, .ref (a 0)), (1, .int x), (2, .int z)]) hx hb dX1_passTime_7 rfl hl (by decide) rfl (fun ls hl => ?_)
  refine lv_iload_n hx hb dX1_passTime_8 rfl (lv_at hl 0 rfl) ?_
  refine lv_if_le (tgt := 19) hx hb dX1_passTime_9 (by decide) (fun c_9 => ?_) (fun c_9 => ?_)
  · refine lv_iconst (v := 0) hx hb dX1_passTime_19 (by decide) ?_
    refine lv_istore (lv' := [(4, .int 0), (3, .int (traitF σ x 6)), (0, .ref (a 0)), (1, .int x), (2, .int z)]) hx hb dX1_passTime_20 hl (by decide) rfl (fun ls hl => ?_)
    refine lv_aload_n hx hb dX1_passTime_22 rfl (lv_at hl 2 rfl) ?_
    refine lv_iload_n hx hb dX1_passTime_23 rfl (lv_at hl 3 rfl) ?_
    refine lv_bipush (v := 8) hx hb dX1_passTime_24 (by decide) ?_
    refine lv_aload_n hx hb dX1_passTime_26 rfl (lv_at hl 2 rfl) ?_
    refine lv_iload_n hx hb dX1_passTime_27 rfl (lv_at hl 3 rfl) ?_
    refine lv_bipush (v := 8) hx hb dX1_passTime_28 (by decide) ?_
    refine vp_callSi (va_Run.run (va_runV (As := [.int x, .int 8]) (rest := [.int 8, .int x, .ref (a 0)]) ⟨hx, hb, hml, hown, hts⟩ (c_X2_trait l D cI a σ x 8) (cwV 2 hts gX1_passTime_X2_trait rfl rfl rfl (by decide +kernel) ⟨Nat.le_of_ble_eq_true rfl, Nat.le_of_ble_eq_true rfl⟩) ⟨preR_blind, va_recv hK hP (ci := 2) (q0 := 0) rfl rfl, preR_of hP hK hE [.ref (a 0), .int x, .int 8]⟩ rfl rfl hl.1 rfl (lv_room (Nat.le_of_ble_eq_true rfl)) dX1_passTime_30 ⟨Nat.zero_le _, Nat.zero_le _⟩)) (fun r hr9 => ?_)
    subst hr9
    refine lv_iload_n hx hb dX1_passTime_33 rfl (lv_at hl 4 rfl) ?_
    refine lv_if_eq (tgt := 44) hx hb dX1_passTime_34 (by decide) (fun c_34 => ?_) (fun c_34 => ?_)
    · refine lv_iload hx hb dX1_passTime_44 (lv_at hl 0 rfl) ?_
      refine lv_iadd hx hb dX1_passTime_46 ?_
      have hFc := va_free (wc := sW cI a σ) hD hS hA [0, 1, 2, 3, 4, 5] rfl
      refine va_callv (va_runV (As := [.int x, .int 8, .int ((traitF σ x 8) + 0)]) (rest := []) ⟨hx, hb, hml, hown, hts⟩ (c_X2_putTrait l D cI _ a σ x 8 ((traitF σ x 8) + 0)) (cwV 3 hts gX1_passTime_X2_putTrait rfl rfl rfl (by decide +kernel) ⟨Nat.le_of_ble_eq_true rfl, Nat.le_of_ble_eq_true rfl⟩) ⟨preM_blind, va_recv hK hP (ci := 2) (q0 := 0) rfl rfl, preM_of hP hK hE hD [.ref (a 0), .int x, .int 8, .int ((traitF σ x 8) + 0)]⟩ rfl rfl hl.1 rfl (lv_room (Nat.le_of_ble_eq_true rfl)) dX1_passTime_47 ⟨Nat.le_of_ble_eq_true rfl, Nat.le_of_ble_eq_true rfl⟩) hS (fun q _ h => hFc q h) hFc (fun u t9 H1 locs ht hvm hw hB hz1 hk1 hS => ?_)
      obtain ⟨hP1, hK1, hD1⟩ := hB
      rw [ht] at hP1
      subst hw
      obtain ⟨hP, hD⟩ := va_join (wr := []) (w1 := sW cI a (putTraitF σ x 8 ((traitF σ x 8) + 0))) hP hD [0, 1, 2, 3, 4, 5] [] rfl rfl (by decide) (by decide) hk1 hFc hP1 hD1
      generalize H1 = H at hP hS ⊢
      have hP : va_P D vwCl (sW cI a (putTraitF σ x 8 ((traitF σ x 8) + 0))) H := hP
      have hD : va_D A (sW cI a (putTraitF σ x 8 ((traitF σ x 8) + 0))) := hD
      have hP9 := hP
      have hD9 := hD
      exact W.vret hx hb hr (fun T9 ht hW => ⟨⟨(putTraitF σ x 8 ((traitF σ x 8) + 0)), rfl, by first | rfl | (simp only [passF, tickF, if_pos c_9, if_pos c_34]; done) | (simp only [passF, tickF, if_pos c_9, if_pos c_34]; rfl) | (simp [passF, tickF, c_9, c_34]; done) | (simp [passF, tickF, c_9, c_34]; rfl), by rw [ht]; exact hP9, va_K.moved hW.alike hK, hD9⟩, hS.F ht⟩) hS.2.2 dX1_passTime_50
    · refine lv_iconst (v := 2) hx hb dX1_passTime_37 (by decide) ?_
      refine lv_iload hx hb dX1_passTime_38 (lv_at hl 0 rfl) ?_
      refine lv_imul hx hb dX1_passTime_40 ?_
      refine lv_goto (tgt := 46) hx hb dX1_passTime_41 (by decide) ?_
      refine lv_iadd hx hb dX1_passTime_46 ?_
      have hFc := va_free (wc := sW cI a σ) hD hS hA [0, 1, 2, 3, 4, 5] rfl
      refine va_callv (va_runV (As := [.int x, .int 8, .int ((traitF σ x 8) + (2 * 0))]) (rest := []) ⟨hx, hb, hml, hown, hts⟩ (c_X2_putTrait l D cI _ a σ x 8 ((traitF σ x 8) + (2 * 0))) (cwV 3 hts gX1_passTime_X2_putTrait rfl rfl rfl (by decide +kernel) ⟨Nat.le_of_ble_eq_true rfl, Nat.le_of_ble_eq_true rfl⟩) ⟨preM_blind, va_recv hK hP (ci := 2) (q0 := 0) rfl rfl, preM_of hP hK hE hD [.ref (a 0), .int x, .int 8, .int ((traitF σ x 8) + (2 * 0))]⟩ rfl rfl hl.1 rfl (lv_room (Nat.le_of_ble_eq_true rfl)) dX1_passTime_47 ⟨Nat.le_of_ble_eq_true rfl, Nat.le_of_ble_eq_true rfl⟩) hS (fun q _ h => hFc q h) hFc (fun u t9 H1 locs ht hvm hw hB hz1 hk1 hS => ?_)
      obtain ⟨hP1, hK1, hD1⟩ := hB
      rw [ht] at hP1
      subst hw
      obtain ⟨hP, hD⟩ := va_join (wr := []) (w1 := sW cI a (putTraitF σ x 8 ((traitF σ x 8) + (2 * 0)))) hP hD [0, 1, 2, 3, 4, 5] [] rfl rfl (by decide) (by decide) hk1 hFc hP1 hD1
      generalize H1 = H at hP hS ⊢
      have hP : va_P D vwCl (sW cI a (putTraitF σ x 8 ((traitF σ x 8) + (2 * 0)))) H := hP
      have hD : va_D A (sW cI a (putTraitF σ x 8 ((traitF σ x 8) + (2 * 0)))) := hD
      have hP9 := hP
      have hD9 := hD
      exact W.vret hx hb hr (fun T9 ht hW => ⟨⟨(putTraitF σ x 8 ((traitF σ x 8) + (2 * 0))), rfl, by first | rfl | (simp only [passF, tickF, if_pos c_9, if_neg c_34]; done) | (simp only [passF, tickF, if_pos c_9, if_neg c_34]; rfl) | (simp [passF, tickF, c_9, c_34]; done) | (simp [passF, tickF, c_9, c_34]; rfl), by rw [ht]; exact hP9, va_K.moved hW.alike hK, hD9⟩, hS.F ht⟩) hS.2.2 dX1_passTime_50
  · refine lv_bipush (v := 12) hx hb dX1_passTime_12 (by decide) ?_
    refine lv_iload_n hx hb dX1_passTime_14 rfl (lv_at hl 0 rfl) ?_
    refine lv_idiv hx hb dX1_passTime_15 (fun z9 => c_9 (by rw [z9]; decide)) ?_
    refine lv_goto (tgt := 20) hx hb dX1_passTime_16 (by decide) ?_
    refine lv_istore (lv' := [(4, .int (12 / (traitF σ x 6))), (3, .int (traitF σ x 6)), (0, .ref (a 0)), (1, .int x), (2, .int z)]) hx hb dX1_passTime_20 hl (by decide) rfl (fun ls hl => ?_)
    refine lv_aload_n hx hb dX1_passTime_22 rfl (lv_at hl 2 rfl) ?_
    refine lv_iload_n hx hb dX1_passTime_23 rfl (lv_at hl 3 rfl) ?_
    refine lv_bipush (v := 8) hx hb dX1_passTime_24 (by decide) ?_
    refine lv_aload_n hx hb dX1_passTime_26 rfl (lv_at hl 2 rfl) ?_
    refine lv_iload_n hx hb dX1_passTime_27 rfl (lv_at hl 3 rfl) ?_
    refine lv_bipush (v := 8) hx hb dX1_passTime_28 (by decide) ?_
    refine vp_callSi (va_Run.run (va_runV (As := [.int x, .int 8]) (rest := [.int 8, .int x, .ref (a 0)]) ⟨hx, hb, hml, hown, hts⟩ (c_X2_trait l D cI a σ x 8) (cwV 2 hts gX1_passTime_X2_trait rfl rfl rfl (by decide +kernel) ⟨Nat.le_of_ble_eq_true rfl, Nat.le_of_ble_eq_true rfl⟩) ⟨preR_blind, va_recv hK hP (ci := 2) (q0 := 0) rfl rfl, preR_of hP hK hE [.ref (a 0), .int x, .int 8]⟩ rfl rfl hl.1 rfl (lv_room (Nat.le_of_ble_eq_true rfl)) dX1_passTime_30 ⟨Nat.zero_le _, Nat.zero_le _⟩)) (fun r hr9 => ?_)
    subst hr9
    refine lv_iload_n hx hb dX1_passTime_33 rfl (lv_at hl 4 rfl) ?_
    refine lv_if_eq (tgt := 44) hx hb dX1_passTime_34 (by decide) (fun c_34 => ?_) (fun c_34 => ?_)
    · refine lv_iload hx hb dX1_passTime_44 (lv_at hl 0 rfl) ?_
      refine lv_iadd hx hb dX1_passTime_46 ?_
      have hFc := va_free (wc := sW cI a σ) hD hS hA [0, 1, 2, 3, 4, 5] rfl
      refine va_callv (va_runV (As := [.int x, .int 8, .int ((traitF σ x 8) + (12 / (traitF σ x 6)))]) (rest := []) ⟨hx, hb, hml, hown, hts⟩ (c_X2_putTrait l D cI _ a σ x 8 ((traitF σ x 8) + (12 / (traitF σ x 6)))) (cwV 3 hts gX1_passTime_X2_putTrait rfl rfl rfl (by decide +kernel) ⟨Nat.le_of_ble_eq_true rfl, Nat.le_of_ble_eq_true rfl⟩) ⟨preM_blind, va_recv hK hP (ci := 2) (q0 := 0) rfl rfl, preM_of hP hK hE hD [.ref (a 0), .int x, .int 8, .int ((traitF σ x 8) + (12 / (traitF σ x 6)))]⟩ rfl rfl hl.1 rfl (lv_room (Nat.le_of_ble_eq_true rfl)) dX1_passTime_47 ⟨Nat.le_of_ble_eq_true rfl, Nat.le_of_ble_eq_true rfl⟩) hS (fun q _ h => hFc q h) hFc (fun u t9 H1 locs ht hvm hw hB hz1 hk1 hS => ?_)
      obtain ⟨hP1, hK1, hD1⟩ := hB
      rw [ht] at hP1
      subst hw
      obtain ⟨hP, hD⟩ := va_join (wr := []) (w1 := sW cI a (putTraitF σ x 8 ((traitF σ x 8) + (12 / (traitF σ x 6))))) hP hD [0, 1, 2, 3, 4, 5] [] rfl rfl (by decide) (by decide) hk1 hFc hP1 hD1
      generalize H1 = H at hP hS ⊢
      have hP : va_P D vwCl (sW cI a (putTraitF σ x 8 ((traitF σ x 8) + (12 / (traitF σ x 6))))) H := hP
      have hD : va_D A (sW cI a (putTraitF σ x 8 ((traitF σ x 8) + (12 / (traitF σ x 6))))) := hD
      have hP9 := hP
      have hD9 := hD
      exact W.vret hx hb hr (fun T9 ht hW => ⟨⟨(putTraitF σ x 8 ((traitF σ x 8) + (12 / (traitF σ x 6)))), rfl, by first | rfl | (simp only [passF, tickF, if_neg c_9, if_pos c_34]; done) | (simp only [passF, tickF, if_neg c_9, if_pos c_34]; rfl) | (simp [passF, tickF, c_9, c_34]; done) | (simp [passF, tickF, c_9, c_34]; rfl), by rw [ht]; exact hP9, va_K.moved hW.alike hK, hD9⟩, hS.F ht⟩) hS.2.2 dX1_passTime_50
    · refine lv_iconst (v := 2) hx hb dX1_passTime_37 (by decide) ?_
      refine lv_iload hx hb dX1_passTime_38 (lv_at hl 0 rfl) ?_
      refine lv_imul hx hb dX1_passTime_40 ?_
      refine lv_goto (tgt := 46) hx hb dX1_passTime_41 (by decide) ?_
      refine lv_iadd hx hb dX1_passTime_46 ?_
      have hFc := va_free (wc := sW cI a σ) hD hS hA [0, 1, 2, 3, 4, 5] rfl
      refine va_callv (va_runV (As := [.int x, .int 8, .int ((traitF σ x 8) + (2 * (12 / (traitF σ x 6))))]) (rest := []) ⟨hx, hb, hml, hown, hts⟩ (c_X2_putTrait l D cI _ a σ x 8 ((traitF σ x 8) + (2 * (12 / (traitF σ x 6))))) (cwV 3 hts gX1_passTime_X2_putTrait rfl rfl rfl (by decide +kernel) ⟨Nat.le_of_ble_eq_true rfl, Nat.le_of_ble_eq_true rfl⟩) ⟨preM_blind, va_recv hK hP (ci := 2) (q0 := 0) rfl rfl, preM_of hP hK hE hD [.ref (a 0), .int x, .int 8, .int ((traitF σ x 8) + (2 * (12 / (traitF σ x 6))))]⟩ rfl rfl hl.1 rfl (lv_room (Nat.le_of_ble_eq_true rfl)) dX1_passTime_47 ⟨Nat.le_of_ble_eq_true rfl, Nat.le_of_ble_eq_true rfl⟩) hS (fun q _ h => hFc q h) hFc (fun u t9 H1 locs ht hvm hw hB hz1 hk1 hS => ?_)
      obtain ⟨hP1, hK1, hD1⟩ := hB
      rw [ht] at hP1
      subst hw
      obtain ⟨hP, hD⟩ := va_join (wr := []) (w1 := sW cI a (putTraitF σ x 8 ((traitF σ x 8) + (2 * (12 / (traitF σ x 6)))))) hP hD [0, 1, 2, 3, 4, 5] [] rfl rfl (by decide) (by decide) hk1 hFc hP1 hD1
      generalize H1 = H at hP hS ⊢
      have hP : va_P D vwCl (sW cI a (putTraitF σ x 8 ((traitF σ x 8) + (2 * (12 / (traitF σ x 6)))))) H := hP
      have hD : va_D A (sW cI a (putTraitF σ x 8 ((traitF σ x 8) + (2 * (12 / (traitF σ x 6)))))) := hD
      have hP9 := hP
      have hD9 := hD
      exact W.vret hx hb hr (fun T9 ht hW => ⟨⟨(putTraitF σ x 8 ((traitF σ x 8) + (2 * (12 / (traitF σ x 6))))), rfl, by first | rfl | (simp only [passF, tickF, if_neg c_9, if_neg c_34]; done) | (simp only [passF, tickF, if_neg c_9, if_neg c_34]; rfl) | (simp [passF, tickF, c_9, c_34]; done) | (simp [passF, tickF, c_9, c_34]; rfl), by rw [ht]; exact hP9, va_K.moved hW.alike hK, hD9⟩, hS.F ht⟩) hS.2.2 dX1_passTime_50
set_option maxHeartbeats 4000000 in
set_option maxRecDepth 100000 in
theorem c_X1_wearOff (l : Launch) (D : va_G) (cI : ClassId) (sz : Nat) (a : Nat → Nat) (σ : SS) (x : Int32) : Met l yX1_wearOff wsX1_wearOff ({ frames := 2, cells := 0, slots := 0, locals := 48 } : Room) (va_Pc [.ref (a 0), .int x] (preM D cI (sW cI a σ) sz)) (va_Qv (fun (u : SS) => u = wearF σ x) (fun (u : SS) => posM D cI (va_A (sW cI a σ) sz) (sW cI a u)) (va_A (sW cI a σ) sz)) 0 0 (va_A (sW cI a σ) sz) := by
  refine Met.ofW (cc := cX1_wearOff) (maxL := 4) (ret := none) (by decide) rfl ?_
  intro p e s m args below meth c s₁ B hml hv
  obtain ⟨rfl, hsz, hP, hK, hE, hD0⟩ := hv
  have hx := B.exec
  have hb := B.bytes
  have hr := B.returns
  have hts := atoms_spec (ws := wsX1_wearOff) B.pre
  have hown : s.vm.findClass RX1 = some m.cls := findClass_of_methodNamed B.named
  have hlocks := B.notSynchronized
  subst hsz
  have hD := hD0.self (sz := s.heap.size)
  generalize hAe : va_A (sW cI a σ) s.heap.size = A at hD ⊢
  have hA : ∀ q : Nat, s.heap.size ≤ q → A q := fun q h => by rw [← hAe]; exact Or.inr h
  have hS : va_S A s.heap s.heap [] := va_S.rf
  have hP : va_P D vwCl (sW cI a σ) s.heap := hP
  have hl := lv_entry ([.ref (a 0), .int x]) (n := 4) (Nat.le_of_ble_eq_true rfl)
  rw [lg_entry_eq]
  generalize (lg_sl ([.ref (a 0), .int x]) ++ List.replicate (4 - (lg_sl ([.ref (a 0), .int x])).length) Slot.unset).toArray = ls at hl ⊢
  have hl : lv_has ls 4 [(0, .ref (a 0)), (1, .int x)] := hl
  refine lv_aload_n hx hb dX1_wearOff_0 rfl (lv_at hl 0 rfl) ?_
  refine lv_iload_n hx hb dX1_wearOff_1 rfl (lv_at hl 1 rfl) ?_
  refine lv_aload_n hx hb dX1_wearOff_2 rfl (lv_at hl 0 rfl) ?_
  refine lv_iload_n hx hb dX1_wearOff_3 rfl (lv_at hl 1 rfl) ?_
  refine lv_iconst (v := 0) hx hb dX1_wearOff_4 (by decide) ?_
  refine vp_callSi (va_Run.run (va_runV (As := [.int x, .int 0]) (rest := [.int x, .ref (a 0)]) ⟨hx, hb, hml, hown, hts⟩ (c_X2_stackOf l D cI a σ x 0) (cwV 2 hts gX1_wearOff_X2_stackOf rfl rfl rfl (by decide +kernel) ⟨Nat.le_of_ble_eq_true rfl, Nat.le_of_ble_eq_true rfl⟩) ⟨preR_blind, va_recv hK hP (ci := 2) (q0 := 0) rfl rfl, preR_of hP hK hE [.ref (a 0), .int x, .int 0]⟩ rfl rfl hl.1 rfl (lv_room (Nat.le_of_ble_eq_true rfl)) dX1_wearOff_5 ⟨Nat.zero_le _, Nat.zero_le _⟩)) (fun r hr9 => ?_)
  subst hr9
  have hFc := va_free (wc := sW cI a σ) hD hS hA [0, 1, 2, 3, 4, 5] rfl
  refine va_calli (va_runV (As := [.int x, .int (stackF σ x 0)]) (rest := []) ⟨hx, hb, hml, hown, hts⟩ (c_X2_takeLife l D cI _ a σ x (stackF σ x 0)) (cwV 2 hts gX1_wearOff_X2_takeLife rfl rfl rfl (by decide +kernel) ⟨Nat.le_of_ble_eq_true rfl, Nat.le_of_ble_eq_true rfl⟩) ⟨preM_blind, va_recv hK hP (ci := 2) (q0 := 0) rfl rfl, preM_of hP hK hE hD [.ref (a 0), .int x, .int (stackF σ x 0)]⟩ rfl rfl hl.1 rfl (lv_room (Nat.le_of_ble_eq_true rfl)) dX1_wearOff_8 ⟨Nat.le_of_ble_eq_true rfl, Nat.le_of_ble_eq_true rfl⟩) hS (fun q _ h => hFc q h) hFc (fun r u t9 H1 locs ht hvm hw hB hz1 hk1 hS => ?_)
  obtain ⟨hP1, hK1, hD1⟩ := hB
  rw [ht] at hP1
  obtain ⟨rfl, rfl⟩ := hw
  obtain ⟨hP, hD⟩ := va_join (wr := []) (w1 := sW cI a (takeF σ x (stackF σ x 0))) hP hD [0, 1, 2, 3, 4, 5] [] rfl rfl (by decide) (by decide) hk1 hFc hP1 hD1
  generalize H1 = H at hP hS ⊢
  have hP : va_P D vwCl (sW cI a (takeF σ x (stackF σ x 0))) H := hP
  have hD : va_D A (sW cI a (takeF σ x (stackF σ x 0))) := hD
  refine lv_pop hx hb dX1_wearOff_11 rfl ?_
  refine lv_aload_n hx hb dX1_wearOff_12 rfl (lv_at hl 0 rfl) ?_
  refine lv_iload_n hx hb dX1_wearOff_13 rfl (lv_at hl 1 rfl) ?_
  refine vp_callSi (va_Run.run (va_runV (As := [.int x]) (rest := []) ⟨hx, hb, hml, hown, hts⟩ (c_X2_isAlive l D cI a (takeF σ x (stackF σ x 0)) x) (cwV 1 hts gX1_wearOff_X2_isAlive rfl rfl rfl (by decide +kernel) ⟨Nat.le_of_ble_eq_true rfl, Nat.le_of_ble_eq_true rfl⟩) ⟨preR_blind, va_recv hK hP (ci := 2) (q0 := 0) rfl rfl, preR_of hP hK hE [.ref (a 0), .int x]⟩ rfl rfl hl.1 rfl (lv_room (Nat.le_of_ble_eq_true rfl)) dX1_wearOff_14 ⟨Nat.zero_le _, Nat.zero_le _⟩)) (fun r hr9 => ?_)
  subst hr9
  have L50 : ∀ (τ : SS) (hsp0 : τ = restF (takeF σ x (stackF σ x 0)) x) (H : Heap) (locs : List Loc) (ls : Array Slot), lv_has ls 4 [(0, .ref (a 0)), (1, .int x)] → va_P D vwCl (sW cI a τ) H → va_D A (sW cI a τ) → va_S A s.heap H locs → W p l e ({ frames := 2, cells := 0, slots := 0, locals := 48 } : Room) s m ([.ref (a 0), .int x] : List Value).toArray below meth c H locs 0 0 (MQ below (va_Qv (fun (u : SS) => u = wearF σ x) (fun (u : SS) => posM D cI A (sW cI a u)) A) ([.ref (a 0), .int x] : List Value).toArray s 0 0 A) (F0 m 50 ls []) := by
    intro τ hsp0 H locs ls hl hP hD hS
    refine lv_iconst (v := 0) hx hb dX1_wearOff_50 (by decide) ?_
    refine lv_istore_n (lv' := [(2, .int 0), (0, .ref (a 0)), (1, .int x)]) hx hb dX1_wearOff_51 rfl hl (by decide) rfl (fun ls hl => ?_)
    have L52 : ∀ (n k : Nat) (τ1 : SS) (hk : k + n = 5) (hsp : wearF σ x = offL x n k τ1) (H : Heap) (locs : List Loc) (ls : Array Slot), lv_has ls 4 [(2, .int (nI k)), (0, .ref (a 0)), (1, .int x)] → va_P D vwCl (sW cI a τ1) H → va_D A (sW cI a τ1) → va_S A s.heap H locs → W p l e ({ frames := 2, cells := 0, slots := 0, locals := 48 } : Room) s m ([.ref (a 0), .int x] : List Value).toArray below meth c H locs 0 0 (MQ below (va_Qv (fun (u : SS) => u = wearF σ x) (fun (u : SS) => posM D cI A (sW cI a u)) A) ([.ref (a 0), .int x] : List Value).toArray s 0 0 A) (F0 m 52 ls []) := by
      intro n
      induction n with
      | zero =>
        intro k τ1 hk hsp H locs ls hl hP hD hS
        refine lv_iload_n hx hb dX1_wearOff_52 rfl (lv_at hl 0 rfl) ?_
        refine lv_iconst (v := 5) hx hb dX1_wearOff_53 (by decide) ?_
        refine lv_icmp_ge (tgt := 97) hx hb dX1_wearOff_54 (by decide) (fun c_54 => ?_) (fun c_54 => absurd (nI_le (a := 5) (by omega) (by omega)) c_54)
        have hP9 := hP
        have hD9 := hD
        exact W.vret hx hb hr (fun T9 ht hW => ⟨⟨τ1, rfl, by rw [hsp]; rfl, by rw [ht]; exact hP9, va_K.moved hW.alike hK, hD9⟩, hS.F ht⟩) hS.2.2 dX1_wearOff_97
      | succ n ih52 =>
        intro k τ1 hk hsp H locs ls hl hP hD hS
        refine lv_iload_n hx hb dX1_wearOff_52 rfl (lv_at hl 0 rfl) ?_
        refine lv_iconst (v := 5) hx hb dX1_wearOff_53 (by decide) ?_
        refine lv_icmp_ge (tgt := 97) hx hb dX1_wearOff_54 (by decide) (fun c_54 => absurd c_54 (nI_ge (b := 5) (by omega) (by omega))) (fun c_54 => ?_)
        refine lv_aload_n hx hb dX1_wearOff_57 rfl (lv_at hl 1 rfl) ?_
        refine lv_iload_n hx hb dX1_wearOff_58 rfl (lv_at hl 2 rfl) ?_
        refine lv_iload_n hx hb dX1_wearOff_59 rfl (lv_at hl 0 rfl) ?_
        refine vp_callSi (va_Run.run (va_runV (As := [.int x, .int (nI k)]) (rest := []) ⟨hx, hb, hml, hown, hts⟩ (c_X2_turnsOf l D cI a τ1 x (nI k)) (cwV 2 hts gX1_wearOff_X2_turnsOf rfl rfl rfl (by decide +kernel) ⟨Nat.le_of_ble_eq_true rfl, Nat.le_of_ble_eq_true rfl⟩) ⟨preR_blind, va_recv hK hP (ci := 2) (q0 := 0) rfl rfl, preR_of hP hK hE [.ref (a 0), .int x, .int (nI k)]⟩ rfl rfl hl.1 rfl (lv_room (Nat.le_of_ble_eq_true rfl)) dX1_wearOff_60 ⟨Nat.zero_le _, Nat.zero_le _⟩)) (fun r hr9 => ?_)
        subst hr9
        refine lv_iconst (v := 1) hx hb dX1_wearOff_63 (by decide) ?_
        refine lv_isub hx hb dX1_wearOff_64 ?_
        refine lv_istore_n (lv' := [(3, .int ((turnsF τ1 x (nI k)) - 1)), (2, .int (nI k)), (0, .ref (a 0)), (1, .int x)]) hx hb dX1_wearOff_65 rfl hl (by decide) rfl (fun ls hl => ?_)
        refine lv_aload_n hx hb dX1_wearOff_66 rfl (lv_at hl 2 rfl) ?_
        refine lv_iload_n hx hb dX1_wearOff_67 rfl (lv_at hl 3 rfl) ?_
        refine lv_iload_n hx hb dX1_wearOff_68 rfl (lv_at hl 1 rfl) ?_
        refine lv_iload_n hx hb dX1_wearOff_69 rfl (lv_at hl 0 rfl) ?_
        refine lv_if_le (tgt := 82) hx hb dX1_wearOff_70 (by decide) (fun c_70 => ?_) (fun c_70 => ?_)
        · refine lv_iconst (v := 0) hx hb dX1_wearOff_82 (by decide) ?_
          refine lv_iload_n hx hb dX1_wearOff_83 rfl (lv_at hl 0 rfl) ?_
          refine lv_iconst (v := 0) hx hb dX1_wearOff_84 (by decide) ?_
          refine va_mmax hx hb (hml.trans hl.1.symm) hown (hts (.methodLink RX1 102 Lib.Math.max.name) (by decide +kernel)) (hts (.static Lib.Math.max.name) (by decide +kernel)) (hts (.initialized "java/lang/Math") (by decide +kernel)) (hts (.code Lib.Math.max.name Lib.Math.max.code 2 (some .int)) (by decide +kernel)) (Nat.le_of_ble_eq_true rfl) (Nat.le_of_ble_eq_true rfl) (Nat.le_of_ble_eq_true rfl) (Nat.le_of_ble_eq_true rfl) dX1_wearOff_85 ?_
          have hFc := va_free (wc := sW cI a τ1) hD hS hA [0, 1, 2, 3, 4, 5] rfl
          refine va_callv (va_runV (As := [.int x, .int (nI k), .int 0, .int (maxI ((turnsF τ1 x (nI k)) - 1) 0)]) (rest := []) ⟨hx, hb, hml, hown, hts⟩ (c_X2_putEffect l D cI _ a τ1 x (nI k) 0 (maxI ((turnsF τ1 x (nI k)) - 1) 0)) (cwV 4 hts gX1_wearOff_X2_putEffect rfl rfl rfl (by decide +kernel) ⟨Nat.le_of_ble_eq_true rfl, Nat.le_of_ble_eq_true rfl⟩) ⟨preM_blind, va_recv hK hP (ci := 2) (q0 := 0) rfl rfl, preM_of hP hK hE hD [.ref (a 0), .int x, .int (nI k), .int 0, .int (maxI ((turnsF τ1 x (nI k)) - 1) 0)]⟩ rfl rfl hl.1 rfl (lv_room (Nat.le_of_ble_eq_true rfl)) dX1_wearOff_88 ⟨Nat.le_of_ble_eq_true rfl, Nat.le_of_ble_eq_true rfl⟩) hS (fun q _ h => hFc q h) hFc (fun u t9 H1 locs ht hvm hw hB hz1 hk1 hS => ?_)
          obtain ⟨hP1, hK1, hD1⟩ := hB
          rw [ht] at hP1
          subst hw
          obtain ⟨hP, hD⟩ := va_join (wr := []) (w1 := sW cI a (putEffectF τ1 x (nI k) 0 (maxI ((turnsF τ1 x (nI k)) - 1) 0))) hP hD [0, 1, 2, 3, 4, 5] [] rfl rfl (by decide) (by decide) hk1 hFc hP1 hD1
          generalize H1 = H at hP hS ⊢
          have hP : va_P D vwCl (sW cI a (putEffectF τ1 x (nI k) 0 (maxI ((turnsF τ1 x (nI k)) - 1) 0))) H := hP
          have hD : va_D A (sW cI a (putEffectF τ1 x (nI k) 0 (maxI ((turnsF τ1 x (nI k)) - 1) 0))) := hD
          refine lv_iinc (v := (nI (k + 1))) (lv' := [(2, .int (nI (k + 1))), (3, .int ((turnsF τ1 x (nI k)) - 1)), (0, .ref (a 0)), (1, .int x)]) hx hb dX1_wearOff_91 hl (k := 1) rfl (nI_1 k) (by decide) rfl (fun ls hl => ?_)
          refine lv_goto (tgt := 52) hx hb dX1_wearOff_94 (by decide) ?_
          exact ih52 (k + 1) (putEffectF τ1 x (nI k) 0 (maxI ((turnsF τ1 x (nI k)) - 1) 0)) (by omega) (by rw [hsp]; simp [offL, c_70]) _ _ ls (lv_sub hl [0, 2, 3] rfl) hP hD hS
        · refine lv_aload_n hx hb dX1_wearOff_73 rfl (lv_at hl 2 rfl) ?_
          refine lv_iload_n hx hb dX1_wearOff_74 rfl (lv_at hl 3 rfl) ?_
          refine lv_iload_n hx hb dX1_wearOff_75 rfl (lv_at hl 1 rfl) ?_
          refine vp_callSi (va_Run.run (va_runV (As := [.int x, .int (nI k)]) (rest := [.int (nI k), .int x, .ref (a 0)]) ⟨hx, hb, hml, hown, hts⟩ (c_X2_stackOf l D cI a τ1 x (nI k)) (cwV 2 hts gX1_wearOff_X2_stackOf rfl rfl rfl (by decide +kernel) ⟨Nat.le_of_ble_eq_true rfl, Nat.le_of_ble_eq_true rfl⟩) ⟨preR_blind, va_recv hK hP (ci := 2) (q0 := 0) rfl rfl, preR_of hP hK hE [.ref (a 0), .int x, .int (nI k)]⟩ rfl rfl hl.1 rfl (lv_room (Nat.le_of_ble_eq_true rfl)) dX1_wearOff_76 ⟨Nat.zero_le _, Nat.zero_le _⟩)) (fun r hr9 => ?_)
          subst hr9
          refine lv_goto (tgt := 83) hx hb dX1_wearOff_79 (by decide) ?_
          refine lv_iload_n hx hb dX1_wearOff_83 rfl (lv_at hl 0 rfl) ?_
          refine lv_iconst (v := 0) hx hb dX1_wearOff_84 (by decide) ?_
          refine va_mmax hx hb (hml.trans hl.1.symm) hown (hts (.methodLink RX1 102 Lib.Math.max.name) (by decide +kernel)) (hts (.static Lib.Math.max.name) (by decide +kernel)) (hts (.initialized "java/lang/Math") (by decide +kernel)) (hts (.code Lib.Math.max.name Lib.Math.max.code 2 (some .int)) (by decide +kernel)) (Nat.le_of_ble_eq_true rfl) (Nat.le_of_ble_eq_true rfl) (Nat.le_of_ble_eq_true rfl) (Nat.le_of_ble_eq_true rfl) dX1_wearOff_85 ?_
          have hFc := va_free (wc := sW cI a τ1) hD hS hA [0, 1, 2, 3, 4, 5] rfl
          refine va_callv (va_runV (As := [.int x, .int (nI k), .int (stackF τ1 x (nI k)), .int (maxI ((turnsF τ1 x (nI k)) - 1) 0)]) (rest := []) ⟨hx, hb, hml, hown, hts⟩ (c_X2_putEffect l D cI _ a τ1 x (nI k) (stackF τ1 x (nI k)) (maxI ((turnsF τ1 x (nI k)) - 1) 0)) (cwV 4 hts gX1_wearOff_X2_putEffect rfl rfl rfl (by decide +kernel) ⟨Nat.le_of_ble_eq_true rfl, Nat.le_of_ble_eq_true rfl⟩) ⟨preM_blind, va_recv hK hP (ci := 2) (q0 := 0) rfl rfl, preM_of hP hK hE hD [.ref (a 0), .int x, .int (nI k), .int (stackF τ1 x (nI k)), .int (maxI ((turnsF τ1 x (nI k)) - 1) 0)]⟩ rfl rfl hl.1 rfl (lv_room (Nat.le_of_ble_eq_true rfl)) dX1_wearOff_88 ⟨Nat.le_of_ble_eq_true rfl, Nat.le_of_ble_eq_true rfl⟩) hS (fun q _ h => hFc q h) hFc (fun u t9 H1 locs ht hvm hw hB hz1 hk1 hS => ?_)
          obtain ⟨hP1, hK1, hD1⟩ := hB
          rw [ht] at hP1
          subst hw
          obtain ⟨hP, hD⟩ := va_join (wr := []) (w1 := sW cI a (putEffectF τ1 x (nI k) (stackF τ1 x (nI k)) (maxI ((turnsF τ1 x (nI k)) - 1) 0))) hP hD [0, 1, 2, 3, 4, 5] [] rfl rfl (by decide) (by decide) hk1 hFc hP1 hD1
          generalize H1 = H at hP hS ⊢
          have hP : va_P D vwCl (sW cI a (putEffectF τ1 x (nI k) (stackF τ1 x (nI k)) (maxI ((turnsF τ1 x (nI k)) - 1) 0))) H := hP
          have hD : va_D A (sW cI a (putEffectF τ1 x (nI k) (stackF τ1 x (nI k)) (maxI ((turnsF τ1 x (nI k)) - 1) 0))) := hD
          refine lv_iinc (v := (nI (k + 1))) (lv' := [(2, .int (nI (k + 1))), (3, .int ((turnsF τ1 x (nI k)) - 1)), (0, .ref (a 0)), (1, .int x)]) hx hb dX1_wearOff_91 hl (k := 1) rfl (nI_1 k) (by decide) rfl (fun ls hl => ?_)
          refine lv_goto (tgt := 52) hx hb dX1_wearOff_94 (by decide) ?_
          exact ih52 (k + 1) (putEffectF τ1 x (nI k) (stackF τ1 x (nI k)) (maxI ((turnsF τ1 x (nI k)) - 1) 0)) (by omega) (by rw [hsp]; simp [offL, c_70]) _ _ ls (lv_sub hl [0, 2, 3] rfl) hP hD hS
    exact L52 5 0 τ (by omega) (by rw [hsp0]; rfl) _ _ ls (lv_sub hl [0, 1, 2] rfl) hP hD hS
  refine w_bz (tgt := 50) hx hb dX1_wearOff_17 (by decide) (fun c_17 => ?_) (fun c_17 => ?_)
  · exact L50 (takeF σ x (stackF σ x 0)) (by simp [restF, c_17]) _ _ ls (lv_sub hl [0, 1] rfl) hP hD hS
  · refine lv_aload_n hx hb dX1_wearOff_20 rfl (lv_at hl 0 rfl) ?_
    refine lv_iload_n hx hb dX1_wearOff_21 rfl (lv_at hl 1 rfl) ?_
    refine lv_iconst (v := 2) hx hb dX1_wearOff_22 (by decide) ?_
    refine vp_callSi (va_Run.run (va_runV (As := [.int x, .int 2]) (rest := []) ⟨hx, hb, hml, hown, hts⟩ (c_X2_trait l D cI a (takeF σ x (stackF σ x 0)) x 2) (cwV 2 hts gX1_wearOff_X2_trait rfl rfl rfl (by decide +kernel) ⟨Nat.le_of_ble_eq_true rfl, Nat.le_of_ble_eq_true rfl⟩) ⟨preR_blind, va_recv hK hP (ci := 2) (q0 := 0) rfl rfl, preR_of hP hK hE [.ref (a 0), .int x, .int 2]⟩ rfl rfl hl.1 rfl (lv_room (Nat.le_of_ble_eq_true rfl)) dX1_wearOff_23 ⟨Nat.zero_le _, Nat.zero_le _⟩)) (fun r hr9 => ?_)
    subst hr9
    refine lv_aload_n hx hb dX1_wearOff_26 rfl (lv_at hl 0 rfl) ?_
    refine lv_iload_n hx hb dX1_wearOff_27 rfl (lv_at hl 1 rfl) ?_
    refine lv_iconst (v := 1) hx hb dX1_wearOff_28 (by decide) ?_
    refine vp_callSi (va_Run.run (va_runV (As := [.int x, .int 1]) (rest := [.int (traitF (takeF σ x (stackF σ x 0)) x 2)]) ⟨hx, hb, hml, hown, hts⟩ (c_X2_stackOf l D cI a (takeF σ x (stackF σ x 0)) x 1) (cwV 2 hts gX1_wearOff_X2_stackOf rfl rfl rfl (by decide +kernel) ⟨Nat.le_of_ble_eq_true rfl, Nat.le_of_ble_eq_true rfl⟩) ⟨preR_blind, va_recv hK hP (ci := 2) (q0 := 0) rfl rfl, preR_of hP hK hE [.ref (a 0), .int x, .int 1]⟩ rfl rfl hl.1 rfl (lv_room (Nat.le_of_ble_eq_true rfl)) dX1_wearOff_29 ⟨Nat.zero_le _, Nat.zero_le _⟩)) (fun r hr9 => ?_)
    subst hr9
    refine lv_iadd hx hb dX1_wearOff_32 ?_
    refine lv_istore_n (lv' := [(2, .int ((traitF (takeF σ x (stackF σ x 0)) x 2) + (stackF (takeF σ x (stackF σ x 0)) x 1))), (0, .ref (a 0)), (1, .int x)]) hx hb dX1_wearOff_33 rfl hl (by decide) rfl (fun ls hl => ?_)
    refine lv_aload_n hx hb dX1_wearOff_34 rfl (lv_at hl 1 rfl) ?_
    refine lv_iload_n hx hb dX1_wearOff_35 rfl (lv_at hl 2 rfl) ?_
    refine lv_iconst (v := 2) hx hb dX1_wearOff_36 (by decide) ?_
    refine lv_iload_n hx hb dX1_wearOff_37 rfl (lv_at hl 0 rfl) ?_
    refine lv_aload_n hx hb dX1_wearOff_38 rfl (lv_at hl 1 rfl) ?_
    refine lv_iload_n hx hb dX1_wearOff_39 rfl (lv_at hl 2 rfl) ?_
    refine lv_iconst (v := 3) hx hb dX1_wearOff_40 (by decide) ?_
    refine vp_callSi (va_Run.run (va_runV (As := [.int x, .int 3]) (rest := [.int ((traitF (takeF σ x (stackF σ x 0)) x 2) + (stackF (takeF σ x (stackF σ x 0)) x 1)), .int 2, .int x, .ref (a 0)]) ⟨hx, hb, hml, hown, hts⟩ (c_X2_trait l D cI a (takeF σ x (stackF σ x 0)) x 3) (cwV 2 hts gX1_wearOff_X2_trait rfl rfl rfl (by decide +kernel) ⟨Nat.le_of_ble_eq_true rfl, Nat.le_of_ble_eq_true rfl⟩) ⟨preR_blind, va_recv hK hP (ci := 2) (q0 := 0) rfl rfl, preR_of hP hK hE [.ref (a 0), .int x, .int 3]⟩ rfl rfl hl.1 rfl (lv_room (Nat.le_of_ble_eq_true rfl)) dX1_wearOff_41 ⟨Nat.zero_le _, Nat.zero_le _⟩)) (fun r hr9 => ?_)
    subst hr9
    refine va_mmin hx hb (hml.trans hl.1.symm) hown (hts (.methodLink RX1 50 Lib.Math.min.name) (by decide +kernel)) (hts (.static Lib.Math.min.name) (by decide +kernel)) (hts (.initialized "java/lang/Math") (by decide +kernel)) (hts (.code Lib.Math.min.name Lib.Math.min.code 2 (some .int)) (by decide +kernel)) (Nat.le_of_ble_eq_true rfl) (Nat.le_of_ble_eq_true rfl) (Nat.le_of_ble_eq_true rfl) (Nat.le_of_ble_eq_true rfl) dX1_wearOff_44 ?_
    have hFc := va_free (wc := sW cI a (takeF σ x (stackF σ x 0))) hD hS hA [0, 1, 2, 3, 4, 5] rfl
    refine va_callv (va_runV (As := [.int x, .int 2, .int (minI ((traitF (takeF σ x (stackF σ x 0)) x 2) + (stackF (takeF σ x (stackF σ x 0)) x 1)) (traitF (takeF σ x (stackF σ x 0)) x 3))]) (rest := []) ⟨hx, hb, hml, hown, hts⟩ (c_X2_putTrait l D cI _ a (takeF σ x (stackF σ x 0)) x 2 (minI ((traitF (takeF σ x (stackF σ x 0)) x 2) + (stackF (takeF σ x (stackF σ x 0)) x 1)) (traitF (takeF σ x (stackF σ x 0)) x 3))) (cwV 3 hts gX1_wearOff_X2_putTrait rfl rfl rfl (by decide +kernel) ⟨Nat.le_of_ble_eq_true rfl, Nat.le_of_ble_eq_true rfl⟩) ⟨preM_blind, va_recv hK hP (ci := 2) (q0 := 0) rfl rfl, preM_of hP hK hE hD [.ref (a 0), .int x, .int 2, .int (minI ((traitF (takeF σ x (stackF σ x 0)) x 2) + (stackF (takeF σ x (stackF σ x 0)) x 1)) (traitF (takeF σ x (stackF σ x 0)) x 3))]⟩ rfl rfl hl.1 rfl (lv_room (Nat.le_of_ble_eq_true rfl)) dX1_wearOff_47 ⟨Nat.le_of_ble_eq_true rfl, Nat.le_of_ble_eq_true rfl⟩) hS (fun q _ h => hFc q h) hFc (fun u t9 H1 locs ht hvm hw hB hz1 hk1 hS => ?_)
    obtain ⟨hP1, hK1, hD1⟩ := hB
    rw [ht] at hP1
    subst hw
    obtain ⟨hP, hD⟩ := va_join (wr := []) (w1 := sW cI a (putTraitF (takeF σ x (stackF σ x 0)) x 2 (minI ((traitF (takeF σ x (stackF σ x 0)) x 2) + (stackF (takeF σ x (stackF σ x 0)) x 1)) (traitF (takeF σ x (stackF σ x 0)) x 3)))) hP hD [0, 1, 2, 3, 4, 5] [] rfl rfl (by decide) (by decide) hk1 hFc hP1 hD1
    generalize H1 = H at hP hS ⊢
    have hP : va_P D vwCl (sW cI a (putTraitF (takeF σ x (stackF σ x 0)) x 2 (minI ((traitF (takeF σ x (stackF σ x 0)) x 2) + (stackF (takeF σ x (stackF σ x 0)) x 1)) (traitF (takeF σ x (stackF σ x 0)) x 3)))) H := hP
    have hD : va_D A (sW cI a (putTraitF (takeF σ x (stackF σ x 0)) x 2 (minI ((traitF (takeF σ x (stackF σ x 0)) x 2) + (stackF (takeF σ x (stackF σ x 0)) x 1)) (traitF (takeF σ x (stackF σ x 0)) x 3)))) := hD
    exact L50 (putTraitF (takeF σ x (stackF σ x 0)) x 2 (minI ((traitF (takeF σ x (stackF σ x 0)) x 2) + (stackF (takeF σ x (stackF σ x 0)) x 1)) (traitF (takeF σ x (stackF σ x 0)) x 3))) (by simp [restF, c_17]) _ _ ls (lv_sub hl [1, 2] rfl) hP hD hS
set_option maxHeartbeats 4000000 in
set_option maxRecDepth 100000 in
theorem c_X1_conjure (l : Launch) (D : va_G) (cI : ClassId) (sz : Nat) (a : Nat → Nat) (σ : SS) (x y : Int32) (hn : s_n σ ≤ 10) : Met l yX1_conjure wsX1_conjure ({ frames := 4, cells := 0, slots := 0, locals := 96 } : Room) (va_Pc [.ref (a 0), .int x, .int y] (preM D cI (sW cI a σ) sz)) (va_Qv (fun (u : SS) => u = conjF σ x y) (fun (u : SS) => posM D cI (va_A (sW cI a σ) sz) (sW cI a u)) (va_A (sW cI a σ) sz)) 0 0 (va_A (sW cI a σ) sz) := by
  refine Met.ofW (cc := cX1_conjure) (maxL := 3) (ret := none) (by decide) rfl ?_
  intro p e s m args below meth c s₁ B hml hv
  obtain ⟨rfl, hsz, hP, hK, hE, hD0⟩ := hv
  have hx := B.exec
  have hb := B.bytes
  have hr := B.returns
  have hts := atoms_spec (ws := wsX1_conjure) B.pre
  have hown : s.vm.findClass RX1 = some m.cls := findClass_of_methodNamed B.named
  have hlocks := B.notSynchronized
  subst hsz
  have hD := hD0.self (sz := s.heap.size)
  generalize hAe : va_A (sW cI a σ) s.heap.size = A at hD ⊢
  have hA : ∀ q : Nat, s.heap.size ≤ q → A q := fun q h => by rw [← hAe]; exact Or.inr h
  have hS : va_S A s.heap s.heap [] := va_S.rf
  have hP : va_P D vwCl (sW cI a σ) s.heap := hP
  have hl := lv_entry ([.ref (a 0), .int x, .int y]) (n := 3) (Nat.le_of_ble_eq_true rfl)
  rw [lg_entry_eq]
  generalize (lg_sl ([.ref (a 0), .int x, .int y]) ++ List.replicate (3 - (lg_sl ([.ref (a 0), .int x, .int y])).length) Slot.unset).toArray = ls at hl ⊢
  have hl : lv_has ls 3 [(0, .ref (a 0)), (1, .int x), (2, .int y)] := hl
  refine lv_aload_n hx hb dX1_conjure_0 rfl (lv_at hl 0 rfl) ?_
  refine lv_iload_n hx hb dX1_conjure_1 rfl (lv_at hl 1 rfl) ?_
  refine lv_bipush (v := 7) hx hb dX1_conjure_2 (by decide) ?_
  refine lv_aload_n hx hb dX1_conjure_4 rfl (lv_at hl 0 rfl) ?_
  refine lv_iload_n hx hb dX1_conjure_5 rfl (lv_at hl 1 rfl) ?_
  refine lv_bipush (v := 7) hx hb dX1_conjure_6 (by decide) ?_
  refine vp_callSi (va_Run.run (va_runV (As := [.int x, .int 7]) (rest := [.int 7, .int x, .ref (a 0)]) ⟨hx, hb, hml, hown, hts⟩ (c_X2_trait l D cI a σ x 7) (cwV 2 hts gX1_conjure_X2_trait rfl rfl rfl (by decide +kernel) ⟨Nat.le_of_ble_eq_true rfl, Nat.le_of_ble_eq_true rfl⟩) ⟨preR_blind, va_recv hK hP (ci := 2) (q0 := 0) rfl rfl, preR_of hP hK hE [.ref (a 0), .int x, .int 7]⟩ rfl rfl hl.1 rfl (lv_room (Nat.le_of_ble_eq_true rfl)) dX1_conjure_8 ⟨Nat.zero_le _, Nat.zero_le _⟩)) (fun r hr9 => ?_)
  subst hr9
  refine lv_iconst (v := 3) hx hb dX1_conjure_11 (by decide) ?_
  refine lv_isub hx hb dX1_conjure_12 ?_
  have hFc := va_free (wc := sW cI a σ) hD hS hA [0, 1, 2, 3, 4, 5] rfl
  refine va_callv (va_runV (As := [.int x, .int 7, .int ((traitF σ x 7) - 3)]) (rest := []) ⟨hx, hb, hml, hown, hts⟩ (c_X2_putTrait l D cI _ a σ x 7 ((traitF σ x 7) - 3)) (cwV 3 hts gX1_conjure_X2_putTrait rfl rfl rfl (by decide +kernel) ⟨Nat.le_of_ble_eq_true rfl, Nat.le_of_ble_eq_true rfl⟩) ⟨preM_blind, va_recv hK hP (ci := 2) (q0 := 0) rfl rfl, preM_of hP hK hE hD [.ref (a 0), .int x, .int 7, .int ((traitF σ x 7) - 3)]⟩ rfl rfl hl.1 rfl (lv_room (Nat.le_of_ble_eq_true rfl)) dX1_conjure_13 ⟨Nat.le_of_ble_eq_true rfl, Nat.le_of_ble_eq_true rfl⟩) hS (fun q _ h => hFc q h) hFc (fun u t9 H1 locs ht hvm hw hB hz1 hk1 hS => ?_)
  obtain ⟨hP1, hK1, hD1⟩ := hB
  rw [ht] at hP1
  subst hw
  obtain ⟨hP, hD⟩ := va_join (wr := []) (w1 := sW cI a (putTraitF σ x 7 ((traitF σ x 7) - 3))) hP hD [0, 1, 2, 3, 4, 5] [] rfl rfl (by decide) (by decide) hk1 hFc hP1 hD1
  generalize H1 = H at hP hS ⊢
  have hP : va_P D vwCl (sW cI a (putTraitF σ x 7 ((traitF σ x 7) - 3))) H := hP
  have hD : va_D A (sW cI a (putTraitF σ x 7 ((traitF σ x 7) - 3))) := hD
  refine lv_iload_n hx hb dX1_conjure_16 rfl (lv_at hl 2 rfl) ?_
  refine lv_iconst (v := 5) hx hb dX1_conjure_17 (by decide) ?_
  refine lv_icmp_ne (tgt := 36) hx hb dX1_conjure_18 (by decide) (fun c_18 => ?_) (fun c_18 => ?_)
  · refine lv_iload_n hx hb dX1_conjure_36 rfl (lv_at hl 2 rfl) ?_
    refine lv_bipush (v := 6) hx hb dX1_conjure_37 (by decide) ?_
    refine lv_icmp_ne (tgt := 53) hx hb dX1_conjure_39 (by decide) (fun c_39 => ?_) (fun c_39 => ?_)
    · refine lv_aload_n hx hb dX1_conjure_53 rfl (lv_at hl 0 rfl) ?_
      refine lv_iload_n hx hb dX1_conjure_54 rfl (lv_at hl 1 rfl) ?_
      refine lv_iconst (v := 1) hx hb dX1_conjure_55 (by decide) ?_
      refine lv_iconst (v := 2) hx hb dX1_conjure_56 (by decide) ?_
      refine lv_iconst (v := 4) hx hb dX1_conjure_57 (by decide) ?_
      have hFc := va_free (wc := sW cI a (putTraitF σ x 7 ((traitF σ x 7) - 3))) hD hS hA [0, 1, 2, 3, 4, 5] rfl
      refine va_callv (va_runV (As := [.int x, .int 1, .int 2, .int 4]) (rest := []) ⟨hx, hb, hml, hown, hts⟩ (c_X2_addEffect l D cI _ a (putTraitF σ x 7 ((traitF σ x 7) - 3)) x 1 2 4) (cwV 4 hts gX1_conjure_X2_addEffect rfl rfl rfl (by decide +kernel) ⟨Nat.le_of_ble_eq_true rfl, Nat.le_of_ble_eq_true rfl⟩) ⟨preM_blind, va_recv hK hP (ci := 2) (q0 := 0) rfl rfl, preM_of hP hK hE hD [.ref (a 0), .int x, .int 1, .int 2, .int 4]⟩ rfl rfl hl.1 rfl (lv_room (Nat.le_of_ble_eq_true rfl)) dX1_conjure_58 ⟨Nat.le_of_ble_eq_true rfl, Nat.le_of_ble_eq_true rfl⟩) hS (fun q _ h => hFc q h) hFc (fun u t9 H1 locs ht hvm hw hB hz1 hk1 hS => ?_)
      obtain ⟨hP1, hK1, hD1⟩ := hB
      rw [ht] at hP1
      subst hw
      obtain ⟨hP, hD⟩ := va_join (wr := []) (w1 := sW cI a (addEffectF (putTraitF σ x 7 ((traitF σ x 7) - 3)) x 1 2 4)) hP hD [0, 1, 2, 3, 4, 5] [] rfl rfl (by decide) (by decide) hk1 hFc hP1 hD1
      generalize H1 = H at hP hS ⊢
      have hP : va_P D vwCl (sW cI a (addEffectF (putTraitF σ x 7 ((traitF σ x 7) - 3)) x 1 2 4)) H := hP
      have hD : va_D A (sW cI a (addEffectF (putTraitF σ x 7 ((traitF σ x 7) - 3)) x 1 2 4)) := hD
      have hP9 := hP
      have hD9 := hD
      exact W.vret hx hb hr (fun T9 ht hW => ⟨⟨(addEffectF (putTraitF σ x 7 ((traitF σ x 7) - 3)) x 1 2 4), rfl, by first | rfl | (simp only [conjF, manaF, if_neg c_18, if_neg c_39]; done) | (simp only [conjF, manaF, if_neg c_18, if_neg c_39]; rfl) | (simp [conjF, manaF, c_18, c_39]; done) | (simp [conjF, manaF, c_18, c_39]; rfl), by rw [ht]; exact hP9, va_K.moved hW.alike hK, hD9⟩, hS.F ht⟩) hS.2.2 dX1_conjure_61
    · refine lv_aload_n hx hb dX1_conjure_42 rfl (lv_at hl 0 rfl) ?_
      refine lv_iload_n hx hb dX1_conjure_43 rfl (lv_at hl 1 rfl) ?_
      refine lv_iconst (v := 3) hx hb dX1_conjure_44 (by decide) ?_
      refine lv_iconst (v := 3) hx hb dX1_conjure_45 (by decide) ?_
      refine lv_iconst (v := 4) hx hb dX1_conjure_46 (by decide) ?_
      have hFc := va_free (wc := sW cI a (putTraitF σ x 7 ((traitF σ x 7) - 3))) hD hS hA [0, 1, 2, 3, 4, 5] rfl
      refine va_callv (va_runV (As := [.int x, .int 3, .int 3, .int 4]) (rest := []) ⟨hx, hb, hml, hown, hts⟩ (c_X2_addEffect l D cI _ a (putTraitF σ x 7 ((traitF σ x 7) - 3)) x 3 3 4) (cwV 4 hts gX1_conjure_X2_addEffect rfl rfl rfl (by decide +kernel) ⟨Nat.le_of_ble_eq_true rfl, Nat.le_of_ble_eq_true rfl⟩) ⟨preM_blind, va_recv hK hP (ci := 2) (q0 := 0) rfl rfl, preM_of hP hK hE hD [.ref (a 0), .int x, .int 3, .int 3, .int 4]⟩ rfl rfl hl.1 rfl (lv_room (Nat.le_of_ble_eq_true rfl)) dX1_conjure_47 ⟨Nat.le_of_ble_eq_true rfl, Nat.le_of_ble_eq_true rfl⟩) hS (fun q _ h => hFc q h) hFc (fun u t9 H1 locs ht hvm hw hB hz1 hk1 hS => ?_)
      obtain ⟨hP1, hK1, hD1⟩ := hB
      rw [ht] at hP1
      subst hw
      obtain ⟨hP, hD⟩ := va_join (wr := []) (w1 := sW cI a (addEffectF (putTraitF σ x 7 ((traitF σ x 7) - 3)) x 3 3 4)) hP hD [0, 1, 2, 3, 4, 5] [] rfl rfl (by decide) (by decide) hk1 hFc hP1 hD1
      generalize H1 = H at hP hS ⊢
      have hP : va_P D vwCl (sW cI a (addEffectF (putTraitF σ x 7 ((traitF σ x 7) - 3)) x 3 3 4)) H := hP
      have hD : va_D A (sW cI a (addEffectF (putTraitF σ x 7 ((traitF σ x 7) - 3)) x 3 3 4)) := hD
      refine lv_goto (tgt := 61) hx hb dX1_conjure_50 (by decide) ?_
      have hP9 := hP
      have hD9 := hD
      exact W.vret hx hb hr (fun T9 ht hW => ⟨⟨(addEffectF (putTraitF σ x 7 ((traitF σ x 7) - 3)) x 3 3 4), rfl, by first | rfl | (simp only [conjF, manaF, if_neg c_18, if_pos c_39]; done) | (simp only [conjF, manaF, if_neg c_18, if_pos c_39]; rfl) | (simp [conjF, manaF, c_18, c_39]; done) | (simp [conjF, manaF, c_18, c_39]; rfl), by rw [ht]; exact hP9, va_K.moved hW.alike hK, hD9⟩, hS.F ht⟩) hS.2.2 dX1_conjure_61
  · refine lv_aload_n hx hb dX1_conjure_21 rfl (lv_at hl 0 rfl) ?_
    refine lv_aload_n hx hb dX1_conjure_22 rfl (lv_at hl 0 rfl) ?_
    refine lv_iload_n hx hb dX1_conjure_23 rfl (lv_at hl 1 rfl) ?_
    refine vp_callSi (va_Run.run (va_runV (As := [.int x]) (rest := [.ref (a 0)]) ⟨hx, hb, hml, hown, hts⟩ (c_X2_targetOf l D cI a (putTraitF σ x 7 ((traitF σ x 7) - 3)) x hn) (cwV 1 hts gX1_conjure_X2_targetOf rfl rfl rfl (by decide +kernel) ⟨Nat.le_of_ble_eq_true rfl, Nat.le_of_ble_eq_true rfl⟩) ⟨preR_blind, va_recv hK hP (ci := 2) (q0 := 0) rfl rfl, preR_of hP hK hE [.ref (a 0), .int x]⟩ rfl rfl hl.1 rfl (lv_room (Nat.le_of_ble_eq_true rfl)) dX1_conjure_24 ⟨Nat.zero_le _, Nat.zero_le _⟩)) (fun r hr9 => ?_)
    subst hr9
    refine lv_iconst (v := 0) hx hb dX1_conjure_27 (by decide) ?_
    refine lv_iconst (v := 2) hx hb dX1_conjure_28 (by decide) ?_
    refine lv_iconst (v := 3) hx hb dX1_conjure_29 (by decide) ?_
    have hFc := va_free (wc := sW cI a (putTraitF σ x 7 ((traitF σ x 7) - 3))) hD hS hA [0, 1, 2, 3, 4, 5] rfl
    refine va_callv (va_runV (As := [.int (targetF (putTraitF σ x 7 ((traitF σ x 7) - 3)) x), .int 0, .int 2, .int 3]) (rest := []) ⟨hx, hb, hml, hown, hts⟩ (c_X2_addEffect l D cI _ a (putTraitF σ x 7 ((traitF σ x 7) - 3)) (targetF (putTraitF σ x 7 ((traitF σ x 7) - 3)) x) 0 2 3) (cwV 4 hts gX1_conjure_X2_addEffect rfl rfl rfl (by decide +kernel) ⟨Nat.le_of_ble_eq_true rfl, Nat.le_of_ble_eq_true rfl⟩) ⟨preM_blind, va_recv hK hP (ci := 2) (q0 := 0) rfl rfl, preM_of hP hK hE hD [.ref (a 0), .int (targetF (putTraitF σ x 7 ((traitF σ x 7) - 3)) x), .int 0, .int 2, .int 3]⟩ rfl rfl hl.1 rfl (lv_room (Nat.le_of_ble_eq_true rfl)) dX1_conjure_30 ⟨Nat.le_of_ble_eq_true rfl, Nat.le_of_ble_eq_true rfl⟩) hS (fun q _ h => hFc q h) hFc (fun u t9 H1 locs ht hvm hw hB hz1 hk1 hS => ?_)
    obtain ⟨hP1, hK1, hD1⟩ := hB
    rw [ht] at hP1
    subst hw
    obtain ⟨hP, hD⟩ := va_join (wr := []) (w1 := sW cI a (addEffectF (putTraitF σ x 7 ((traitF σ x 7) - 3)) (targetF (putTraitF σ x 7 ((traitF σ x 7) - 3)) x) 0 2 3)) hP hD [0, 1, 2, 3, 4, 5] [] rfl rfl (by decide) (by decide) hk1 hFc hP1 hD1
    generalize H1 = H at hP hS ⊢
    have hP : va_P D vwCl (sW cI a (addEffectF (putTraitF σ x 7 ((traitF σ x 7) - 3)) (targetF (putTraitF σ x 7 ((traitF σ x 7) - 3)) x) 0 2 3)) H := hP
    have hD : va_D A (sW cI a (addEffectF (putTraitF σ x 7 ((traitF σ x 7) - 3)) (targetF (putTraitF σ x 7 ((traitF σ x 7) - 3)) x) 0 2 3)) := hD
    refine lv_goto (tgt := 61) hx hb dX1_conjure_33 (by decide) ?_
    have hP9 := hP
    have hD9 := hD
    exact W.vret hx hb hr (fun T9 ht hW => ⟨⟨(addEffectF (putTraitF σ x 7 ((traitF σ x 7) - 3)) (targetF (putTraitF σ x 7 ((traitF σ x 7) - 3)) x) 0 2 3), rfl, by first | rfl | (simp only [conjF, manaF, if_pos c_18]; done) | (simp only [conjF, manaF, if_pos c_18]; rfl) | (simp [conjF, manaF, c_18]; done) | (simp [conjF, manaF, c_18]; rfl), by rw [ht]; exact hP9, va_K.moved hW.alike hK, hD9⟩, hS.F ht⟩) hS.2.2 dX1_conjure_61
set_option maxHeartbeats 4000000 in
set_option maxRecDepth 100000 in
theorem c_X1_go (l : Launch) (D : va_G) (cI : ClassId) (sz : Nat) (a : Nat → Nat) (σ : SS) (x y : Int32) (hn : s_n σ ≤ 10) : Met l yX1_go wsX1_go ({ frames := 3, cells := 0, slots := 0, locals := 68 } : Room) (va_Pc [.ref (a 0), .int x, .int y] (preM D cI (sW cI a σ) sz)) (va_Qi (fun (r : Int32) (u : SS) => r = goR σ x y ∧ u = goS σ x y) (fun (u : SS) => posM D cI (va_A (sW cI a σ) sz) (sW cI a u)) (va_A (sW cI a σ) sz)) 0 0 (va_A (sW cI a σ) sz) := by
  refine Met.ofW (cc := cX1_go) (maxL := 4) (ret := (some .int)) (by decide) rfl ?_
  intro p e s m args below meth c s₁ B hml hv
  obtain ⟨rfl, hsz, hP, hK, hE, hD0⟩ := hv
  have hx := B.exec
  have hb := B.bytes
  have hr := B.returns
  have hts := atoms_spec (ws := wsX1_go) B.pre
  have hown : s.vm.findClass RX1 = some m.cls := findClass_of_methodNamed B.named
  have hlocks := B.notSynchronized
  subst hsz
  have hD := hD0.self (sz := s.heap.size)
  generalize hAe : va_A (sW cI a σ) s.heap.size = A at hD ⊢
  have hA : ∀ q : Nat, s.heap.size ≤ q → A q := fun q h => by rw [← hAe]; exact Or.inr h
  have hS : va_S A s.heap s.heap [] := va_S.rf
  have hP : va_P D vwCl (sW cI a σ) s.heap := hP
  have hl := lv_entry ([.ref (a 0), .int x, .int y]) (n := 4) (Nat.le_of_ble_eq_true rfl)
  rw [lg_entry_eq]
  generalize (lg_sl ([.ref (a 0), .int x, .int y]) ++ List.replicate (4 - (lg_sl ([.ref (a 0), .int x, .int y])).length) Slot.unset).toArray = ls at hl ⊢
  have hl : lv_has ls 4 [(0, .ref (a 0)), (1, .int x), (2, .int y)] := hl
  refine lv_aload_n hx hb dX1_go_0 rfl (lv_at hl 0 rfl) ?_
  refine lv_iload_n hx hb dX1_go_1 rfl (lv_at hl 2 rfl) ?_
  refine vp_callSi (va_Run.run (va_runV (As := [.int y]) (rest := []) ⟨hx, hb, hml, hown, hts⟩ (c_X2_whoIsOn l D cI a σ y hn) (cwV 1 hts gX1_go_X2_whoIsOn rfl rfl rfl (by decide +kernel) ⟨Nat.le_of_ble_eq_true rfl, Nat.le_of_ble_eq_true rfl⟩) ⟨preR_blind, va_recv hK hP (ci := 2) (q0 := 0) rfl rfl, preR_of hP hK hE [.ref (a 0), .int y]⟩ rfl rfl hl.1 rfl (lv_room (Nat.le_of_ble_eq_true rfl)) dX1_go_2 ⟨Nat.zero_le _, Nat.zero_le _⟩)) (fun r hr9 => ?_)
  subst hr9
  refine lv_istore_n (lv' := [(3, .int (onF σ y)), (0, .ref (a 0)), (1, .int x), (2, .int y)]) hx hb dX1_go_5 rfl hl (by decide) rfl (fun ls hl => ?_)
  refine lv_iload_n hx hb dX1_go_6 rfl (lv_at hl 0 rfl) ?_
  refine lv_iconst (v := (-1)) hx hb dX1_go_7 (by decide) ?_
  refine lv_icmp_eq (tgt := 33) hx hb dX1_go_8 (by decide) (fun c_8 => ?_) (fun c_8 => ?_)
  · refine lv_aload_n hx hb dX1_go_33 rfl (lv_at hl 1 rfl) ?_
    refine lv_iload_n hx hb dX1_go_34 rfl (lv_at hl 3 rfl) ?_
    refine vp_callSi (va_Run.run (va_runV (As := [.int y]) (rest := []) ⟨hx, hb, hml, hown, hts⟩ (c_X2_kindAt l D cI a σ y) (cwV 1 hts gX1_go_X2_kindAt rfl rfl rfl (by decide +kernel) ⟨Nat.le_of_ble_eq_true rfl, Nat.le_of_ble_eq_true rfl⟩) ⟨preR_blind, va_recv hK hP (ci := 2) (q0 := 0) rfl rfl, preR_of hP hK hE [.ref (a 0), .int y]⟩ rfl rfl hl.1 rfl (lv_room (Nat.le_of_ble_eq_true rfl)) dX1_go_35 ⟨Nat.zero_le _, Nat.zero_le _⟩)) (fun r hr9 => ?_)
    subst hr9
    refine lv_iconst (v := 2) hx hb dX1_go_38 (by decide) ?_
    refine lv_icmp_ne (tgt := 51) hx hb dX1_go_39 (by decide) (fun c_39 => ?_) (fun c_39 => ?_)
    · refine lv_aload_n hx hb dX1_go_51 rfl (lv_at hl 1 rfl) ?_
      refine lv_iload_n hx hb dX1_go_52 rfl (lv_at hl 2 rfl) ?_
      refine lv_iconst (v := 1) hx hb dX1_go_53 (by decide) ?_
      refine lv_iload_n hx hb dX1_go_54 rfl (lv_at hl 3 rfl) ?_
      have hFc := va_free (wc := sW cI a σ) hD hS hA [0, 1, 2, 3, 4, 5] rfl
      refine va_callv (va_runV (As := [.int x, .int 1, .int y]) (rest := []) ⟨hx, hb, hml, hown, hts⟩ (c_X2_putTrait l D cI _ a σ x 1 y) (cwV 3 hts gX1_go_X2_putTrait rfl rfl rfl (by decide +kernel) ⟨Nat.le_of_ble_eq_true rfl, Nat.le_of_ble_eq_true rfl⟩) ⟨preM_blind, va_recv hK hP (ci := 2) (q0 := 0) rfl rfl, preM_of hP hK hE hD [.ref (a 0), .int x, .int 1, .int y]⟩ rfl rfl hl.1 rfl (lv_room (Nat.le_of_ble_eq_true rfl)) dX1_go_55 ⟨Nat.le_of_ble_eq_true rfl, Nat.le_of_ble_eq_true rfl⟩) hS (fun q _ h => hFc q h) hFc (fun u t9 H1 locs ht hvm hw hB hz1 hk1 hS => ?_)
      obtain ⟨hP1, hK1, hD1⟩ := hB
      rw [ht] at hP1
      subst hw
      obtain ⟨hP, hD⟩ := va_join (wr := []) (w1 := sW cI a (putTraitF σ x 1 y)) hP hD [0, 1, 2, 3, 4, 5] [] rfl rfl (by decide) (by decide) hk1 hFc hP1 hD1
      generalize H1 = H at hP hS ⊢
      have hP : va_P D vwCl (sW cI a (putTraitF σ x 1 y)) H := hP
      have hD : va_D A (sW cI a (putTraitF σ x 1 y)) := hD
      refine lv_iconst (v := 0) hx hb dX1_go_58 (by decide) ?_
      have hP9 := hP
      have hD9 := hD
      exact W.iret (v := 0) hx hb hr (fun T9 ht hW => ⟨⟨0, (putTraitF σ x 1 y), rfl, ⟨by first | rfl | (simp [goS, goR, hitsF, c_8, c_39]; done) | (simp [goS, goR, hitsF, c_8, c_39]; rfl), by first | rfl | (simp [goS, goR, hitsF, c_8, c_39]; done) | (simp [goS, goR, hitsF, c_8, c_39]; rfl)⟩, by rw [ht]; exact hP9, va_K.moved hW.alike hK, hD9⟩, hS.F ht⟩) hS.2.2 dX1_go_59
    · refine lv_aload_n hx hb dX1_go_42 rfl (lv_at hl 1 rfl) ?_
      refine lv_iload_n hx hb dX1_go_43 rfl (lv_at hl 3 rfl) ?_
      refine lv_iconst (v := 0) hx hb dX1_go_44 (by decide) ?_
      have hFc := va_free (wc := sW cI a σ) hD hS hA [0, 1, 2, 3, 4, 5] rfl
      refine va_callv (va_runV (As := [.int y, .int 0]) (rest := []) ⟨hx, hb, hml, hown, hts⟩ (c_X2_putKind l D cI _ a σ y 0) (cwV 2 hts gX1_go_X2_putKind rfl rfl rfl (by decide +kernel) ⟨Nat.le_of_ble_eq_true rfl, Nat.le_of_ble_eq_true rfl⟩) ⟨preM_blind, va_recv hK hP (ci := 2) (q0 := 0) rfl rfl, preM_of hP hK hE hD [.ref (a 0), .int y, .int 0]⟩ rfl rfl hl.1 rfl (lv_room (Nat.le_of_ble_eq_true rfl)) dX1_go_45 ⟨Nat.le_of_ble_eq_true rfl, Nat.le_of_ble_eq_true rfl⟩) hS (fun q _ h => hFc q h) hFc (fun u t9 H1 locs ht hvm hw hB hz1 hk1 hS => ?_)
      obtain ⟨hP1, hK1, hD1⟩ := hB
      rw [ht] at hP1
      subst hw
      obtain ⟨hP, hD⟩ := va_join (wr := []) (w1 := sW cI a (putKindF σ y 0)) hP hD [0, 1, 2, 3, 4, 5] [] rfl rfl (by decide) (by decide) hk1 hFc hP1 hD1
      generalize H1 = H at hP hS ⊢
      have hP : va_P D vwCl (sW cI a (putKindF σ y 0)) H := hP
      have hD : va_D A (sW cI a (putKindF σ y 0)) := hD
      refine lv_goto (tgt := 58) hx hb dX1_go_48 (by decide) ?_
      refine lv_iconst (v := 0) hx hb dX1_go_58 (by decide) ?_
      have hP9 := hP
      have hD9 := hD
      exact W.iret (v := 0) hx hb hr (fun T9 ht hW => ⟨⟨0, (putKindF σ y 0), rfl, ⟨by first | rfl | (simp [goS, goR, hitsF, c_8, c_39]; done) | (simp [goS, goR, hitsF, c_8, c_39]; rfl), by first | rfl | (simp [goS, goR, hitsF, c_8, c_39]; done) | (simp [goS, goR, hitsF, c_8, c_39]; rfl)⟩, by rw [ht]; exact hP9, va_K.moved hW.alike hK, hD9⟩, hS.F ht⟩) hS.2.2 dX1_go_59
  · refine lv_aload_n hx hb dX1_go_11 rfl (lv_at hl 1 rfl) ?_
    refine lv_dup hx hb dX1_go_12 rfl ?_
    refine va_getN (D := D) (ci := 2) (v := .int (s_hi σ)) (C := RX2) (T := TX2) (N := 8) hx hb hts (by decide +kernel) hown hK hP 0 rfl rfl 7 (by decide) (va_Nw.use rfl hE.2.2.2.2.2.2.2.1) (fun _ h9 => h9) rfl dX1_go_13 ?_
    refine lv_iconst (v := 1) hx hb dX1_go_16 (by decide) ?_
    refine lv_iadd hx hb dX1_go_17 ?_
    refine va_putN (D := D) (ci := 2) (v := .int ((s_hi σ) + 1)) (ty := .int) (C := RX2) (T := TX2) (N := 8) hx hb hts (by decide +kernel) tyX2 tyX2_ok nmX2 hown hK hP hD hS 0 rfl rfl 7 (by decide) (va_Nw.use rfl hE.2.2.2.2.2.2.2.1) (fun _ h9 => h9) rfl (by decide +kernel) rfl rfl (Nat.le_of_ble_eq_true rfl) dX1_go_18 (fun H locs hP hD hS => ?_)
    have hP : va_P D vwCl (sW cI a (w_hi σ ((s_hi σ) + 1))) H := hP
    have hD : va_D A (sW cI a (w_hi σ ((s_hi σ) + 1))) := hD
    refine lv_aload_n hx hb dX1_go_21 rfl (lv_at hl 1 rfl) ?_
    refine lv_iload_n hx hb dX1_go_22 rfl (lv_at hl 0 rfl) ?_
    refine lv_aload_n hx hb dX1_go_23 rfl (lv_at hl 1 rfl) ?_
    refine lv_iload_n hx hb dX1_go_24 rfl (lv_at hl 2 rfl) ?_
    refine lv_iload_n hx hb dX1_go_25 rfl (lv_at hl 0 rfl) ?_
    refine vp_callSi (va_Run.run (va_runV (As := [.int x, .int (onF σ y)]) (rest := [.int (onF σ y), .ref (a 0)]) ⟨hx, hb, hml, hown, hts⟩ (c_X2_hitOf l D cI a (w_hi σ ((s_hi σ) + 1)) x (onF σ y)) (cwV 2 hts gX1_go_X2_hitOf rfl rfl rfl (by decide +kernel) ⟨Nat.le_of_ble_eq_true rfl, Nat.le_of_ble_eq_true rfl⟩) ⟨preR_blind, va_recv hK hP (ci := 2) (q0 := 0) rfl rfl, preR_of hP hK hE [.ref (a 0), .int x, .int (onF σ y)]⟩ rfl rfl hl.1 rfl (lv_room (Nat.le_of_ble_eq_true rfl)) dX1_go_26 ⟨Nat.zero_le _, Nat.zero_le _⟩)) (fun r hr9 => ?_)
    subst hr9
    have hFc := va_free (wc := sW cI a (w_hi σ ((s_hi σ) + 1))) hD hS hA [0, 1, 2, 3, 4, 5] rfl
    refine va_calli (va_runV (As := [.int (onF σ y), .int (hitF (w_hi σ ((s_hi σ) + 1)) x (onF σ y))]) (rest := []) ⟨hx, hb, hml, hown, hts⟩ (c_X2_takeLife l D cI _ a (w_hi σ ((s_hi σ) + 1)) (onF σ y) (hitF (w_hi σ ((s_hi σ) + 1)) x (onF σ y))) (cwV 2 hts gX1_go_X2_takeLife rfl rfl rfl (by decide +kernel) ⟨Nat.le_of_ble_eq_true rfl, Nat.le_of_ble_eq_true rfl⟩) ⟨preM_blind, va_recv hK hP (ci := 2) (q0 := 0) rfl rfl, preM_of hP hK hE hD [.ref (a 0), .int (onF σ y), .int (hitF (w_hi σ ((s_hi σ) + 1)) x (onF σ y))]⟩ rfl rfl hl.1 rfl (lv_room (Nat.le_of_ble_eq_true rfl)) dX1_go_29 ⟨Nat.le_of_ble_eq_true rfl, Nat.le_of_ble_eq_true rfl⟩) hS (fun q _ h => hFc q h) hFc (fun r u t9 H1 locs ht hvm hw hB hz1 hk1 hS => ?_)
    obtain ⟨hP1, hK1, hD1⟩ := hB
    rw [ht] at hP1
    obtain ⟨rfl, rfl⟩ := hw
    obtain ⟨hP, hD⟩ := va_join (wr := []) (w1 := sW cI a (takeF (w_hi σ ((s_hi σ) + 1)) (onF σ y) (hitF (w_hi σ ((s_hi σ) + 1)) x (onF σ y)))) hP hD [0, 1, 2, 3, 4, 5] [] rfl rfl (by decide) (by decide) hk1 hFc hP1 hD1
    generalize H1 = H at hP hS ⊢
    have hP : va_P D vwCl (sW cI a (takeF (w_hi σ ((s_hi σ) + 1)) (onF σ y) (hitF (w_hi σ ((s_hi σ) + 1)) x (onF σ y)))) H := hP
    have hD : va_D A (sW cI a (takeF (w_hi σ ((s_hi σ) + 1)) (onF σ y) (hitF (w_hi σ ((s_hi σ) + 1)) x (onF σ y)))) := hD
    have hP9 := hP
    have hD9 := hD
    exact W.iret (v := (tookF (w_hi σ ((s_hi σ) + 1)) (onF σ y) (hitF (w_hi σ ((s_hi σ) + 1)) x (onF σ y)))) hx hb hr (fun T9 ht hW => ⟨⟨(tookF (w_hi σ ((s_hi σ) + 1)) (onF σ y) (hitF (w_hi σ ((s_hi σ) + 1)) x (onF σ y))), (takeF (w_hi σ ((s_hi σ) + 1)) (onF σ y) (hitF (w_hi σ ((s_hi σ) + 1)) x (onF σ y))), rfl, ⟨by first | rfl | (simp [goS, goR, hitsF, c_8]; done) | (simp [goS, goR, hitsF, c_8]; rfl), by first | rfl | (simp [goS, goR, hitsF, c_8]; done) | (simp [goS, goR, hitsF, c_8]; rfl)⟩, by rw [ht]; exact hP9, va_K.moved hW.alike hK, hD9⟩, hS.F ht⟩) hS.2.2 dX1_go_32
set_option maxHeartbeats 4000000 in
set_option maxRecDepth 100000 in
theorem c_X1_perform (l : Launch) (D : va_G) (cI : ClassId) (sz : Nat) (a : Nat → Nat) (σ : SS) (x y : Int32) (t : Nat) (hn : s_n σ ≤ 10) : Met l yX1_perform wsX1_perform ({ frames := 5, cells := 0, slots := 0, locals := 118 } : Room) (va_Pc [.ref (a 0), .int x, .int y] (preSX D cI (sW cI a σ) sz t)) (va_Qi (fun (r : Int32) (u : SS) => r = lostF σ x y ∧ u = perfF σ x y) (fun (u : SS) => posM D cI (va_A (sW cI a σ) sz) (sW cI a u)) (va_A (sW cI a σ) sz)) 0 0 (va_A (sW cI a σ) sz) := by
  refine Met.ofW (cc := cX1_perform) (maxL := 5) (ret := (some .int)) (by decide) rfl ?_
  intro p e s m args below meth c s₁ B hml hv
  obtain ⟨rfl, ⟨hsz, hP, hK, hE, hD0⟩, hSX⟩ := hv
  have hx := B.exec
  have hb := B.bytes
  have hr := B.returns
  have hts := atoms_spec (ws := wsX1_perform) B.pre
  have hown : s.vm.findClass RX1 = some m.cls := findClass_of_methodNamed B.named
  have hlocks := B.notSynchronized
  subst hsz
  have hD := hD0.self (sz := s.heap.size)
  generalize hAe : va_A (sW cI a σ) s.heap.size = A at hD hSX ⊢
  have hA : ∀ q : Nat, s.heap.size ≤ q → A q := fun q h => by rw [← hAe]; exact Or.inr h
  have hS : va_S A s.heap s.heap [] := va_S.rf
  have hP : va_P D vwCl (sW cI a σ) s.heap := hP
  have hl := lv_entry ([.ref (a 0), .int x, .int y]) (n := 5) (Nat.le_of_ble_eq_true rfl)
  rw [lg_entry_eq]
  generalize (lg_sl ([.ref (a 0), .int x, .int y]) ++ List.replicate (5 - (lg_sl ([.ref (a 0), .int x, .int y])).length) Slot.unset).toArray = ls at hl ⊢
  have hl : lv_has ls 5 [(0, .ref (a 0)), (1, .int x), (2, .int y)] := hl
  refine lv_aload_n hx hb dX1_perform_0 rfl (lv_at hl 0 rfl) ?_
  refine lv_iload_n hx hb dX1_perform_1 rfl (lv_at hl 1 rfl) ?_
  refine lv_iconst (v := 4) hx hb dX1_perform_2 (by decide) ?_
  refine vp_callSi (va_Run.run (va_runV (As := [.int x, .int 4]) (rest := []) ⟨hx, hb, hml, hown, hts⟩ (c_X2_stackOf l D cI a σ x 4) (cwV 2 hts gX1_perform_X2_stackOf rfl rfl rfl (by decide +kernel) ⟨Nat.le_of_ble_eq_true rfl, Nat.le_of_ble_eq_true rfl⟩) ⟨preR_blind, va_recv hK hP (ci := 2) (q0 := 0) rfl rfl, preR_of hP hK hE [.ref (a 0), .int x, .int 4]⟩ rfl rfl hl.1 rfl (lv_room (Nat.le_of_ble_eq_true rfl)) dX1_perform_3 ⟨Nat.zero_le _, Nat.zero_le _⟩)) (fun r hr9 => ?_)
  subst hr9
  have L14 : ∀ (r3 : Int32) (hr3 : r3 = slowF σ x) (H : Heap) (locs : List Loc) (ls : Array Slot), lv_has ls 5 [(0, .ref (a 0)), (1, .int x), (2, .int y)] → va_P D vwCl (sW cI a σ) H → va_D A (sW cI a σ) → va_S A s.heap H locs → W p l e ({ frames := 5, cells := 0, slots := 0, locals := 118 } : Room) s m ([.ref (a 0), .int x, .int y] : List Value).toArray below meth c H locs 0 0 (MQ below (va_Qi (fun (r : Int32) (u : SS) => r = lostF σ x y ∧ u = perfF σ x y) (fun (u : SS) => posM D cI A (sW cI a u)) A) ([.ref (a 0), .int x, .int y] : List Value).toArray s 0 0 A) (F0 m 14 ls [.int r3]) := by
    intro r3 hr3 H locs ls hl hP hD hS
    refine lv_istore_n (lv' := [(3, .int r3), (0, .ref (a 0)), (1, .int x), (2, .int y)]) hx hb dX1_perform_14 rfl hl (by decide) rfl (fun ls hl => ?_)
    refine lv_iconst (v := 0) hx hb dX1_perform_15 (by decide) ?_
    refine lv_istore (lv' := [(4, .int 0), (3, .int r3), (0, .ref (a 0)), (1, .int x), (2, .int y)]) hx hb dX1_perform_16 hl (by decide) rfl (fun ls hl => ?_)
    refine lv_iload_n hx hb dX1_perform_18 rfl (lv_at hl 4 rfl) ?_
    have L73 : ∀ (τ : SS) (r4 : Int32) (hsp : τ = doF σ x y) (hr4 : r4 = lostF σ x y) (H : Heap) (locs : List Loc) (ls : Array Slot), lv_has ls 5 [(4, .int r4), (3, .int r3), (0, .ref (a 0)), (1, .int x), (2, .int y)] → va_P D vwCl (sW cI a τ) H → va_D A (sW cI a τ) → va_S A s.heap H locs → W p l e ({ frames := 5, cells := 0, slots := 0, locals := 118 } : Room) s m ([.ref (a 0), .int x, .int y] : List Value).toArray below meth c H locs 0 0 (MQ below (va_Qi (fun (r : Int32) (u : SS) => r = lostF σ x y ∧ u = perfF σ x y) (fun (u : SS) => posM D cI A (sW cI a u)) A) ([.ref (a 0), .int x, .int y] : List Value).toArray s 0 0 A) (F0 m 73 ls []) := by
      intro τ r4 hsp hr4 H locs ls hl hP hD hS
      refine lv_aload_n hx hb dX1_perform_73 rfl (lv_at hl 2 rfl) ?_
      refine lv_dup hx hb dX1_perform_74 rfl ?_
      refine va_getN (D := D) (ci := 2) (v := .int (s_ac τ)) (C := RX2) (T := TX2) (N := 8) hx hb hts (by decide +kernel) hown hK hP 0 rfl rfl 6 (by decide) (va_Nw.use rfl hE.2.2.2.2.2.2.1) (fun _ h9 => h9) rfl dX1_perform_75 ?_
      refine lv_iconst (v := 1) hx hb dX1_perform_78 (by decide) ?_
      refine lv_iadd hx hb dX1_perform_79 ?_
      refine va_putN (D := D) (ci := 2) (v := .int ((s_ac τ) + 1)) (ty := .int) (C := RX2) (T := TX2) (N := 8) hx hb hts (by decide +kernel) tyX2 tyX2_ok nmX2 hown hK hP hD hS 0 rfl rfl 6 (by decide) (va_Nw.use rfl hE.2.2.2.2.2.2.1) (fun _ h9 => h9) rfl (by decide +kernel) rfl rfl (Nat.le_of_ble_eq_true rfl) dX1_perform_80 (fun H locs hP hD hS => ?_)
      have hP : va_P D vwCl (sW cI a (w_ac τ ((s_ac τ) + 1))) H := hP
      have hD : va_D A (sW cI a (w_ac τ ((s_ac τ) + 1))) := hD
      refine lv_aload_n hx hb dX1_perform_83 rfl (lv_at hl 2 rfl) ?_
      refine lv_iload_n hx hb dX1_perform_84 rfl (lv_at hl 3 rfl) ?_
      have hFc := va_free (wc := sW cI a (w_ac τ ((s_ac τ) + 1))) hD hS hA [0, 1, 2, 3, 4, 5] rfl
      refine va_callv (va_runS (As := [.ref (a 0), .int x]) (rest := []) ⟨hx, hb, hml, hown, hts⟩ (c_X1_wearOff l D cI _ a (w_ac τ ((s_ac τ) + 1)) x) (va_cwS 2 hts gX1_perform_X1_wearOff rfl rfl rfl (by decide +kernel) ⟨Nat.le_of_ble_eq_true rfl, Nat.le_of_ble_eq_true rfl⟩) ⟨preM_blind, preM_of hP hK hE hD [.ref (a 0), .int x]⟩ rfl rfl hl.1 rfl (lv_room (Nat.le_of_ble_eq_true rfl)) dX1_perform_85 ⟨Nat.le_of_ble_eq_true rfl, Nat.le_of_ble_eq_true rfl⟩) hS (fun q _ h => hFc q h) hFc (fun u t9 H1 locs ht hvm hw hB hz1 hk1 hS => ?_)
      obtain ⟨hP1, hK1, hD1⟩ := hB
      rw [ht] at hP1
      subst hw
      obtain ⟨hP, hD⟩ := va_join (wr := []) (w1 := sW cI a (wearF (w_ac τ ((s_ac τ) + 1)) x)) hP hD [0, 1, 2, 3, 4, 5] [] rfl rfl (by decide) (by decide) hk1 hFc hP1 hD1
      generalize H1 = H at hP hS ⊢
      have hP : va_P D vwCl (sW cI a (wearF (w_ac τ ((s_ac τ) + 1)) x)) H := hP
      have hD : va_D A (sW cI a (wearF (w_ac τ ((s_ac τ) + 1)) x)) := hD
      refine lv_aload_n hx hb dX1_perform_88 rfl (lv_at hl 2 rfl) ?_
      refine lv_iload_n hx hb dX1_perform_89 rfl (lv_at hl 3 rfl) ?_
      refine lv_iload_n hx hb dX1_perform_90 rfl (lv_at hl 1 rfl) ?_
      have hFc := va_free (wc := sW cI a (wearF (w_ac τ ((s_ac τ) + 1)) x)) hD hS hA [0, 1, 2, 3, 4, 5] rfl
      refine va_callv (va_runS (As := [.ref (a 0), .int x, .int r3]) (rest := []) ⟨hx, hb, hml, hown, hts⟩ (c_X1_passTime l D cI _ a (wearF (w_ac τ ((s_ac τ) + 1)) x) x r3) (va_cwS 3 hts gX1_perform_X1_passTime rfl rfl rfl (by decide +kernel) ⟨Nat.le_of_ble_eq_true rfl, Nat.le_of_ble_eq_true rfl⟩) ⟨preM_blind, preM_of hP hK hE hD [.ref (a 0), .int x, .int r3]⟩ rfl rfl hl.1 rfl (lv_room (Nat.le_of_ble_eq_true rfl)) dX1_perform_91 ⟨Nat.le_of_ble_eq_true rfl, Nat.le_of_ble_eq_true rfl⟩) hS (fun q _ h => hFc q h) hFc (fun u t9 H1 locs ht hvm hw hB hz1 hk1 hS => ?_)
      obtain ⟨hP1, hK1, hD1⟩ := hB
      rw [ht] at hP1
      subst hw
      obtain ⟨hP, hD⟩ := va_join (wr := []) (w1 := sW cI a (passF (wearF (w_ac τ ((s_ac τ) + 1)) x) x r3)) hP hD [0, 1, 2, 3, 4, 5] [] rfl rfl (by decide) (by decide) hk1 hFc hP1 hD1
      generalize H1 = H at hP hS ⊢
      have hP : va_P D vwCl (sW cI a (passF (wearF (w_ac τ ((s_ac τ) + 1)) x) x r3)) H := hP
      have hD : va_D A (sW cI a (passF (wearF (w_ac τ ((s_ac τ) + 1)) x) x r3)) := hD
      refine lv_aload_n hx hb dX1_perform_94 rfl (lv_at hl 2 rfl) ?_
      refine lv_iload_n hx hb dX1_perform_95 rfl (lv_at hl 3 rfl) ?_
      refine vp_callSi (va_Run.run (va_runV (As := [.int x]) (rest := []) ⟨hx, hb, hml, hown, hts⟩ (c_X2_isAlive l D cI a (passF (wearF (w_ac τ ((s_ac τ) + 1)) x) x r3) x) (cwV 1 hts gX1_perform_X2_isAlive rfl rfl rfl (by decide +kernel) ⟨Nat.le_of_ble_eq_true rfl, Nat.le_of_ble_eq_true rfl⟩) ⟨preR_blind, va_recv hK hP (ci := 2) (q0 := 0) rfl rfl, preR_of hP hK hE [.ref (a 0), .int x]⟩ rfl rfl hl.1 rfl (lv_room (Nat.le_of_ble_eq_true rfl)) dX1_perform_96 ⟨Nat.zero_le _, Nat.zero_le _⟩)) (fun r hr9 => ?_)
      subst hr9
      have L107 : ∀ (τ2 : SS) (hsp2 : τ2 = perfF σ x y) (H : Heap) (locs : List Loc) (ls : Array Slot), lv_has ls 5 [(4, .int r4), (3, .int r3), (0, .ref (a 0)), (1, .int x), (2, .int y)] → va_P D vwCl (sW cI a τ2) H → va_D A (sW cI a τ2) → va_S A s.heap H locs → W p l e ({ frames := 5, cells := 0, slots := 0, locals := 118 } : Room) s m ([.ref (a 0), .int x, .int y] : List Value).toArray below meth c H locs 0 0 (MQ below (va_Qi (fun (r : Int32) (u : SS) => r = lostF σ x y ∧ u = perfF σ x y) (fun (u : SS) => posM D cI A (sW cI a u)) A) ([.ref (a 0), .int x, .int y] : List Value).toArray s 0 0 A) (F0 m 107 ls []) := by
        intro τ2 hsp2 H locs ls hl hP hD hS
        refine lv_iload hx hb dX1_perform_107 (lv_at hl 0 rfl) ?_
        have hP9 := hP
        have hD9 := hD
        exact W.iret (v := r4) hx hb hr (fun T9 ht hW => ⟨⟨r4, τ2, rfl, ⟨hr4, hsp2⟩, by rw [ht]; exact hP9, va_K.moved hW.alike hK, hD9⟩, hS.F ht⟩) hS.2.2 dX1_perform_109
      refine w_bz (tgt := 107) hx hb dX1_perform_99 (by decide) (fun c_99 => ?_) (fun c_99 => ?_)
      · exact L107 (passF (wearF (w_ac τ ((s_ac τ) + 1)) x) x r3) (by rw [hsp, hr3] at *; simp [perfF, seenF, actedF, *]) _ _ ls (lv_sub hl [0, 1, 2, 3, 4] rfl) hP hD hS
      · refine lv_aload_n hx hb dX1_perform_102 rfl (lv_at hl 2 rfl) ?_
        refine lv_iload_n hx hb dX1_perform_103 rfl (lv_at hl 3 rfl) ?_
        have hFc := va_free (wc := sW cI a (passF (wearF (w_ac τ ((s_ac τ) + 1)) x) x r3)) hD hS hA [0, 1, 2, 3, 4, 5] rfl
        refine va_callv (va_runV (As := [.int x]) (rest := []) ⟨hx, hb, hml, hown, hts⟩ (c_X2_look l D cI _ a (passF (wearF (w_ac τ ((s_ac τ) + 1)) x) x r3) x) (cwV 1 hts gX1_perform_X2_look rfl rfl rfl (by decide +kernel) ⟨Nat.le_of_ble_eq_true rfl, Nat.le_of_ble_eq_true rfl⟩) ⟨preM_blind, va_recv hK hP (ci := 2) (q0 := 0) rfl rfl, preM_of hP hK hE hD [.ref (a 0), .int x]⟩ rfl rfl hl.1 rfl (lv_room (Nat.le_of_ble_eq_true rfl)) dX1_perform_104 ⟨Nat.le_of_ble_eq_true rfl, Nat.le_of_ble_eq_true rfl⟩) hS (fun q _ h => hFc q h) hFc (fun u t9 H1 locs ht hvm hw hB hz1 hk1 hS => ?_)
        obtain ⟨hP1, hK1, hD1⟩ := hB
        rw [ht] at hP1
        subst hw
        obtain ⟨hP, hD⟩ := va_join (wr := []) (w1 := sW cI a (lookF (passF (wearF (w_ac τ ((s_ac τ) + 1)) x) x r3) x)) hP hD [0, 1, 2, 3, 4, 5] [] rfl rfl (by decide) (by decide) hk1 hFc hP1 hD1
        generalize H1 = H at hP hS ⊢
        have hP : va_P D vwCl (sW cI a (lookF (passF (wearF (w_ac τ ((s_ac τ) + 1)) x) x r3) x)) H := hP
        have hD : va_D A (sW cI a (lookF (passF (wearF (w_ac τ ((s_ac τ) + 1)) x) x r3) x)) := hD
        exact L107 (lookF (passF (wearF (w_ac τ ((s_ac τ) + 1)) x) x r3) x) (by rw [hsp, hr3] at *; simp [perfF, seenF, actedF, *]) _ _ ls (lv_sub hl [0, 1, 2, 3, 4] rfl) hP hD hS
    refine lv_if_ne (tgt := 46) hx hb dX1_perform_19 (by decide) (fun c_19 => ?_) (fun c_19 => ?_)
    · refine lv_iload_n hx hb dX1_perform_46 rfl (lv_at hl 4 rfl) ?_
      refine lv_iconst (v := 4) hx hb dX1_perform_47 (by decide) ?_
      refine lv_icmp_gt (tgt := 67) hx hb dX1_perform_48 (by decide) (fun c_48 => ?_) (fun c_48 => ?_)
      · refine lv_aload_n hx hb dX1_perform_67 rfl (lv_at hl 2 rfl) ?_
        refine lv_iload_n hx hb dX1_perform_68 rfl (lv_at hl 3 rfl) ?_
        refine lv_iload_n hx hb dX1_perform_69 rfl (lv_at hl 4 rfl) ?_
        have hFc := va_free (wc := sW cI a σ) hD hS hA [0, 1, 2, 3, 4, 5] rfl
        refine va_callv (va_runS (As := [.ref (a 0), .int x, .int y]) (rest := []) ⟨hx, hb, hml, hown, hts⟩ (c_X1_conjure l D cI _ a σ x y hn) (va_cwS 3 hts gX1_perform_X1_conjure rfl rfl rfl (by decide +kernel) ⟨Nat.le_of_ble_eq_true rfl, Nat.le_of_ble_eq_true rfl⟩) ⟨preM_blind, preM_of hP hK hE hD [.ref (a 0), .int x, .int y]⟩ rfl rfl hl.1 rfl (lv_room (Nat.le_of_ble_eq_true rfl)) dX1_perform_70 ⟨Nat.le_of_ble_eq_true rfl, Nat.le_of_ble_eq_true rfl⟩) hS (fun q _ h => hFc q h) hFc (fun u t9 H1 locs ht hvm hw hB hz1 hk1 hS => ?_)
        obtain ⟨hP1, hK1, hD1⟩ := hB
        rw [ht] at hP1
        subst hw
        obtain ⟨hP, hD⟩ := va_join (wr := []) (w1 := sW cI a (conjF σ x y)) hP hD [0, 1, 2, 3, 4, 5] [] rfl rfl (by decide) (by decide) hk1 hFc hP1 hD1
        generalize H1 = H at hP hS ⊢
        have hP : va_P D vwCl (sW cI a (conjF σ x y)) H := hP
        have hD : va_D A (sW cI a (conjF σ x y)) := hD
        exact L73 (conjF σ x y) 0 (by simp [doF, c_19, c_48]) (by simp [lostF, c_19, c_48]) _ _ ls (lv_sub hl [0, 1, 2, 3, 4] rfl) hP hD hS
      · refine lv_aload_n hx hb dX1_perform_51 rfl (lv_at hl 2 rfl) ?_
        refine lv_iload_n hx hb dX1_perform_52 rfl (lv_at hl 3 rfl) ?_
        refine lv_aload_n hx hb dX1_perform_53 rfl (lv_at hl 2 rfl) ?_
        refine lv_iload_n hx hb dX1_perform_54 rfl (lv_at hl 3 rfl) ?_
        refine lv_iload_n hx hb dX1_perform_55 rfl (lv_at hl 4 rfl) ?_
        refine vp_callSi (va_Run.run (va_runS (As := [.ref (a 0), .int x, .int y]) (rest := [.int x, .ref (a 0)]) ⟨hx, hb, hml, hown, hts⟩ (c_X1_cellTowards l D cI a σ x y t) (va_cwS 3 hts gX1_perform_X1_cellTowards rfl rfl rfl (by decide +kernel) ⟨Nat.le_of_ble_eq_true rfl, Nat.le_of_ble_eq_true rfl⟩) ⟨preRS_blind, preRS_of hP hK hE hSX hS [.ref (a 0), .int x, .int y]⟩ rfl rfl hl.1 rfl (lv_room (Nat.le_of_ble_eq_true rfl)) dX1_perform_56 ⟨Nat.zero_le _, Nat.zero_le _⟩)) (fun r hr9 => ?_)
        subst hr9
        have hFc := va_free (wc := sW cI a σ) hD hS hA [0, 1, 2, 3, 4, 5] rfl
        refine va_calli (va_runS (As := [.ref (a 0), .int x, .int (towF σ x y)]) (rest := []) ⟨hx, hb, hml, hown, hts⟩ (c_X1_go l D cI _ a σ x (towF σ x y) hn) (va_cwS 3 hts gX1_perform_X1_go rfl rfl rfl (by decide +kernel) ⟨Nat.le_of_ble_eq_true rfl, Nat.le_of_ble_eq_true rfl⟩) ⟨preM_blind, preM_of hP hK hE hD [.ref (a 0), .int x, .int (towF σ x y)]⟩ rfl rfl hl.1 rfl (lv_room (Nat.le_of_ble_eq_true rfl)) dX1_perform_59 ⟨Nat.le_of_ble_eq_true rfl, Nat.le_of_ble_eq_true rfl⟩) hS (fun q _ h => hFc q h) hFc (fun r u t9 H1 locs ht hvm hw hB hz1 hk1 hS => ?_)
        obtain ⟨hP1, hK1, hD1⟩ := hB
        rw [ht] at hP1
        obtain ⟨rfl, rfl⟩ := hw
        obtain ⟨hP, hD⟩ := va_join (wr := []) (w1 := sW cI a (goS σ x (towF σ x y))) hP hD [0, 1, 2, 3, 4, 5] [] rfl rfl (by decide) (by decide) hk1 hFc hP1 hD1
        generalize H1 = H at hP hS ⊢
        have hP : va_P D vwCl (sW cI a (goS σ x (towF σ x y))) H := hP
        have hD : va_D A (sW cI a (goS σ x (towF σ x y))) := hD
        refine lv_istore (lv' := [(4, .int (goR σ x (towF σ x y))), (3, .int r3), (0, .ref (a 0)), (1, .int x), (2, .int y)]) hx hb dX1_perform_62 hl (by decide) rfl (fun ls hl => ?_)
        refine lv_goto (tgt := 73) hx hb dX1_perform_64 (by decide) ?_
        exact L73 (goS σ x (towF σ x y)) (goR σ x (towF σ x y)) (by simp [doF, c_19, c_48]) (by simp [lostF, c_19, c_48]) _ _ ls (lv_sub hl [0, 1, 2, 3, 4] rfl) hP hD hS
    · refine lv_aload_n hx hb dX1_perform_22 rfl (lv_at hl 2 rfl) ?_
      refine lv_iload_n hx hb dX1_perform_23 rfl (lv_at hl 3 rfl) ?_
      refine lv_bipush (v := 7) hx hb dX1_perform_24 (by decide) ?_
      refine lv_aload_n hx hb dX1_perform_26 rfl (lv_at hl 2 rfl) ?_
      refine lv_iload_n hx hb dX1_perform_27 rfl (lv_at hl 3 rfl) ?_
      refine lv_bipush (v := 7) hx hb dX1_perform_28 (by decide) ?_
      refine vp_callSi (va_Run.run (va_runV (As := [.int x, .int 7]) (rest := [.int 7, .int x, .ref (a 0)]) ⟨hx, hb, hml, hown, hts⟩ (c_X2_trait l D cI a σ x 7) (cwV 2 hts gX1_perform_X2_trait rfl rfl rfl (by decide +kernel) ⟨Nat.le_of_ble_eq_true rfl, Nat.le_of_ble_eq_true rfl⟩) ⟨preR_blind, va_recv hK hP (ci := 2) (q0 := 0) rfl rfl, preR_of hP hK hE [.ref (a 0), .int x, .int 7]⟩ rfl rfl hl.1 rfl (lv_room (Nat.le_of_ble_eq_true rfl)) dX1_perform_30 ⟨Nat.zero_le _, Nat.zero_le _⟩)) (fun r hr9 => ?_)
      subst hr9
      refine lv_iconst (v := 1) hx hb dX1_perform_33 (by decide) ?_
      refine lv_iadd hx hb dX1_perform_34 ?_
      refine lv_bipush (v := 9) hx hb dX1_perform_35 (by decide) ?_
      refine va_mmin hx hb (hml.trans hl.1.symm) hown (hts (.methodLink RX1 50 Lib.Math.min.name) (by decide +kernel)) (hts (.static Lib.Math.min.name) (by decide +kernel)) (hts (.initialized "java/lang/Math") (by decide +kernel)) (hts (.code Lib.Math.min.name Lib.Math.min.code 2 (some .int)) (by decide +kernel)) (Nat.le_of_ble_eq_true rfl) (Nat.le_of_ble_eq_true rfl) (Nat.le_of_ble_eq_true rfl) (Nat.le_of_ble_eq_true rfl) dX1_perform_37 ?_
      have hFc := va_free (wc := sW cI a σ) hD hS hA [0, 1, 2, 3, 4, 5] rfl
      refine va_callv (va_runV (As := [.int x, .int 7, .int (minI ((traitF σ x 7) + 1) 9)]) (rest := []) ⟨hx, hb, hml, hown, hts⟩ (c_X2_putTrait l D cI _ a σ x 7 (minI ((traitF σ x 7) + 1) 9)) (cwV 3 hts gX1_perform_X2_putTrait rfl rfl rfl (by decide +kernel) ⟨Nat.le_of_ble_eq_true rfl, Nat.le_of_ble_eq_true rfl⟩) ⟨preM_blind, va_recv hK hP (ci := 2) (q0 := 0) rfl rfl, preM_of hP hK hE hD [.ref (a 0), .int x, .int 7, .int (minI ((traitF σ x 7) + 1) 9)]⟩ rfl rfl hl.1 rfl (lv_room (Nat.le_of_ble_eq_true rfl)) dX1_perform_40 ⟨Nat.le_of_ble_eq_true rfl, Nat.le_of_ble_eq_true rfl⟩) hS (fun q _ h => hFc q h) hFc (fun u t9 H1 locs ht hvm hw hB hz1 hk1 hS => ?_)
      obtain ⟨hP1, hK1, hD1⟩ := hB
      rw [ht] at hP1
      subst hw
      obtain ⟨hP, hD⟩ := va_join (wr := []) (w1 := sW cI a (putTraitF σ x 7 (minI ((traitF σ x 7) + 1) 9))) hP hD [0, 1, 2, 3, 4, 5] [] rfl rfl (by decide) (by decide) hk1 hFc hP1 hD1
      generalize H1 = H at hP hS ⊢
      have hP : va_P D vwCl (sW cI a (putTraitF σ x 7 (minI ((traitF σ x 7) + 1) 9))) H := hP
      have hD : va_D A (sW cI a (putTraitF σ x 7 (minI ((traitF σ x 7) + 1) 9))) := hD
      refine lv_goto (tgt := 73) hx hb dX1_perform_43 (by decide) ?_
      exact L73 (putTraitF σ x 7 (minI ((traitF σ x 7) + 1) 9)) 0 (by simp [doF, c_19]) (by simp [lostF, c_19]) _ _ ls (lv_sub hl [0, 1, 2, 3, 4] rfl) hP hD hS
  refine lv_if_le (tgt := 13) hx hb dX1_perform_6 (by decide) (fun c_6 => ?_) (fun c_6 => ?_)
  · refine lv_iconst (v := 0) hx hb dX1_perform_13 (by decide) ?_
    exact L14 0 (by simp [slowF, c_6]) _ _ ls (lv_sub hl [0, 1, 2] rfl) hP hD hS
  · refine lv_iconst (v := 1) hx hb dX1_perform_9 (by decide) ?_
    refine lv_goto (tgt := 14) hx hb dX1_perform_10 (by decide) ?_
    exact L14 1 (by simp [slowF, c_6]) _ _ ls (lv_sub hl [0, 1, 2] rfl) hP hD hS
