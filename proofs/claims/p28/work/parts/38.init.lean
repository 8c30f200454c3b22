set_option maxHeartbeats 4000000 in
set_option maxRecDepth 100000 in
theorem c_J7_fill_53178 (l : Launch) (D : va_G) (cI : ClassId) (sz : Nat) (q n : Nat) (f : Nat → Int32) (x : Int32) (hn : n < 2 ^ 31) : Met l yJ7_fill_53178 wsJ7_fill_53178 ({ frames := 0, cells := 0, slots := 0, locals := 0 } : Room) (va_Pc [.ref q, .int x] (preM D cI ([(q, .inl (cI, n, .inl f))]) sz)) (va_Qv (fun (u : (Nat → Int32)) => u = fillF f n x) (fun (u : (Nat → Int32)) => posM D cI (va_A ([(q, .inl (cI, n, .inl f))]) sz) [(q, .inl (cI, n, .inl u))]) (va_A ([(q, .inl (cI, n, .inl f))]) sz)) 0 0 (va_A ([(q, .inl (cI, n, .inl f))]) sz) := by
  refine Met.ofW (cc := cJ7_fill_53178) (maxL := 4) (ret := none) (by decide) rfl ?_
  intro p e s m args below meth c s₁ B hml hv
  obtain ⟨rfl, hsz, hP, hK, hE, hD0⟩ := hv
  have hx := B.exec
  have hb := B.bytes
  have hr := B.returns
  have hts := atoms_spec (ws := wsJ7_fill_53178) B.pre
  have hown : s.vm.findClass RJ7 = some m.cls := findClass_of_methodNamed B.named
  have hlocks := B.notSynchronized
  subst hsz
  have hD := hD0.self (sz := s.heap.size)
  generalize hAe : va_A ([(q, .inl (cI, n, .inl f))]) s.heap.size = A at hD ⊢
  have hA : ∀ q : Nat, s.heap.size ≤ q → A q := fun q h => by rw [← hAe]; exact Or.inr h
  have hS : va_S A s.heap s.heap [] := va_S.rf
  have hP : va_P D vwCl ([(q, .inl (cI, n, .inl f))]) s.heap := hP
  have hl := lv_entry ([.ref q, .int x]) (n := 4) (Nat.le_of_ble_eq_true rfl)
  rw [lg_entry_eq]
  generalize (lg_sl ([.ref q, .int x]) ++ List.replicate (4 - (lg_sl ([.ref q, .int x])).length) Slot.unset).toArray = ls at hl ⊢
  have hl : lv_has ls 4 [(0, .ref q), (1, .int x)] := hl
  refine lv_iconst (v := 0) hx hb dJ7_fill_53178_0 (by decide) ?_
  refine lv_istore_n (lv' := [(2, .int 0), (0, .ref q), (1, .int x)]) hx hb dJ7_fill_53178_1 rfl hl (by decide) rfl (fun ls hl => ?_)
  refine lv_aload_n hx hb dJ7_fill_53178_2 rfl (lv_at hl 1 rfl) ?_
  refine va_alen (v := nI n) hx hb hK hP 0 0 rfl rfl rfl dJ7_fill_53178_3 ?_
  refine lv_istore_n (lv' := [(3, .int (nI n)), (2, .int 0), (0, .ref q), (1, .int x)]) hx hb dJ7_fill_53178_4 rfl hl (by decide) rfl (fun ls hl => ?_)
  have L5 : ∀ (i k : Nat) (g : Nat → Int32) (hk : k + i = n) (hsp : fillF f n x = fillL x i k g) (H : Heap) (locs : List Loc) (ls : Array Slot), lv_has ls 4 [(3, .int (nI n)), (2, .int (nI k)), (0, .ref q), (1, .int x)] → va_P D vwCl ([(q, .inl (cI, n, .inl g))]) H → va_D A ([(q, .inl (cI, n, .inl g))]) → va_S A s.heap H locs → W p l e ({ frames := 0, cells := 0, slots := 0, locals := 0 } : Room) s m ([.ref q, .int x] : List Value).toArray below meth c H locs 0 0 (MQ below (va_Qv (fun (u : (Nat → Int32)) => u = fillF f n x) (fun (u : (Nat → Int32)) => posM D cI A [(q, .inl (cI, n, .inl u))]) A) ([.ref q, .int x] : List Value).toArray s 0 0 A) (F0 m 5 ls []) := by
    intro i
    induction i with
    | zero =>
      intro k g hk hsp H locs ls hl hP hD hS
      refine lv_iload_n hx hb dJ7_fill_53178_5 rfl (lv_at hl 1 rfl) ?_
      refine lv_iload_n hx hb dJ7_fill_53178_6 rfl (lv_at hl 0 rfl) ?_
      refine lv_icmp_ge (tgt := 20) hx hb dJ7_fill_53178_7 (by decide) (fun c_7 => ?_) (fun c_7 => absurd (nI_le (by omega) (by omega)) c_7)
      have hP9 := hP
      have hD9 := hD
      exact W.vret hx hb hr (fun T9 ht hW => ⟨⟨g, rfl, by rw [hsp]; rfl, by rw [ht]; exact hP9, va_K.moved hW.alike hK, hD9⟩, hS.F ht⟩) hS.2.2 dJ7_fill_53178_20
    | succ i ih5 =>
      intro k g hk hsp H locs ls hl hP hD hS
      refine lv_iload_n hx hb dJ7_fill_53178_5 rfl (lv_at hl 1 rfl) ?_
      refine lv_iload_n hx hb dJ7_fill_53178_6 rfl (lv_at hl 0 rfl) ?_
      refine lv_icmp_ge (tgt := 20) hx hb dJ7_fill_53178_7 (by decide) (fun c_7 => absurd c_7 (nI_ge (by omega) (by omega))) (fun c_7 => ?_)
      refine lv_aload_n hx hb dJ7_fill_53178_10 rfl (lv_at hl 2 rfl) ?_
      refine lv_iload_n hx hb dJ7_fill_53178_11 rfl (lv_at hl 1 rfl) ?_
      refine lv_iload_n hx hb dJ7_fill_53178_12 rfl (lv_at hl 3 rfl) ?_
      refine va_iast hx hb hK hP hD hS 0 0 rfl rfl (vp_in_nI (by omega) hn) dJ7_fill_53178_13 (fun H locs hP hD hS => ?_)
      have hP : va_P D vwCl ([(q, .inl (cI, n, .inl (upd g (nI k).toNatClampNeg x)))]) H := hP
      have hD : va_D A ([(q, .inl (cI, n, .inl (upd g (nI k).toNatClampNeg x)))]) := hD
      refine lv_iinc (v := (nI (k + 1))) (lv' := [(2, .int (nI (k + 1))), (3, .int (nI n)), (0, .ref q), (1, .int x)]) hx hb dJ7_fill_53178_14 hl (k := 1) rfl (nI_1 k) (by decide) rfl (fun ls hl => ?_)
      refine lv_goto (tgt := 5) hx hb dJ7_fill_53178_17 (by decide) ?_
      exact ih5 (k + 1) (upd g (nI k).toNatClampNeg x) (by omega) (by rw [hsp]; rfl) _ _ ls (lv_sub hl [1, 0, 2, 3] rfl) hP hD hS
  exact L5 n 0 f (by omega) rfl _ _ ls (lv_sub hl [0, 1, 2, 3] rfl) hP hD hS

set_option maxHeartbeats 4000000 in
set_option maxRecDepth 100000 in
theorem c_X2_init (l : Launch) (D : va_G) (cI : ClassId) (sz : Nat) (h : Nat) : Met l yX2_init wsX2_init ({ frames := 1, cells := 5, slots := 510, locals := 23 } : Room) (va_Pc [.ref h] (preM D cI ([(h, .inr (2, [.null, .null, .null, .null, .null, .int 0, .int 0, .int 0]))]) sz)) (va_Qv (fun (u : (Nat → Nat)) => u 0 = h) (fun (u : (Nat → Nat)) => posM D cI (va_A ([(h, .inr (2, [.null, .null, .null, .null, .null, .int 0, .int 0, .int 0]))]) sz) (sW cI u s0)) (va_A ([(h, .inr (2, [.null, .null, .null, .null, .null, .int 0, .int 0, .int 0]))]) sz)) 5 510 (va_A ([(h, .inr (2, [.null, .null, .null, .null, .null, .int 0, .int 0, .int 0]))]) sz) := by
  refine Met.ofW (cc := cX2_init) (maxL := 1) (ret := none) (by decide) rfl ?_
  intro p e s m args below meth c s₁ B hml hv
  obtain ⟨rfl, hsz, hP, hK, hE, hD0⟩ := hv
  have hx := B.exec
  have hb := B.bytes
  have hr := B.returns
  have hts := atoms_spec (ws := wsX2_init) B.pre
  have hown : s.vm.findClass RX2 = some m.cls := findClass_of_methodNamed B.named
  have hlocks := B.notSynchronized
  have hin : meth.name = "<init>" := (name_of_methodNamed B.named B.method).1
  subst hsz
  have hD := hD0.self (sz := s.heap.size)
  generalize hAe : va_A ([(h, .inr (2, [.null, .null, .null, .null, .null, .int 0, .int 0, .int 0]))]) s.heap.size = A at hD ⊢
  have hA : ∀ q : Nat, s.heap.size ≤ q → A q := fun q h => by rw [← hAe]; exact Or.inr h
  have hS : va_S A s.heap s.heap [] := va_S.rf
  have hP : va_P D vwCl ([(h, .inr (2, [.null, .null, .null, .null, .null, .int 0, .int 0, .int 0]))]) s.heap := hP
  have hl := lv_entry ([.ref h]) (n := 1) (Nat.le_of_ble_eq_true rfl)
  rw [lg_entry_eq]
  generalize (lg_sl ([.ref h]) ++ List.replicate (1 - (lg_sl ([.ref h])).length) Slot.unset).toArray = ls at hl ⊢
  have hl : lv_has ls 1 [(0, .ref h)] := hl
  refine lv_aload_n hx hb dX2_init_0 rfl (lv_at hl 0 rfl) ?_
  refine W.objInit hx hb hown (hts (.methodLink RX2 3 objectInit) (by decide +kernel)) (hts (.instanceMethod objectInit) (by decide +kernel)) (hts (.code objectInit ⟨#[0xb1]⟩ 1 none) (by decide +kernel)) rfl (by rw [hml]; exact hl.1) rfl dX2_init_1 (Nat.le_of_ble_eq_true rfl) (Nat.le_of_ble_eq_true rfl) ?_
  refine W.eq (g2 := F0 m 4 ls []) rfl ?_
  refine lv_aload_n hx hb dX2_init_4 rfl (lv_at hl 0 rfl) ?_
  refine lv_sipush (v := 160) hx hb dX2_init_5 (by decide) ?_
  refine w_newI hx hb (hts (.arrayClass .int) (by decide +kernel)) hK hP hD hS hA (by decide) (N' := 160) (by decide) (by decide) (Nat.le_of_ble_eq_true rfl) (Nat.le_of_ble_eq_true rfl) dX2_init_8 (fun q8 H hP hD hS => ?_)
  have hP : va_P D vwCl ([(h, .inr (2, [.null, .null, .null, .null, .null, .int 0, .int 0, .int 0])), (q8, .inl (cI, 160, .inl (fun _ => 0)))]) H := hP
  have hD : va_D A ([(h, .inr (2, [.null, .null, .null, .null, .null, .int 0, .int 0, .int 0])), (q8, .inl (cI, 160, .inl (fun _ => 0)))]) := hD
  refine va_putF (D := D) (ci := 2) (v := .ref q8) (ty := (.array .int)) (C := RX2) (T := TX2) (N := 8) hx hb hts (by decide +kernel) tyX2 tyX2_ok nmX2 hown hK hP hD hS 0 rfl rfl 0 (by decide) (hts (.fieldLink RX2 9 "Warren$State" "kinds" "[I") (by decide +kernel)) (fun _ h9 => h9) rfl hin rfl (by decide +kernel) rfl rfl (Nat.le_of_ble_eq_true rfl) dX2_init_10 (fun H locs hP hD hS => ?_)
  have hP : va_P D vwCl ([(h, .inr (2, [.ref q8, .null, .null, .null, .null, .int 0, .int 0, .int 0])), (q8, .inl (cI, 160, .inl (fun _ => 0)))]) H := hP
  have hD : va_D A ([(h, .inr (2, [.ref q8, .null, .null, .null, .null, .int 0, .int 0, .int 0])), (q8, .inl (cI, 160, .inl (fun _ => 0)))]) := hD
  refine lv_aload_n hx hb dX2_init_13 rfl (lv_at hl 0 rfl) ?_
  refine lv_sipush (v := 160) hx hb dX2_init_14 (by decide) ?_
  refine w_newI hx hb (hts (.arrayClass .int) (by decide +kernel)) hK hP hD hS hA (by decide) (N' := 160) (by decide) (by decide) (Nat.le_of_ble_eq_true rfl) (Nat.le_of_ble_eq_true rfl) dX2_init_17 (fun q17 H hP hD hS => ?_)
  have hP : va_P D vwCl ([(h, .inr (2, [.ref q8, .null, .null, .null, .null, .int 0, .int 0, .int 0])), (q8, .inl (cI, 160, .inl (fun _ => 0))), (q17, .inl (cI, 160, .inl (fun _ => 0)))]) H := hP
  have hD : va_D A ([(h, .inr (2, [.ref q8, .null, .null, .null, .null, .int 0, .int 0, .int 0])), (q8, .inl (cI, 160, .inl (fun _ => 0))), (q17, .inl (cI, 160, .inl (fun _ => 0)))]) := hD
  refine va_putF (D := D) (ci := 2) (v := .ref q17) (ty := (.array .int)) (C := RX2) (T := TX2) (N := 8) hx hb hts (by decide +kernel) tyX2 tyX2_ok nmX2 hown hK hP hD hS 0 rfl rfl 1 (by decide) (hts (.fieldLink RX2 15 "Warren$State" "known" "[I") (by decide +kernel)) (fun _ h9 => h9) rfl hin rfl (by decide +kernel) rfl rfl (Nat.le_of_ble_eq_true rfl) dX2_init_19 (fun H locs hP hD hS => ?_)
  have hP : va_P D vwCl ([(h, .inr (2, [.ref q8, .ref q17, .null, .null, .null, .int 0, .int 0, .int 0])), (q8, .inl (cI, 160, .inl (fun _ => 0))), (q17, .inl (cI, 160, .inl (fun _ => 0)))]) H := hP
  have hD : va_D A ([(h, .inr (2, [.ref q8, .ref q17, .null, .null, .null, .int 0, .int 0, .int 0])), (q8, .inl (cI, 160, .inl (fun _ => 0))), (q17, .inl (cI, 160, .inl (fun _ => 0)))]) := hD
  refine lv_aload_n hx hb dX2_init_22 rfl (lv_at hl 0 rfl) ?_
  refine lv_bipush (v := 90) hx hb dX2_init_23 (by decide) ?_
  refine w_newI hx hb (hts (.arrayClass .int) (by decide +kernel)) hK hP hD hS hA (by decide) (N' := 90) (by decide) (by decide) (Nat.le_of_ble_eq_true rfl) (Nat.le_of_ble_eq_true rfl) dX2_init_25 (fun q25 H hP hD hS => ?_)
  have hP : va_P D vwCl ([(h, .inr (2, [.ref q8, .ref q17, .null, .null, .null, .int 0, .int 0, .int 0])), (q8, .inl (cI, 160, .inl (fun _ => 0))), (q17, .inl (cI, 160, .inl (fun _ => 0))), (q25, .inl (cI, 90, .inl (fun _ => 0)))]) H := hP
  have hD : va_D A ([(h, .inr (2, [.ref q8, .ref q17, .null, .null, .null, .int 0, .int 0, .int 0])), (q8, .inl (cI, 160, .inl (fun _ => 0))), (q17, .inl (cI, 160, .inl (fun _ => 0))), (q25, .inl (cI, 90, .inl (fun _ => 0)))]) := hD
  refine va_putF (D := D) (ci := 2) (v := .ref q25) (ty := (.array .int)) (C := RX2) (T := TX2) (N := 8) hx hb hts (by decide +kernel) tyX2 tyX2_ok nmX2 hown hK hP hD hS 0 rfl rfl 2 (by decide) (hts (.fieldLink RX2 18 "Warren$State" "traits" "[I") (by decide +kernel)) (fun _ h9 => h9) rfl hin rfl (by decide +kernel) rfl rfl (Nat.le_of_ble_eq_true rfl) dX2_init_27 (fun H locs hP hD hS => ?_)
  have hP : va_P D vwCl ([(h, .inr (2, [.ref q8, .ref q17, .ref q25, .null, .null, .int 0, .int 0, .int 0])), (q8, .inl (cI, 160, .inl (fun _ => 0))), (q17, .inl (cI, 160, .inl (fun _ => 0))), (q25, .inl (cI, 90, .inl (fun _ => 0)))]) H := hP
  have hD : va_D A ([(h, .inr (2, [.ref q8, .ref q17, .ref q25, .null, .null, .int 0, .int 0, .int 0])), (q8, .inl (cI, 160, .inl (fun _ => 0))), (q17, .inl (cI, 160, .inl (fun _ => 0))), (q25, .inl (cI, 90, .inl (fun _ => 0)))]) := hD
  refine lv_aload_n hx hb dX2_init_30 rfl (lv_at hl 0 rfl) ?_
  refine lv_bipush (v := 50) hx hb dX2_init_31 (by decide) ?_
  refine w_newI hx hb (hts (.arrayClass .int) (by decide +kernel)) hK hP hD hS hA (by decide) (N' := 50) (by decide) (by decide) (Nat.le_of_ble_eq_true rfl) (Nat.le_of_ble_eq_true rfl) dX2_init_33 (fun q33 H hP hD hS => ?_)
  have hP : va_P D vwCl ([(h, .inr (2, [.ref q8, .ref q17, .ref q25, .null, .null, .int 0, .int 0, .int 0])), (q8, .inl (cI, 160, .inl (fun _ => 0))), (q17, .inl (cI, 160, .inl (fun _ => 0))), (q25, .inl (cI, 90, .inl (fun _ => 0))), (q33, .inl (cI, 50, .inl (fun _ => 0)))]) H := hP
  have hD : va_D A ([(h, .inr (2, [.ref q8, .ref q17, .ref q25, .null, .null, .int 0, .int 0, .int 0])), (q8, .inl (cI, 160, .inl (fun _ => 0))), (q17, .inl (cI, 160, .inl (fun _ => 0))), (q25, .inl (cI, 90, .inl (fun _ => 0))), (q33, .inl (cI, 50, .inl (fun _ => 0)))]) := hD
  refine va_putF (D := D) (ci := 2) (v := .ref q33) (ty := (.array .int)) (C := RX2) (T := TX2) (N := 8) hx hb hts (by decide +kernel) tyX2 tyX2_ok nmX2 hown hK hP hD hS 0 rfl rfl 3 (by decide) (hts (.fieldLink RX2 21 "Warren$State" "stacks" "[I") (by decide +kernel)) (fun _ h9 => h9) rfl hin rfl (by decide +kernel) rfl rfl (Nat.le_of_ble_eq_true rfl) dX2_init_35 (fun H locs hP hD hS => ?_)
  have hP : va_P D vwCl ([(h, .inr (2, [.ref q8, .ref q17, .ref q25, .ref q33, .null, .int 0, .int 0, .int 0])), (q8, .inl (cI, 160, .inl (fun _ => 0))), (q17, .inl (cI, 160, .inl (fun _ => 0))), (q25, .inl (cI, 90, .inl (fun _ => 0))), (q33, .inl (cI, 50, .inl (fun _ => 0)))]) H := hP
  have hD : va_D A ([(h, .inr (2, [.ref q8, .ref q17, .ref q25, .ref q33, .null, .int 0, .int 0, .int 0])), (q8, .inl (cI, 160, .inl (fun _ => 0))), (q17, .inl (cI, 160, .inl (fun _ => 0))), (q25, .inl (cI, 90, .inl (fun _ => 0))), (q33, .inl (cI, 50, .inl (fun _ => 0)))]) := hD
  refine lv_aload_n hx hb dX2_init_38 rfl (lv_at hl 0 rfl) ?_
  refine lv_bipush (v := 50) hx hb dX2_init_39 (by decide) ?_
  refine w_newI hx hb (hts (.arrayClass .int) (by decide +kernel)) hK hP hD hS hA (by decide) (N' := 50) (by decide) (by decide) (Nat.le_of_ble_eq_true rfl) (Nat.le_of_ble_eq_true rfl) dX2_init_41 (fun q41 H hP hD hS => ?_)
  have hP : va_P D vwCl ([(h, .inr (2, [.ref q8, .ref q17, .ref q25, .ref q33, .null, .int 0, .int 0, .int 0])), (q8, .inl (cI, 160, .inl (fun _ => 0))), (q17, .inl (cI, 160, .inl (fun _ => 0))), (q25, .inl (cI, 90, .inl (fun _ => 0))), (q33, .inl (cI, 50, .inl (fun _ => 0))), (q41, .inl (cI, 50, .inl (fun _ => 0)))]) H := hP
  have hD : va_D A ([(h, .inr (2, [.ref q8, .ref q17, .ref q25, .ref q33, .null, .int 0, .int 0, .int 0])), (q8, .inl (cI, 160, .inl (fun _ => 0))), (q17, .inl (cI, 160, .inl (fun _ => 0))), (q25, .inl (cI, 90, .inl (fun _ => 0))), (q33, .inl (cI, 50, .inl (fun _ => 0))), (q41, .inl (cI, 50, .inl (fun _ => 0)))]) := hD
  refine va_putF (D := D) (ci := 2) (v := .ref q41) (ty := (.array .int)) (C := RX2) (T := TX2) (N := 8) hx hb hts (by decide +kernel) tyX2 tyX2_ok nmX2 hown hK hP hD hS 0 rfl rfl 4 (by decide) (hts (.fieldLink RX2 24 "Warren$State" "turns" "[I") (by decide +kernel)) (fun _ h9 => h9) rfl hin rfl (by decide +kernel) rfl rfl (Nat.le_of_ble_eq_true rfl) dX2_init_43 (fun H locs hP hD hS => ?_)
  have hP : va_P D vwCl ([(h, .inr (2, [.ref q8, .ref q17, .ref q25, .ref q33, .ref q41, .int 0, .int 0, .int 0])), (q8, .inl (cI, 160, .inl (fun _ => 0))), (q17, .inl (cI, 160, .inl (fun _ => 0))), (q25, .inl (cI, 90, .inl (fun _ => 0))), (q33, .inl (cI, 50, .inl (fun _ => 0))), (q41, .inl (cI, 50, .inl (fun _ => 0)))]) H := hP
  have hD : va_D A ([(h, .inr (2, [.ref q8, .ref q17, .ref q25, .ref q33, .ref q41, .int 0, .int 0, .int 0])), (q8, .inl (cI, 160, .inl (fun _ => 0))), (q17, .inl (cI, 160, .inl (fun _ => 0))), (q25, .inl (cI, 90, .inl (fun _ => 0))), (q33, .inl (cI, 50, .inl (fun _ => 0))), (q41, .inl (cI, 50, .inl (fun _ => 0)))]) := hD
  refine lv_aload_n hx hb dX2_init_46 rfl (lv_at hl 0 rfl) ?_
  refine va_get (D := D) (ci := 2) (v := .ref q8) (C := RX2) (T := TX2) (N := 8) hx hb hts (by decide +kernel) hown hK hP 0 rfl rfl 0 (by decide) (hts (.fieldLink RX2 9 "Warren$State" "kinds" "[I") (by decide +kernel)) (fun _ h9 => h9) rfl dX2_init_47 ?_
  refine lv_iconst (v := 1) hx hb dX2_init_50 (by decide) ?_
  have hP : va_P D vwCl ([(h, .inr (2, [.ref q8, .ref q17, .ref q25, .ref q33, .ref q41, .int 0, .int 0, .int 0])), (q17, .inl (cI, 160, .inl (fun _ => 0))), (q25, .inl (cI, 90, .inl (fun _ => 0))), (q33, .inl (cI, 50, .inl (fun _ => 0))), (q41, .inl (cI, 50, .inl (fun _ => 0)))] ++ [(q8, .inl (cI, 160, .inl (fun _ => 0)))]) H := hP.sub (ws' := [(h, .inr (2, [.ref q8, .ref q17, .ref q25, .ref q33, .ref q41, .int 0, .int 0, .int 0])), (q17, .inl (cI, 160, .inl (fun _ => 0))), (q25, .inl (cI, 90, .inl (fun _ => 0))), (q33, .inl (cI, 50, .inl (fun _ => 0))), (q41, .inl (cI, 50, .inl (fun _ => 0)))] ++ [(q8, .inl (cI, 160, .inl (fun _ => 0)))]) [0, 2, 3, 4, 5, 1] rfl
  have hD : va_D A ([(h, .inr (2, [.ref q8, .ref q17, .ref q25, .ref q33, .ref q41, .int 0, .int 0, .int 0])), (q17, .inl (cI, 160, .inl (fun _ => 0))), (q25, .inl (cI, 90, .inl (fun _ => 0))), (q33, .inl (cI, 50, .inl (fun _ => 0))), (q41, .inl (cI, 50, .inl (fun _ => 0)))] ++ [(q8, .inl (cI, 160, .inl (fun _ => 0)))]) := hD.sub (ws' := [(h, .inr (2, [.ref q8, .ref q17, .ref q25, .ref q33, .ref q41, .int 0, .int 0, .int 0])), (q17, .inl (cI, 160, .inl (fun _ => 0))), (q25, .inl (cI, 90, .inl (fun _ => 0))), (q33, .inl (cI, 50, .inl (fun _ => 0))), (q41, .inl (cI, 50, .inl (fun _ => 0)))] ++ [(q8, .inl (cI, 160, .inl (fun _ => 0)))]) [0, 2, 3, 4, 5, 1] (by decide) rfl
  have hFc := va_free (wc := [(q8, .inl (cI, 160, .inl (fun _ => 0)))]) hD hS hA [5] rfl
  refine va_callv (va_runS (As := [.ref q8, .int 1]) (rest := []) ⟨hx, hb, hml, hown, hts⟩ (c_J7_fill_53178 l D cI _ q8 160 (fun _ => 0) 1 (by decide)) (va_cwS 2 hts gX2_init_J7_fill_53178 rfl rfl rfl (by decide +kernel) ⟨Nat.le_of_ble_eq_true rfl, Nat.le_of_ble_eq_true rfl⟩) ⟨preM_blind, preM_of (hP.sub (ws' := [(q8, .inl (cI, 160, .inl (fun _ => 0)))]) [5] rfl) hK hE (hD.sub (ws' := [(q8, .inl (cI, 160, .inl (fun _ => 0)))]) [5] (by decide) rfl) [.ref q8, .int 1]⟩ rfl rfl hl.1 rfl (lv_room (Nat.le_of_ble_eq_true rfl)) dX2_init_51 ⟨Nat.le_of_ble_eq_true rfl, Nat.le_of_ble_eq_true rfl⟩) hS (fun q _ h => hFc q h) hFc (fun u t9 H1 locs ht hvm hw hB hz1 hk1 hS => ?_)
  obtain ⟨hP1, hK1, hD1⟩ := hB
  rw [ht] at hP1
  subst hw
  obtain ⟨hP, hD⟩ := va_join (wr := [(h, .inr (2, [.ref q8, .ref q17, .ref q25, .ref q33, .ref q41, .int 0, .int 0, .int 0])), (q17, .inl (cI, 160, .inl (fun _ => 0))), (q25, .inl (cI, 90, .inl (fun _ => 0))), (q33, .inl (cI, 50, .inl (fun _ => 0))), (q41, .inl (cI, 50, .inl (fun _ => 0)))]) (w1 := [(q8, .inl (cI, 160, .inl (fillF (fun _ => 0) 160 1)))]) hP hD [5] [0, 1, 2, 3, 4] rfl rfl (by decide) (by decide) hk1 hFc hP1 hD1
  generalize H1 = H at hP hS ⊢
  have hP : va_P D vwCl ([(h, .inr (2, [.ref q8, .ref q17, .ref q25, .ref q33, .ref q41, .int 0, .int 0, .int 0])), (q17, .inl (cI, 160, .inl (fun _ => 0))), (q25, .inl (cI, 90, .inl (fun _ => 0))), (q33, .inl (cI, 50, .inl (fun _ => 0))), (q41, .inl (cI, 50, .inl (fun _ => 0)))] ++ [(q8, .inl (cI, 160, .inl (fillF (fun _ => 0) 160 1)))]) H := hP
  have hD : va_D A ([(h, .inr (2, [.ref q8, .ref q17, .ref q25, .ref q33, .ref q41, .int 0, .int 0, .int 0])), (q17, .inl (cI, 160, .inl (fun _ => 0))), (q25, .inl (cI, 90, .inl (fun _ => 0))), (q33, .inl (cI, 50, .inl (fun _ => 0))), (q41, .inl (cI, 50, .inl (fun _ => 0)))] ++ [(q8, .inl (cI, 160, .inl (fillF (fun _ => 0) 160 1)))]) := hD
  have hP9 := hP.sub (ws' := sW cI (ad6 h q8 q17 q25 q33 q41) s0) [0, 5, 1, 2, 3, 4] rfl
  have hD9 := hD.sub (ws' := sW cI (ad6 h q8 q17 q25 q33 q41) s0) [0, 5, 1, 2, 3, 4] (by decide) rfl
  exact W.vret hx hb hr (fun T9 ht hW => ⟨⟨(ad6 h q8 q17 q25 q33 q41), rfl, rfl, by rw [ht]; exact hP9, va_K.moved hW.alike hK, hD9⟩, hS.F ht⟩) hS.2.2 dX2_init_54

