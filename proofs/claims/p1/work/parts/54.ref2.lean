set_option maxHeartbeats 4000000 in
set_option maxRecDepth 100000 in
theorem c_X5_copy (l : Launch) (D : va_G) (cI : ClassId) (sz : Nat) (q : Nat) (f : Nat → Int32) : Met l yX5_copy wsX5_copy ({ frames := 1, cells := 1, slots := 683, locals := 60 } : Room) (va_Pc [.ref q] (preM D cI ([(q, .inl (cI, 683, .inl f))]) sz)) (va_Qr (fun (_ : Unit) => True) (fun (_ : Unit) (a : Nat) => posM D cI (va_A ([(q, .inl (cI, 683, .inl f))]) sz) ([(q, .inl (cI, 683, .inl f))] ++ [(a, .inl (cI, 683, .inl f))])) (va_A ([(q, .inl (cI, 683, .inl f))]) sz)) 1 683 (va_A ([(q, .inl (cI, 683, .inl f))]) sz) := by
  refine Met.ofW (cc := cX5_copy) (maxL := 2) (ret := (some (.array .int))) (by decide) rfl ?_
  intro p e s m args below meth c s₁ B hml hv
  obtain ⟨rfl, hsz, hP, hK, hE, hD0⟩ := hv
  have hx := B.exec
  have hb := B.bytes
  have hr := B.returns
  have hts := atoms_spec (ws := wsX5_copy) B.pre
  have hown : s.vm.findClass RX5 = some m.cls := findClass_of_methodNamed B.named
  have hlocks := B.notSynchronized
  subst hsz
  have hD := hD0.self (sz := s.heap.size)
  generalize hAe : va_A ([(q, .inl (cI, 683, .inl f))]) s.heap.size = A at hD ⊢
  have hA : ∀ q : Nat, s.heap.size ≤ q → A q := fun q h => by rw [← hAe]; exact Or.inr h
  have hS : va_S A s.heap s.heap [] := va_S.rf
  have hP : va_P D vwCl ([(q, .inl (cI, 683, .inl f))]) s.heap := hP
  have hl := lv_entry ([.ref q]) (n := 2) (Nat.le_of_ble_eq_true rfl)
  rw [lg_entry_eq]
  generalize (lg_sl ([.ref q]) ++ List.replicate (2 - (lg_sl ([.ref q])).length) Slot.unset).toArray = ls at hl ⊢
  have hl : lv_has ls 2 [(0, .ref q)] := hl
  refine lv_sipush (v := 683) hx hb dX5_copy_0 (by decide) ?_
  refine w_newI hx hb (hts (.arrayClass .int) (by decide +kernel)) hK hP hD hS hA (by decide) (N' := 683) (by decide) (by decide) (Nat.le_of_ble_eq_true rfl) (Nat.le_of_ble_eq_true rfl) dX5_copy_3 (fun q3 H hP hD hS => ?_)
  have hP : va_P D vwCl ([(q, .inl (cI, 683, .inl f))] ++ [(q3, .inl (cI, 683, .inl (fun _ => 0)))]) H := hP
  have hD : va_D A ([(q, .inl (cI, 683, .inl f))] ++ [(q3, .inl (cI, 683, .inl (fun _ => 0)))]) := hD
  refine lv_astore_n (lv' := [(1, .ref q3), (0, .ref q)]) hx hb dX5_copy_5 rfl hl (by decide) rfl (fun ls hl => ?_)
  refine lv_aload_n hx hb dX5_copy_6 rfl (lv_at hl 1 rfl) ?_
  refine lv_iconst (v := 0) hx hb dX5_copy_7 (by decide) ?_
  refine lv_aload_n hx hb dX5_copy_8 rfl (lv_at hl 0 rfl) ?_
  refine lv_iconst (v := 0) hx hb dX5_copy_9 (by decide) ?_
  refine lv_sipush (v := 683) hx hb dX5_copy_10 (by decide) ?_
  refine va_copyi hx hb (hml.trans hl.1.symm) hown (hts (.methodLink RX5 73 arraycopyName) (by decide +kernel)) (hts (.native arraycopyName) (by decide +kernel)) (hts (.static arraycopyName) (by decide +kernel)) (hts (.initialized "java/lang/System") (by decide +kernel)) hK hP hD hS 0 1 0 0 rfl rfl rfl rfl rfl (by decide) (by decide) (by decide) (by decide) (by decide) (fun _ _ => rfl) (Nat.le_of_ble_eq_true rfl) (by decide +kernel) dX5_copy_13 (fun H locs hP hD hS => ?_)
  have hP := P_row hP hD 1 rfl f (by rw [show (683 : Int32).toNatClampNeg = 683 by decide]; exact cpy_all)
  have hD := hD.set (p := 1) (e := .inl (cI, 683, .inl f)) rfl
  have hP : va_P D vwCl ([(q, .inl (cI, 683, .inl f))] ++ [(q3, .inl (cI, 683, .inl f))]) H := hP
  have hD : va_D A ([(q, .inl (cI, 683, .inl f))] ++ [(q3, .inl (cI, 683, .inl f))]) := hD
  refine lv_aload_n hx hb dX5_copy_16 rfl (lv_at hl 0 rfl) ?_
  have hP9 := hP.sub (ws' := [(q, .inl (cI, 683, .inl f))] ++ [(q3, .inl (cI, 683, .inl f))]) [0, 1] rfl
  have hD9 := hD.sub (ws' := [(q, .inl (cI, 683, .inl f))] ++ [(q3, .inl (cI, 683, .inl f))]) [0, 1] (by decide) rfl
  exact W.aret (v := .ref q3) hx hb hr (Or.inr ⟨_, rfl⟩) (Or.inr ⟨_, rfl⟩) (fun T9 ht hW => ⟨⟨(), q3, rfl, trivial, by rw [ht]; exact hP9, va_K.moved hW.alike hK, hD9⟩, hS.F ht⟩) hS.2.2 dX5_copy_17

set_option maxHeartbeats 4000000 in
set_option maxRecDepth 100000 in
theorem c_X5_ahead_0 (l : Launch) (D : va_G) (cI : ClassId) (sz : Nat) (h g0 v0 : Nat) (th : Int32) (g : Nat → Int32) (gm : Int32) (x : Int32) (hg0 : g (680 : Int32).toNatClampNeg = 0) : Met l yX5_ahead wsX5_ahead ({ frames := 2, cells := 1, slots := 683, locals := 81 } : Room) (va_Pc [.ref h, .int x] (preM D cI (qW cI h g0 v0 th g gm) sz)) (va_Qi (fun (r : Int32) (u : (Int32 × (Nat → Int32) × Int32)) => u.1 = nI (followT x) ∧ (followT x = 0 → r = 0)) (fun (u : (Int32 × (Nat → Int32) × Int32)) => posM D cI (va_A (qW cI h g0 v0 th g gm) sz) (qW cI h g0 v0 u.1 u.2.1 u.2.2)) (va_A (qW cI h g0 v0 th g gm) sz)) 1 683 (va_A (qW cI h g0 v0 th g gm) sz) := by
  refine Met.ofW (cc := cX5_ahead) (maxL := 4) (ret := (some .int)) (by decide) rfl ?_
  intro p e s m args below meth c s₁ B hml hv
  obtain ⟨rfl, hsz, hP, hK, hE, hD0⟩ := hv
  have hx := B.exec
  have hb := B.bytes
  have hr := B.returns
  have hts := atoms_spec (ws := wsX5_ahead) B.pre
  have hown : s.vm.findClass RX5 = some m.cls := findClass_of_methodNamed B.named
  have hlocks := B.notSynchronized
  subst hsz
  have hD := hD0.self (sz := s.heap.size)
  generalize hAe : va_A (qW cI h g0 v0 th g gm) s.heap.size = A at hD ⊢
  have hA : ∀ q : Nat, s.heap.size ≤ q → A q := fun q h => by rw [← hAe]; exact Or.inr h
  have hS : va_S A s.heap s.heap [] := va_S.rf
  have hP : va_P D vwCl (qW cI h g0 v0 th g gm) s.heap := hP
  have hl := lv_entry ([.ref h, .int x]) (n := 4) (Nat.le_of_ble_eq_true rfl)
  rw [lg_entry_eq]
  generalize (lg_sl ([.ref h, .int x]) ++ List.replicate (4 - (lg_sl ([.ref h, .int x])).length) Slot.unset).toArray = ls at hl ⊢
  have hl : lv_has ls 4 [(0, .ref h), (1, .int x)] := hl
  refine lv_aload_n hx hb dX5_ahead_0 rfl (lv_at hl 0 rfl) ?_
  refine lv_iconst (v := 0) hx hb dX5_ahead_1 (by decide) ?_
  refine va_put (D := D) (ci := 5) (v := .int 0) (ty := .int) (C := RX5) (T := TX5) (N := 4) hx hb hts (by decide +kernel) tyX5 tyX5_ok nmX5 hown hK hP hD hS 0 rfl rfl 0 (by decide) (hts (.fieldLink RX5 18 "WarrenModel" "thrown" "I") (by decide +kernel)) (fun _ h9 => h9) rfl (by decide +kernel) rfl rfl (Nat.le_of_ble_eq_true rfl) dX5_ahead_2 (fun H locs hP hD hS => ?_)
  have hP : va_P D vwCl (qW cI h g0 v0 0 g gm) H := hP
  have hD : va_D A (qW cI h g0 v0 0 g gm) := hD
  refine lv_iload_n hx hb dX5_ahead_5 rfl (lv_at hl 1 rfl) ?_
  refine lv_iconst (v := 1) hx hb dX5_ahead_6 (by decide) ?_
  refine lv_bipush (v := 40) hx hb dX5_ahead_7 (by decide) ?_
  refine vp_callSi (va_Run.run (va_runS (As := [.int x, .int 1, .int 40]) (rest := []) ⟨hx, hb, hml, hown, hts⟩ (c_X5_isIn l x 1 40) (va_cwS 3 hts gX5_ahead_X5_isIn rfl rfl rfl (by decide +kernel) ⟨Nat.le_of_ble_eq_true rfl, Nat.le_of_ble_eq_true rfl⟩) ⟨fun _ _ _ _ q => q, fun _ _ _ => ⟨rfl, trivial⟩⟩ rfl rfl hl.1 rfl (lv_room (Nat.le_of_ble_eq_true rfl)) dX5_ahead_9 ⟨Nat.zero_le _, Nat.zero_le _⟩)) (fun r hr9 => ?_)
  subst hr9
  refine w_bnz (tgt := 21) hx hb dX5_ahead_12 (by decide) (fun c_12 => ?_) (fun c_12 => ?_)
  · refine lv_aload_n hx hb dX5_ahead_21 rfl (lv_at hl 0 rfl) ?_
    refine va_get (D := D) (ci := 5) (v := .ref g0) (C := RX5) (T := TX5) (N := 4) hx hb hts (by decide +kernel) hown hK hP 0 rfl rfl 1 (by decide) (hts (.fieldLink RX5 9 "WarrenModel" "g" "[I") (by decide +kernel)) (fun _ h9 => h9) rfl dX5_ahead_22 ?_
    refine lv_astore_n (lv' := [(2, .ref g0), (0, .ref h), (1, .int x)]) hx hb dX5_ahead_25 rfl hl (by decide) rfl (fun ls hl => ?_)
    refine lv_aload_n hx hb dX5_ahead_26 rfl (lv_at hl 1 rfl) ?_
    refine lv_aload_n hx hb dX5_ahead_27 rfl (lv_at hl 0 rfl) ?_
    have hFc := va_free (wc := [(g0, .inl (cI, 683, .inl g))]) hD hS hA [1] rfl
    refine va_callr (va_runS (As := [.ref g0]) (rest := [.ref h]) ⟨hx, hb, hml, hown, hts⟩ (c_X5_copy l D cI _ g0 g) (va_cwS 1 hts gX5_ahead_X5_copy rfl rfl rfl (by decide +kernel) ⟨Nat.le_of_ble_eq_true rfl, Nat.le_of_ble_eq_true rfl⟩) ⟨preM_blind, preM_of (hP.sub (ws' := [(g0, .inl (cI, 683, .inl g))]) [1] rfl) hK hE (hD.sub (ws' := [(g0, .inl (cI, 683, .inl g))]) [1] (by decide) rfl) [.ref g0]⟩ rfl rfl hl.1 rfl (lv_room (Nat.le_of_ble_eq_true rfl)) dX5_ahead_28 ⟨Nat.le_of_ble_eq_true rfl, Nat.le_of_ble_eq_true rfl⟩) hS (fun q _ h => hFc q h) hFc (fun _ q28 t9 H1 locs ht hvm hw hB hz1 hk1 hS => ?_)
    obtain ⟨hP1, hK1, hD1⟩ := hB
    rw [ht] at hP1
    obtain ⟨hP, hD⟩ := va_join (wr := [(h, .inr (5, [.int 0, .ref g0, .ref v0, .int gm]))]) (w1 := [(g0, .inl (cI, 683, .inl g))] ++ [(q28, .inl (cI, 683, .inl g))]) hP hD [1] [0] rfl rfl (by decide) (by decide) hk1 hFc hP1 hD1
    generalize H1 = H at hP hS ⊢
    have hP : va_P D vwCl ([(h, .inr (5, [.int 0, .ref g0, .ref v0, .int gm]))] ++ [(g0, .inl (cI, 683, .inl g))] ++ [(q28, .inl (cI, 683, .inl g))]) H := hP
    have hD : va_D A ([(h, .inr (5, [.int 0, .ref g0, .ref v0, .int gm]))] ++ [(g0, .inl (cI, 683, .inl g))] ++ [(q28, .inl (cI, 683, .inl g))]) := hD
    refine va_put (D := D) (ci := 5) (v := .ref q28) (ty := (.array .int)) (C := RX5) (T := TX5) (N := 4) hx hb hts (by decide +kernel) tyX5 tyX5_ok nmX5 hown hK hP hD hS 0 rfl rfl 1 (by decide) (hts (.fieldLink RX5 9 "WarrenModel" "g" "[I") (by decide +kernel)) (fun _ h9 => h9) rfl (by decide +kernel) rfl rfl (Nat.le_of_ble_eq_true rfl) dX5_ahead_31 (fun H locs hP hD hS => ?_)
    have hP : va_P D vwCl ([(h, .inr (5, [.int 0, .ref q28, .ref v0, .int gm]))] ++ [(g0, .inl (cI, 683, .inl g))] ++ [(q28, .inl (cI, 683, .inl g))]) H := hP
    have hD : va_D A ([(h, .inr (5, [.int 0, .ref q28, .ref v0, .int gm]))] ++ [(g0, .inl (cI, 683, .inl g))] ++ [(q28, .inl (cI, 683, .inl g))]) := hD
    have hP : va_P D vwCl (qW cI h q28 v0 0 g gm ++ [(g0, .inl (cI, 683, .inl g))]) H := hP.sub (ws' := qW cI h q28 v0 0 g gm ++ [(g0, .inl (cI, 683, .inl g))]) [0, 2, 1] rfl
    have hD : va_D A (qW cI h q28 v0 0 g gm ++ [(g0, .inl (cI, 683, .inl g))]) := hD.sub (ws' := qW cI h q28 v0 0 g gm ++ [(g0, .inl (cI, 683, .inl g))]) [0, 2, 1] (by decide) rfl
    have hP : va_P D vwCl (qW cI h q28 v0 0 g gm ++ [(g0, .inl (cI, 683, .inl g))]) H := hP
    have hD : va_D A (qW cI h q28 v0 0 g gm ++ [(g0, .inl (cI, 683, .inl g))]) := hD
    refine lv_aload_n hx hb dX5_ahead_34 rfl (lv_at hl 1 rfl) ?_
    refine lv_iload_n hx hb dX5_ahead_35 rfl (lv_at hl 2 rfl) ?_
    refine vp_callSi (va_Run.run (va_runV (As := [.int x]) (rest := []) ⟨hx, hb, hml, hown, hts⟩ (c_X5_followNow_0 l D cI h q28 v0 0 g gm x hg0) (cwV 1 hts gX5_ahead_X5_followNow rfl rfl rfl (by decide +kernel) ⟨Nat.le_of_ble_eq_true rfl, Nat.le_of_ble_eq_true rfl⟩) ⟨preR_blind, va_recv hK hP (ci := 5) (q0 := 0) rfl rfl, preR_of (hP.sub (ws' := qW cI h q28 v0 0 g gm) [0, 1] rfl) hK hE [.ref h, .int x]⟩ rfl rfl hl.1 rfl (lv_room (Nat.le_of_ble_eq_true rfl)) dX5_ahead_36 ⟨Nat.le_of_ble_eq_true rfl, Nat.le_of_ble_eq_true rfl⟩)) (fun r hr9 => ?_)
    subst hr9
    refine lv_pop hx hb dX5_ahead_39 rfl ?_
    refine lv_aload_n hx hb dX5_ahead_40 rfl (lv_at hl 1 rfl) ?_
    refine lv_iconst (v := 0) hx hb dX5_ahead_41 (by decide) ?_
    refine vp_callSi (va_Run.run (va_runV (As := [.int 0]) (rest := []) ⟨hx, hb, hml, hown, hts⟩ (c_X5_life_0 l D cI h q28 v0 0 g gm 0 hg0) (cwV 1 hts gX5_ahead_X5_life rfl rfl rfl (by decide +kernel) ⟨Nat.le_of_ble_eq_true rfl, Nat.le_of_ble_eq_true rfl⟩) ⟨preR_blind, va_recv hK hP (ci := 5) (q0 := 0) rfl rfl, preR_of (hP.sub (ws' := qW cI h q28 v0 0 g gm) [0, 1] rfl) hK hE [.ref h, .int 0]⟩ rfl rfl hl.1 rfl (lv_room (Nat.le_of_ble_eq_true rfl)) dX5_ahead_42 ⟨Nat.le_of_ble_eq_true rfl, Nat.le_of_ble_eq_true rfl⟩)) (fun r hr9 => ?_)
    subst hr9
    refine lv_aload_n hx hb dX5_ahead_45 rfl (lv_at hl 1 rfl) ?_
    refine lv_iconst (v := 1) hx hb dX5_ahead_46 (by decide) ?_
    refine vp_callSi (va_Run.run (va_runV (As := [.int 1]) (rest := [.int 0]) ⟨hx, hb, hml, hown, hts⟩ (c_X5_life_0 l D cI h q28 v0 0 g gm 1 hg0) (cwV 1 hts gX5_ahead_X5_life rfl rfl rfl (by decide +kernel) ⟨Nat.le_of_ble_eq_true rfl, Nat.le_of_ble_eq_true rfl⟩) ⟨preR_blind, va_recv hK hP (ci := 5) (q0 := 0) rfl rfl, preR_of (hP.sub (ws' := qW cI h q28 v0 0 g gm) [0, 1] rfl) hK hE [.ref h, .int 1]⟩ rfl rfl hl.1 rfl (lv_room (Nat.le_of_ble_eq_true rfl)) dX5_ahead_47 ⟨Nat.le_of_ble_eq_true rfl, Nat.le_of_ble_eq_true rfl⟩)) (fun r hr9 => ?_)
    subst hr9
    refine lv_isub hx hb dX5_ahead_50 ?_
    rw [show ((0 - 0) : Int32) = 0 from rfl]
    refine lv_istore_n (lv' := [(3, .int 0), (2, .ref g0), (0, .ref h), (1, .int x)]) hx hb dX5_ahead_51 rfl hl (by decide) rfl (fun ls hl => ?_)
    refine lv_aload_n hx hb dX5_ahead_52 rfl (lv_at hl 2 rfl) ?_
    refine lv_aload_n hx hb dX5_ahead_53 rfl (lv_at hl 1 rfl) ?_
    refine va_put (D := D) (ci := 5) (v := .ref g0) (ty := (.array .int)) (C := RX5) (T := TX5) (N := 4) hx hb hts (by decide +kernel) tyX5 tyX5_ok nmX5 hown hK hP hD hS 0 rfl rfl 1 (by decide) (hts (.fieldLink RX5 9 "WarrenModel" "g" "[I") (by decide +kernel)) (fun _ h9 => h9) rfl (by decide +kernel) rfl rfl (Nat.le_of_ble_eq_true rfl) dX5_ahead_54 (fun H locs hP hD hS => ?_)
    have hP : va_P D vwCl ([(h, .inr (5, [.int 0, .ref g0, .ref v0, .int gm]))] ++ [(q28, .inl (cI, 683, .inl g))] ++ [(g0, .inl (cI, 683, .inl g))]) H := hP
    have hD : va_D A ([(h, .inr (5, [.int 0, .ref g0, .ref v0, .int gm]))] ++ [(q28, .inl (cI, 683, .inl g))] ++ [(g0, .inl (cI, 683, .inl g))]) := hD
    refine lv_iload_n hx hb dX5_ahead_57 rfl (lv_at hl 0 rfl) ?_
    have hP9 := hP.sub (ws' := qW cI h g0 v0 0 g gm) [0, 2] rfl
    have hD9 := hD.sub (ws' := qW cI h g0 v0 0 g gm) [0, 2] (by decide) rfl
    exact W.iret (v := 0) hx hb hr (fun T9 ht hW => ⟨⟨0, (0, g, gm), rfl, ⟨by first | rfl | (rw [(show followT x = 0 from by first | rfl | (simp only [followT, c_12, Bool.false_eq_true, if_false, if_true]; done) | (simp [followT, c_12]; done))]; rfl), fun _ => rfl⟩, by rw [ht]; exact hP9, va_K.moved hW.alike hK, hD9⟩, hS.F ht⟩) hS.2.2 dX5_ahead_58
  · refine lv_aload_n hx hb dX5_ahead_15 rfl (lv_at hl 0 rfl) ?_
    refine lv_iconst (v := 1) hx hb dX5_ahead_16 (by decide) ?_
    have hFc := va_free (wc := qW cI h g0 v0 0 g gm) hD hS hA [0, 1] rfl
    refine va_calli (va_runV (As := [.int 1]) (rest := []) ⟨hx, hb, hml, hown, hts⟩ (c_X5_no l D cI _ h g0 v0 0 g gm 1 ) (cwV 1 hts gX5_ahead_X5_no rfl rfl rfl (by decide +kernel) ⟨Nat.le_of_ble_eq_true rfl, Nat.le_of_ble_eq_true rfl⟩) ⟨preM_blind, va_recv hK hP (ci := 5) (q0 := 0) rfl rfl, preM_of hP hK hE hD [.ref h, .int 1]⟩ rfl rfl hl.1 rfl (lv_room (Nat.le_of_ble_eq_true rfl)) dX5_ahead_17 ⟨Nat.le_of_ble_eq_true rfl, Nat.le_of_ble_eq_true rfl⟩) hS (fun q _ h => hFc q h) hFc (fun r u t9 H1 locs ht hvm hw hB hz1 hk1 hS => ?_)
    obtain ⟨hP1, hK1, hD1⟩ := hB
    rw [ht] at hP1
    obtain ⟨rfl, rfl⟩ := hw
    obtain ⟨hP, hD⟩ := va_join (wr := []) (w1 := qW cI h g0 v0 1 g gm) hP hD [0, 1] [] rfl rfl (by decide) (by decide) hk1 hFc hP1 hD1
    generalize H1 = H at hP hS ⊢
    have hP : va_P D vwCl (qW cI h g0 v0 1 g gm) H := hP
    have hD : va_D A (qW cI h g0 v0 1 g gm) := hD
    have hP9 := hP.sub (ws' := qW cI h g0 v0 1 g gm) [0, 1] rfl
    have hD9 := hD.sub (ws' := qW cI h g0 v0 1 g gm) [0, 1] (by decide) rfl
    refine W.widen (k := 1) (n := 683) (Nat.le_of_ble_eq_true rfl) (Nat.le_of_ble_eq_true rfl) ?_
    exact W.iret (v := 0) hx hb hr (fun T9 ht hW => ⟨⟨0, (1, g, gm), rfl, ⟨by first | rfl | (rw [(show followT x = 1 from by first | rfl | (simp only [followT, c_12, Bool.false_eq_true, if_false, if_true]; done) | (simp [followT, c_12]; done))]; rfl), fun hz => absurd hz (by first | decide | (rw [(show followT x = 1 from by first | rfl | (simp only [followT, c_12, Bool.false_eq_true, if_false, if_true]; done) | (simp [followT, c_12]; done))]; decide))⟩, by rw [ht]; exact hP9, va_K.moved hW.alike hK, hD9⟩, hS.F ht⟩) hS.2.2 dX5_ahead_20

set_option maxHeartbeats 4000000 in
set_option maxRecDepth 100000 in
theorem c_X5_init (l : Launch) (D : va_G) (cI : ClassId) (sz : Nat) (h : Nat) : Met l yX5_init wsX5_initG ({ frames := 1, cells := 2, slots := 688, locals := 12 } : Room) (va_Pc [.ref h] (preM D cI ([(h, .inr (5, [.int 0, .null, .null, .int 0]))]) sz)) (va_Qv (fun (u : (Nat × Nat × Nat × ClassId × (Nat → Int32))) => u.1 = h ∧ fresh u.2.2.2.2) (fun (u : (Nat × Nat × Nat × ClassId × (Nat → Int32))) => (fun t => posM D cI (va_A ([(h, .inr (5, [.int 0, .null, .null, .int 0]))]) sz) (qW cI u.1 u.2.1 u.2.2.1 0 u.2.2.2.2 0 ++ gW u.2.2.1 u.2.2.2.1 (fun _ => none)) t ∧ RowG u.2.2.2.1 t)) (va_A ([(h, .inr (5, [.int 0, .null, .null, .int 0]))]) sz)) 2 688 (va_A ([(h, .inr (5, [.int 0, .null, .null, .int 0]))]) sz) := by
  refine Met.ofW (cc := cX5_init) (maxL := 2) (ret := none) (by decide) rfl ?_
  intro p e s m args below meth c s₁ B hml hv
  obtain ⟨rfl, hsz, hP, hK, hE, hD0⟩ := hv
  have hx := B.exec
  have hb := B.bytes
  have hr := B.returns
  have hts := atoms_spec (ws := wsX5_initG) B.pre
  have hown : s.vm.findClass RX5 = some m.cls := findClass_of_methodNamed B.named
  have hlocks := B.notSynchronized
  have hin : meth.name = "<init>" := (name_of_methodNamed B.named B.method).1
  subst hsz
  have hD := hD0.self (sz := s.heap.size)
  generalize hAe : va_A ([(h, .inr (5, [.int 0, .null, .null, .int 0]))]) s.heap.size = A at hD ⊢
  have hA : ∀ q : Nat, s.heap.size ≤ q → A q := fun q h => by rw [← hAe]; exact Or.inr h
  have hS : va_S A s.heap s.heap [] := va_S.rf
  have hP : va_P D vwCl ([(h, .inr (5, [.int 0, .null, .null, .int 0]))]) s.heap := hP
  have hl := lv_entry ([.ref h]) (n := 2) (Nat.le_of_ble_eq_true rfl)
  rw [lg_entry_eq]
  generalize (lg_sl ([.ref h]) ++ List.replicate (2 - (lg_sl ([.ref h])).length) Slot.unset).toArray = ls at hl ⊢
  have hl : lv_has ls 2 [(0, .ref h)] := hl
  refine lv_aload_n hx hb dX5_init_0 rfl (lv_at hl 0 rfl) ?_
  refine W.objInit hx hb hown (hts (.methodLink RX5 3 objectInit) (by decide +kernel)) (hts (.instanceMethod objectInit) (by decide +kernel)) (hts (.code objectInit ⟨#[0xb1]⟩ 1 none) (by decide +kernel)) rfl (by rw [hml]; exact hl.1) rfl dX5_init_1 (Nat.le_of_ble_eq_true rfl) (Nat.le_of_ble_eq_true rfl) ?_
  refine W.eq (g2 := F0 m 4 ls []) rfl ?_
  refine lv_aload_n hx hb dX5_init_4 rfl (lv_at hl 0 rfl) ?_
  refine lv_sipush (v := 683) hx hb dX5_init_5 (by decide) ?_
  refine w_newI hx hb (hts (.arrayClass .int) (by decide +kernel)) hK hP hD hS hA (by decide) (N' := 683) (by decide) (by decide) (Nat.le_of_ble_eq_true rfl) (Nat.le_of_ble_eq_true rfl) dX5_init_8 (fun q8 H hP hD hS => ?_)
  have hP : va_P D vwCl ([(h, .inr (5, [.int 0, .null, .null, .int 0])), (q8, .inl (cI, 683, .inl (fun _ => 0)))]) H := hP
  have hD : va_D A ([(h, .inr (5, [.int 0, .null, .null, .int 0])), (q8, .inl (cI, 683, .inl (fun _ => 0)))]) := hD
  refine va_put (D := D) (ci := 5) (v := .ref q8) (ty := (.array .int)) (C := RX5) (T := TX5) (N := 4) hx hb hts (by decide +kernel) tyX5 tyX5_ok nmX5 hown hK hP hD hS 0 rfl rfl 1 (by decide) (hts (.fieldLink RX5 9 "WarrenModel" "g" "[I") (by decide +kernel)) (fun _ h9 => h9) rfl (by decide +kernel) rfl rfl (Nat.le_of_ble_eq_true rfl) dX5_init_10 (fun H locs hP hD hS => ?_)
  have hP : va_P D vwCl ([(h, .inr (5, [.int 0, .ref q8, .null, .int 0])), (q8, .inl (cI, 683, .inl (fun _ => 0)))]) H := hP
  have hD : va_D A ([(h, .inr (5, [.int 0, .ref q8, .null, .int 0])), (q8, .inl (cI, 683, .inl (fun _ => 0)))]) := hD
  refine lv_aload_n hx hb dX5_init_13 rfl (lv_at hl 0 rfl) ?_
  refine lv_iconst (v := 5) hx hb dX5_init_14 (by decide) ?_
  refine w_newG (N' := 5) hx hb hown (hts (.classLink RX5 13 "[I") (by decide +kernel)) (hts (.arrayOver (.array .int)) (by decide +kernel)) hP hD hS hA (by decide) (by decide) (by decide) (Nat.le_of_ble_eq_true rfl) (Nat.le_of_ble_eq_true rfl) dX5_init_15 (fun q15 cG H hG hP hD hS => ?_)
  have hP : va_P D vwCl ([(h, .inr (5, [.int 0, .ref q8, .null, .int 0])), (q8, .inl (cI, 683, .inl (fun _ => 0)))] ++ gW q15 cG (fun _ => none)) H := hP
  have hD : va_D A ([(h, .inr (5, [.int 0, .ref q8, .null, .int 0])), (q8, .inl (cI, 683, .inl (fun _ => 0)))] ++ gW q15 cG (fun _ => none)) := hD
  refine va_putF (D := D) (ci := 5) (v := .ref q15) (ty := (.array (.array .int))) (C := RX5) (T := TX5) (N := 4) hx hb hts (by decide +kernel) tyX5 tyX5_ok nmX5 hown hK hP hD hS 0 rfl rfl 2 (by decide) (hts (.fieldLink RX5 14 "WarrenModel" "saved" "[[I") (by decide +kernel)) (fun _ h9 => h9) rfl hin rfl (by decide +kernel) rfl rfl (Nat.le_of_ble_eq_true rfl) dX5_init_18 (fun H locs hP hD hS => ?_)
  have hP : va_P D vwCl ([(h, .inr (5, [.int 0, .ref q8, .ref q15, .int 0])), (q8, .inl (cI, 683, .inl (fun _ => 0)))] ++ gW q15 cG (fun _ => none)) H := hP
  have hD : va_D A ([(h, .inr (5, [.int 0, .ref q8, .ref q15, .int 0])), (q8, .inl (cI, 683, .inl (fun _ => 0)))] ++ gW q15 cG (fun _ => none)) := hD
  refine lv_iconst (v := 0) hx hb dX5_init_21 (by decide) ?_
  refine lv_istore_n (lv' := [(1, .int 0), (0, .ref h)]) hx hb dX5_init_22 rfl hl (by decide) rfl (fun ls hl => ?_)
  have L23 : ∀ (n k : Nat) (g1 : Nat → Int32) (hk : k + n = 160) (h1 : ∀ j, j < k → g1 j = 1) (h0 : ∀ j, k ≤ j → g1 j = 0) (H : Heap) (locs : List Loc) (ls : Array Slot), lv_has ls 2 [(1, .int (nI k)), (0, .ref h)] → va_P D vwCl ([(h, .inr (5, [.int 0, .ref q8, .ref q15, .int 0])), (q8, .inl (cI, 683, .inl g1))] ++ gW q15 cG (fun _ => none)) H → va_D A ([(h, .inr (5, [.int 0, .ref q8, .ref q15, .int 0])), (q8, .inl (cI, 683, .inl g1))] ++ gW q15 cG (fun _ => none)) → va_S A s.heap H locs → W p l e ({ frames := 1, cells := 2, slots := 688, locals := 12 } : Room) s m ([.ref h] : List Value).toArray below meth c H locs 2 688 (MQ below (va_Qv (fun (u : (Nat × Nat × Nat × ClassId × (Nat → Int32))) => u.1 = h ∧ fresh u.2.2.2.2) (fun (u : (Nat × Nat × Nat × ClassId × (Nat → Int32))) => (fun t => posM D cI A (qW cI u.1 u.2.1 u.2.2.1 0 u.2.2.2.2 0 ++ gW u.2.2.1 u.2.2.2.1 (fun _ => none)) t ∧ RowG u.2.2.2.1 t)) A) ([.ref h] : List Value).toArray s 2 688 A) (F0 m 23 ls []) := by
    intro n
    induction n with
    | zero =>
      intro k g1 hk h1 h0 H locs ls hl hP hD hS
      refine lv_iload_n hx hb dX5_init_23 rfl (lv_at hl 0 rfl) ?_
      refine lv_sipush (v := 160) hx hb dX5_init_24 (by decide) ?_
      refine lv_icmp_ge (tgt := 43) hx hb dX5_init_27 (by decide) (fun c_27 => ?_) (fun c_27 => absurd (nI_le (b := k) (a := 160) (by omega) (by omega)) c_27)
      have hP9 := hP
      have hD9 := hD
      exact W.vret hx hb hr (fun T9 ht hW => ⟨⟨(h, q8, q15, cG, g1), rfl, ⟨rfl, fun j hj => h1 j (by omega), fun j hj => h0 j (by omega)⟩, ⟨by rw [ht]; exact hP9, va_K.moved hW.alike hK, hD9⟩, RowG.moved hW.alike hG⟩, hS.F ht⟩) hS.2.2 dX5_init_43
    | succ n ih23 =>
      intro k g1 hk h1 h0 H locs ls hl hP hD hS
      refine lv_iload_n hx hb dX5_init_23 rfl (lv_at hl 0 rfl) ?_
      refine lv_sipush (v := 160) hx hb dX5_init_24 (by decide) ?_
      refine lv_icmp_ge (tgt := 43) hx hb dX5_init_27 (by decide) (fun c_27 => absurd c_27 (nI_ge (b := 160) (by omega) (by omega))) (fun c_27 => ?_)
      refine lv_aload_n hx hb dX5_init_30 rfl (lv_at hl 1 rfl) ?_
      refine va_get (D := D) (ci := 5) (v := .ref q8) (C := RX5) (T := TX5) (N := 4) hx hb hts (by decide +kernel) hown hK hP 0 rfl rfl 1 (by decide) (hts (.fieldLink RX5 9 "WarrenModel" "g" "[I") (by decide +kernel)) (fun _ h9 => h9) rfl dX5_init_31 ?_
      refine lv_iload_n hx hb dX5_init_34 rfl (lv_at hl 0 rfl) ?_
      refine lv_iconst (v := 1) hx hb dX5_init_35 (by decide) ?_
      refine va_iast hx hb hK hP hD hS 1 0 rfl rfl (vp_in_nI (n := k) (by omega) (by decide)) dX5_init_36 (fun H locs hP hD hS => ?_)
      have hP : va_P D vwCl ([(h, .inr (5, [.int 0, .ref q8, .ref q15, .int 0])), (q8, .inl (cI, 683, .inl (upd g1 (nI k).toNatClampNeg 1)))] ++ gW q15 cG (fun _ => none)) H := hP
      have hD : va_D A ([(h, .inr (5, [.int 0, .ref q8, .ref q15, .int 0])), (q8, .inl (cI, 683, .inl (upd g1 (nI k).toNatClampNeg 1)))] ++ gW q15 cG (fun _ => none)) := hD
      refine lv_iinc (v := (nI (k + 1))) (lv' := [(1, .int (nI (k + 1))), (0, .ref h)]) hx hb dX5_init_37 hl (k := 0) rfl (nI_1 k) (by decide) rfl (fun ls hl => ?_)
      refine lv_goto (tgt := 23) hx hb dX5_init_40 (by decide) ?_
      exact ih23 (k + 1) (upd g1 (nI k).toNatClampNeg 1) (by omega) (init_put h1 h0 (by omega)).1 (init_put h1 h0 (by omega)).2 _ _ ls (lv_sub hl [0, 1] rfl) hP hD hS
  exact L23 160 0 (fun _ => 0) (by omega) (fun _ h => absurd h (Nat.not_lt_zero _)) (fun _ _ => rfl) _ _ ls (lv_sub hl [0, 1] rfl) hP hD hS

set_option maxHeartbeats 4000000 in
set_option maxRecDepth 100000 in
theorem c_X5_save_0 (l : Launch) (D : va_G) (cI : ClassId) (sz : Nat) (h g0 v0 : Nat) (th : Int32) (g : Nat → Int32) (gm : Int32) (cG : ClassId) (f : Nat → Option Nat) (hgm : gm = 0) : Met l yX5_save wsX5_save ({ frames := 2, cells := 1, slots := 683, locals := 81 } : Room) (va_Pc [.ref h] (preG D cI (qW cI h g0 v0 th g gm ++ gW v0 cG f) sz cG)) (va_Qi (fun (r : Int32) (u : (Int32 × (Nat → Int32) × Int32)) => r = 0 ∧ u.1 = 0) (fun (u : (Int32 × (Nat → Int32) × Int32)) => posM D cI (va_A (qW cI h g0 v0 th g gm ++ gW v0 cG f) sz) (qW cI h g0 v0 u.1 u.2.1 u.2.2)) (va_A (qW cI h g0 v0 th g gm ++ gW v0 cG f) sz)) 1 683 (va_A (qW cI h g0 v0 th g gm ++ gW v0 cG f) sz) := by
  refine Met.ofW (cc := cX5_save) (maxL := 1) (ret := (some .int)) (by decide) rfl ?_
  intro p e s m args below meth c s₁ B hml hv
  obtain ⟨rfl, ⟨hsz, hP, hK, hE, hD0⟩, hG⟩ := hv
  have hx := B.exec
  have hb := B.bytes
  have hr := B.returns
  have hts := atoms_spec (ws := wsX5_save) B.pre
  have hown : s.vm.findClass RX5 = some m.cls := findClass_of_methodNamed B.named
  have hlocks := B.notSynchronized
  subst hsz
  have hD := hD0.self (sz := s.heap.size)
  generalize hAe : va_A (qW cI h g0 v0 th g gm ++ gW v0 cG f) s.heap.size = A at hD ⊢
  have hA : ∀ q : Nat, s.heap.size ≤ q → A q := fun q h => by rw [← hAe]; exact Or.inr h
  have hS : va_S A s.heap s.heap [] := va_S.rf
  have hP : va_P D vwCl (qW cI h g0 v0 th g gm ++ gW v0 cG f) s.heap := hP
  have hl := lv_entry ([.ref h]) (n := 1) (Nat.le_of_ble_eq_true rfl)
  rw [lg_entry_eq]
  generalize (lg_sl ([.ref h]) ++ List.replicate (1 - (lg_sl ([.ref h])).length) Slot.unset).toArray = ls at hl ⊢
  have hl : lv_has ls 1 [(0, .ref h)] := hl
  refine lv_aload_n hx hb dX5_save_0 rfl (lv_at hl 0 rfl) ?_
  refine lv_iconst (v := 0) hx hb dX5_save_1 (by decide) ?_
  refine va_put (D := D) (ci := 5) (v := .int 0) (ty := .int) (C := RX5) (T := TX5) (N := 4) hx hb hts (by decide +kernel) tyX5 tyX5_ok nmX5 hown hK hP hD hS 0 rfl rfl 0 (by decide) (hts (.fieldLink RX5 18 "WarrenModel" "thrown" "I") (by decide +kernel)) (fun _ h9 => h9) rfl (by decide +kernel) rfl rfl (Nat.le_of_ble_eq_true rfl) dX5_save_2 (fun H locs hP hD hS => ?_)
  have hP : va_P D vwCl (qW cI h g0 v0 0 g gm ++ gW v0 cG f) H := hP
  have hD : va_D A (qW cI h g0 v0 0 g gm ++ gW v0 cG f) := hD
  refine lv_aload_n hx hb dX5_save_5 rfl (lv_at hl 0 rfl) ?_
  refine va_get (D := D) (ci := 5) (v := .int gm) (C := RX5) (T := TX5) (N := 4) hx hb hts (by decide +kernel) hown hK hP 0 rfl rfl 3 (by decide) (hts (.fieldLink RX5 106 "WarrenModel" "games" "I") (by decide +kernel)) (fun _ h9 => h9) rfl dX5_save_6 ?_
  refine lv_iconst (v := 5) hx hb dX5_save_9 (by decide) ?_
  refine lv_icmp_ne (tgt := 19) hx hb dX5_save_10 (by decide) (fun c_10 => ?_) (fun c_10 => absurd c_10 (by rw [hgm]; decide))
  refine lv_aload_n hx hb dX5_save_19 rfl (lv_at hl 0 rfl) ?_
  refine va_get (D := D) (ci := 5) (v := .ref v0) (C := RX5) (T := TX5) (N := 4) hx hb hts (by decide +kernel) hown hK hP 0 rfl rfl 2 (by decide) (hts (.fieldLink RX5 14 "WarrenModel" "saved" "[[I") (by decide +kernel)) (fun _ h9 => h9) rfl dX5_save_20 ?_
  refine lv_aload_n hx hb dX5_save_23 rfl (lv_at hl 0 rfl) ?_
  refine va_get (D := D) (ci := 5) (v := .int gm) (C := RX5) (T := TX5) (N := 4) hx hb hts (by decide +kernel) hown hK hP 0 rfl rfl 3 (by decide) (hts (.fieldLink RX5 106 "WarrenModel" "games" "I") (by decide +kernel)) (fun _ h9 => h9) rfl dX5_save_24 ?_
  refine lv_aload_n hx hb dX5_save_27 rfl (lv_at hl 0 rfl) ?_
  refine va_get (D := D) (ci := 5) (v := .ref g0) (C := RX5) (T := TX5) (N := 4) hx hb hts (by decide +kernel) hown hK hP 0 rfl rfl 1 (by decide) (hts (.fieldLink RX5 9 "WarrenModel" "g" "[I") (by decide +kernel)) (fun _ h9 => h9) rfl dX5_save_28 ?_
  have hFc := va_free (wc := [(g0, .inl (cI, 683, .inl g))]) hD hS hA [1] rfl
  refine va_callr (va_runS (As := [.ref g0]) (rest := [.int gm, .ref v0]) ⟨hx, hb, hml, hown, hts⟩ (c_X5_copy l D cI _ g0 g) (va_cwS 1 hts gX5_save_X5_copy rfl rfl rfl (by decide +kernel) ⟨Nat.le_of_ble_eq_true rfl, Nat.le_of_ble_eq_true rfl⟩) ⟨preM_blind, preM_of (hP.sub (ws' := [(g0, .inl (cI, 683, .inl g))]) [1] rfl) hK hE (hD.sub (ws' := [(g0, .inl (cI, 683, .inl g))]) [1] (by decide) rfl) [.ref g0]⟩ rfl rfl hl.1 rfl (lv_room (Nat.le_of_ble_eq_true rfl)) dX5_save_31 ⟨Nat.le_of_ble_eq_true rfl, Nat.le_of_ble_eq_true rfl⟩) hS (fun q _ h => hFc q h) hFc (fun _ q31 t9 H1 locs ht hvm hw hB hz1 hk1 hS => ?_)
  obtain ⟨hP1, hK1, hD1⟩ := hB
  rw [ht] at hP1
  obtain ⟨hP, hD⟩ := va_join (wr := [(h, .inr (5, [.int 0, .ref g0, .ref v0, .int gm]))] ++ gW v0 cG f) (w1 := [(g0, .inl (cI, 683, .inl g))] ++ [(q31, .inl (cI, 683, .inl g))]) hP hD [1] [0, 2] rfl rfl (by decide) (by decide) hk1 hFc hP1 hD1
  generalize H1 = H at hP hS ⊢
  have hP : va_P D vwCl ([(h, .inr (5, [.int 0, .ref g0, .ref v0, .int gm]))] ++ gW v0 cG f ++ [(g0, .inl (cI, 683, .inl g))] ++ [(q31, .inl (cI, 683, .inl g))]) H := hP
  have hD : va_D A ([(h, .inr (5, [.int 0, .ref g0, .ref v0, .int gm]))] ++ gW v0 cG f ++ [(g0, .inl (cI, 683, .inl g))] ++ [(q31, .inl (cI, 683, .inl g))]) := hD
  refine w_putG hx hb hK hP hD hS 1 3 hG rfl rfl (by rw [hgm]; exact vp_in_nI (n := 0) (by decide) (by decide)) dX5_save_34 (fun H locs hP hD hS => ?_)
  have hP : va_P D vwCl ([(h, .inr (5, [.int 0, .ref g0, .ref v0, .int gm]))] ++ gW v0 cG (va_up f gm.toNatClampNeg (some q31)) ++ [(g0, .inl (cI, 683, .inl g))] ++ [(q31, .inl (cI, 683, .inl g))]) H := hP
  have hD : va_D A ([(h, .inr (5, [.int 0, .ref g0, .ref v0, .int gm]))] ++ gW v0 cG (va_up f gm.toNatClampNeg (some q31)) ++ [(g0, .inl (cI, 683, .inl g))] ++ [(q31, .inl (cI, 683, .inl g))]) := hD
  refine lv_aload_n hx hb dX5_save_35 rfl (lv_at hl 0 rfl) ?_
  refine lv_dup hx hb dX5_save_36 rfl ?_
  refine va_get (D := D) (ci := 5) (v := .int gm) (C := RX5) (T := TX5) (N := 4) hx hb hts (by decide +kernel) hown hK hP 0 rfl rfl 3 (by decide) (hts (.fieldLink RX5 106 "WarrenModel" "games" "I") (by decide +kernel)) (fun _ h9 => h9) rfl dX5_save_37 ?_
  refine lv_dup_x1 hx hb dX5_save_40 rfl rfl ?_
  refine lv_iconst (v := 1) hx hb dX5_save_41 (by decide) ?_
  refine lv_iadd hx hb dX5_save_42 ?_
  refine va_put (D := D) (ci := 5) (v := .int (gm + 1)) (ty := .int) (C := RX5) (T := TX5) (N := 4) hx hb hts (by decide +kernel) tyX5 tyX5_ok nmX5 hown hK hP hD hS 0 rfl rfl 3 (by decide) (hts (.fieldLink RX5 106 "WarrenModel" "games" "I") (by decide +kernel)) (fun _ h9 => h9) rfl (by decide +kernel) rfl rfl (Nat.le_of_ble_eq_true rfl) dX5_save_43 (fun H locs hP hD hS => ?_)
  have hP : va_P D vwCl ([(h, .inr (5, [.int 0, .ref g0, .ref v0, .int (gm + 1)]))] ++ gW v0 cG (va_up f gm.toNatClampNeg (some q31)) ++ [(g0, .inl (cI, 683, .inl g))] ++ [(q31, .inl (cI, 683, .inl g))]) H := hP
  have hD : va_D A ([(h, .inr (5, [.int 0, .ref g0, .ref v0, .int (gm + 1)]))] ++ gW v0 cG (va_up f gm.toNatClampNeg (some q31)) ++ [(g0, .inl (cI, 683, .inl g))] ++ [(q31, .inl (cI, 683, .inl g))]) := hD
  have hP9 := hP.sub (ws' := qW cI h g0 v0 0 g (gm + 1)) [0, 2] rfl
  have hD9 := hD.sub (ws' := qW cI h g0 v0 0 g (gm + 1)) [0, 2] (by decide) rfl
  exact W.iret (v := gm) hx hb hr (fun T9 ht hW => ⟨⟨gm, (0, g, gm + 1), rfl, ⟨hgm, rfl⟩, by rw [ht]; exact hP9, va_K.moved hW.alike hK, hD9⟩, hS.F ht⟩) hS.2.2 dX5_save_46

