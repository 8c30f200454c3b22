set_option maxHeartbeats 4000000 in
set_option maxRecDepth 100000 in
theorem c_X2_copyFrom (l : Launch) (D : va_G) (cI : ClassId) (sz : Nat) (a : Nat → Nat) (σ : SS) (b : Nat → Nat) (τ : SS) : Met l yX2_copyFrom wsX2_copyFrom ({ frames := 1, cells := 0, slots := 0, locals := 60 } : Room) (va_Pc [.ref (a 0), .ref (b 0)] (preM D cI (sW cI a σ ++ sW cI b τ) sz)) (va_Qv (fun (u : SS) => u = τ) (fun (u : SS) => posM D cI (va_A (sW cI a σ ++ sW cI b τ) sz) (sW cI a u ++ sW cI b τ)) (va_A (sW cI a σ ++ sW cI b τ) sz)) 0 0 (va_A (sW cI a σ ++ sW cI b τ) sz) := by
  refine Met.ofW (cc := cX2_copyFrom) (maxL := 2) (ret := none) (by decide) rfl ?_
  intro p e s m args below meth c s₁ B hml hv
  obtain ⟨rfl, hsz, hP, hK, hE, hD0⟩ := hv
  have hx := B.exec
  have hb := B.bytes
  have hr := B.returns
  have hts := atoms_spec (ws := wsX2_copyFrom) B.pre
  have hown : s.vm.findClass RX2 = some m.cls := findClass_of_methodNamed B.named
  have hlocks := B.notSynchronized
  subst hsz
  have hD := hD0.self (sz := s.heap.size)
  generalize hAe : va_A (sW cI a σ ++ sW cI b τ) s.heap.size = A at hD ⊢
  have hA : ∀ q : Nat, s.heap.size ≤ q → A q := fun q h => by rw [← hAe]; exact Or.inr h
  have hS : va_S A s.heap s.heap [] := va_S.rf
  have hP : va_P D vwCl (sW cI a σ ++ sW cI b τ) s.heap := hP
  have hl := lv_entry ([.ref (a 0), .ref (b 0)]) (n := 2) (Nat.le_of_ble_eq_true rfl)
  rw [lg_entry_eq]
  generalize (lg_sl ([.ref (a 0), .ref (b 0)]) ++ List.replicate (2 - (lg_sl ([.ref (a 0), .ref (b 0)])).length) Slot.unset).toArray = ls at hl ⊢
  have hl : lv_has ls 2 [(0, .ref (a 0)), (1, .ref (b 0))] := hl
  refine lv_aload_n hx hb dX2_copyFrom_0 rfl (lv_at hl 1 rfl) ?_
  refine va_get (D := D) (ci := 2) (v := .ref (b 1)) (C := RX2) (T := TX2) (N := 8) hx hb hts (by decide +kernel) hown hK hP 6 rfl rfl 0 (by decide) (hts (.fieldLink RX2 9 "Warren$State" "kinds" "[I") (by decide +kernel)) (fun _ h9 => h9) rfl dX2_copyFrom_1 ?_
  refine lv_iconst (v := 0) hx hb dX2_copyFrom_4 (by decide) ?_
  refine lv_aload_n hx hb dX2_copyFrom_5 rfl (lv_at hl 0 rfl) ?_
  refine va_get (D := D) (ci := 2) (v := .ref (a 1)) (C := RX2) (T := TX2) (N := 8) hx hb hts (by decide +kernel) hown hK hP 0 rfl rfl 0 (by decide) (hts (.fieldLink RX2 9 "Warren$State" "kinds" "[I") (by decide +kernel)) (fun _ h9 => h9) rfl dX2_copyFrom_6 ?_
  refine lv_iconst (v := 0) hx hb dX2_copyFrom_9 (by decide) ?_
  refine lv_aload_n hx hb dX2_copyFrom_10 rfl (lv_at hl 0 rfl) ?_
  refine va_get (D := D) (ci := 2) (v := .ref (a 1)) (C := RX2) (T := TX2) (N := 8) hx hb hts (by decide +kernel) hown hK hP 0 rfl rfl 0 (by decide) (hts (.fieldLink RX2 9 "Warren$State" "kinds" "[I") (by decide +kernel)) (fun _ h9 => h9) rfl dX2_copyFrom_11 ?_
  refine va_alen (v := nI 160) hx hb hK hP 1 0 rfl rfl rfl dX2_copyFrom_14 ?_
  refine va_copyi hx hb (hml.trans hl.1.symm) hown (hts (.methodLink RX2 33 arraycopyName) (by decide +kernel)) (hts (.native arraycopyName) (by decide +kernel)) (hts (.static arraycopyName) (by decide +kernel)) (hts (.initialized "java/lang/System") (by decide +kernel)) hK hP hD hS 7 1 0 0 rfl rfl rfl rfl rfl (by decide) (by decide) (by decide) (by decide) (by decide) (fun _ _ => rfl) (Nat.le_of_ble_eq_true rfl) (by decide +kernel) dX2_copyFrom_15 (fun H locs hP hD hS => ?_)
  have hP := P_row hP hD 1 rfl (s_ki τ) (by rw [show ((nI 160)).toNatClampNeg = 160 by decide]; exact cpy_all)
  have hD := hD.set (p := 1) (e := .inl (cI, 160, .inl (s_ki τ))) rfl
  have hP : va_P D vwCl (sW cI a (w_ki σ (s_ki τ)) ++ sW cI b τ) H := hP
  have hD : va_D A (sW cI a (w_ki σ (s_ki τ)) ++ sW cI b τ) := hD
  refine lv_aload_n hx hb dX2_copyFrom_18 rfl (lv_at hl 1 rfl) ?_
  refine va_get (D := D) (ci := 2) (v := .ref (b 2)) (C := RX2) (T := TX2) (N := 8) hx hb hts (by decide +kernel) hown hK hP 6 rfl rfl 1 (by decide) (hts (.fieldLink RX2 15 "Warren$State" "known" "[I") (by decide +kernel)) (fun _ h9 => h9) rfl dX2_copyFrom_19 ?_
  refine lv_iconst (v := 0) hx hb dX2_copyFrom_22 (by decide) ?_
  refine lv_aload_n hx hb dX2_copyFrom_23 rfl (lv_at hl 0 rfl) ?_
  refine va_get (D := D) (ci := 2) (v := .ref (a 2)) (C := RX2) (T := TX2) (N := 8) hx hb hts (by decide +kernel) hown hK hP 0 rfl rfl 1 (by decide) (hts (.fieldLink RX2 15 "Warren$State" "known" "[I") (by decide +kernel)) (fun _ h9 => h9) rfl dX2_copyFrom_24 ?_
  refine lv_iconst (v := 0) hx hb dX2_copyFrom_27 (by decide) ?_
  refine lv_aload_n hx hb dX2_copyFrom_28 rfl (lv_at hl 0 rfl) ?_
  refine va_get (D := D) (ci := 2) (v := .ref (a 2)) (C := RX2) (T := TX2) (N := 8) hx hb hts (by decide +kernel) hown hK hP 0 rfl rfl 1 (by decide) (hts (.fieldLink RX2 15 "Warren$State" "known" "[I") (by decide +kernel)) (fun _ h9 => h9) rfl dX2_copyFrom_29 ?_
  refine va_alen (v := nI 160) hx hb hK hP 2 0 rfl rfl rfl dX2_copyFrom_32 ?_
  refine va_copyi hx hb (hml.trans hl.1.symm) hown (hts (.methodLink RX2 33 arraycopyName) (by decide +kernel)) (hts (.native arraycopyName) (by decide +kernel)) (hts (.static arraycopyName) (by decide +kernel)) (hts (.initialized "java/lang/System") (by decide +kernel)) hK hP hD hS 8 2 0 0 rfl rfl rfl rfl rfl (by decide) (by decide) (by decide) (by decide) (by decide) (fun _ _ => rfl) (Nat.le_of_ble_eq_true rfl) (by decide +kernel) dX2_copyFrom_33 (fun H locs hP hD hS => ?_)
  have hP := P_row hP hD 2 rfl (s_kn τ) (by rw [show ((nI 160)).toNatClampNeg = 160 by decide]; exact cpy_all)
  have hD := hD.set (p := 2) (e := .inl (cI, 160, .inl (s_kn τ))) rfl
  have hP : va_P D vwCl (sW cI a (w_kn (w_ki σ (s_ki τ)) (s_kn τ)) ++ sW cI b τ) H := hP
  have hD : va_D A (sW cI a (w_kn (w_ki σ (s_ki τ)) (s_kn τ)) ++ sW cI b τ) := hD
  refine lv_aload_n hx hb dX2_copyFrom_36 rfl (lv_at hl 1 rfl) ?_
  refine va_get (D := D) (ci := 2) (v := .ref (b 3)) (C := RX2) (T := TX2) (N := 8) hx hb hts (by decide +kernel) hown hK hP 6 rfl rfl 2 (by decide) (hts (.fieldLink RX2 18 "Warren$State" "traits" "[I") (by decide +kernel)) (fun _ h9 => h9) rfl dX2_copyFrom_37 ?_
  refine lv_iconst (v := 0) hx hb dX2_copyFrom_40 (by decide) ?_
  refine lv_aload_n hx hb dX2_copyFrom_41 rfl (lv_at hl 0 rfl) ?_
  refine va_get (D := D) (ci := 2) (v := .ref (a 3)) (C := RX2) (T := TX2) (N := 8) hx hb hts (by decide +kernel) hown hK hP 0 rfl rfl 2 (by decide) (hts (.fieldLink RX2 18 "Warren$State" "traits" "[I") (by decide +kernel)) (fun _ h9 => h9) rfl dX2_copyFrom_42 ?_
  refine lv_iconst (v := 0) hx hb dX2_copyFrom_45 (by decide) ?_
  refine lv_aload_n hx hb dX2_copyFrom_46 rfl (lv_at hl 0 rfl) ?_
  refine va_get (D := D) (ci := 2) (v := .ref (a 3)) (C := RX2) (T := TX2) (N := 8) hx hb hts (by decide +kernel) hown hK hP 0 rfl rfl 2 (by decide) (hts (.fieldLink RX2 18 "Warren$State" "traits" "[I") (by decide +kernel)) (fun _ h9 => h9) rfl dX2_copyFrom_47 ?_
  refine va_alen (v := nI 90) hx hb hK hP 3 0 rfl rfl rfl dX2_copyFrom_50 ?_
  refine va_copyi hx hb (hml.trans hl.1.symm) hown (hts (.methodLink RX2 33 arraycopyName) (by decide +kernel)) (hts (.native arraycopyName) (by decide +kernel)) (hts (.static arraycopyName) (by decide +kernel)) (hts (.initialized "java/lang/System") (by decide +kernel)) hK hP hD hS 9 3 0 0 rfl rfl rfl rfl rfl (by decide) (by decide) (by decide) (by decide) (by decide) (fun _ _ => rfl) (Nat.le_of_ble_eq_true rfl) (by decide +kernel) dX2_copyFrom_51 (fun H locs hP hD hS => ?_)
  have hP := P_row hP hD 3 rfl (s_tr τ) (by rw [show ((nI 90)).toNatClampNeg = 90 by decide]; exact cpy_all)
  have hD := hD.set (p := 3) (e := .inl (cI, 90, .inl (s_tr τ))) rfl
  have hP : va_P D vwCl (sW cI a (w_tr (w_kn (w_ki σ (s_ki τ)) (s_kn τ)) (s_tr τ)) ++ sW cI b τ) H := hP
  have hD : va_D A (sW cI a (w_tr (w_kn (w_ki σ (s_ki τ)) (s_kn τ)) (s_tr τ)) ++ sW cI b τ) := hD
  refine lv_aload_n hx hb dX2_copyFrom_54 rfl (lv_at hl 1 rfl) ?_
  refine va_get (D := D) (ci := 2) (v := .ref (b 4)) (C := RX2) (T := TX2) (N := 8) hx hb hts (by decide +kernel) hown hK hP 6 rfl rfl 3 (by decide) (hts (.fieldLink RX2 21 "Warren$State" "stacks" "[I") (by decide +kernel)) (fun _ h9 => h9) rfl dX2_copyFrom_55 ?_
  refine lv_iconst (v := 0) hx hb dX2_copyFrom_58 (by decide) ?_
  refine lv_aload_n hx hb dX2_copyFrom_59 rfl (lv_at hl 0 rfl) ?_
  refine va_get (D := D) (ci := 2) (v := .ref (a 4)) (C := RX2) (T := TX2) (N := 8) hx hb hts (by decide +kernel) hown hK hP 0 rfl rfl 3 (by decide) (hts (.fieldLink RX2 21 "Warren$State" "stacks" "[I") (by decide +kernel)) (fun _ h9 => h9) rfl dX2_copyFrom_60 ?_
  refine lv_iconst (v := 0) hx hb dX2_copyFrom_63 (by decide) ?_
  refine lv_aload_n hx hb dX2_copyFrom_64 rfl (lv_at hl 0 rfl) ?_
  refine va_get (D := D) (ci := 2) (v := .ref (a 4)) (C := RX2) (T := TX2) (N := 8) hx hb hts (by decide +kernel) hown hK hP 0 rfl rfl 3 (by decide) (hts (.fieldLink RX2 21 "Warren$State" "stacks" "[I") (by decide +kernel)) (fun _ h9 => h9) rfl dX2_copyFrom_65 ?_
  refine va_alen (v := nI 50) hx hb hK hP 4 0 rfl rfl rfl dX2_copyFrom_68 ?_
  refine va_copyi hx hb (hml.trans hl.1.symm) hown (hts (.methodLink RX2 33 arraycopyName) (by decide +kernel)) (hts (.native arraycopyName) (by decide +kernel)) (hts (.static arraycopyName) (by decide +kernel)) (hts (.initialized "java/lang/System") (by decide +kernel)) hK hP hD hS 10 4 0 0 rfl rfl rfl rfl rfl (by decide) (by decide) (by decide) (by decide) (by decide) (fun _ _ => rfl) (Nat.le_of_ble_eq_true rfl) (by decide +kernel) dX2_copyFrom_69 (fun H locs hP hD hS => ?_)
  have hP := P_row hP hD 4 rfl (s_st τ) (by rw [show ((nI 50)).toNatClampNeg = 50 by decide]; exact cpy_all)
  have hD := hD.set (p := 4) (e := .inl (cI, 50, .inl (s_st τ))) rfl
  have hP : va_P D vwCl (sW cI a (w_st (w_tr (w_kn (w_ki σ (s_ki τ)) (s_kn τ)) (s_tr τ)) (s_st τ)) ++ sW cI b τ) H := hP
  have hD : va_D A (sW cI a (w_st (w_tr (w_kn (w_ki σ (s_ki τ)) (s_kn τ)) (s_tr τ)) (s_st τ)) ++ sW cI b τ) := hD
  refine lv_aload_n hx hb dX2_copyFrom_72 rfl (lv_at hl 1 rfl) ?_
  refine va_get (D := D) (ci := 2) (v := .ref (b 5)) (C := RX2) (T := TX2) (N := 8) hx hb hts (by decide +kernel) hown hK hP 6 rfl rfl 4 (by decide) (hts (.fieldLink RX2 24 "Warren$State" "turns" "[I") (by decide +kernel)) (fun _ h9 => h9) rfl dX2_copyFrom_73 ?_
  refine lv_iconst (v := 0) hx hb dX2_copyFrom_76 (by decide) ?_
  refine lv_aload_n hx hb dX2_copyFrom_77 rfl (lv_at hl 0 rfl) ?_
  refine va_get (D := D) (ci := 2) (v := .ref (a 5)) (C := RX2) (T := TX2) (N := 8) hx hb hts (by decide +kernel) hown hK hP 0 rfl rfl 4 (by decide) (hts (.fieldLink RX2 24 "Warren$State" "turns" "[I") (by decide +kernel)) (fun _ h9 => h9) rfl dX2_copyFrom_78 ?_
  refine lv_iconst (v := 0) hx hb dX2_copyFrom_81 (by decide) ?_
  refine lv_aload_n hx hb dX2_copyFrom_82 rfl (lv_at hl 0 rfl) ?_
  refine va_get (D := D) (ci := 2) (v := .ref (a 5)) (C := RX2) (T := TX2) (N := 8) hx hb hts (by decide +kernel) hown hK hP 0 rfl rfl 4 (by decide) (hts (.fieldLink RX2 24 "Warren$State" "turns" "[I") (by decide +kernel)) (fun _ h9 => h9) rfl dX2_copyFrom_83 ?_
  refine va_alen (v := nI 50) hx hb hK hP 5 0 rfl rfl rfl dX2_copyFrom_86 ?_
  refine va_copyi hx hb (hml.trans hl.1.symm) hown (hts (.methodLink RX2 33 arraycopyName) (by decide +kernel)) (hts (.native arraycopyName) (by decide +kernel)) (hts (.static arraycopyName) (by decide +kernel)) (hts (.initialized "java/lang/System") (by decide +kernel)) hK hP hD hS 11 5 0 0 rfl rfl rfl rfl rfl (by decide) (by decide) (by decide) (by decide) (by decide) (fun _ _ => rfl) (Nat.le_of_ble_eq_true rfl) (by decide +kernel) dX2_copyFrom_87 (fun H locs hP hD hS => ?_)
  have hP := P_row hP hD 5 rfl (s_tu τ) (by rw [show ((nI 50)).toNatClampNeg = 50 by decide]; exact cpy_all)
  have hD := hD.set (p := 5) (e := .inl (cI, 50, .inl (s_tu τ))) rfl
  have hP : va_P D vwCl (sW cI a (w_tu (w_st (w_tr (w_kn (w_ki σ (s_ki τ)) (s_kn τ)) (s_tr τ)) (s_st τ)) (s_tu τ)) ++ sW cI b τ) H := hP
  have hD : va_D A (sW cI a (w_tu (w_st (w_tr (w_kn (w_ki σ (s_ki τ)) (s_kn τ)) (s_tr τ)) (s_st τ)) (s_tu τ)) ++ sW cI b τ) := hD
  refine lv_aload_n hx hb dX2_copyFrom_90 rfl (lv_at hl 0 rfl) ?_
  refine lv_aload_n hx hb dX2_copyFrom_91 rfl (lv_at hl 1 rfl) ?_
  refine va_get (D := D) (ci := 2) (v := .int (nI (s_n τ))) (C := RX2) (T := TX2) (N := 8) hx hb hts (by decide +kernel) hown hK hP 6 rfl rfl 5 (by decide) (hts (.fieldLink RX2 39 "Warren$State" "beings" "I") (by decide +kernel)) (fun _ h9 => h9) rfl dX2_copyFrom_92 ?_
  refine va_put (D := D) (ci := 2) (v := .int (nI (s_n τ))) (ty := .int) (C := RX2) (T := TX2) (N := 8) hx hb hts (by decide +kernel) tyX2 tyX2_ok nmX2 hown hK hP hD hS 0 rfl rfl 5 (by decide) (hts (.fieldLink RX2 39 "Warren$State" "beings" "I") (by decide +kernel)) (fun _ h9 => h9) rfl (by decide +kernel) rfl rfl (Nat.le_of_ble_eq_true rfl) dX2_copyFrom_95 (fun H locs hP hD hS => ?_)
  have hP : va_P D vwCl (sW cI a (w_n (w_tu (w_st (w_tr (w_kn (w_ki σ (s_ki τ)) (s_kn τ)) (s_tr τ)) (s_st τ)) (s_tu τ)) (s_n τ)) ++ sW cI b τ) H := hP
  have hD : va_D A (sW cI a (w_n (w_tu (w_st (w_tr (w_kn (w_ki σ (s_ki τ)) (s_kn τ)) (s_tr τ)) (s_st τ)) (s_tu τ)) (s_n τ)) ++ sW cI b τ) := hD
  refine lv_aload_n hx hb dX2_copyFrom_98 rfl (lv_at hl 0 rfl) ?_
  refine lv_aload_n hx hb dX2_copyFrom_99 rfl (lv_at hl 1 rfl) ?_
  refine va_get (D := D) (ci := 2) (v := .int (s_ac τ)) (C := RX2) (T := TX2) (N := 8) hx hb hts (by decide +kernel) hown hK hP 6 rfl rfl 6 (by decide) (hts (.fieldLink RX2 43 "Warren$State" "actions" "I") (by decide +kernel)) (fun _ h9 => h9) rfl dX2_copyFrom_100 ?_
  refine va_put (D := D) (ci := 2) (v := .int (s_ac τ)) (ty := .int) (C := RX2) (T := TX2) (N := 8) hx hb hts (by decide +kernel) tyX2 tyX2_ok nmX2 hown hK hP hD hS 0 rfl rfl 6 (by decide) (hts (.fieldLink RX2 43 "Warren$State" "actions" "I") (by decide +kernel)) (fun _ h9 => h9) rfl (by decide +kernel) rfl rfl (Nat.le_of_ble_eq_true rfl) dX2_copyFrom_103 (fun H locs hP hD hS => ?_)
  have hP : va_P D vwCl (sW cI a (w_ac (w_n (w_tu (w_st (w_tr (w_kn (w_ki σ (s_ki τ)) (s_kn τ)) (s_tr τ)) (s_st τ)) (s_tu τ)) (s_n τ)) (s_ac τ)) ++ sW cI b τ) H := hP
  have hD : va_D A (sW cI a (w_ac (w_n (w_tu (w_st (w_tr (w_kn (w_ki σ (s_ki τ)) (s_kn τ)) (s_tr τ)) (s_st τ)) (s_tu τ)) (s_n τ)) (s_ac τ)) ++ sW cI b τ) := hD
  refine lv_aload_n hx hb dX2_copyFrom_106 rfl (lv_at hl 0 rfl) ?_
  refine lv_aload_n hx hb dX2_copyFrom_107 rfl (lv_at hl 1 rfl) ?_
  refine va_get (D := D) (ci := 2) (v := .int (s_hi τ)) (C := RX2) (T := TX2) (N := 8) hx hb hts (by decide +kernel) hown hK hP 6 rfl rfl 7 (by decide) (hts (.fieldLink RX2 46 "Warren$State" "hits" "I") (by decide +kernel)) (fun _ h9 => h9) rfl dX2_copyFrom_108 ?_
  refine va_put (D := D) (ci := 2) (v := .int (s_hi τ)) (ty := .int) (C := RX2) (T := TX2) (N := 8) hx hb hts (by decide +kernel) tyX2 tyX2_ok nmX2 hown hK hP hD hS 0 rfl rfl 7 (by decide) (hts (.fieldLink RX2 46 "Warren$State" "hits" "I") (by decide +kernel)) (fun _ h9 => h9) rfl (by decide +kernel) rfl rfl (Nat.le_of_ble_eq_true rfl) dX2_copyFrom_111 (fun H locs hP hD hS => ?_)
  have hP : va_P D vwCl (sW cI a (w_hi (w_ac (w_n (w_tu (w_st (w_tr (w_kn (w_ki σ (s_ki τ)) (s_kn τ)) (s_tr τ)) (s_st τ)) (s_tu τ)) (s_n τ)) (s_ac τ)) (s_hi τ)) ++ sW cI b τ) H := hP
  have hD : va_D A (sW cI a (w_hi (w_ac (w_n (w_tu (w_st (w_tr (w_kn (w_ki σ (s_ki τ)) (s_kn τ)) (s_tr τ)) (s_st τ)) (s_tu τ)) (s_n τ)) (s_ac τ)) (s_hi τ)) ++ sW cI b τ) := hD
  have hP9 := hP
  have hD9 := hD
  exact W.vret hx hb hr (fun T9 ht hW => ⟨⟨τ, rfl, rfl, by rw [ht]; exact hP9, va_K.moved hW.alike hK, hD9⟩, hS.F ht⟩) hS.2.2 dX2_copyFrom_114

set_option maxHeartbeats 4000000 in
set_option maxRecDepth 100000 in
theorem c_Jxa1e45_init_da8c8 (l : Launch) (D : va_G) (cI : ClassId) (sz : Nat) (h : Nat) : Met l yJxa1e45_init_da8c8 wsJxa1e45_init_da8c8 ({ frames := 1, cells := 0, slots := 0, locals := 12 } : Room) (va_Pc [.ref h] (preM D cI ([(h, .inr (0, [.int 0, .null, .int 0]))]) sz)) (va_Qv (fun (u : Nat) => u = 0) (fun (u : Nat) => posM D cI (va_A ([(h, .inr (0, [.int 0, .null, .int 0]))]) sz) [(h, .inr (0, [.int 0, .null, .int 0]))]) (va_A ([(h, .inr (0, [.int 0, .null, .int 0]))]) sz)) 0 0 (va_A ([(h, .inr (0, [.int 0, .null, .int 0]))]) sz) := by
  refine Met.ofW (cc := cJxa1e45_init_da8c8) (maxL := 1) (ret := none) (by decide) rfl ?_
  intro p e s m args below meth c s₁ B hml hv
  obtain ⟨rfl, hsz, hP, hK, hE, hD0⟩ := hv
  have hx := B.exec
  have hb := B.bytes
  have hr := B.returns
  have hts := atoms_spec (ws := wsJxa1e45_init_da8c8) B.pre
  have hown : s.vm.findClass RJxa1e45 = some m.cls := findClass_of_methodNamed B.named
  have hlocks := B.notSynchronized
  have hin : meth.name = "<init>" := (name_of_methodNamed B.named B.method).1
  subst hsz
  have hD := hD0.self (sz := s.heap.size)
  generalize hAe : va_A ([(h, .inr (0, [.int 0, .null, .int 0]))]) s.heap.size = A at hD ⊢
  have hA : ∀ q : Nat, s.heap.size ≤ q → A q := fun q h => by rw [← hAe]; exact Or.inr h
  have hS : va_S A s.heap s.heap [] := va_S.rf
  have hP : va_P D vwCl ([(h, .inr (0, [.int 0, .null, .int 0]))]) s.heap := hP
  have hl := lv_entry ([.ref h]) (n := 1) (Nat.le_of_ble_eq_true rfl)
  rw [lg_entry_eq]
  generalize (lg_sl ([.ref h]) ++ List.replicate (1 - (lg_sl ([.ref h])).length) Slot.unset).toArray = ls at hl ⊢
  have hl : lv_has ls 1 [(0, .ref h)] := hl
  refine lv_aload_n hx hb dJxa1e45_init_da8c8_0 rfl (lv_at hl 0 rfl) ?_
  refine W.objInit hx hb hown (hts (.methodLink RJxa1e45 1 objectInit) (by decide +kernel)) (hts (.instanceMethod objectInit) (by decide +kernel)) (hts (.code objectInit ⟨#[0xb1]⟩ 1 none) (by decide +kernel)) rfl (by rw [hml]; exact hl.1) rfl dJxa1e45_init_da8c8_1 (Nat.le_of_ble_eq_true rfl) (Nat.le_of_ble_eq_true rfl) ?_
  refine W.eq (g2 := F0 m 4 ls []) rfl ?_
  have hP9 := hP
  have hD9 := hD
  exact W.vret hx hb hr (fun T9 ht hW => ⟨⟨0, rfl, rfl, by rw [ht]; exact hP9, va_K.moved hW.alike hK, hD9⟩, hS.F ht⟩) hS.2.2 dJxa1e45_init_da8c8_4

set_option maxHeartbeats 4000000 in
set_option maxRecDepth 100000 in
theorem c_Jxc12de_init_da8c8 (l : Launch) (D : va_G) (cI : ClassId) (sz : Nat) (h : Nat) : Met l yJxc12de_init_da8c8 wsJxc12de_init_da8c8 ({ frames := 2, cells := 0, slots := 0, locals := 32 } : Room) (va_Pc [.ref h] (preM D cI ([(h, .inr (0, [.int 0, .null, .int 0]))]) sz)) (va_Qv (fun (u : Nat) => u = 0) (fun (u : Nat) => posM D cI (va_A ([(h, .inr (0, [.int 0, .null, .int 0]))]) sz) [(h, .inr (0, [.int 0, .null, .int 0]))]) (va_A ([(h, .inr (0, [.int 0, .null, .int 0]))]) sz)) 0 0 (va_A ([(h, .inr (0, [.int 0, .null, .int 0]))]) sz) := by
  refine Met.ofW (cc := cJxc12de_init_da8c8) (maxL := 1) (ret := none) (by decide) rfl ?_
  intro p e s m args below meth c s₁ B hml hv
  obtain ⟨rfl, hsz, hP, hK, hE, hD0⟩ := hv
  have hx := B.exec
  have hb := B.bytes
  have hr := B.returns
  have hts := atoms_spec (ws := wsJxc12de_init_da8c8) B.pre
  have hown : s.vm.findClass RJxc12de = some m.cls := findClass_of_methodNamed B.named
  have hlocks := B.notSynchronized
  have hin : meth.name = "<init>" := (name_of_methodNamed B.named B.method).1
  subst hsz
  have hD := hD0.self (sz := s.heap.size)
  generalize hAe : va_A ([(h, .inr (0, [.int 0, .null, .int 0]))]) s.heap.size = A at hD ⊢
  have hA : ∀ q : Nat, s.heap.size ≤ q → A q := fun q h => by rw [← hAe]; exact Or.inr h
  have hS : va_S A s.heap s.heap [] := va_S.rf
  have hP : va_P D vwCl ([(h, .inr (0, [.int 0, .null, .int 0]))]) s.heap := hP
  have hl := lv_entry ([.ref h]) (n := 1) (Nat.le_of_ble_eq_true rfl)
  rw [lg_entry_eq]
  generalize (lg_sl ([.ref h]) ++ List.replicate (1 - (lg_sl ([.ref h])).length) Slot.unset).toArray = ls at hl ⊢
  have hl : lv_has ls 1 [(0, .ref h)] := hl
  refine lv_aload_n hx hb dJxc12de_init_da8c8_0 rfl (lv_at hl 0 rfl) ?_
  have hFc := va_free (wc := [(h, .inr (0, [.int 0, .null, .int 0]))]) hD hS hA [0] rfl
  refine va_callv (va_runI (As := []) (rest := []) ⟨hx, hb, hml, hown, hts⟩ (c_Jxa1e45_init_da8c8 l D cI _ h) (cwI 0 hts gJxc12de_init_da8c8_Jxa1e45_init_da8c8 rfl rfl rfl (hts (.initialized RJxa1e45) (by decide +kernel)) (hts (.methodLink RJxc12de 1 yJxa1e45_init_da8c8) (by decide +kernel)) (hts (.instanceMethod yJxa1e45_init_da8c8) (by decide +kernel)) rfl (by decide +kernel) ⟨Nat.le_of_ble_eq_true rfl, Nat.le_of_ble_eq_true rfl⟩) ⟨preM_blind, preM_of hP hK hE hD [.ref h]⟩ rfl rfl hl.1 rfl (lv_room (Nat.le_of_ble_eq_true rfl)) dJxc12de_init_da8c8_1 ⟨Nat.le_of_ble_eq_true rfl, Nat.le_of_ble_eq_true rfl⟩) hS (fun q _ h => hFc q h) hFc (fun u t9 H1 locs ht hvm hw hB hz1 hk1 hS => ?_)
  obtain ⟨hP1, hK1, hD1⟩ := hB
  rw [ht] at hP1
  subst hw
  obtain ⟨hP, hD⟩ := va_join (wr := []) (w1 := [(h, .inr (0, [.int 0, .null, .int 0]))]) hP hD [0] [] rfl rfl (by decide) (by decide) hk1 hFc hP1 hD1
  generalize H1 = H at hP hS ⊢
  have hP : va_P D vwCl ([(h, .inr (0, [.int 0, .null, .int 0]))]) H := hP
  have hD : va_D A ([(h, .inr (0, [.int 0, .null, .int 0]))]) := hD
  refine lv_aload_n hx hb dJxc12de_init_da8c8_4 rfl (lv_at hl 0 rfl) ?_
  refine lv_iconst (v := 0) hx hb dJxc12de_init_da8c8_5 (by decide) ?_
  refine va_put (D := D) (ci := 0) (v := .int 0) (ty := .int) (C := RJx4a65c) (T := TJx4a65c) (N := 3) hx hb hts (by decide +kernel) tyJx4a65c tyJx4a65c_ok nmJx4a65c hown hK hP hD hS 0 rfl rfl 0 (by decide) (hts (.fieldLink RJxc12de 7 "java/util/AbstractList" "modCount" "I") (by decide +kernel)) (fun _ h9 => h9) rfl (by decide +kernel) rfl rfl (Nat.le_of_ble_eq_true rfl) dJxc12de_init_da8c8_6 (fun H locs hP hD hS => ?_)
  have hP : va_P D vwCl ([(h, .inr (0, [.int 0, .null, .int 0]))]) H := hP
  have hD : va_D A ([(h, .inr (0, [.int 0, .null, .int 0]))]) := hD
  have hP9 := hP
  have hD9 := hD
  exact W.vret hx hb hr (fun T9 ht hW => ⟨⟨0, rfl, rfl, by rw [ht]; exact hP9, va_K.moved hW.alike hK, hD9⟩, hS.F ht⟩) hS.2.2 dJxc12de_init_da8c8_9

set_option maxHeartbeats 4000000 in
set_option maxRecDepth 100000 in
theorem c_Jx4a65c_init_da8c8 (l : Launch) (D : va_G) (cI : ClassId) (sz : Nat) (h e0 : Nat) : Met l yJx4a65c_init_da8c8 wsJx4a65c_init_da8c8 ({ frames := 3, cells := 0, slots := 0, locals := 52 } : Room) (va_Pc [.ref h] (preZ D cI ([(h, .inr (0, [.int 0, .null, .int 0]))]) sz e0)) (va_Qv (fun (u : Nat) => u = 0) (fun (u : Nat) => posM D cI (va_A ([(h, .inr (0, [.int 0, .null, .int 0]))]) sz) [(h, .inr (0, [.int 0, .ref e0, .int 0]))]) (va_A ([(h, .inr (0, [.int 0, .null, .int 0]))]) sz)) 0 0 (va_A ([(h, .inr (0, [.int 0, .null, .int 0]))]) sz) := by
  refine Met.ofW (cc := cJx4a65c_init_da8c8) (maxL := 1) (ret := none) (by decide) rfl ?_
  intro p e s m args below meth c s₁ B hml hv
  obtain ⟨rfl, ⟨hsz, hP, hK, hE, hD0⟩, hZ, hmn, hwn⟩ := hv
  have hx := B.exec
  have hb := B.bytes
  have hr := B.returns
  have hts := atoms_spec (ws := wsJx4a65c_init_da8c8) B.pre
  have hown : s.vm.findClass RJx4a65c = some m.cls := findClass_of_methodNamed B.named
  have hlocks := B.notSynchronized
  have hin : meth.name = "<init>" := (name_of_methodNamed B.named B.method).1
  subst hsz
  have hD := hD0.self (sz := s.heap.size)
  generalize hAe : va_A ([(h, .inr (0, [.int 0, .null, .int 0]))]) s.heap.size = A at hD hZ ⊢
  have hA : ∀ q : Nat, s.heap.size ≤ q → A q := fun q h => by rw [← hAe]; exact Or.inr h
  have hS : va_S A s.heap s.heap [] := va_S.rf
  have hP : va_P D vwCl ([(h, .inr (0, [.int 0, .null, .int 0]))]) s.heap := hP
  have hl := lv_entry ([.ref h]) (n := 1) (Nat.le_of_ble_eq_true rfl)
  rw [lg_entry_eq]
  generalize (lg_sl ([.ref h]) ++ List.replicate (1 - (lg_sl ([.ref h])).length) Slot.unset).toArray = ls at hl ⊢
  have hl : lv_has ls 1 [(0, .ref h)] := hl
  refine lv_aload_n hx hb dJx4a65c_init_da8c8_0 rfl (lv_at hl 0 rfl) ?_
  have hFc := va_free (wc := [(h, .inr (0, [.int 0, .null, .int 0]))]) hD hS hA [0] rfl
  refine va_callv (va_runI (As := []) (rest := []) ⟨hx, hb, hml, hown, hts⟩ (c_Jxc12de_init_da8c8 l D cI _ h) (cwI 0 hts gJx4a65c_init_da8c8_Jxc12de_init_da8c8 rfl rfl rfl (hts (.initialized RJxc12de) (by decide +kernel)) (hts (.methodLink RJx4a65c 1 yJxc12de_init_da8c8) (by decide +kernel)) (hts (.instanceMethod yJxc12de_init_da8c8) (by decide +kernel)) rfl (by decide +kernel) ⟨Nat.le_of_ble_eq_true rfl, Nat.le_of_ble_eq_true rfl⟩) ⟨preM_blind, preM_of hP hK hE hD [.ref h]⟩ rfl rfl hl.1 rfl (lv_room (Nat.le_of_ble_eq_true rfl)) dJx4a65c_init_da8c8_1 ⟨Nat.le_of_ble_eq_true rfl, Nat.le_of_ble_eq_true rfl⟩) hS (fun q _ h => hFc q h) hFc (fun u t9 H1 locs ht hvm hw hB hz1 hk1 hS => ?_)
  obtain ⟨hP1, hK1, hD1⟩ := hB
  rw [ht] at hP1
  subst hw
  obtain ⟨hP, hD⟩ := va_join (wr := []) (w1 := [(h, .inr (0, [.int 0, .null, .int 0]))]) hP hD [0] [] rfl rfl (by decide) (by decide) hk1 hFc hP1 hD1
  generalize H1 = H at hP hS ⊢
  have hP : va_P D vwCl ([(h, .inr (0, [.int 0, .null, .int 0]))]) H := hP
  have hD : va_D A ([(h, .inr (0, [.int 0, .null, .int 0]))]) := hD
  refine lv_aload_n hx hb dJx4a65c_init_da8c8_4 rfl (lv_at hl 0 rfl) ?_
  refine va_gets (C := "java/util/ArrayList") (n := "DEFAULTCAPACITY_EMPTY_ELEMENTDATA") (d := "[Ljava/lang/Object;") (v := .ref e0) hx hb hZ hS hown (hts (.fieldLink RJx4a65c 39 "java/util/ArrayList" "DEFAULTCAPACITY_EMPTY_ELEMENTDATA" "[Ljava/lang/Object;") (by decide +kernel)) (fun _ h9 => h9) dJx4a65c_init_da8c8_5 ?_
  refine va_put (D := D) (ci := 0) (v := .ref e0) (ty := (.array (.object "java/lang/Object"))) (C := RJx4a65c) (T := TJx4a65c) (N := 3) hx hb hts (by decide +kernel) tyJx4a65c tyJx4a65c_ok nmJx4a65c hown hK hP hD hS 0 rfl rfl 1 (by decide) (hts (.fieldLink RJx4a65c 9 "java/util/ArrayList" "elementData" "[Ljava/lang/Object;") (by decide +kernel)) (fun _ h9 => h9) rfl (by decide +kernel) rfl rfl (Nat.le_of_ble_eq_true rfl) dJx4a65c_init_da8c8_8 (fun H locs hP hD hS => ?_)
  have hP : va_P D vwCl ([(h, .inr (0, [.int 0, .ref e0, .int 0]))]) H := hP
  have hD : va_D A ([(h, .inr (0, [.int 0, .ref e0, .int 0]))]) := hD
  have hP9 := hP
  have hD9 := hD
  exact W.vret hx hb hr (fun T9 ht hW => ⟨⟨0, rfl, rfl, by rw [ht]; exact hP9, va_K.moved hW.alike hK, hD9⟩, hS.F ht⟩) hS.2.2 dJx4a65c_init_da8c8_11

set_option maxHeartbeats 4000000 in
set_option maxRecDepth 100000 in
theorem c_X3_init (l : Launch) (D : va_G) (cI : ClassId) (sz : Nat) (h : Nat) : Met l yX3_init wsX3_init ({ frames := 1, cells := 2, slots := 480, locals := 12 } : Room) (va_Pc [.ref h] (preM D cI ([(h, .inr (3, [.null, .null, .int 0]))]) sz)) (va_Qv (fun (u : (Nat → Nat)) => u 0 = h) (fun (u : (Nat → Nat)) => posM D cI (va_A ([(h, .inr (3, [.null, .null, .int 0]))]) sz) (yW cI u y0s)) (va_A ([(h, .inr (3, [.null, .null, .int 0]))]) sz)) 2 480 (va_A ([(h, .inr (3, [.null, .null, .int 0]))]) sz) := by
  refine Met.ofW (cc := cX3_init) (maxL := 1) (ret := none) (by decide) rfl ?_
  intro p e s m args below meth c s₁ B hml hv
  obtain ⟨rfl, hsz, hP, hK, hE, hD0⟩ := hv
  have hx := B.exec
  have hb := B.bytes
  have hr := B.returns
  have hts := atoms_spec (ws := wsX3_init) B.pre
  have hown : s.vm.findClass RX3 = some m.cls := findClass_of_methodNamed B.named
  have hlocks := B.notSynchronized
  have hin : meth.name = "<init>" := (name_of_methodNamed B.named B.method).1
  subst hsz
  have hD := hD0.self (sz := s.heap.size)
  generalize hAe : va_A ([(h, .inr (3, [.null, .null, .int 0]))]) s.heap.size = A at hD ⊢
  have hA : ∀ q : Nat, s.heap.size ≤ q → A q := fun q h => by rw [← hAe]; exact Or.inr h
  have hS : va_S A s.heap s.heap [] := va_S.rf
  have hP : va_P D vwCl ([(h, .inr (3, [.null, .null, .int 0]))]) s.heap := hP
  have hl := lv_entry ([.ref h]) (n := 1) (Nat.le_of_ble_eq_true rfl)
  rw [lg_entry_eq]
  generalize (lg_sl ([.ref h]) ++ List.replicate (1 - (lg_sl ([.ref h])).length) Slot.unset).toArray = ls at hl ⊢
  have hl : lv_has ls 1 [(0, .ref h)] := hl
  refine lv_aload_n hx hb dX3_init_0 rfl (lv_at hl 0 rfl) ?_
  refine W.objInit hx hb hown (hts (.methodLink RX3 3 objectInit) (by decide +kernel)) (hts (.instanceMethod objectInit) (by decide +kernel)) (hts (.code objectInit ⟨#[0xb1]⟩ 1 none) (by decide +kernel)) rfl (by rw [hml]; exact hl.1) rfl dX3_init_1 (Nat.le_of_ble_eq_true rfl) (Nat.le_of_ble_eq_true rfl) ?_
  refine W.eq (g2 := F0 m 4 ls []) rfl ?_
  refine lv_aload_n hx hb dX3_init_4 rfl (lv_at hl 0 rfl) ?_
  refine lv_sipush (v := 160) hx hb dX3_init_5 (by decide) ?_
  refine w_newI hx hb (hts (.arrayClass .int) (by decide +kernel)) hK hP hD hS hA (by decide) (N' := 160) (by decide) (by decide) (Nat.le_of_ble_eq_true rfl) (Nat.le_of_ble_eq_true rfl) dX3_init_8 (fun q8 H hP hD hS => ?_)
  have hP : va_P D vwCl ([(h, .inr (3, [.null, .null, .int 0])), (q8, .inl (cI, 160, .inl (fun _ => 0)))]) H := hP
  have hD : va_D A ([(h, .inr (3, [.null, .null, .int 0])), (q8, .inl (cI, 160, .inl (fun _ => 0)))]) := hD
  refine va_putF (D := D) (ci := 3) (v := .ref q8) (ty := (.array .int)) (C := RX3) (T := TX3) (N := 3) hx hb hts (by decide +kernel) tyX3 tyX3_ok nmX3 hown hK hP hD hS 0 rfl rfl 0 (by decide) (hts (.fieldLink RX3 9 "Warren$Ways" "lengths" "[I") (by decide +kernel)) (fun _ h9 => h9) rfl hin rfl (by decide +kernel) rfl rfl (Nat.le_of_ble_eq_true rfl) dX3_init_10 (fun H locs hP hD hS => ?_)
  have hP : va_P D vwCl ([(h, .inr (3, [.ref q8, .null, .int 0])), (q8, .inl (cI, 160, .inl (fun _ => 0)))]) H := hP
  have hD : va_D A ([(h, .inr (3, [.ref q8, .null, .int 0])), (q8, .inl (cI, 160, .inl (fun _ => 0)))]) := hD
  refine lv_aload_n hx hb dX3_init_13 rfl (lv_at hl 0 rfl) ?_
  refine lv_sipush (v := 320) hx hb dX3_init_14 (by decide) ?_
  refine w_newI hx hb (hts (.arrayClass .int) (by decide +kernel)) hK hP hD hS hA (by decide) (N' := 320) (by decide) (by decide) (Nat.le_of_ble_eq_true rfl) (Nat.le_of_ble_eq_true rfl) dX3_init_17 (fun q17 H hP hD hS => ?_)
  have hP : va_P D vwCl ([(h, .inr (3, [.ref q8, .null, .int 0])), (q8, .inl (cI, 160, .inl (fun _ => 0))), (q17, .inl (cI, 320, .inl (fun _ => 0)))]) H := hP
  have hD : va_D A ([(h, .inr (3, [.ref q8, .null, .int 0])), (q8, .inl (cI, 160, .inl (fun _ => 0))), (q17, .inl (cI, 320, .inl (fun _ => 0)))]) := hD
  refine va_putF (D := D) (ci := 3) (v := .ref q17) (ty := (.array .int)) (C := RX3) (T := TX3) (N := 3) hx hb hts (by decide +kernel) tyX3 tyX3_ok nmX3 hown hK hP hD hS 0 rfl rfl 1 (by decide) (hts (.fieldLink RX3 15 "Warren$Ways" "queue" "[I") (by decide +kernel)) (fun _ h9 => h9) rfl hin rfl (by decide +kernel) rfl rfl (Nat.le_of_ble_eq_true rfl) dX3_init_19 (fun H locs hP hD hS => ?_)
  have hP : va_P D vwCl ([(h, .inr (3, [.ref q8, .ref q17, .int 0])), (q8, .inl (cI, 160, .inl (fun _ => 0))), (q17, .inl (cI, 320, .inl (fun _ => 0)))]) H := hP
  have hD : va_D A ([(h, .inr (3, [.ref q8, .ref q17, .int 0])), (q8, .inl (cI, 160, .inl (fun _ => 0))), (q17, .inl (cI, 320, .inl (fun _ => 0)))]) := hD
  have hP9 := hP.sub (ws' := yW cI (ad3 h q8 q17) y0s) [0, 1, 2] rfl
  have hD9 := hD.sub (ws' := yW cI (ad3 h q8 q17) y0s) [0, 1, 2] (by decide) rfl
  exact W.vret hx hb hr (fun T9 ht hW => ⟨⟨(ad3 h q8 q17), rfl, rfl, by rw [ht]; exact hP9, va_K.moved hW.alike hK, hD9⟩, hS.F ht⟩) hS.2.2 dX3_init_22

set_option maxHeartbeats 4000000 in
set_option maxRecDepth 100000 in
theorem c_X0_init (l : Launch) (D : va_G) (cI : ClassId) (sz : Nat) (h e0 : Nat) : Met l yX0_init wsX0_init ({ frames := 2, cells := 4, slots := 491, locals := 32 } : Room) (va_Pc [.ref h] (preZ D cI ([(h, .inr (1, [.null, .null]))]) sz e0)) (va_Qv (fun (u : ((Nat → Nat) × Nat × Nat)) => u.2.1 = h) (fun (u : ((Nat → Nat) × Nat × Nat)) => posM D cI (va_A ([(h, .inr (1, [.null, .null]))]) sz) (mW cI u.2.1 (u.1 0) u.2.2 z0 ++ yW cI u.1 y0s)) (va_A ([(h, .inr (1, [.null, .null]))]) sz)) 4 491 (va_A ([(h, .inr (1, [.null, .null]))]) sz) := by
  refine Met.ofW (cc := cX0_init) (maxL := 1) (ret := none) (by decide) rfl ?_
  intro p e s m args below meth c s₁ B hml hv
  obtain ⟨rfl, ⟨hsz, hP, hK, hE, hD0⟩, hZ, hmn, hwn⟩ := hv
  have hx := B.exec
  have hb := B.bytes
  have hr := B.returns
  have hts := atoms_spec (ws := wsX0_init) B.pre
  have hown : s.vm.findClass RX0 = some m.cls := findClass_of_methodNamed B.named
  have hlocks := B.notSynchronized
  have hin : meth.name = "<init>" := (name_of_methodNamed B.named B.method).1
  subst hsz
  have hD := hD0.self (sz := s.heap.size)
  generalize hAe : va_A ([(h, .inr (1, [.null, .null]))]) s.heap.size = A at hD hZ ⊢
  have hA : ∀ q : Nat, s.heap.size ≤ q → A q := fun q h => by rw [← hAe]; exact Or.inr h
  have hS : va_S A s.heap s.heap [] := va_S.rf
  have hP : va_P D vwCl ([(h, .inr (1, [.null, .null]))]) s.heap := hP
  have hl := lv_entry ([.ref h]) (n := 1) (Nat.le_of_ble_eq_true rfl)
  rw [lg_entry_eq]
  generalize (lg_sl ([.ref h]) ++ List.replicate (1 - (lg_sl ([.ref h])).length) Slot.unset).toArray = ls at hl ⊢
  have hl : lv_has ls 1 [(0, .ref h)] := hl
  refine lv_aload_n hx hb dX0_init_0 rfl (lv_at hl 0 rfl) ?_
  refine W.objInit hx hb hown (hts (.methodLink RX0 3 objectInit) (by decide +kernel)) (hts (.instanceMethod objectInit) (by decide +kernel)) (hts (.code objectInit ⟨#[0xb1]⟩ 1 none) (by decide +kernel)) rfl (by rw [hml]; exact hl.1) rfl dX0_init_1 (Nat.le_of_ble_eq_true rfl) (Nat.le_of_ble_eq_true rfl) ?_
  refine W.eq (g2 := F0 m 4 ls []) rfl ?_
  refine lv_aload_n hx hb dX0_init_4 rfl (lv_at hl 0 rfl) ?_
  refine va_new (D := D) (ci := 3) (fs := [.null, .null, .int 0]) (C := RX3) (T := TX3) (N := 3) hx hb hts (by decide +kernel) tyX3 tyX3_ok hown (hts (.classLink RX0 9 RX3) (by decide +kernel)) (hts (.instantiable RX3 3) (by decide +kernel)) (hts (.initialized RX3) (by decide +kernel)) hK hP hD hS hA rfl (fun j hj => by rcases (show j = 0 ∨ j = 1 ∨ j = 2 by omega) with rfl | rfl | rfl <;> rfl) (Nat.le_of_ble_eq_true rfl) (Nat.le_of_ble_eq_true rfl) dX0_init_5 (fun q5 H hP hD hS => ?_)
  have hP : va_P D vwCl ([(h, .inr (1, [.null, .null]))] ++ [(q5, .inr (3, [.null, .null, .int 0]))]) H := hP
  have hD : va_D A ([(h, .inr (1, [.null, .null]))] ++ [(q5, .inr (3, [.null, .null, .int 0]))]) := hD
  refine lv_dup hx hb dX0_init_8 rfl ?_
  have hFc := va_free (wc := [(q5, .inr (3, [.null, .null, .int 0]))]) hD hS hA [1] rfl
  refine va_callv (va_runIN (As := []) (rest := [.ref q5, .ref h]) ⟨hx, hb, hml, hown, hts⟩ (c_X3_init l D cI _ q5) ⟨va_cnB 0 hts gX0_init_X3_init_n11 rfl rfl rfl hwn (hts _ (by decide +kernel : Cond.initialized yX3_init.cls ∈ _)) (by decide +kernel) ⟨Nat.le_of_ble_eq_true rfl, Nat.le_of_ble_eq_true rfl⟩, rfl, (hts (.instanceMethod yX3_init) (by decide +kernel))⟩ ⟨preM_blind, preM_of (hP.sub (ws' := [(q5, .inr (3, [.null, .null, .int 0]))]) [1] rfl) hK hE (hD.sub (ws' := [(q5, .inr (3, [.null, .null, .int 0]))]) [1] (by decide) rfl) [.ref q5]⟩ rfl rfl hl.1 rfl (lv_room (Nat.le_of_ble_eq_true rfl)) dX0_init_9 ⟨Nat.le_of_ble_eq_true rfl, Nat.le_of_ble_eq_true rfl⟩) hS (fun q _ h => hFc q h) hFc (fun u t9 H1 locs ht hvm hw hB hz1 hk1 hS => ?_)
  obtain ⟨hP1, hK1, hD1⟩ := hB
  rw [ht] at hP1
  obtain ⟨b9, rfl⟩ : ∃ z, z = u := ⟨_, rfl⟩
  subst hw
  obtain ⟨hP, hD⟩ := va_join (wr := [(h, .inr (1, [.null, .null]))]) (w1 := yW cI b9 y0s) hP hD [1] [0] rfl rfl (by decide) (by decide) hk1 hFc hP1 hD1
  generalize H1 = H at hP hS ⊢
  have hP : va_P D vwCl ([(h, .inr (1, [.null, .null]))] ++ yW cI b9 y0s) H := hP
  have hD : va_D A ([(h, .inr (1, [.null, .null]))] ++ yW cI b9 y0s) := hD
  refine va_putF (D := D) (ci := 1) (v := .ref (b9 0)) (ty := (.object "Warren$Ways")) (C := RX0) (T := TX0) (N := 2) hx hb hts (by decide +kernel) tyX0 tyX0_ok nmX0 hown hK hP hD hS 0 rfl rfl 0 (by decide) (hts (.fieldLink RX0 12 "Warren$Mind" "ways" "LWarren$Ways;") (by decide +kernel)) (fun _ h9 => h9) rfl hin rfl (by decide +kernel) rfl rfl (Nat.le_of_ble_eq_true rfl) dX0_init_12 (fun H locs hP hD hS => ?_)
  have hP : va_P D vwCl ([(h, .inr (1, [.ref (b9 0), .null]))] ++ yW cI b9 y0s) H := hP
  have hD : va_D A ([(h, .inr (1, [.ref (b9 0), .null]))] ++ yW cI b9 y0s) := hD
  refine lv_aload_n hx hb dX0_init_15 rfl (lv_at hl 0 rfl) ?_
  refine lv_bipush (v := 8) hx hb dX0_init_16 (by decide) ?_
  refine w_newI hx hb (hts (.arrayClass .int) (by decide +kernel)) hK hP hD hS hA (by decide) (N' := 8) (by decide) (by decide) (Nat.le_of_ble_eq_true rfl) (Nat.le_of_ble_eq_true rfl) dX0_init_18 (fun q18 H hP hD hS => ?_)
  have hP : va_P D vwCl ([(h, .inr (1, [.ref (b9 0), .null]))] ++ yW cI b9 y0s ++ [(q18, .inl (cI, 8, .inl (fun _ => 0)))]) H := hP
  have hD : va_D A ([(h, .inr (1, [.ref (b9 0), .null]))] ++ yW cI b9 y0s ++ [(q18, .inl (cI, 8, .inl (fun _ => 0)))]) := hD
  refine va_putF (D := D) (ci := 1) (v := .ref q18) (ty := (.array .int)) (C := RX0) (T := TX0) (N := 2) hx hb hts (by decide +kernel) tyX0 tyX0_ok nmX0 hown hK hP hD hS 0 rfl rfl 1 (by decide) (hts (.fieldLink RX0 18 "Warren$Mind" "worths" "[I") (by decide +kernel)) (fun _ h9 => h9) rfl hin rfl (by decide +kernel) rfl rfl (Nat.le_of_ble_eq_true rfl) dX0_init_20 (fun H locs hP hD hS => ?_)
  have hP : va_P D vwCl ([(h, .inr (1, [.ref (b9 0), .ref q18]))] ++ yW cI b9 y0s ++ [(q18, .inl (cI, 8, .inl (fun _ => 0)))]) H := hP
  have hD : va_D A ([(h, .inr (1, [.ref (b9 0), .ref q18]))] ++ yW cI b9 y0s ++ [(q18, .inl (cI, 8, .inl (fun _ => 0)))]) := hD
  have hP9 := hP.sub (ws' := mW cI h (b9 0) q18 z0 ++ yW cI b9 y0s) [0, 4, 1, 2, 3] rfl
  have hD9 := hD.sub (ws' := mW cI h (b9 0) q18 z0 ++ yW cI b9 y0s) [0, 4, 1, 2, 3] (by decide) rfl
  refine W.widen (k := 4) (n := 491) (Nat.le_of_ble_eq_true rfl) (Nat.le_of_ble_eq_true rfl) ?_
  exact W.vret hx hb hr (fun T9 ht hW => ⟨⟨(b9, h, q18), rfl, rfl, by rw [ht]; exact hP9, va_K.moved hW.alike hK, hD9⟩, hS.F ht⟩) hS.2.2 dX0_init_23

set_option maxHeartbeats 4000000 in
set_option maxRecDepth 100000 in
theorem c_X4_init (l : Launch) (D : va_G) (cI : ClassId) (sz : Nat) (h e0 : Nat) : Met l yX4_init wsX4_init ({ frames := 4, cells := 19, slots := 1600, locals := 72 } : Room) (va_Pc [.ref h] (preZ D cI ([(h, .inr (4, [.null, .null, .null, .null]))]) sz e0)) (va_Qv (fun (u : (Nat × (Nat → Nat) × (Nat → Nat) × Nat × Nat × Nat × (Nat → Nat))) => u.1 = h) (fun (u : (Nat × (Nat → Nat) × (Nat → Nat) × Nat × Nat × Nat × (Nat → Nat))) => posM D cI (va_A ([(h, .inr (4, [.null, .null, .null, .null]))]) sz) (wW u.1 (u.2.1 0) (u.2.2.1 0) u.2.2.2.1 u.2.2.2.2.1 ++ sW cI u.2.1 s0 ++ sW cI u.2.2.1 s0 ++ wL u.2.2.2.1 0 e0 0 ++ mW cI u.2.2.2.2.1 (u.2.2.2.2.2.2 0) u.2.2.2.2.2.1 z0 ++ yW cI u.2.2.2.2.2.2 y0s)) (va_A ([(h, .inr (4, [.null, .null, .null, .null]))]) sz)) 19 1600 (va_A ([(h, .inr (4, [.null, .null, .null, .null]))]) sz) := by
  refine Met.ofW (cc := cX4_init) (maxL := 1) (ret := none) (by decide) rfl ?_
  intro p e s m args below meth c s₁ B hml hv
  obtain ⟨rfl, ⟨hsz, hP, hK, hE, hD0⟩, hZ, hmn, hwn⟩ := hv
  have hx := B.exec
  have hb := B.bytes
  have hr := B.returns
  have hts := atoms_spec (ws := wsX4_init) B.pre
  have hown : s.vm.findClass RX4 = some m.cls := findClass_of_methodNamed B.named
  have hlocks := B.notSynchronized
  have hin : meth.name = "<init>" := (name_of_methodNamed B.named B.method).1
  subst hsz
  have hD := hD0.self (sz := s.heap.size)
  generalize hAe : va_A ([(h, .inr (4, [.null, .null, .null, .null]))]) s.heap.size = A at hD hZ ⊢
  have hA : ∀ q : Nat, s.heap.size ≤ q → A q := fun q h => by rw [← hAe]; exact Or.inr h
  have hS : va_S A s.heap s.heap [] := va_S.rf
  have hP : va_P D vwCl ([(h, .inr (4, [.null, .null, .null, .null]))]) s.heap := hP
  have hl := lv_entry ([.ref h]) (n := 1) (Nat.le_of_ble_eq_true rfl)
  rw [lg_entry_eq]
  generalize (lg_sl ([.ref h]) ++ List.replicate (1 - (lg_sl ([.ref h])).length) Slot.unset).toArray = ls at hl ⊢
  have hl : lv_has ls 1 [(0, .ref h)] := hl
  refine lv_aload_n hx hb dX4_init_0 rfl (lv_at hl 0 rfl) ?_
  refine W.objInit hx hb hown (hts (.methodLink RX4 3 objectInit) (by decide +kernel)) (hts (.instanceMethod objectInit) (by decide +kernel)) (hts (.code objectInit ⟨#[0xb1]⟩ 1 none) (by decide +kernel)) rfl (by rw [hml]; exact hl.1) rfl dX4_init_1 (Nat.le_of_ble_eq_true rfl) (Nat.le_of_ble_eq_true rfl) ?_
  refine W.eq (g2 := F0 m 4 ls []) rfl ?_
  refine lv_aload_n hx hb dX4_init_4 rfl (lv_at hl 0 rfl) ?_
  refine va_new (D := D) (ci := 2) (fs := [.null, .null, .null, .null, .null, .int 0, .int 0, .int 0]) (C := RX2) (T := TX2) (N := 8) hx hb hts (by decide +kernel) tyX2 tyX2_ok hown (hts (.classLink RX4 9 RX2) (by decide +kernel)) (hts (.instantiable RX2 8) (by decide +kernel)) (hts (.initialized RX2) (by decide +kernel)) hK hP hD hS hA rfl (fun j hj => by rcases (show j = 0 ∨ j = 1 ∨ j = 2 ∨ j = 3 ∨ j = 4 ∨ j = 5 ∨ j = 6 ∨ j = 7 by omega) with rfl | rfl | rfl | rfl | rfl | rfl | rfl | rfl <;> rfl) (Nat.le_of_ble_eq_true rfl) (Nat.le_of_ble_eq_true rfl) dX4_init_5 (fun q5 H hP hD hS => ?_)
  have hP : va_P D vwCl ([(h, .inr (4, [.null, .null, .null, .null]))] ++ [(q5, .inr (2, [.null, .null, .null, .null, .null, .int 0, .int 0, .int 0]))]) H := hP
  have hD : va_D A ([(h, .inr (4, [.null, .null, .null, .null]))] ++ [(q5, .inr (2, [.null, .null, .null, .null, .null, .int 0, .int 0, .int 0]))]) := hD
  refine lv_dup hx hb dX4_init_8 rfl ?_
  have hFc := va_free (wc := [(q5, .inr (2, [.null, .null, .null, .null, .null, .int 0, .int 0, .int 0]))]) hD hS hA [1] rfl
  refine va_callv (va_runI (As := []) (rest := [.ref q5, .ref h]) ⟨hx, hb, hml, hown, hts⟩ (c_X2_init l D cI _ q5) (cwI 0 hts gX4_init_X2_init rfl rfl rfl (hts (.initialized RX2) (by decide +kernel)) (hts (.methodLink RX4 11 yX2_init) (by decide +kernel)) (hts (.instanceMethod yX2_init) (by decide +kernel)) rfl (by decide +kernel) ⟨Nat.le_of_ble_eq_true rfl, Nat.le_of_ble_eq_true rfl⟩) ⟨preM_blind, preM_of (hP.sub (ws' := [(q5, .inr (2, [.null, .null, .null, .null, .null, .int 0, .int 0, .int 0]))]) [1] rfl) hK hE (hD.sub (ws' := [(q5, .inr (2, [.null, .null, .null, .null, .null, .int 0, .int 0, .int 0]))]) [1] (by decide) rfl) [.ref q5]⟩ rfl rfl hl.1 rfl (lv_room (Nat.le_of_ble_eq_true rfl)) dX4_init_9 ⟨Nat.le_of_ble_eq_true rfl, Nat.le_of_ble_eq_true rfl⟩) hS (fun q _ h => hFc q h) hFc (fun u t9 H1 locs ht hvm hw hB hz1 hk1 hS => ?_)
  obtain ⟨hP1, hK1, hD1⟩ := hB
  rw [ht] at hP1
  obtain ⟨b9, rfl⟩ : ∃ z, z = u := ⟨_, rfl⟩
  subst hw
  obtain ⟨hP, hD⟩ := va_join (wr := [(h, .inr (4, [.null, .null, .null, .null]))]) (w1 := sW cI b9 s0) hP hD [1] [0] rfl rfl (by decide) (by decide) hk1 hFc hP1 hD1
  generalize H1 = H at hP hS ⊢
  have hP : va_P D vwCl ([(h, .inr (4, [.null, .null, .null, .null]))] ++ sW cI b9 s0) H := hP
  have hD : va_D A ([(h, .inr (4, [.null, .null, .null, .null]))] ++ sW cI b9 s0) := hD
  refine va_put (D := D) (ci := 4) (v := .ref (b9 0)) (ty := (.object "Warren$State")) (C := RX4) (T := TX4) (N := 4) hx hb hts (by decide +kernel) tyX4 tyX4_ok nmX4 hown hK hP hD hS 0 rfl rfl 0 (by decide) (hts (.fieldLink RX4 12 "Warren" "state" "LWarren$State;") (by decide +kernel)) (fun _ h9 => h9) rfl (by decide +kernel) rfl rfl (Nat.le_of_ble_eq_true rfl) dX4_init_12 (fun H locs hP hD hS => ?_)
  have hP : va_P D vwCl ([(h, .inr (4, [.ref (b9 0), .null, .null, .null]))] ++ sW cI b9 s0) H := hP
  have hD : va_D A ([(h, .inr (4, [.ref (b9 0), .null, .null, .null]))] ++ sW cI b9 s0) := hD
  refine lv_aload_n hx hb dX4_init_15 rfl (lv_at hl 0 rfl) ?_
  refine va_new (D := D) (ci := 2) (fs := [.null, .null, .null, .null, .null, .int 0, .int 0, .int 0]) (C := RX2) (T := TX2) (N := 8) hx hb hts (by decide +kernel) tyX2 tyX2_ok hown (hts (.classLink RX4 9 RX2) (by decide +kernel)) (hts (.instantiable RX2 8) (by decide +kernel)) (hts (.initialized RX2) (by decide +kernel)) hK hP hD hS hA rfl (fun j hj => by rcases (show j = 0 ∨ j = 1 ∨ j = 2 ∨ j = 3 ∨ j = 4 ∨ j = 5 ∨ j = 6 ∨ j = 7 by omega) with rfl | rfl | rfl | rfl | rfl | rfl | rfl | rfl <;> rfl) (Nat.le_of_ble_eq_true rfl) (Nat.le_of_ble_eq_true rfl) dX4_init_16 (fun q16 H hP hD hS => ?_)
  have hP : va_P D vwCl ([(h, .inr (4, [.ref (b9 0), .null, .null, .null]))] ++ sW cI b9 s0 ++ [(q16, .inr (2, [.null, .null, .null, .null, .null, .int 0, .int 0, .int 0]))]) H := hP
  have hD : va_D A ([(h, .inr (4, [.ref (b9 0), .null, .null, .null]))] ++ sW cI b9 s0 ++ [(q16, .inr (2, [.null, .null, .null, .null, .null, .int 0, .int 0, .int 0]))]) := hD
  refine lv_dup hx hb dX4_init_19 rfl ?_
  have hFc := va_free (wc := [(q16, .inr (2, [.null, .null, .null, .null, .null, .int 0, .int 0, .int 0]))]) hD hS hA [7] rfl
  refine va_callv (va_runI (As := []) (rest := [.ref q16, .ref h]) ⟨hx, hb, hml, hown, hts⟩ (c_X2_init l D cI _ q16) (cwI 0 hts gX4_init_X2_init rfl rfl rfl (hts (.initialized RX2) (by decide +kernel)) (hts (.methodLink RX4 11 yX2_init) (by decide +kernel)) (hts (.instanceMethod yX2_init) (by decide +kernel)) rfl (by decide +kernel) ⟨Nat.le_of_ble_eq_true rfl, Nat.le_of_ble_eq_true rfl⟩) ⟨preM_blind, preM_of (hP.sub (ws' := [(q16, .inr (2, [.null, .null, .null, .null, .null, .int 0, .int 0, .int 0]))]) [7] rfl) hK hE (hD.sub (ws' := [(q16, .inr (2, [.null, .null, .null, .null, .null, .int 0, .int 0, .int 0]))]) [7] (by decide) rfl) [.ref q16]⟩ rfl rfl hl.1 rfl (lv_room (Nat.le_of_ble_eq_true rfl)) dX4_init_20 ⟨Nat.le_of_ble_eq_true rfl, Nat.le_of_ble_eq_true rfl⟩) hS (fun q _ h => hFc q h) hFc (fun u t9 H1 locs ht hvm hw hB hz1 hk1 hS => ?_)
  obtain ⟨hP1, hK1, hD1⟩ := hB
  rw [ht] at hP1
  obtain ⟨b20, rfl⟩ : ∃ z, z = u := ⟨_, rfl⟩
  subst hw
  obtain ⟨hP, hD⟩ := va_join (wr := [(h, .inr (4, [.ref (b9 0), .null, .null, .null]))] ++ sW cI b9 s0) (w1 := sW cI b20 s0) hP hD [7] [0, 1, 2, 3, 4, 5, 6] rfl rfl (by decide) (by decide) hk1 hFc hP1 hD1
  generalize H1 = H at hP hS ⊢
  have hP : va_P D vwCl ([(h, .inr (4, [.ref (b9 0), .null, .null, .null]))] ++ sW cI b9 s0 ++ sW cI b20 s0) H := hP
  have hD : va_D A ([(h, .inr (4, [.ref (b9 0), .null, .null, .null]))] ++ sW cI b9 s0 ++ sW cI b20 s0) := hD
  refine va_putF (D := D) (ci := 4) (v := .ref (b20 0)) (ty := (.object "Warren$State")) (C := RX4) (T := TX4) (N := 4) hx hb hts (by decide +kernel) tyX4 tyX4_ok nmX4 hown hK hP hD hS 0 rfl rfl 1 (by decide) (hts (.fieldLink RX4 16 "Warren" "trial" "LWarren$State;") (by decide +kernel)) (fun _ h9 => h9) rfl hin rfl (by decide +kernel) rfl rfl (Nat.le_of_ble_eq_true rfl) dX4_init_23 (fun H locs hP hD hS => ?_)
  have hP : va_P D vwCl ([(h, .inr (4, [.ref (b9 0), .ref (b20 0), .null, .null]))] ++ sW cI b9 s0 ++ sW cI b20 s0) H := hP
  have hD : va_D A ([(h, .inr (4, [.ref (b9 0), .ref (b20 0), .null, .null]))] ++ sW cI b9 s0 ++ sW cI b20 s0) := hD
  refine lv_aload_n hx hb dX4_init_26 rfl (lv_at hl 0 rfl) ?_
  refine va_new (D := D) (ci := 0) (fs := [.int 0, .null, .int 0]) (C := RJx4a65c) (T := TJx4a65c) (N := 3) hx hb hts (by decide +kernel) tyJx4a65c tyJx4a65c_ok hown (hts (.classLink RX4 19 RJx4a65c) (by decide +kernel)) (hts (.instantiable RJx4a65c 3) (by decide +kernel)) (hts (.initialized RJx4a65c) (by decide +kernel)) hK hP hD hS hA rfl (fun j hj => by rcases (show j = 0 ∨ j = 1 ∨ j = 2 by omega) with rfl | rfl | rfl <;> rfl) (Nat.le_of_ble_eq_true rfl) (Nat.le_of_ble_eq_true rfl) dX4_init_27 (fun q27 H hP hD hS => ?_)
  have hP : va_P D vwCl ([(h, .inr (4, [.ref (b9 0), .ref (b20 0), .null, .null]))] ++ sW cI b9 s0 ++ sW cI b20 s0 ++ [(q27, .inr (0, [.int 0, .null, .int 0]))]) H := hP
  have hD : va_D A ([(h, .inr (4, [.ref (b9 0), .ref (b20 0), .null, .null]))] ++ sW cI b9 s0 ++ sW cI b20 s0 ++ [(q27, .inr (0, [.int 0, .null, .int 0]))]) := hD
  refine lv_dup hx hb dX4_init_30 rfl ?_
  have hFc := va_free (wc := [(q27, .inr (0, [.int 0, .null, .int 0]))]) hD hS hA [13] rfl
  refine va_callv (va_runI (As := []) (rest := [.ref q27, .ref h]) ⟨hx, hb, hml, hown, hts⟩ (c_Jx4a65c_init_da8c8 l D cI _ q27 e0) (cwI 0 hts gX4_init_Jx4a65c_init_da8c8 rfl rfl rfl (hts (.initialized RJx4a65c) (by decide +kernel)) (hts (.methodLink RX4 21 yJx4a65c_init_da8c8) (by decide +kernel)) (hts (.instanceMethod yJx4a65c_init_da8c8) (by decide +kernel)) rfl (by decide +kernel) ⟨Nat.le_of_ble_eq_true rfl, Nat.le_of_ble_eq_true rfl⟩) ⟨preZ_blind, preZ_of (hP.sub (ws' := [(q27, .inr (0, [.int 0, .null, .int 0]))]) [13] rfl) hK hE (hD.sub (ws' := [(q27, .inr (0, [.int 0, .null, .int 0]))]) [13] (by decide) rfl) hZ hmn hwn hS hFc [.ref q27]⟩ rfl rfl hl.1 rfl (lv_room (Nat.le_of_ble_eq_true rfl)) dX4_init_31 ⟨Nat.le_of_ble_eq_true rfl, Nat.le_of_ble_eq_true rfl⟩) hS (fun q _ h => hFc q h) hFc (fun u t9 H1 locs ht hvm hw hB hz1 hk1 hS => ?_)
  obtain ⟨hP1, hK1, hD1⟩ := hB
  rw [ht] at hP1
  subst hw
  obtain ⟨hP, hD⟩ := va_join (wr := [(h, .inr (4, [.ref (b9 0), .ref (b20 0), .null, .null]))] ++ sW cI b9 s0 ++ sW cI b20 s0) (w1 := wL q27 0 e0 0) hP hD [13] [0, 1, 2, 3, 4, 5, 6, 7, 8, 9, 10, 11, 12] rfl rfl (by decide) (by decide) hk1 hFc hP1 hD1
  generalize H1 = H at hP hS ⊢
  have hP : va_P D vwCl ([(h, .inr (4, [.ref (b9 0), .ref (b20 0), .null, .null]))] ++ sW cI b9 s0 ++ sW cI b20 s0 ++ wL q27 0 e0 0) H := hP
  have hD : va_D A ([(h, .inr (4, [.ref (b9 0), .ref (b20 0), .null, .null]))] ++ sW cI b9 s0 ++ sW cI b20 s0 ++ wL q27 0 e0 0) := hD
  refine va_putF (D := D) (ci := 4) (v := .ref q27) (ty := (.object "java/util/List")) (C := RX4) (T := TX4) (N := 4) hx hb hts (by decide +kernel) tyX4 tyX4_ok nmX4 hown hK hP hD hS 0 rfl rfl 2 (by decide) (hts (.fieldLink RX4 22 "Warren" "saved" "Ljava/util/List;") (by decide +kernel)) (fun _ h9 => h9) rfl hin rfl (by decide +kernel) rfl rfl (Nat.le_of_ble_eq_true rfl) dX4_init_34 (fun H locs hP hD hS => ?_)
  have hP : va_P D vwCl ([(h, .inr (4, [.ref (b9 0), .ref (b20 0), .ref q27, .null]))] ++ sW cI b9 s0 ++ sW cI b20 s0 ++ wL q27 0 e0 0) H := hP
  have hD : va_D A ([(h, .inr (4, [.ref (b9 0), .ref (b20 0), .ref q27, .null]))] ++ sW cI b9 s0 ++ sW cI b20 s0 ++ wL q27 0 e0 0) := hD
  refine lv_aload_n hx hb dX4_init_37 rfl (lv_at hl 0 rfl) ?_
  refine va_new (D := D) (ci := 1) (fs := [.null, .null]) (C := RX0) (T := TX0) (N := 2) hx hb hts (by decide +kernel) tyX0 tyX0_ok hown (hts (.classLink RX4 26 RX0) (by decide +kernel)) (hts (.instantiable RX0 2) (by decide +kernel)) (hts (.initialized RX0) (by decide +kernel)) hK hP hD hS hA rfl (fun j hj => by rcases (show j = 0 ∨ j = 1 by omega) with rfl | rfl <;> rfl) (Nat.le_of_ble_eq_true rfl) (Nat.le_of_ble_eq_true rfl) dX4_init_38 (fun q38 H hP hD hS => ?_)
  have hP : va_P D vwCl ([(h, .inr (4, [.ref (b9 0), .ref (b20 0), .ref q27, .null]))] ++ sW cI b9 s0 ++ sW cI b20 s0 ++ wL q27 0 e0 0 ++ [(q38, .inr (1, [.null, .null]))]) H := hP
  have hD : va_D A ([(h, .inr (4, [.ref (b9 0), .ref (b20 0), .ref q27, .null]))] ++ sW cI b9 s0 ++ sW cI b20 s0 ++ wL q27 0 e0 0 ++ [(q38, .inr (1, [.null, .null]))]) := hD
  refine lv_dup hx hb dX4_init_41 rfl ?_
  have hFc := va_free (wc := [(q38, .inr (1, [.null, .null]))]) hD hS hA [14] rfl
  refine va_callv (va_runIN (As := []) (rest := [.ref q38, .ref h]) ⟨hx, hb, hml, hown, hts⟩ (c_X0_init l D cI _ q38 e0) ⟨va_cnB 0 hts gX4_init_X0_init_n28 rfl rfl rfl hmn (hts _ (by decide +kernel : Cond.initialized yX0_init.cls ∈ _)) (by decide +kernel) ⟨Nat.le_of_ble_eq_true rfl, Nat.le_of_ble_eq_true rfl⟩, rfl, (hts (.instanceMethod yX0_init) (by decide +kernel))⟩ ⟨preZ_blind, preZ_of (hP.sub (ws' := [(q38, .inr (1, [.null, .null]))]) [14] rfl) hK hE (hD.sub (ws' := [(q38, .inr (1, [.null, .null]))]) [14] (by decide) rfl) hZ hmn hwn hS hFc [.ref q38]⟩ rfl rfl hl.1 rfl (lv_room (Nat.le_of_ble_eq_true rfl)) dX4_init_42 ⟨Nat.le_of_ble_eq_true rfl, Nat.le_of_ble_eq_true rfl⟩) hS (fun q _ h => hFc q h) hFc (fun u t9 H1 locs ht hvm hw hB hz1 hk1 hS => ?_)
  obtain ⟨hP1, hK1, hD1⟩ := hB
  rw [ht] at hP1
  obtain ⟨b42, m42, w42⟩ := u
  dsimp only at hw hP1 hD1
  subst hw
  obtain ⟨hP, hD⟩ := va_join (wr := [(h, .inr (4, [.ref (b9 0), .ref (b20 0), .ref q27, .null]))] ++ sW cI b9 s0 ++ sW cI b20 s0 ++ wL q27 0 e0 0) (w1 := mW cI m42 (b42 0) w42 z0 ++ yW cI b42 y0s) hP hD [14] [0, 1, 2, 3, 4, 5, 6, 7, 8, 9, 10, 11, 12, 13] rfl rfl (by decide) (by decide) hk1 hFc hP1 hD1
  generalize H1 = H at hP hS ⊢
  have hP : va_P D vwCl ([(h, .inr (4, [.ref (b9 0), .ref (b20 0), .ref q27, .null]))] ++ sW cI b9 s0 ++ sW cI b20 s0 ++ wL q27 0 e0 0 ++ mW cI m42 (b42 0) w42 z0 ++ yW cI b42 y0s) H := hP
  have hD : va_D A ([(h, .inr (4, [.ref (b9 0), .ref (b20 0), .ref q27, .null]))] ++ sW cI b9 s0 ++ sW cI b20 s0 ++ wL q27 0 e0 0 ++ mW cI m42 (b42 0) w42 z0 ++ yW cI b42 y0s) := hD
  refine va_putF (D := D) (ci := 4) (v := .ref m42) (ty := (.object "Warren$Mind")) (C := RX4) (T := TX4) (N := 4) hx hb hts (by decide +kernel) tyX4 tyX4_ok nmX4 hown hK hP hD hS 0 rfl rfl 3 (by decide) (hts (.fieldLink RX4 29 "Warren" "mind" "LWarren$Mind;") (by decide +kernel)) (fun _ h9 => h9) rfl hin rfl (by decide +kernel) rfl rfl (Nat.le_of_ble_eq_true rfl) dX4_init_45 (fun H locs hP hD hS => ?_)
  have hP : va_P D vwCl ([(h, .inr (4, [.ref (b9 0), .ref (b20 0), .ref q27, .ref m42]))] ++ sW cI b9 s0 ++ sW cI b20 s0 ++ wL q27 0 e0 0 ++ mW cI m42 (b42 0) w42 z0 ++ yW cI b42 y0s) H := hP
  have hD : va_D A ([(h, .inr (4, [.ref (b9 0), .ref (b20 0), .ref q27, .ref m42]))] ++ sW cI b9 s0 ++ sW cI b20 s0 ++ wL q27 0 e0 0 ++ mW cI m42 (b42 0) w42 z0 ++ yW cI b42 y0s) := hD
  have hP9 := hP.sub (ws' := wW h (b9 0) (b20 0) q27 m42 ++ sW cI b9 s0 ++ sW cI b20 s0 ++ wL q27 0 e0 0 ++ mW cI m42 (b42 0) w42 z0 ++ yW cI b42 y0s) [0, 1, 2, 3, 4, 5, 6, 7, 8, 9, 10, 11, 12, 13, 14, 15, 16, 17, 18] rfl
  have hD9 := hD.sub (ws' := wW h (b9 0) (b20 0) q27 m42 ++ sW cI b9 s0 ++ sW cI b20 s0 ++ wL q27 0 e0 0 ++ mW cI m42 (b42 0) w42 z0 ++ yW cI b42 y0s) [0, 1, 2, 3, 4, 5, 6, 7, 8, 9, 10, 11, 12, 13, 14, 15, 16, 17, 18] (by decide) rfl
  refine W.widen (k := 19) (n := 1600) (Nat.le_of_ble_eq_true rfl) (Nat.le_of_ble_eq_true rfl) ?_
  exact W.vret hx hb hr (fun T9 ht hW => ⟨⟨(h, b9, b20, q27, m42, w42, b42), rfl, rfl, by rw [ht]; exact hP9, va_K.moved hW.alike hK, hD9⟩, hS.F ht⟩) hS.2.2 dX4_init_48

set_option maxHeartbeats 4000000 in
set_option maxRecDepth 100000 in
theorem c_Jx4a65c_size_8abf5 (l : Launch) (D : va_G) (cI : ClassId) (l0 : Nat) (mc : Int32) (e0 g : Nat) : Met l yJx4a65c_size_8abf5 wsJx4a65c_size_8abf5 ({ frames := 0, cells := 0, slots := 0, locals := 0 } : Room) (va_Pc [.ref l0] (preR D cI (wL l0 mc e0 g))) (vp_Si (fun r => r = nI g)) 0 0 (fun _ => False) := by
  refine Met.ofW (cc := cJx4a65c_size_8abf5) (maxL := 1) (ret := (some .int)) (by decide) rfl ?_
  intro p e s m args below meth c s₁ B hml hv
  obtain ⟨rfl, hP, hK, hE⟩ := hv
  have hx := B.exec
  have hb := B.bytes
  have hr := B.returns
  have hts := atoms_spec (ws := wsJx4a65c_size_8abf5) B.pre
  have hown : s.vm.findClass RJx4a65c = some m.cls := findClass_of_methodNamed B.named
  have hlocks := B.notSynchronized
  have hl := lv_entry ([.ref l0]) (n := 1) (Nat.le_of_ble_eq_true rfl)
  rw [lg_entry_eq]
  generalize (lg_sl ([.ref l0]) ++ List.replicate (1 - (lg_sl ([.ref l0])).length) Slot.unset).toArray = ls at hl ⊢
  have hl : lv_has ls 1 [(0, .ref l0)] := hl
  refine lv_aload_n hx hb dJx4a65c_size_8abf5_0 rfl (lv_at hl 0 rfl) ?_
  refine va_get (D := D) (ci := 0) (v := .int (nI g)) (C := RJx4a65c) (T := TJx4a65c) (N := 3) hx hb hts (by decide +kernel) hown hK hP 0 rfl rfl 2 (by decide) (hts (.fieldLink RJx4a65c 48 "java/util/ArrayList" "size" "I") (by decide +kernel)) (fun _ h9 => h9) rfl dJx4a65c_size_8abf5_1 ?_
  exact W.iret (v := (nI g)) hx hb hr (fun T9 ht _ => ⟨_, rfl, by first | rfl | (simp only []; done) | (simp only []; rfl) | (simp []; done) | (simp []; rfl), ht⟩) hnil dJx4a65c_size_8abf5_4

set_option maxHeartbeats 4000000 in
set_option maxRecDepth 100000 in
theorem c_X4_countOf (l : Launch) (D : va_G) (cI : ClassId) (h t0 l0 m0 : Nat) (a : Nat → Nat) (σ : SS) (mc : Int32) (e0 g : Nat) (j : Nat) (hn : s_n σ ≤ 10) (hj : j ≤ 8) : Met l yX4_countOf wsX4_countOf ({ frames := 3, cells := 0, slots := 0, locals := 67 } : Room) (va_Pc [.ref h, .int (nI j)] (preF D cI (wW h (a 0) t0 l0 m0 ++ sW cI a σ ++ wL l0 mc e0 g))) (vp_Si (fun r => r = countF σ g (nI j))) 0 0 (fun _ => False) := by
  refine Met.ofW (cc := cX4_countOf) (maxL := 2) (ret := (some .int)) (by decide) rfl ?_
  intro p e s m args below meth c s₁ B hml hv
  obtain ⟨rfl, ⟨hP, hK, hE⟩, hF⟩ := hv
  have hx := B.exec
  have hb := B.bytes
  have hr := B.returns
  have hts := atoms_spec (ws := wsX4_countOf) B.pre
  have hown : s.vm.findClass RX4 = some m.cls := findClass_of_methodNamed B.named
  have hlocks := B.notSynchronized
  have hl := lv_entry ([.ref h, .int (nI j)]) (n := 2) (Nat.le_of_ble_eq_true rfl)
  rw [lg_entry_eq]
  generalize (lg_sl ([.ref h, .int (nI j)]) ++ List.replicate (2 - (lg_sl ([.ref h, .int (nI j)])).length) Slot.unset).toArray = ls at hl ⊢
  have hl : lv_has ls 2 [(0, .ref h), (1, .int (nI j))] := hl
  refine lv_iload_n hx hb dX4_countOf_0 rfl (lv_at hl 1 rfl) ?_
  rcases (show j = 0 ∨ j = 1 ∨ j = 2 ∨ j = 3 ∨ j = 4 ∨ j = 5 ∨ j = 6 ∨ j = 7 ∨ j = 8 by omega) with rfl | rfl | rfl | rfl | rfl | rfl | rfl | rfl | rfl
  · refine lv_tableIn (off := 47) (tgt := 48) hx hb dX4_countOf_1 (by decide) (by decide) (by decide) (by decide) ?_
    refine lv_aload_n hx hb dX4_countOf_48 rfl (lv_at hl 0 rfl) ?_
    refine va_get (D := D) (ci := 4) (v := .ref (a 0)) (C := RX4) (T := TX4) (N := 4) hx hb hts (by decide +kernel) hown hK hP 0 rfl rfl 0 (by decide) (hts (.fieldLink RX4 12 "Warren" "state" "LWarren$State;") (by decide +kernel)) (fun _ h9 => h9) rfl dX4_countOf_49 ?_
    refine va_getN (D := D) (ci := 2) (v := .int (nI (s_n σ))) (C := RX2) (T := TX2) (N := 8) hx hb hts (by decide +kernel) hown hK hP 1 rfl rfl 5 (by decide) (va_Nw.use rfl hE.2.2.2.2.2.2.2.2.1) (fun _ h9 => h9) rfl dX4_countOf_52 ?_
    exact W.iret (v := (nI (s_n σ))) hx hb hr (fun T9 ht _ => ⟨_, rfl, rfl, ht⟩) hnil dX4_countOf_55
  · refine lv_tableIn (off := 55) (tgt := 56) hx hb dX4_countOf_1 (by decide) (by decide) (by decide) (by decide) ?_
    refine lv_aload_n hx hb dX4_countOf_56 rfl (lv_at hl 0 rfl) ?_
    refine va_get (D := D) (ci := 4) (v := .ref (a 0)) (C := RX4) (T := TX4) (N := 4) hx hb hts (by decide +kernel) hown hK hP 0 rfl rfl 0 (by decide) (hts (.fieldLink RX4 12 "Warren" "state" "LWarren$State;") (by decide +kernel)) (fun _ h9 => h9) rfl dX4_countOf_57 ?_
    refine lv_iconst (v := 0) hx hb dX4_countOf_60 (by decide) ?_
    refine vp_callSi (va_Run.run (va_runV (As := [.int 0]) (rest := []) ⟨hx, hb, hml, hown, hts⟩ (c_X2_living l D cI a σ 0 hn) (cwV 1 hts gX4_countOf_X2_living rfl rfl rfl (by decide +kernel) ⟨Nat.le_of_ble_eq_true rfl, Nat.le_of_ble_eq_true rfl⟩) ⟨preR_blind, va_recv hK hP (ci := 2) (q0 := 1) rfl rfl, preR_of (hP.sub (ws' := sW cI a σ) [1, 2, 3, 4, 5, 6] rfl) hK hE [.ref (a 0), .int 0]⟩ rfl rfl hl.1 rfl (lv_room (Nat.le_of_ble_eq_true rfl)) dX4_countOf_61 ⟨Nat.zero_le _, Nat.zero_le _⟩)) (fun r hr9 => ?_)
    subst hr9
    exact W.iret (v := (livingF σ 0)) hx hb hr (fun T9 ht _ => ⟨_, rfl, rfl, ht⟩) hnil dX4_countOf_64
  · refine lv_tableIn (off := 64) (tgt := 65) hx hb dX4_countOf_1 (by decide) (by decide) (by decide) (by decide) ?_
    refine lv_aload_n hx hb dX4_countOf_65 rfl (lv_at hl 0 rfl) ?_
    refine va_get (D := D) (ci := 4) (v := .ref (a 0)) (C := RX4) (T := TX4) (N := 4) hx hb hts (by decide +kernel) hown hK hP 0 rfl rfl 0 (by decide) (hts (.fieldLink RX4 12 "Warren" "state" "LWarren$State;") (by decide +kernel)) (fun _ h9 => h9) rfl dX4_countOf_66 ?_
    refine lv_iconst (v := 1) hx hb dX4_countOf_69 (by decide) ?_
    refine vp_callSi (va_Run.run (va_runV (As := [.int 1]) (rest := []) ⟨hx, hb, hml, hown, hts⟩ (c_X2_living l D cI a σ 1 hn) (cwV 1 hts gX4_countOf_X2_living rfl rfl rfl (by decide +kernel) ⟨Nat.le_of_ble_eq_true rfl, Nat.le_of_ble_eq_true rfl⟩) ⟨preR_blind, va_recv hK hP (ci := 2) (q0 := 1) rfl rfl, preR_of (hP.sub (ws' := sW cI a σ) [1, 2, 3, 4, 5, 6] rfl) hK hE [.ref (a 0), .int 1]⟩ rfl rfl hl.1 rfl (lv_room (Nat.le_of_ble_eq_true rfl)) dX4_countOf_70 ⟨Nat.zero_le _, Nat.zero_le _⟩)) (fun r hr9 => ?_)
    subst hr9
    exact W.iret (v := (livingF σ 1)) hx hb hr (fun T9 ht _ => ⟨_, rfl, rfl, ht⟩) hnil dX4_countOf_73
  · refine lv_tableIn (off := 73) (tgt := 74) hx hb dX4_countOf_1 (by decide) (by decide) (by decide) (by decide) ?_
    refine lv_aload_n hx hb dX4_countOf_74 rfl (lv_at hl 0 rfl) ?_
    refine va_get (D := D) (ci := 4) (v := .ref (a 0)) (C := RX4) (T := TX4) (N := 4) hx hb hts (by decide +kernel) hown hK hP 0 rfl rfl 0 (by decide) (hts (.fieldLink RX4 12 "Warren" "state" "LWarren$State;") (by decide +kernel)) (fun _ h9 => h9) rfl dX4_countOf_75 ?_
    refine vp_callSi (va_Run.run (va_runV (As := []) (rest := []) ⟨hx, hb, hml, hown, hts⟩ (c_X2_whoseTurn l D cI a σ  hn) (cwV 0 hts gX4_countOf_X2_whoseTurn rfl rfl rfl (by decide +kernel) ⟨Nat.le_of_ble_eq_true rfl, Nat.le_of_ble_eq_true rfl⟩) ⟨preR_blind, va_recv hK hP (ci := 2) (q0 := 1) rfl rfl, preR_of (hP.sub (ws' := sW cI a σ) [1, 2, 3, 4, 5, 6] rfl) hK hE [.ref (a 0)]⟩ rfl rfl hl.1 rfl (lv_room (Nat.le_of_ble_eq_true rfl)) dX4_countOf_78 ⟨Nat.zero_le _, Nat.zero_le _⟩)) (fun r hr9 => ?_)
    subst hr9
    exact W.iret (v := (turnF σ)) hx hb hr (fun T9 ht _ => ⟨_, rfl, rfl, ht⟩) hnil dX4_countOf_81
  · refine lv_tableIn (off := 81) (tgt := 82) hx hb dX4_countOf_1 (by decide) (by decide) (by decide) (by decide) ?_
    refine lv_aload_n hx hb dX4_countOf_82 rfl (lv_at hl 0 rfl) ?_
    refine va_get (D := D) (ci := 4) (v := .ref (a 0)) (C := RX4) (T := TX4) (N := 4) hx hb hts (by decide +kernel) hown hK hP 0 rfl rfl 0 (by decide) (hts (.fieldLink RX4 12 "Warren" "state" "LWarren$State;") (by decide +kernel)) (fun _ h9 => h9) rfl dX4_countOf_83 ?_
    refine va_getN (D := D) (ci := 2) (v := .int (s_ac σ)) (C := RX2) (T := TX2) (N := 8) hx hb hts (by decide +kernel) hown hK hP 1 rfl rfl 6 (by decide) (va_Nw.use rfl hE.2.2.2.2.2.2.2.2.2.1) (fun _ h9 => h9) rfl dX4_countOf_86 ?_
    exact W.iret (v := (s_ac σ)) hx hb hr (fun T9 ht _ => ⟨_, rfl, rfl, ht⟩) hnil dX4_countOf_89
  · refine lv_tableIn (off := 89) (tgt := 90) hx hb dX4_countOf_1 (by decide) (by decide) (by decide) (by decide) ?_
    refine lv_aload_n hx hb dX4_countOf_90 rfl (lv_at hl 0 rfl) ?_
    refine va_get (D := D) (ci := 4) (v := .ref (a 0)) (C := RX4) (T := TX4) (N := 4) hx hb hts (by decide +kernel) hown hK hP 0 rfl rfl 0 (by decide) (hts (.fieldLink RX4 12 "Warren" "state" "LWarren$State;") (by decide +kernel)) (fun _ h9 => h9) rfl dX4_countOf_91 ?_
    refine va_getN (D := D) (ci := 2) (v := .int (s_hi σ)) (C := RX2) (T := TX2) (N := 8) hx hb hts (by decide +kernel) hown hK hP 1 rfl rfl 7 (by decide) (va_Nw.use rfl hE.2.2.2.2.2.2.2.2.2.2) (fun _ h9 => h9) rfl dX4_countOf_94 ?_
    exact W.iret (v := (s_hi σ)) hx hb hr (fun T9 ht _ => ⟨_, rfl, rfl, ht⟩) hnil dX4_countOf_97
  · refine lv_tableIn (off := 97) (tgt := 98) hx hb dX4_countOf_1 (by decide) (by decide) (by decide) (by decide) ?_
    refine lv_aload_n hx hb dX4_countOf_98 rfl (lv_at hl 0 rfl) ?_
    refine va_get (D := D) (ci := 4) (v := .ref (a 0)) (C := RX4) (T := TX4) (N := 4) hx hb hts (by decide +kernel) hown hK hP 0 rfl rfl 0 (by decide) (hts (.fieldLink RX4 12 "Warren" "state" "LWarren$State;") (by decide +kernel)) (fun _ h9 => h9) rfl dX4_countOf_99 ?_
    refine lv_iconst (v := 0) hx hb dX4_countOf_102 (by decide) ?_
    refine vp_callSi (va_Run.run (va_runV (As := [.int 0]) (rest := []) ⟨hx, hb, hml, hown, hts⟩ (c_X2_knownCells l D cI a σ 0) (cwV 1 hts gX4_countOf_X2_knownCells rfl rfl rfl (by decide +kernel) ⟨Nat.le_of_ble_eq_true rfl, Nat.le_of_ble_eq_true rfl⟩) ⟨preR_blind, va_recv hK hP (ci := 2) (q0 := 1) rfl rfl, preR_of (hP.sub (ws' := sW cI a σ) [1, 2, 3, 4, 5, 6] rfl) hK hE [.ref (a 0), .int 0]⟩ rfl rfl hl.1 rfl (lv_room (Nat.le_of_ble_eq_true rfl)) dX4_countOf_103 ⟨Nat.zero_le _, Nat.zero_le _⟩)) (fun r hr9 => ?_)
    subst hr9
    exact W.iret (v := (knownF σ 0)) hx hb hr (fun T9 ht _ => ⟨_, rfl, rfl, ht⟩) hnil dX4_countOf_106
  · refine lv_tableIn (off := 106) (tgt := 107) hx hb dX4_countOf_1 (by decide) (by decide) (by decide) (by decide) ?_
    refine lv_aload_n hx hb dX4_countOf_107 rfl (lv_at hl 0 rfl) ?_
    refine va_get (D := D) (ci := 4) (v := .ref (a 0)) (C := RX4) (T := TX4) (N := 4) hx hb hts (by decide +kernel) hown hK hP 0 rfl rfl 0 (by decide) (hts (.fieldLink RX4 12 "Warren" "state" "LWarren$State;") (by decide +kernel)) (fun _ h9 => h9) rfl dX4_countOf_108 ?_
    refine lv_iconst (v := 1) hx hb dX4_countOf_111 (by decide) ?_
    refine vp_callSi (va_Run.run (va_runV (As := [.int 1]) (rest := []) ⟨hx, hb, hml, hown, hts⟩ (c_X2_knownCells l D cI a σ 1) (cwV 1 hts gX4_countOf_X2_knownCells rfl rfl rfl (by decide +kernel) ⟨Nat.le_of_ble_eq_true rfl, Nat.le_of_ble_eq_true rfl⟩) ⟨preR_blind, va_recv hK hP (ci := 2) (q0 := 1) rfl rfl, preR_of (hP.sub (ws' := sW cI a σ) [1, 2, 3, 4, 5, 6] rfl) hK hE [.ref (a 0), .int 1]⟩ rfl rfl hl.1 rfl (lv_room (Nat.le_of_ble_eq_true rfl)) dX4_countOf_112 ⟨Nat.zero_le _, Nat.zero_le _⟩)) (fun r hr9 => ?_)
    subst hr9
    exact W.iret (v := (knownF σ 1)) hx hb hr (fun T9 ht _ => ⟨_, rfl, rfl, ht⟩) hnil dX4_countOf_115
  · refine lv_tableOut (tgt := 116) hx hb dX4_countOf_1 (by decide) (by decide) ?_
    refine lv_aload_n hx hb dX4_countOf_116 rfl (lv_at hl 0 rfl) ?_
    refine va_get (D := D) (ci := 4) (v := .ref l0) (C := RX4) (T := TX4) (N := 4) hx hb hts (by decide +kernel) hown hK hP 0 rfl rfl 2 (by decide) (hts (.fieldLink RX4 22 "Warren" "saved" "Ljava/util/List;") (by decide +kernel)) (fun _ h9 => h9) rfl dX4_countOf_117 ?_
    refine va_csFi (va_runF (hK.1 0 _ rfl).2 (As := []) (rest := []) ⟨hx, hb, hml, hown, hts⟩ (c_Jx4a65c_size_8abf5 l D cI l0 mc e0 g) (va_cwF 0 hts gX4_countOf_Jx4a65c_size_8abf5_f190Jx4a65c rfl rfl rfl hF.1 (by decide +kernel) ⟨Nat.le_of_ble_eq_true rfl, Nat.le_of_ble_eq_true rfl⟩) ⟨preR_blind, va_recv hK hP (ci := 0) (q0 := 7) rfl rfl, preR_of (hP.sub (ws' := wL l0 mc e0 g) [7] rfl) hK hE [.ref l0]⟩ rfl rfl hl.1 rfl (lv_room (Nat.le_of_ble_eq_true rfl)) dX4_countOf_120 ⟨Nat.zero_le _, Nat.zero_le _⟩) (fun r hr9 => ?_)
    subst hr9
    exact W.iret (v := (nI g)) hx hb hr (fun T9 ht _ => ⟨_, rfl, rfl, ht⟩) hnil dX4_countOf_125

