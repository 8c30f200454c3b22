-- ===== the shadow: act =====
set_option maxHeartbeats 4000000 in
set_option maxRecDepth 100000 in
theorem c_X5_act (l : Launch) (D : va_G) (cI : ClassId) (sz : Nat) (cZ cG cY : ClassId) (o rr : Nat → Nat) (h b dr : Nat) (δ : DD) (Y : RW) (t L : Nat) (xs : Nat → Int32) (jb : Nat) (x : Int32) (sd : Nat) (hn : d_n δ ≤ 10) (hjb : jb < d_n δ) (hn31 : d_n δ < 2 ^ 31) (hsp6 : ¬ d_R δ jb 6 = 0) (hin9 : ∀ d, vp_in (d_R δ jb 1 + stepD d) 160) (hcell2 : ∀ j, j < d_n (go1 (manaD δ jb x) jb x) → ¬ d_R (go1 (manaD δ jb x) jb x) j 1 < 0 → cellB (d_R (go1 (manaD δ jb x) jb x) j 1) = true) (ht5 : x = 5 → ¬ targetD (go1 (manaD δ jb x) jb x) jb < 0) (hnA : d_n (actD δ jb x) ≤ 10) (hbA : jb < d_n (actD δ jb x)) (hs2 : sd < 2) (hsd : d_R (actD δ jb x) jb 0 = nI sd) (hcl : d_R (actD δ jb x) jb 1 < 0 ∨ cellB (d_R (actD δ jb x) jb 1) = true) : Met l yX5_act wsX5_act ({ frames := 4, cells := 0, slots := 0, locals := 85 } : Room) (va_Pc [.ref (o 0), .int (nI jb), .int x] (preD D cI cZ cG cY t b L xs (dW cI cZ cG cY o rr h b dr δ Y ++ bW cI rr (d_n δ) (d_R δ)) sz)) (va_Qi (fun (r : Int32) (u : (DD × RW)) => r = lostD δ jb x ∧ u.1 = actD δ jb x) (fun (u : (DD × RW)) => posD D cI cZ cG cY (va_A (dW cI cZ cG cY o rr h b dr δ Y ++ bW cI rr (d_n δ) (d_R δ)) sz) (dW cI cZ cG cY o rr h b dr u.1 u.2 ++ bW cI rr (d_n u.1) (d_R u.1))) (va_A (dW cI cZ cG cY o rr h b dr δ Y ++ bW cI rr (d_n δ) (d_R δ)) sz)) 0 0 (va_A (dW cI cZ cG cY o rr h b dr δ Y ++ bW cI rr (d_n δ) (d_R δ)) sz) := by
  refine Met.ofW (cc := cX5_act) (maxL := 8) (ret := (some .int)) (by decide) rfl ?_
  intro p e s m args below meth c s₁ B hml hv
  obtain ⟨rfl, ⟨hsz, hP, hK, hD0⟩, hGX⟩ := hv
  have hx := B.exec
  have hb := B.bytes
  have hr := B.returns
  have hts := atoms_spec (ws := wsX5_act) B.pre
  have hown : s.vm.findClass RX5 = some m.cls := findClass_of_methodNamed B.named
  have hlocks := B.notSynchronized
  subst hsz
  have hD := hD0.self (sz := s.heap.size)
  generalize hAe : va_A (dW cI cZ cG cY o rr h b dr δ Y ++ bW cI rr (d_n δ) (d_R δ)) s.heap.size = A at hD hGX ⊢
  have hA : ∀ q : Nat, s.heap.size ≤ q → A q := fun q h => by rw [← hAe]; exact Or.inr h
  have hS : va_S A s.heap s.heap [] := va_S.rf
  have hP : va_P D vwCl (dW cI cZ cG cY o rr h b dr δ Y ++ bW cI rr (d_n δ) (d_R δ)) s.heap := hP
  have hl := lv_entry ([.ref (o 0), .int (nI jb), .int x]) (n := 8) (Nat.le_of_ble_eq_true rfl)
  rw [lg_entry_eq]
  generalize (lg_sl ([.ref (o 0), .int (nI jb), .int x]) ++ List.replicate (8 - (lg_sl ([.ref (o 0), .int (nI jb), .int x])).length) Slot.unset).toArray = ls at hl ⊢
  have hl : lv_has ls 8 [(0, .ref (o 0)), (1, .int (nI jb)), (2, .int x)] := hl
  refine lv_aload_n hx hb dX5_act_0 rfl (lv_at hl 0 rfl) ?_
  refine va_get (D := D) (ci := 5) (v := .ref (o 5)) (C := RX5) (T := TX5) (N := 8) hx hb hts (by decide +kernel) hown hK hP 0 rfl rfl 5 (by decide) (hts (.fieldLink RX5 26 "WarrenLaw$Den" "beings" "[[I") (by decide +kernel)) (fun _ h9 => h9) rfl dX5_act_1 ?_
  refine lv_iload_n hx hb dX5_act_4 rfl (lv_at hl 1 rfl) ?_
  refine w_ldB hx hb hK hP 5 rfl (vp_in_nI hjb (Nat.lt_of_le_of_lt hn (by decide))) dX5_act_5 ?_
  rw [nI_clamp (by omega)]
  refine lv_astore_n (lv' := [(3, .ref (rr jb)), (0, .ref (o 0)), (1, .int (nI jb)), (2, .int x)]) hx hb dX5_act_6 rfl hl (by decide) rfl (fun ls hl => ?_)
  refine lv_bipush (v := 12) hx hb dX5_act_7 (by decide) ?_
  refine lv_aload_n hx hb dX5_act_9 rfl (lv_at hl 0 rfl) ?_
  refine lv_bipush (v := 6) hx hb dX5_act_10 (by decide) ?_
  refine va_iald hx hb hK hP (6 + jb) 0 (bW_at rfl hjb) rfl (vp_in_nI (n := 6) (by decide) (by decide)) dX5_act_12 ?_
  rw [show (6 : Int32).toNatClampNeg = 6 by decide]
  refine lv_idiv hx hb dX5_act_13 hsp6 ?_
  refine lv_istore (lv' := [(4, .int (12 / ((d_R δ jb) 6))), (3, .ref (rr jb)), (0, .ref (o 0)), (1, .int (nI jb)), (2, .int x)]) hx hb dX5_act_14 hl (by decide) rfl (fun ls hl => ?_)
  refine lv_aload_n hx hb dX5_act_16 rfl (lv_at hl 1 rfl) ?_
  refine lv_bipush (v := 13) hx hb dX5_act_17 (by decide) ?_
  refine va_iald hx hb hK hP (6 + jb) 0 (bW_at rfl hjb) rfl (vp_in_nI (n := 13) (by decide) (by decide)) dX5_act_19 ?_
  rw [show (13 : Int32).toNatClampNeg = 13 by decide]
  have L29 : ∀ (t4 : Int32) (ht4 : t4 = timeD (d_R δ jb)) (H : Heap) (locs : List Loc) (ls : Array Slot), lv_has ls 8 [(4, .int t4), (3, .ref (rr jb)), (0, .ref (o 0)), (1, .int (nI jb)), (2, .int x)] → va_P D vwCl (dW cI cZ cG cY o rr h b dr δ Y ++ bW cI rr (d_n δ) (d_R δ)) H → va_D A (dW cI cZ cG cY o rr h b dr δ Y ++ bW cI rr (d_n δ) (d_R δ)) → va_S A s.heap H locs → W p l e ({ frames := 4, cells := 0, slots := 0, locals := 85 } : Room) s m ([.ref (o 0), .int (nI jb), .int x] : List Value).toArray below meth c H locs 0 0 (MQ below (va_Qi (fun (r : Int32) (u : (DD × RW)) => r = lostD δ jb x ∧ u.1 = actD δ jb x) (fun (u : (DD × RW)) => posD D cI cZ cG cY A (dW cI cZ cG cY o rr h b dr u.1 u.2 ++ bW cI rr (d_n u.1) (d_R u.1))) A) ([.ref (o 0), .int (nI jb), .int x] : List Value).toArray s 0 0 A) (F0 m 29 ls []) := by
    intro t4 ht4 H locs ls hl hP hD hS
    refine lv_iconst (v := 0) hx hb dX5_act_29 (by decide) ?_
    refine lv_istore (lv' := [(5, .int 0), (4, .int t4), (3, .ref (rr jb)), (0, .ref (o 0)), (1, .int (nI jb)), (2, .int x)]) hx hb dX5_act_30 hl (by decide) rfl (fun ls hl => ?_)
    refine lv_aload_n hx hb dX5_act_32 rfl (lv_at hl 2 rfl) ?_
    refine lv_bipush (v := 7) hx hb dX5_act_33 (by decide) ?_
    refine lv_iload_n hx hb dX5_act_35 rfl (lv_at hl 5 rfl) ?_
    have L71 : ∀ (v9 : Int32) (hv : v9 = if x = 0 then minI 9 (d_R δ jb 7 + 1) else if x ≤ 4 then d_R δ jb 7 else d_R δ jb 7 - 3) (H : Heap) (locs : List Loc) (ls : Array Slot), lv_has ls 8 [(5, .int 0), (4, .int t4), (3, .ref (rr jb)), (0, .ref (o 0)), (1, .int (nI jb)), (2, .int x)] → va_P D vwCl (dW cI cZ cG cY o rr h b dr δ Y ++ bW cI rr (d_n δ) (d_R δ)) H → va_D A (dW cI cZ cG cY o rr h b dr δ Y ++ bW cI rr (d_n δ) (d_R δ)) → va_S A s.heap H locs → W p l e ({ frames := 4, cells := 0, slots := 0, locals := 85 } : Room) s m ([.ref (o 0), .int (nI jb), .int x] : List Value).toArray below meth c H locs 0 0 (MQ below (va_Qi (fun (r : Int32) (u : (DD × RW)) => r = lostD δ jb x ∧ u.1 = actD δ jb x) (fun (u : (DD × RW)) => posD D cI cZ cG cY A (dW cI cZ cG cY o rr h b dr u.1 u.2 ++ bW cI rr (d_n u.1) (d_R u.1))) A) ([.ref (o 0), .int (nI jb), .int x] : List Value).toArray s 0 0 A) (F0 m 71 ls [.int v9, .int 7, .ref (rr jb)]) := by
      intro v9 hv H locs ls hl hP hD hS
      refine va_iast hx hb hK hP hD hS (6 + jb) 0 (bW_at rfl hjb) rfl (vp_in_nI (n := 7) (by decide) (by decide)) dX5_act_71 (fun H locs hP hD hS => ?_)
      rw [show (7 : Int32).toNatClampNeg = 7 by decide] at hP hD
      have hP := bW_setP rfl hP
      have hD := bW_setD rfl hD
      have hP : va_P D vwCl (dW cI cZ cG cY o rr h b dr (e_g δ jb (upd (d_R δ jb) 7 v9)) Y ++ bW cI rr (d_n (e_g δ jb (upd (d_R δ jb) 7 v9))) (d_R (e_g δ jb (upd (d_R δ jb) 7 v9)))) H := hP
      have hD : va_D A (dW cI cZ cG cY o rr h b dr (e_g δ jb (upd (d_R δ jb) 7 v9)) Y ++ bW cI rr (d_n (e_g δ jb (upd (d_R δ jb) 7 v9))) (d_R (e_g δ jb (upd (d_R δ jb) 7 v9)))) := hD
      rw [hv] at hP hD
      have hP : va_P D vwCl (dW cI cZ cG cY o rr h b dr (manaD δ jb x) Y ++ bW cI rr (d_n (manaD δ jb x)) (d_R (manaD δ jb x))) H := hP
      have hD : va_D A (dW cI cZ cG cY o rr h b dr (manaD δ jb x) Y ++ bW cI rr (d_n (manaD δ jb x)) (d_R (manaD δ jb x))) := hD
      refine lv_iload_n hx hb dX5_act_72 rfl (lv_at hl 5 rfl) ?_
      have L184 : ∀ (δ2 : DD) (l5 : Int32) (hd2 : δ2 = go1 (manaD δ jb x) jb x) (hl5 : l5 = go2 (manaD δ jb x) jb x) (hn2 : d_n δ2 ≤ 10) (hb2 : jb < d_n δ2) (H : Heap) (locs : List Loc) (ls : Array Slot), lv_has ls 8 [(5, .int l5), (4, .int t4), (3, .ref (rr jb)), (0, .ref (o 0)), (1, .int (nI jb)), (2, .int x)] → va_P D vwCl (dW cI cZ cG cY o rr h b dr δ2 Y ++ bW cI rr (d_n δ2) (d_R δ2)) H → va_D A (dW cI cZ cG cY o rr h b dr δ2 Y ++ bW cI rr (d_n δ2) (d_R δ2)) → va_S A s.heap H locs → W p l e ({ frames := 4, cells := 0, slots := 0, locals := 85 } : Room) s m ([.ref (o 0), .int (nI jb), .int x] : List Value).toArray below meth c H locs 0 0 (MQ below (va_Qi (fun (r : Int32) (u : (DD × RW)) => r = lostD δ jb x ∧ u.1 = actD δ jb x) (fun (u : (DD × RW)) => posD D cI cZ cG cY A (dW cI cZ cG cY o rr h b dr u.1 u.2 ++ bW cI rr (d_n u.1) (d_R u.1))) A) ([.ref (o 0), .int (nI jb), .int x] : List Value).toArray s 0 0 A) (F0 m 184 ls []) := by
        intro δ2 l5 hd2 hl5 hn2 hb2 H locs ls hl hP hD hS
        refine lv_iload_n hx hb dX5_act_184 rfl (lv_at hl 5 rfl) ?_
        refine lv_iconst (v := 5) hx hb dX5_act_185 (by decide) ?_
        have L205 : ∀ (δ3 : DD) (hd3 : δ3 = sp5 δ2 jb x) (hn3 : d_n δ3 ≤ 10) (hb3 : jb < d_n δ3) (H : Heap) (locs : List Loc) (ls : Array Slot), lv_has ls 8 [(5, .int l5), (4, .int t4), (3, .ref (rr jb)), (0, .ref (o 0)), (1, .int (nI jb)), (2, .int x)] → va_P D vwCl (dW cI cZ cG cY o rr h b dr δ3 Y ++ bW cI rr (d_n δ3) (d_R δ3)) H → va_D A (dW cI cZ cG cY o rr h b dr δ3 Y ++ bW cI rr (d_n δ3) (d_R δ3)) → va_S A s.heap H locs → W p l e ({ frames := 4, cells := 0, slots := 0, locals := 85 } : Room) s m ([.ref (o 0), .int (nI jb), .int x] : List Value).toArray below meth c H locs 0 0 (MQ below (va_Qi (fun (r : Int32) (u : (DD × RW)) => r = lostD δ jb x ∧ u.1 = actD δ jb x) (fun (u : (DD × RW)) => posD D cI cZ cG cY A (dW cI cZ cG cY o rr h b dr u.1 u.2 ++ bW cI rr (d_n u.1) (d_R u.1))) A) ([.ref (o 0), .int (nI jb), .int x] : List Value).toArray s 0 0 A) (F0 m 205 ls []) := by
          intro δ3 hd3 hn3 hb3 H locs ls hl hP hD hS
          refine lv_iload_n hx hb dX5_act_205 rfl (lv_at hl 5 rfl) ?_
          refine lv_bipush (v := 6) hx hb dX5_act_206 (by decide) ?_
          have L218 : ∀ (δ4 : DD) (hd4 : δ4 = sp6 δ3 jb x) (hn4 : d_n δ4 ≤ 10) (hb4 : jb < d_n δ4) (H : Heap) (locs : List Loc) (ls : Array Slot), lv_has ls 8 [(5, .int l5), (4, .int t4), (3, .ref (rr jb)), (0, .ref (o 0)), (1, .int (nI jb)), (2, .int x)] → va_P D vwCl (dW cI cZ cG cY o rr h b dr δ4 Y ++ bW cI rr (d_n δ4) (d_R δ4)) H → va_D A (dW cI cZ cG cY o rr h b dr δ4 Y ++ bW cI rr (d_n δ4) (d_R δ4)) → va_S A s.heap H locs → W p l e ({ frames := 4, cells := 0, slots := 0, locals := 85 } : Room) s m ([.ref (o 0), .int (nI jb), .int x] : List Value).toArray below meth c H locs 0 0 (MQ below (va_Qi (fun (r : Int32) (u : (DD × RW)) => r = lostD δ jb x ∧ u.1 = actD δ jb x) (fun (u : (DD × RW)) => posD D cI cZ cG cY A (dW cI cZ cG cY o rr h b dr u.1 u.2 ++ bW cI rr (d_n u.1) (d_R u.1))) A) ([.ref (o 0), .int (nI jb), .int x] : List Value).toArray s 0 0 A) (F0 m 218 ls []) := by
            intro δ4 hd4 hn4 hb4 H locs ls hl hP hD hS
            refine lv_iload_n hx hb dX5_act_218 rfl (lv_at hl 5 rfl) ?_
            refine lv_bipush (v := 7) hx hb dX5_act_219 (by decide) ?_
            have L231 : ∀ (δ5 : DD) (hd5a : δ5 = sp7 δ4 jb x) (hn5 : d_n δ5 ≤ 10) (hb5 : jb < d_n δ5) (H : Heap) (locs : List Loc) (ls : Array Slot), lv_has ls 8 [(5, .int l5), (4, .int t4), (3, .ref (rr jb)), (0, .ref (o 0)), (1, .int (nI jb)), (2, .int x)] → va_P D vwCl (dW cI cZ cG cY o rr h b dr δ5 Y ++ bW cI rr (d_n δ5) (d_R δ5)) H → va_D A (dW cI cZ cG cY o rr h b dr δ5 Y ++ bW cI rr (d_n δ5) (d_R δ5)) → va_S A s.heap H locs → W p l e ({ frames := 4, cells := 0, slots := 0, locals := 85 } : Room) s m ([.ref (o 0), .int (nI jb), .int x] : List Value).toArray below meth c H locs 0 0 (MQ below (va_Qi (fun (r : Int32) (u : (DD × RW)) => r = lostD δ jb x ∧ u.1 = actD δ jb x) (fun (u : (DD × RW)) => posD D cI cZ cG cY A (dW cI cZ cG cY o rr h b dr u.1 u.2 ++ bW cI rr (d_n u.1) (d_R u.1))) A) ([.ref (o 0), .int (nI jb), .int x] : List Value).toArray s 0 0 A) (F0 m 231 ls []) := by
              intro δ5 hd5a hn5 hb5 H locs ls hl hP hD hS
              have hd5 : δ5 = spD δ jb x := by rw [hd5a, hd4, hd3, hd2]; rfl
              refine lv_aload_n hx hb dX5_act_231 rfl (lv_at hl 2 rfl) ?_
              refine lv_bipush (v := 9) hx hb dX5_act_232 (by decide) ?_
              refine va_iald hx hb hK hP (6 + jb) 0 (bW_at rfl hb5) rfl (vp_in_nI (n := 9) (by decide) (by decide)) dX5_act_234 ?_
              rw [show (9 : Int32).toNatClampNeg = 9 by decide]
              have L246 : ∀ (δ6 : DD) (hd6 : δ6 = e_g δ5 jb (poisR (d_R δ5 jb))) (hn6 : d_n δ6 ≤ 10) (hb6 : jb < d_n δ6) (H : Heap) (locs : List Loc) (ls : Array Slot), lv_has ls 8 [(5, .int l5), (4, .int t4), (3, .ref (rr jb)), (0, .ref (o 0)), (1, .int (nI jb)), (2, .int x)] → va_P D vwCl (dW cI cZ cG cY o rr h b dr δ6 Y ++ bW cI rr (d_n δ6) (d_R δ6)) H → va_D A (dW cI cZ cG cY o rr h b dr δ6 Y ++ bW cI rr (d_n δ6) (d_R δ6)) → va_S A s.heap H locs → W p l e ({ frames := 4, cells := 0, slots := 0, locals := 85 } : Room) s m ([.ref (o 0), .int (nI jb), .int x] : List Value).toArray below meth c H locs 0 0 (MQ below (va_Qi (fun (r : Int32) (u : (DD × RW)) => r = lostD δ jb x ∧ u.1 = actD δ jb x) (fun (u : (DD × RW)) => posD D cI cZ cG cY A (dW cI cZ cG cY o rr h b dr u.1 u.2 ++ bW cI rr (d_n u.1) (d_R u.1))) A) ([.ref (o 0), .int (nI jb), .int x] : List Value).toArray s 0 0 A) (F0 m 246 ls []) := by
                intro δ6 hd6 hn6 hb6 H locs ls hl hP hD hS
                refine lv_aload_n hx hb dX5_act_246 rfl (lv_at hl 2 rfl) ?_
                refine lv_iconst (v := 1) hx hb dX5_act_247 (by decide) ?_
                refine va_iald hx hb hK hP (6 + jb) 0 (bW_at rfl hb6) rfl (vp_in_nI (n := 1) (by decide) (by decide)) dX5_act_248 ?_
                rw [show (1 : Int32).toNatClampNeg = 1 by decide]
                have L269 : ∀ (δ7 : DD) (hd7 : δ7 = e_g δ6 jb (healR (d_R δ6 jb))) (hn7 : d_n δ7 ≤ 10) (hb7 : jb < d_n δ7) (H : Heap) (locs : List Loc) (ls : Array Slot), lv_has ls 8 [(5, .int l5), (4, .int t4), (3, .ref (rr jb)), (0, .ref (o 0)), (1, .int (nI jb)), (2, .int x)] → va_P D vwCl (dW cI cZ cG cY o rr h b dr δ7 Y ++ bW cI rr (d_n δ7) (d_R δ7)) H → va_D A (dW cI cZ cG cY o rr h b dr δ7 Y ++ bW cI rr (d_n δ7) (d_R δ7)) → va_S A s.heap H locs → W p l e ({ frames := 4, cells := 0, slots := 0, locals := 85 } : Room) s m ([.ref (o 0), .int (nI jb), .int x] : List Value).toArray below meth c H locs 0 0 (MQ below (va_Qi (fun (r : Int32) (u : (DD × RW)) => r = lostD δ jb x ∧ u.1 = actD δ jb x) (fun (u : (DD × RW)) => posD D cI cZ cG cY A (dW cI cZ cG cY o rr h b dr u.1 u.2 ++ bW cI rr (d_n u.1) (d_R u.1))) A) ([.ref (o 0), .int (nI jb), .int x] : List Value).toArray s 0 0 A) (F0 m 269 ls []) := by
                  intro δ7 hd7 hn7 hb7 H locs ls hl hP hD hS
                  refine lv_iconst (v := 0) hx hb dX5_act_269 (by decide) ?_
                  rw [← e_g_i δ7 jb] at hP hD
                  have hP : va_P D vwCl (dW cI cZ cG cY o rr h b dr (e_g δ7 jb (d_R δ7 jb)) Y ++ bW cI rr (d_n (e_g δ7 jb (d_R δ7 jb))) (d_R (e_g δ7 jb (d_R δ7 jb)))) H := hP
                  have hD : va_D A (dW cI cZ cG cY o rr h b dr (e_g δ7 jb (d_R δ7 jb)) Y ++ bW cI rr (d_n (e_g δ7 jb (d_R δ7 jb))) (d_R (e_g δ7 jb (d_R δ7 jb)))) := hD
                  refine lv_istore (lv' := [(6, .int 0), (5, .int l5), (4, .int t4), (3, .ref (rr jb)), (0, .ref (o 0)), (1, .int (nI jb)), (2, .int x)]) hx hb dX5_act_270 hl (by decide) rfl (fun ls hl => ?_)
                  have L272 : ∀ (n k : Nat) (g9 : Nat → Int32) (hk : k + n = 5) (hg : offRL 5 0 (d_R δ7 jb) = offRL n k g9) (H : Heap) (locs : List Loc) (ls : Array Slot), lv_has ls 8 [(6, .int (nI k)), (5, .int l5), (4, .int t4), (3, .ref (rr jb)), (0, .ref (o 0)), (1, .int (nI jb)), (2, .int x)] → va_P D vwCl (dW cI cZ cG cY o rr h b dr (e_g δ7 jb g9) Y ++ bW cI rr (d_n (e_g δ7 jb g9)) (d_R (e_g δ7 jb g9))) H → va_D A (dW cI cZ cG cY o rr h b dr (e_g δ7 jb g9) Y ++ bW cI rr (d_n (e_g δ7 jb g9)) (d_R (e_g δ7 jb g9))) → va_S A s.heap H locs → W p l e ({ frames := 4, cells := 0, slots := 0, locals := 85 } : Room) s m ([.ref (o 0), .int (nI jb), .int x] : List Value).toArray below meth c H locs 0 0 (MQ below (va_Qi (fun (r : Int32) (u : (DD × RW)) => r = lostD δ jb x ∧ u.1 = actD δ jb x) (fun (u : (DD × RW)) => posD D cI cZ cG cY A (dW cI cZ cG cY o rr h b dr u.1 u.2 ++ bW cI rr (d_n u.1) (d_R u.1))) A) ([.ref (o 0), .int (nI jb), .int x] : List Value).toArray s 0 0 A) (F0 m 272 ls []) := by
                    intro n
                    induction n with
                    | zero =>
                      intro k g9 hk hg H locs ls hl hP hD hS
                      refine lv_iload hx hb dX5_act_272 (lv_at hl 0 rfl) ?_
                      refine lv_iconst (v := 5) hx hb dX5_act_274 (by decide) ?_
                      refine lv_icmp_ge (tgt := 322) hx hb dX5_act_275 (by decide) (fun c_275 => ?_) (fun c_275 => absurd (nI_le (b := k) (a := 5) (by omega) (by omega)) c_275)
                      refine lv_aload_n hx hb dX5_act_322 rfl (lv_at hl 3 rfl) ?_
                      refine lv_bipush (v := 8) hx hb dX5_act_323 (by decide) ?_
                      refine lv_dup2_11 hx hb dX5_act_325 rfl rfl ?_
                      refine va_iald hx hb hK hP (6 + jb) 0 (bW_at2 rfl hb7) rfl (vp_in_nI (n := 8) (by decide) (by decide)) dX5_act_326 ?_
                      rw [show (8 : Int32).toNatClampNeg = 8 by decide]
                      refine lv_iload hx hb dX5_act_327 (lv_at hl 2 rfl) ?_
                      refine lv_iadd hx hb dX5_act_329 ?_
                      refine va_iast hx hb hK hP hD hS (6 + jb) 0 (bW_at2 rfl hb7) rfl (vp_in_nI (n := 8) (by decide) (by decide)) dX5_act_330 (fun H locs hP hD hS => ?_)
                      rw [show (8 : Int32).toNatClampNeg = 8 by decide] at hP hD
                      have hP := bW_wrP rfl hP
                      have hD := bW_wrD rfl hD
                      have hP : va_P D vwCl (dW cI cZ cG cY o rr h b dr (e_g δ7 jb (upd g9 8 ((g9 8) + t4))) Y ++ bW cI rr (d_n (e_g δ7 jb (upd g9 8 ((g9 8) + t4)))) (d_R (e_g δ7 jb (upd g9 8 ((g9 8) + t4))))) H := hP
                      have hD : va_D A (dW cI cZ cG cY o rr h b dr (e_g δ7 jb (upd g9 8 ((g9 8) + t4))) Y ++ bW cI rr (d_n (e_g δ7 jb (upd g9 8 ((g9 8) + t4)))) (d_R (e_g δ7 jb (upd g9 8 ((g9 8) + t4))))) := hD
                      refine lv_aload_n hx hb dX5_act_331 rfl (lv_at hl 4 rfl) ?_
                      refine lv_dup hx hb dX5_act_332 rfl ?_
                      refine va_get (D := D) (ci := 5) (v := .int (d_ac (e_g δ7 jb (upd g9 8 ((g9 8) + t4))))) (C := RX5) (T := TX5) (N := 8) hx hb hts (by decide +kernel) hown hK hP 0 rfl rfl 6 (by decide) (hts (.fieldLink RX5 132 "WarrenLaw$Den" "actions" "I") (by decide +kernel)) (fun _ h9 => h9) rfl dX5_act_333 ?_
                      refine lv_iconst (v := 1) hx hb dX5_act_336 (by decide) ?_
                      refine lv_iadd hx hb dX5_act_337 ?_
                      refine va_put (D := D) (ci := 5) (v := .int ((d_ac (e_g δ7 jb (upd g9 8 ((g9 8) + t4)))) + 1)) (ty := .int) (C := RX5) (T := TX5) (N := 8) hx hb hts (by decide +kernel) tyX5 tyX5_ok nmX5 hown hK hP hD hS 0 rfl rfl 6 (by decide) (hts (.fieldLink RX5 132 "WarrenLaw$Den" "actions" "I") (by decide +kernel)) (fun _ h9 => h9) rfl (by decide +kernel) rfl rfl (Nat.le_of_ble_eq_true rfl) dX5_act_338 (fun H locs hP hD hS => ?_)
                      have hP : va_P D vwCl (dW cI cZ cG cY o rr h b dr (e_ac (e_g δ7 jb (upd g9 8 ((g9 8) + t4))) ((d_ac (e_g δ7 jb (upd g9 8 ((g9 8) + t4)))) + 1)) Y ++ bW cI rr (d_n (e_ac (e_g δ7 jb (upd g9 8 ((g9 8) + t4))) ((d_ac (e_g δ7 jb (upd g9 8 ((g9 8) + t4)))) + 1))) (d_R (e_ac (e_g δ7 jb (upd g9 8 ((g9 8) + t4))) ((d_ac (e_g δ7 jb (upd g9 8 ((g9 8) + t4)))) + 1)))) H := hP
                      have hD : va_D A (dW cI cZ cG cY o rr h b dr (e_ac (e_g δ7 jb (upd g9 8 ((g9 8) + t4))) ((d_ac (e_g δ7 jb (upd g9 8 ((g9 8) + t4)))) + 1)) Y ++ bW cI rr (d_n (e_ac (e_g δ7 jb (upd g9 8 ((g9 8) + t4))) ((d_ac (e_g δ7 jb (upd g9 8 ((g9 8) + t4)))) + 1))) (d_R (e_ac (e_g δ7 jb (upd g9 8 ((g9 8) + t4))) ((d_ac (e_g δ7 jb (upd g9 8 ((g9 8) + t4)))) + 1)))) := hD
                      have h8 : (e_ac (e_g δ7 jb (upd g9 8 ((g9 8) + t4))) ((d_ac (e_g δ7 jb (upd g9 8 ((g9 8) + t4)))) + 1)) = actD δ jb x := act_fin hd5 hd6 hd7 hg ht4
                      rw [h8] at hP hD
                      have hP : va_P D vwCl (dW cI cZ cG cY o rr h b dr (actD δ jb x) Y ++ bW cI rr (d_n (actD δ jb x)) (d_R (actD δ jb x))) H := hP
                      have hD : va_D A (dW cI cZ cG cY o rr h b dr (actD δ jb x) Y ++ bW cI rr (d_n (actD δ jb x)) (d_R (actD δ jb x))) := hD
                      refine lv_aload_n hx hb dX5_act_341 rfl (lv_at hl 4 rfl) ?_
                      refine lv_iload_n hx hb dX5_act_342 rfl (lv_at hl 5 rfl) ?_
                      have hFc := free0 hD hS hA
                      refine va_callv (va_runV (As := [.int (nI jb)]) (rest := []) ⟨hx, hb, hml, hown, hts⟩ (c_X5_look l D cI _ cZ cG cY o rr h b dr (actD δ jb x) Y t L xs jb sd hnA hbA hs2 hsd hcl) (cwV 1 hts gX5_act_X5_look rfl rfl rfl (by decide +kernel) ⟨Nat.le_of_ble_eq_true rfl, Nat.le_of_ble_eq_true rfl⟩) ⟨preD_blind, va_recv hK hP (ci := 5) (q0 := 0) rfl rfl, preD_of hP hK hD hGX hS hFc [.ref (o 0), .int (nI jb)]⟩ rfl rfl hl.1 rfl (lv_room (Nat.le_of_ble_eq_true rfl)) dX5_act_343 ⟨Nat.le_of_ble_eq_true rfl, Nat.le_of_ble_eq_true rfl⟩) hS (fun q _ h => hFc q h) hFc (fun u t9 H1 locs ht hvm hw hB hz1 hk1 hS => ?_)
                      obtain ⟨hP1, -, hD1⟩ := hB
                      rw [ht] at hP1
                      obtain ⟨Y343, rfl⟩ : ∃ z, z = u := ⟨_, rfl⟩
                      have hP := hP1
                      have hD := join0 hFc hD1
                      generalize H1 = H at hP hS ⊢
                      have hP : va_P D vwCl (dW cI cZ cG cY o rr h b dr (actD δ jb x) Y343 ++ bW cI rr (d_n (actD δ jb x)) (d_R (actD δ jb x))) H := hP
                      have hD : va_D A (dW cI cZ cG cY o rr h b dr (actD δ jb x) Y343 ++ bW cI rr (d_n (actD δ jb x)) (d_R (actD δ jb x))) := hD
                      refine lv_iload hx hb dX5_act_346 (lv_at hl 1 rfl) ?_
                      have hP9 := hP
                      have hD9 := hD
                      exact W.iret (v := l5) hx hb hr (fun T9 ht hW => ⟨⟨l5, (actD δ jb x, Y343), rfl, ⟨hl5, rfl⟩, by rw [ht]; exact hP9, va_K.moved hW.alike hK, hD9⟩, hS.F ht⟩) hS.2.2 dX5_act_348
                    | succ n ih272 =>
                      intro k g9 hk hg H locs ls hl hP hD hS
                      refine lv_iload hx hb dX5_act_272 (lv_at hl 0 rfl) ?_
                      refine lv_iconst (v := 5) hx hb dX5_act_274 (by decide) ?_
                      refine lv_icmp_ge (tgt := 322) hx hb dX5_act_275 (by decide) (fun c_275 => absurd c_275 (nI_ge (b := 5) (by omega) (by omega))) (fun c_275 => ?_)
                      refine lv_aload_n hx hb dX5_act_278 rfl (lv_at hl 3 rfl) ?_
                      refine lv_bipush (v := 14) hx hb dX5_act_279 (by decide) ?_
                      refine lv_iload hx hb dX5_act_281 (lv_at hl 0 rfl) ?_
                      refine lv_iadd hx hb dX5_act_283 ?_
                      rw [show (14 : Int32) + nI k = nI (14 + k) from nI_add 14 k]
                      refine lv_iconst (v := 0) hx hb dX5_act_284 (by decide) ?_
                      refine lv_aload_n hx hb dX5_act_285 rfl (lv_at hl 3 rfl) ?_
                      refine lv_bipush (v := 14) hx hb dX5_act_286 (by decide) ?_
                      refine lv_iload hx hb dX5_act_288 (lv_at hl 0 rfl) ?_
                      refine lv_iadd hx hb dX5_act_290 ?_
                      rw [show (14 : Int32) + nI k = nI (14 + k) from nI_add 14 k]
                      refine va_iald hx hb hK hP (6 + jb) 0 (bW_at2 rfl hb7) rfl (vp_in_nI (by omega) (by decide)) dX5_act_291 ?_
                      rw [nI_clamp (by omega)]
                      refine lv_iconst (v := 1) hx hb dX5_act_292 (by decide) ?_
                      refine lv_isub hx hb dX5_act_293 ?_
                      refine va_mmax hx hb (hml.trans hl.1.symm) hown (hts (.methodLink RX5 72 Lib.Math.max.name) (by decide +kernel)) (hts (.static Lib.Math.max.name) (by decide +kernel)) (hts (.initialized "java/lang/Math") (by decide +kernel)) (hts (.code Lib.Math.max.name Lib.Math.max.code 2 (some .int)) (by decide +kernel)) (Nat.le_of_ble_eq_true rfl) (Nat.le_of_ble_eq_true rfl) (Nat.le_of_ble_eq_true rfl) (Nat.le_of_ble_eq_true rfl) dX5_act_294 ?_
                      refine va_iast hx hb hK hP hD hS (6 + jb) 0 (bW_at2 rfl hb7) rfl (vp_in_nI (by omega) (by decide)) dX5_act_297 (fun H locs hP hD hS => ?_)
                      rw [nI_clamp (by omega)] at hP hD
                      have hP := bW_wrP rfl hP
                      have hD := bW_wrD rfl hD
                      have hP : va_P D vwCl (dW cI cZ cG cY o rr h b dr (e_g δ7 jb (upd g9 (14 + k) (maxI 0 ((g9 (14 + k)) - 1)))) Y ++ bW cI rr (d_n (e_g δ7 jb (upd g9 (14 + k) (maxI 0 ((g9 (14 + k)) - 1))))) (d_R (e_g δ7 jb (upd g9 (14 + k) (maxI 0 ((g9 (14 + k)) - 1)))))) H := hP
                      have hD : va_D A (dW cI cZ cG cY o rr h b dr (e_g δ7 jb (upd g9 (14 + k) (maxI 0 ((g9 (14 + k)) - 1)))) Y ++ bW cI rr (d_n (e_g δ7 jb (upd g9 (14 + k) (maxI 0 ((g9 (14 + k)) - 1))))) (d_R (e_g δ7 jb (upd g9 (14 + k) (maxI 0 ((g9 (14 + k)) - 1)))))) := hD
                      refine lv_aload_n hx hb dX5_act_298 rfl (lv_at hl 3 rfl) ?_
                      refine lv_bipush (v := 14) hx hb dX5_act_299 (by decide) ?_
                      refine lv_iload hx hb dX5_act_301 (lv_at hl 0 rfl) ?_
                      refine lv_iadd hx hb dX5_act_303 ?_
                      rw [show (14 : Int32) + nI k = nI (14 + k) from nI_add 14 k]
                      refine va_iald hx hb hK hP (6 + jb) 0 (bW_at2 rfl hb7) rfl (vp_in_nI (by omega) (by decide)) dX5_act_304 ?_
                      rw [nI_clamp (by omega)]
                      rw [pk_us]
                      refine lv_if_ne (tgt := 316) hx hb dX5_act_305 (by decide) (fun c_305 => ?_) (fun c_305 => ?_)
                      · refine lv_iinc (v := (nI (k + 1))) (lv' := [(6, .int (nI (k + 1))), (5, .int l5), (4, .int t4), (3, .ref (rr jb)), (0, .ref (o 0)), (1, .int (nI jb)), (2, .int x)]) hx hb dX5_act_316 hl (k := 0) rfl (nI_1 k) (by decide) rfl (fun ls hl => ?_)
                        refine lv_goto (tgt := 272) hx hb dX5_act_319 (by decide) ?_
                        exact ih272 (k + 1) (upd g9 (14 + k) (maxI 0 ((g9 (14 + k)) - 1))) (by omega) (by rw [hg]; show offRL n (k + 1) (offR g9 k) = _; unfold offR; rw [if_neg c_305]) _ _ ls (lv_sub hl [0, 1, 2, 3, 4, 5, 6] rfl) hP hD hS
                      · refine lv_aload_n hx hb dX5_act_308 rfl (lv_at hl 3 rfl) ?_
                        refine lv_bipush (v := 9) hx hb dX5_act_309 (by decide) ?_
                        refine lv_iload hx hb dX5_act_311 (lv_at hl 0 rfl) ?_
                        refine lv_iadd hx hb dX5_act_313 ?_
                        rw [show (9 : Int32) + nI k = nI (9 + k) from nI_add 9 k]
                        refine lv_iconst (v := 0) hx hb dX5_act_314 (by decide) ?_
                        refine va_iast hx hb hK hP hD hS (6 + jb) 0 (bW_at2 rfl hb7) rfl (vp_in_nI (by omega) (by decide)) dX5_act_315 (fun H locs hP hD hS => ?_)
                        rw [nI_clamp (by omega)] at hP hD
                        have hP := bW_wrP rfl hP
                        have hD := bW_wrD rfl hD
                        have hP : va_P D vwCl (dW cI cZ cG cY o rr h b dr (e_g δ7 jb (upd (upd g9 (14 + k) (maxI 0 ((g9 (14 + k)) - 1))) (9 + k) 0)) Y ++ bW cI rr (d_n (e_g δ7 jb (upd (upd g9 (14 + k) (maxI 0 ((g9 (14 + k)) - 1))) (9 + k) 0))) (d_R (e_g δ7 jb (upd (upd g9 (14 + k) (maxI 0 ((g9 (14 + k)) - 1))) (9 + k) 0)))) H := hP
                        have hD : va_D A (dW cI cZ cG cY o rr h b dr (e_g δ7 jb (upd (upd g9 (14 + k) (maxI 0 ((g9 (14 + k)) - 1))) (9 + k) 0)) Y ++ bW cI rr (d_n (e_g δ7 jb (upd (upd g9 (14 + k) (maxI 0 ((g9 (14 + k)) - 1))) (9 + k) 0))) (d_R (e_g δ7 jb (upd (upd g9 (14 + k) (maxI 0 ((g9 (14 + k)) - 1))) (9 + k) 0)))) := hD
                        refine lv_iinc (v := (nI (k + 1))) (lv' := [(6, .int (nI (k + 1))), (5, .int l5), (4, .int t4), (3, .ref (rr jb)), (0, .ref (o 0)), (1, .int (nI jb)), (2, .int x)]) hx hb dX5_act_316 hl (k := 0) rfl (nI_1 k) (by decide) rfl (fun ls hl => ?_)
                        refine lv_goto (tgt := 272) hx hb dX5_act_319 (by decide) ?_
                        exact ih272 (k + 1) (upd (upd g9 (14 + k) (maxI 0 ((g9 (14 + k)) - 1))) (9 + k) 0) (by omega) (by rw [hg]; show offRL n (k + 1) (offR g9 k) = _; unfold offR; rw [if_pos c_305]) _ _ ls (lv_sub hl [0, 1, 2, 3, 4, 5, 6] rfl) hP hD hS
                  exact L272 5 0 (d_R δ7 jb) rfl rfl _ _ ls (lv_sub hl [0, 1, 2, 3, 4, 5, 6] rfl) hP hD hS
                refine lv_if_lt (tgt := 269) hx hb dX5_act_249 (by decide) (fun c_249 => ?_) (fun c_249 => ?_)
                · exact L269 δ6 (by unfold healR; rw [if_pos c_249, e_g_i]) hn6 hb6 _ _ ls (lv_sub hl [0, 1, 2, 3, 4, 5] rfl) hP hD hS
                · refine lv_aload_n hx hb dX5_act_252 rfl (lv_at hl 2 rfl) ?_
                  refine lv_iconst (v := 2) hx hb dX5_act_253 (by decide) ?_
                  refine lv_aload_n hx hb dX5_act_254 rfl (lv_at hl 2 rfl) ?_
                  refine lv_iconst (v := 3) hx hb dX5_act_255 (by decide) ?_
                  refine va_iald hx hb hK hP (6 + jb) 0 (bW_at rfl hb6) rfl (vp_in_nI (n := 3) (by decide) (by decide)) dX5_act_256 ?_
                  rw [show (3 : Int32).toNatClampNeg = 3 by decide]
                  refine lv_aload_n hx hb dX5_act_257 rfl (lv_at hl 2 rfl) ?_
                  refine lv_iconst (v := 2) hx hb dX5_act_258 (by decide) ?_
                  refine va_iald hx hb hK hP (6 + jb) 0 (bW_at rfl hb6) rfl (vp_in_nI (n := 2) (by decide) (by decide)) dX5_act_259 ?_
                  rw [show (2 : Int32).toNatClampNeg = 2 by decide]
                  refine lv_aload_n hx hb dX5_act_260 rfl (lv_at hl 2 rfl) ?_
                  refine lv_bipush (v := 10) hx hb dX5_act_261 (by decide) ?_
                  refine va_iald hx hb hK hP (6 + jb) 0 (bW_at rfl hb6) rfl (vp_in_nI (n := 10) (by decide) (by decide)) dX5_act_263 ?_
                  rw [show (10 : Int32).toNatClampNeg = 10 by decide]
                  refine lv_iadd hx hb dX5_act_264 ?_
                  refine va_mmin hx hb (hml.trans hl.1.symm) hown (hts (.methodLink RX5 106 Lib.Math.min.name) (by decide +kernel)) (hts (.static Lib.Math.min.name) (by decide +kernel)) (hts (.initialized "java/lang/Math") (by decide +kernel)) (hts (.code Lib.Math.min.name Lib.Math.min.code 2 (some .int)) (by decide +kernel)) (Nat.le_of_ble_eq_true rfl) (Nat.le_of_ble_eq_true rfl) (Nat.le_of_ble_eq_true rfl) (Nat.le_of_ble_eq_true rfl) dX5_act_265 ?_
                  refine va_iast hx hb hK hP hD hS (6 + jb) 0 (bW_at rfl hb6) rfl (vp_in_nI (n := 2) (by decide) (by decide)) dX5_act_268 (fun H locs hP hD hS => ?_)
                  rw [show (2 : Int32).toNatClampNeg = 2 by decide] at hP hD
                  have hP := bW_setP rfl hP
                  have hD := bW_setD rfl hD
                  have hP : va_P D vwCl (dW cI cZ cG cY o rr h b dr (e_g δ6 jb (upd (d_R δ6 jb) 2 (minI ((d_R δ6 jb) 3) (((d_R δ6 jb) 2) + ((d_R δ6 jb) 10))))) Y ++ bW cI rr (d_n (e_g δ6 jb (upd (d_R δ6 jb) 2 (minI ((d_R δ6 jb) 3) (((d_R δ6 jb) 2) + ((d_R δ6 jb) 10)))))) (d_R (e_g δ6 jb (upd (d_R δ6 jb) 2 (minI ((d_R δ6 jb) 3) (((d_R δ6 jb) 2) + ((d_R δ6 jb) 10))))))) H := hP
                  have hD : va_D A (dW cI cZ cG cY o rr h b dr (e_g δ6 jb (upd (d_R δ6 jb) 2 (minI ((d_R δ6 jb) 3) (((d_R δ6 jb) 2) + ((d_R δ6 jb) 10))))) Y ++ bW cI rr (d_n (e_g δ6 jb (upd (d_R δ6 jb) 2 (minI ((d_R δ6 jb) 3) (((d_R δ6 jb) 2) + ((d_R δ6 jb) 10)))))) (d_R (e_g δ6 jb (upd (d_R δ6 jb) 2 (minI ((d_R δ6 jb) 3) (((d_R δ6 jb) 2) + ((d_R δ6 jb) 10))))))) := hD
                  exact L269 (e_g δ6 jb (upd (d_R δ6 jb) 2 (minI ((d_R δ6 jb) 3) (((d_R δ6 jb) 2) + ((d_R δ6 jb) 10))))) (by unfold healR; rw [if_neg c_249]) hn6 hb6 _ _ ls (lv_sub hl [0, 1, 2, 3, 4, 5] rfl) hP hD hS
              refine lv_if_le (tgt := 246) hx hb dX5_act_235 (by decide) (fun c_235 => ?_) (fun c_235 => ?_)
              · exact L246 δ5 (by unfold poisR; rw [if_pos c_235, e_g_i]) hn5 hb5 _ _ ls (lv_sub hl [0, 1, 2, 3, 4, 5] rfl) hP hD hS
              · refine lv_aload_n hx hb dX5_act_238 rfl (lv_at hl 2 rfl) ?_
                refine lv_aload_n hx hb dX5_act_239 rfl (lv_at hl 2 rfl) ?_
                refine lv_bipush (v := 9) hx hb dX5_act_240 (by decide) ?_
                refine va_iald hx hb hK hP (6 + jb) 0 (bW_at rfl hb5) rfl (vp_in_nI (n := 9) (by decide) (by decide)) dX5_act_242 ?_
                rw [show (9 : Int32).toNatClampNeg = 9 by decide]
                have hFc := free0 hD hS hA
                refine va_callv (va_runS (As := [.ref (rr jb), .int ((d_R δ5 jb) 9)]) (rest := []) ⟨hx, hb, hml, hown, hts⟩ (c_X5_lose l D cI _ cZ cG cY o rr h b dr δ5 Y t L xs jb ((d_R δ5 jb) 9) hn5 hb5) (va_cwS 2 hts gX5_act_X5_lose rfl rfl rfl (by decide +kernel) ⟨Nat.le_of_ble_eq_true rfl, Nat.le_of_ble_eq_true rfl⟩) ⟨preD_blind, preD_of hP hK hD hGX hS hFc [.ref (rr jb), .int ((d_R δ5 jb) 9)]⟩ rfl rfl hl.1 rfl (lv_room (Nat.le_of_ble_eq_true rfl)) dX5_act_243 ⟨Nat.le_of_ble_eq_true rfl, Nat.le_of_ble_eq_true rfl⟩) hS (fun q _ h => hFc q h) hFc (fun u t9 H1 locs ht hvm hw hB hz1 hk1 hS => ?_)
                obtain ⟨hP1, -, hD1⟩ := hB
                rw [ht] at hP1
                subst hw
                have hP := hP1
                have hD := join0 hFc hD1
                generalize H1 = H at hP hS ⊢
                have hP : va_P D vwCl (dW cI cZ cG cY o rr h b dr (e_g δ5 jb (loseR (d_R δ5 jb) ((d_R δ5 jb) 9))) Y ++ bW cI rr (d_n (e_g δ5 jb (loseR (d_R δ5 jb) ((d_R δ5 jb) 9)))) (d_R (e_g δ5 jb (loseR (d_R δ5 jb) ((d_R δ5 jb) 9))))) H := hP
                have hD : va_D A (dW cI cZ cG cY o rr h b dr (e_g δ5 jb (loseR (d_R δ5 jb) ((d_R δ5 jb) 9))) Y ++ bW cI rr (d_n (e_g δ5 jb (loseR (d_R δ5 jb) ((d_R δ5 jb) 9)))) (d_R (e_g δ5 jb (loseR (d_R δ5 jb) ((d_R δ5 jb) 9))))) := hD
                exact L246 (e_g δ5 jb (loseR (d_R δ5 jb) ((d_R δ5 jb) 9))) (by unfold poisR; rw [if_neg c_235]) hn5 hb5 _ _ ls (lv_sub hl [0, 1, 2, 3, 4, 5] rfl) hP hD hS
            refine lv_icmp_ne (tgt := 231) hx hb dX5_act_221 (by decide) (fun c_221 => ?_) (fun c_221 => ?_)
            · exact L231 δ4 (by unfold sp7; rw [if_neg c_221]) hn4 hb4 _ _ ls (lv_sub hl [0, 1, 2, 3, 4, 5] rfl) hP hD hS
            · refine lv_aload_n hx hb dX5_act_224 rfl (lv_at hl 2 rfl) ?_
              refine lv_iconst (v := 1) hx hb dX5_act_225 (by decide) ?_
              refine lv_iconst (v := 2) hx hb dX5_act_226 (by decide) ?_
              refine lv_iconst (v := 4) hx hb dX5_act_227 (by decide) ?_
              have hFc := free0 hD hS hA
              refine va_callv (va_runS (As := [.ref (rr jb), .int 1, .int 2, .int 4]) (rest := []) ⟨hx, hb, hml, hown, hts⟩ (c_X5_comeOn l D cI _ cZ cG cY o rr h b dr δ4 Y t L xs jb 1 2 4 hn4 hb4 (by decide)) (va_cwS 4 hts gX5_act_X5_comeOn rfl rfl rfl (by decide +kernel) ⟨Nat.le_of_ble_eq_true rfl, Nat.le_of_ble_eq_true rfl⟩) ⟨preD_blind, preD_of hP hK hD hGX hS hFc [.ref (rr jb), .int 1, .int 2, .int 4]⟩ rfl rfl hl.1 rfl (lv_room (Nat.le_of_ble_eq_true rfl)) dX5_act_228 ⟨Nat.le_of_ble_eq_true rfl, Nat.le_of_ble_eq_true rfl⟩) hS (fun q _ h => hFc q h) hFc (fun u t9 H1 locs ht hvm hw hB hz1 hk1 hS => ?_)
              obtain ⟨hP1, -, hD1⟩ := hB
              rw [ht] at hP1
              subst hw
              have hP := hP1
              have hD := join0 hFc hD1
              generalize H1 = H at hP hS ⊢
              have hP : va_P D vwCl (dW cI cZ cG cY o rr h b dr (e_g δ4 jb (comeR (d_R δ4 jb) 1 2 4)) Y ++ bW cI rr (d_n (e_g δ4 jb (comeR (d_R δ4 jb) 1 2 4))) (d_R (e_g δ4 jb (comeR (d_R δ4 jb) 1 2 4)))) H := hP
              have hD : va_D A (dW cI cZ cG cY o rr h b dr (e_g δ4 jb (comeR (d_R δ4 jb) 1 2 4)) Y ++ bW cI rr (d_n (e_g δ4 jb (comeR (d_R δ4 jb) 1 2 4))) (d_R (e_g δ4 jb (comeR (d_R δ4 jb) 1 2 4)))) := hD
              exact L231 (e_g δ4 jb (comeR (d_R δ4 jb) 1 2 4)) (by unfold sp7; rw [if_pos c_221]) hn4 hb4 _ _ ls (lv_sub hl [0, 1, 2, 3, 4, 5] rfl) hP hD hS
          refine lv_icmp_ne (tgt := 218) hx hb dX5_act_208 (by decide) (fun c_208 => ?_) (fun c_208 => ?_)
          · exact L218 δ3 (by unfold sp6; rw [if_neg c_208]) hn3 hb3 _ _ ls (lv_sub hl [0, 1, 2, 3, 4, 5] rfl) hP hD hS
          · refine lv_aload_n hx hb dX5_act_211 rfl (lv_at hl 2 rfl) ?_
            refine lv_iconst (v := 3) hx hb dX5_act_212 (by decide) ?_
            refine lv_iconst (v := 3) hx hb dX5_act_213 (by decide) ?_
            refine lv_iconst (v := 4) hx hb dX5_act_214 (by decide) ?_
            have hFc := free0 hD hS hA
            refine va_callv (va_runS (As := [.ref (rr jb), .int 3, .int 3, .int 4]) (rest := []) ⟨hx, hb, hml, hown, hts⟩ (c_X5_comeOn l D cI _ cZ cG cY o rr h b dr δ3 Y t L xs jb 3 3 4 hn3 hb3 (by decide)) (va_cwS 4 hts gX5_act_X5_comeOn rfl rfl rfl (by decide +kernel) ⟨Nat.le_of_ble_eq_true rfl, Nat.le_of_ble_eq_true rfl⟩) ⟨preD_blind, preD_of hP hK hD hGX hS hFc [.ref (rr jb), .int 3, .int 3, .int 4]⟩ rfl rfl hl.1 rfl (lv_room (Nat.le_of_ble_eq_true rfl)) dX5_act_215 ⟨Nat.le_of_ble_eq_true rfl, Nat.le_of_ble_eq_true rfl⟩) hS (fun q _ h => hFc q h) hFc (fun u t9 H1 locs ht hvm hw hB hz1 hk1 hS => ?_)
            obtain ⟨hP1, -, hD1⟩ := hB
            rw [ht] at hP1
            subst hw
            have hP := hP1
            have hD := join0 hFc hD1
            generalize H1 = H at hP hS ⊢
            have hP : va_P D vwCl (dW cI cZ cG cY o rr h b dr (e_g δ3 jb (comeR (d_R δ3 jb) 3 3 4)) Y ++ bW cI rr (d_n (e_g δ3 jb (comeR (d_R δ3 jb) 3 3 4))) (d_R (e_g δ3 jb (comeR (d_R δ3 jb) 3 3 4)))) H := hP
            have hD : va_D A (dW cI cZ cG cY o rr h b dr (e_g δ3 jb (comeR (d_R δ3 jb) 3 3 4)) Y ++ bW cI rr (d_n (e_g δ3 jb (comeR (d_R δ3 jb) 3 3 4))) (d_R (e_g δ3 jb (comeR (d_R δ3 jb) 3 3 4)))) := hD
            exact L218 (e_g δ3 jb (comeR (d_R δ3 jb) 3 3 4)) (by unfold sp6; rw [if_pos c_208]) hn3 hb3 _ _ ls (lv_sub hl [0, 1, 2, 3, 4, 5] rfl) hP hD hS
        refine lv_icmp_ne (tgt := 205) hx hb dX5_act_186 (by decide) (fun c_186 => ?_) (fun c_186 => ?_)
        · exact L205 δ2 (by unfold sp5; rw [if_neg c_186]) hn2 hb2 _ _ ls (lv_sub hl [0, 1, 2, 3, 4, 5] rfl) hP hD hS
        · refine lv_aload_n hx hb dX5_act_189 rfl (lv_at hl 3 rfl) ?_
          refine va_get (D := D) (ci := 5) (v := .ref (o 5)) (C := RX5) (T := TX5) (N := 8) hx hb hts (by decide +kernel) hown hK hP 0 rfl rfl 5 (by decide) (hts (.fieldLink RX5 26 "WarrenLaw$Den" "beings" "[[I") (by decide +kernel)) (fun _ h9 => h9) rfl dX5_act_190 ?_
          refine lv_aload_n hx hb dX5_act_193 rfl (lv_at hl 3 rfl) ?_
          refine lv_iload_n hx hb dX5_act_194 rfl (lv_at hl 4 rfl) ?_
          refine vp_callSi (va_Run.run (va_runV (As := [.int (nI jb)]) (rest := [.ref (o 5)]) ⟨hx, hb, hml, hown, hts⟩ (c_X5_target l D cI cZ cG cY o rr h b dr δ2 Y jb hn2 hb2 (by rw [hd2]; exact hcell2)) (cwV 1 hts gX5_act_X5_target rfl rfl rfl (by decide +kernel) ⟨Nat.le_of_ble_eq_true rfl, Nat.le_of_ble_eq_true rfl⟩) ⟨preDR_blind, va_recv hK hP (ci := 5) (q0 := 0) rfl rfl, preDR_of hP hK [.ref (o 0), .int (nI jb)]⟩ rfl rfl hl.1 rfl (lv_room (Nat.le_of_ble_eq_true rfl)) dX5_act_195 ⟨Nat.zero_le _, Nat.zero_le _⟩)) (fun r9 hr9 => ?_)
          subst hr9
          obtain ⟨o8, ho8, eo8⟩ : ∃ o, o < d_n δ2 ∧ targetD δ2 jb = nI o := by
            rcases tgt_or (b := jb) hn2 with z | ⟨o, z1, z2, -⟩
            · exact absurd (by rw [← hd2, z]; exact neg1_lt) (ht5 c_186)
            · exact ⟨o, z1, z2⟩
          rw [eo8]
          refine w_ldB hx hb hK hP 5 rfl (vp_in_nI ho8 (Nat.lt_of_le_of_lt hn2 (by decide))) dX5_act_198 ?_
          rw [nI_clamp (Nat.lt_trans ho8 (Nat.lt_of_le_of_lt hn2 (by decide)))]
          refine lv_iconst (v := 0) hx hb dX5_act_199 (by decide) ?_
          refine lv_iconst (v := 2) hx hb dX5_act_200 (by decide) ?_
          refine lv_iconst (v := 3) hx hb dX5_act_201 (by decide) ?_
          have hFc := free0 hD hS hA
          refine va_callv (va_runS (As := [.ref (rr o8), .int 0, .int 2, .int 3]) (rest := []) ⟨hx, hb, hml, hown, hts⟩ (c_X5_comeOn l D cI _ cZ cG cY o rr h b dr δ2 Y t L xs o8 0 2 3 hn2 ho8 (by decide)) (va_cwS 4 hts gX5_act_X5_comeOn rfl rfl rfl (by decide +kernel) ⟨Nat.le_of_ble_eq_true rfl, Nat.le_of_ble_eq_true rfl⟩) ⟨preD_blind, preD_of hP hK hD hGX hS hFc [.ref (rr o8), .int 0, .int 2, .int 3]⟩ rfl rfl hl.1 rfl (lv_room (Nat.le_of_ble_eq_true rfl)) dX5_act_202 ⟨Nat.le_of_ble_eq_true rfl, Nat.le_of_ble_eq_true rfl⟩) hS (fun q _ h => hFc q h) hFc (fun u t9 H1 locs ht hvm hw hB hz1 hk1 hS => ?_)
          obtain ⟨hP1, -, hD1⟩ := hB
          rw [ht] at hP1
          subst hw
          have hP := hP1
          have hD := join0 hFc hD1
          generalize H1 = H at hP hS ⊢
          have hP : va_P D vwCl (dW cI cZ cG cY o rr h b dr (e_g δ2 o8 (comeR (d_R δ2 o8) 0 2 3)) Y ++ bW cI rr (d_n (e_g δ2 o8 (comeR (d_R δ2 o8) 0 2 3))) (d_R (e_g δ2 o8 (comeR (d_R δ2 o8) 0 2 3)))) H := hP
          have hD : va_D A (dW cI cZ cG cY o rr h b dr (e_g δ2 o8 (comeR (d_R δ2 o8) 0 2 3)) Y ++ bW cI rr (d_n (e_g δ2 o8 (comeR (d_R δ2 o8) 0 2 3))) (d_R (e_g δ2 o8 (comeR (d_R δ2 o8) 0 2 3)))) := hD
          exact L205 (e_g δ2 o8 (comeR (d_R δ2 o8) 0 2 3)) (by unfold sp5; rw [if_pos c_186, eo8, nI_clamp (Nat.lt_trans ho8 (Nat.lt_of_le_of_lt hn2 (by decide)))]) hn2 hb2 _ _ ls (lv_sub hl [0, 1, 2, 3, 4, 5] rfl) hP hD hS
      refine lv_if_le (tgt := 184) hx hb dX5_act_73 (by decide) (fun c_73 => ?_) (fun c_73 => ?_)
      · exact L184 (manaD δ jb x) 0 (by unfold go1; rw [if_pos c_73]) (by unfold go2; rw [if_pos c_73]) hn hjb _ _ ls (lv_sub hl [0, 1, 2, 3, 4, 5] rfl) hP hD hS
      · refine lv_iload_n hx hb dX5_act_76 rfl (lv_at hl 5 rfl) ?_
        refine lv_iconst (v := 5) hx hb dX5_act_77 (by decide) ?_
        refine lv_icmp_ge (tgt := 184) hx hb dX5_act_78 (by decide) (fun c_78 => ?_) (fun c_78 => ?_)
        · exact L184 (manaD δ jb x) 0 (by unfold go1; rw [if_neg c_73, if_pos c_78]) (by unfold go2; rw [if_neg c_73, if_pos c_78]) hn hjb _ _ ls (lv_sub hl [0, 1, 2, 3, 4, 5] rfl) hP hD hS
        · refine lv_aload_n hx hb dX5_act_81 rfl (lv_at hl 2 rfl) ?_
          refine lv_iconst (v := 1) hx hb dX5_act_82 (by decide) ?_
          refine va_iald hx hb hK hP (6 + jb) 0 (bW_at rfl hjb) rfl (vp_in_nI (n := 1) (by decide) (by decide)) dX5_act_83 ?_
          rw [show (1 : Int32).toNatClampNeg = 1 by decide]
          refine lv_iload_n hx hb dX5_act_84 rfl (lv_at hl 5 rfl) ?_
          refine lv_iconst (v := 1) hx hb dX5_act_85 (by decide) ?_
          refine lv_isub hx hb dX5_act_86 ?_
          refine vp_callSi (va_Run.run (va_runS (As := [.int (x - 1)]) (rest := [.int ((d_R (manaD δ jb x) jb) 1)]) ⟨hx, hb, hml, hown, hts⟩ (c_X5_step l (x - 1)) (va_cwS 1 hts gX5_act_X5_step rfl rfl rfl (by decide +kernel) ⟨Nat.le_of_ble_eq_true rfl, Nat.le_of_ble_eq_true rfl⟩) ⟨fun _ _ _ _ q => q, fun _ _ _ => ⟨rfl, trivial⟩⟩ rfl rfl hl.1 rfl (lv_room (Nat.le_of_ble_eq_true rfl)) dX5_act_87 ⟨Nat.zero_le _, Nat.zero_le _⟩)) (fun r hr9 => ?_)
          subst hr9
          refine lv_iadd hx hb dX5_act_90 ?_
          refine lv_istore (lv' := [(6, .int (((d_R (manaD δ jb x) jb) 1) + (stepD (x - 1)))), (5, .int 0), (4, .int t4), (3, .ref (rr jb)), (0, .ref (o 0)), (1, .int (nI jb)), (2, .int x)]) hx hb dX5_act_91 hl (by decide) rfl (fun ls hl => ?_)
          refine lv_aload_n hx hb dX5_act_93 rfl (lv_at hl 4 rfl) ?_
          refine lv_iload hx hb dX5_act_94 (lv_at hl 0 rfl) ?_
          refine vp_callSi (va_Run.run (va_runV (As := [.int (((d_R (manaD δ jb x) jb) 1) + (stepD (x - 1)))]) (rest := []) ⟨hx, hb, hml, hown, hts⟩ (c_X5_on l D cI cZ cG cY o rr h b dr (manaD δ jb x) Y (((d_R (manaD δ jb x) jb) 1) + (stepD (x - 1))) hn) (cwV 1 hts gX5_act_X5_on rfl rfl rfl (by decide +kernel) ⟨Nat.le_of_ble_eq_true rfl, Nat.le_of_ble_eq_true rfl⟩) ⟨preDR_blind, va_recv hK hP (ci := 5) (q0 := 0) rfl rfl, preDR_of hP hK [.ref (o 0), .int (((d_R (manaD δ jb x) jb) 1) + (stepD (x - 1)))]⟩ rfl rfl hl.1 rfl (lv_room (Nat.le_of_ble_eq_true rfl)) dX5_act_96 ⟨Nat.zero_le _, Nat.zero_le _⟩)) (fun r9 hr9 => ?_)
          subst hr9
          refine lv_istore (lv' := [(7, .int (onD (manaD δ jb x) (((d_R (manaD δ jb x) jb) 1) + (stepD (x - 1))))), (6, .int (((d_R (manaD δ jb x) jb) 1) + (stepD (x - 1)))), (5, .int 0), (4, .int t4), (3, .ref (rr jb)), (0, .ref (o 0)), (1, .int (nI jb)), (2, .int x)]) hx hb dX5_act_99 hl (by decide) rfl (fun ls hl => ?_)
          refine lv_iload hx hb dX5_act_101 (lv_at hl 0 rfl) ?_
          refine lv_if_lt (tgt := 157) hx hb dX5_act_103 (by decide) (fun c_103 => ?_) (fun c_103 => ?_)
          · refine lv_aload_n hx hb dX5_act_157 rfl (lv_at hl 5 rfl) ?_
            refine va_get (D := D) (ci := 5) (v := .ref (o 1)) (C := RX5) (T := TX5) (N := 8) hx hb hts (by decide +kernel) hown hK hP 0 rfl rfl 3 (by decide) (hts (.fieldLink RX5 16 "WarrenLaw$Den" "kinds" "[I") (by decide +kernel)) (fun _ h9 => h9) rfl dX5_act_158 ?_
            refine lv_iload hx hb dX5_act_161 (lv_at hl 1 rfl) ?_
            refine va_iald hx hb hK hP 1 0 rfl rfl (by rw [mana_R δ jb x jb 1 (by decide)]; exact hin9 _) dX5_act_163 ?_
            refine lv_iconst (v := 2) hx hb dX5_act_164 (by decide) ?_
            refine lv_icmp_ne (tgt := 179) hx hb dX5_act_165 (by decide) (fun c_165 => ?_) (fun c_165 => ?_)
            · refine lv_aload_n hx hb dX5_act_179 rfl (lv_at hl 4 rfl) ?_
              refine lv_iconst (v := 1) hx hb dX5_act_180 (by decide) ?_
              refine lv_iload hx hb dX5_act_181 (lv_at hl 1 rfl) ?_
              refine va_iast hx hb hK hP hD hS (6 + jb) 0 (bW_at rfl hjb) rfl (vp_in_nI (n := 1) (by decide) (by decide)) dX5_act_183 (fun H locs hP hD hS => ?_)
              rw [show (1 : Int32).toNatClampNeg = 1 by decide] at hP hD
              have hP := bW_setP rfl hP
              have hD := bW_setD rfl hD
              have hP : va_P D vwCl (dW cI cZ cG cY o rr h b dr (e_g (manaD δ jb x) jb (upd (d_R (manaD δ jb x) jb) 1 (((d_R (manaD δ jb x) jb) 1) + (stepD (x - 1))))) Y ++ bW cI rr (d_n (e_g (manaD δ jb x) jb (upd (d_R (manaD δ jb x) jb) 1 (((d_R (manaD δ jb x) jb) 1) + (stepD (x - 1)))))) (d_R (e_g (manaD δ jb x) jb (upd (d_R (manaD δ jb x) jb) 1 (((d_R (manaD δ jb x) jb) 1) + (stepD (x - 1))))))) H := hP
              have hD : va_D A (dW cI cZ cG cY o rr h b dr (e_g (manaD δ jb x) jb (upd (d_R (manaD δ jb x) jb) 1 (((d_R (manaD δ jb x) jb) 1) + (stepD (x - 1))))) Y ++ bW cI rr (d_n (e_g (manaD δ jb x) jb (upd (d_R (manaD δ jb x) jb) 1 (((d_R (manaD δ jb x) jb) 1) + (stepD (x - 1)))))) (d_R (e_g (manaD δ jb x) jb (upd (d_R (manaD δ jb x) jb) 1 (((d_R (manaD δ jb x) jb) 1) + (stepD (x - 1))))))) := hD
              exact L184 (e_g (manaD δ jb x) jb (upd (d_R (manaD δ jb x) jb) 1 (((d_R (manaD δ jb x) jb) 1) + (stepD (x - 1))))) 0 (by unfold go1 goD; rw [if_neg c_73, if_neg c_78, if_pos c_103, if_neg c_165]) (by unfold go2 goT; rw [if_neg c_73, if_neg c_78, if_pos c_103]) hn hjb _ _ ls (lv_sub hl [2, 3, 4, 5, 6, 7] rfl) hP hD hS
            · refine lv_aload_n hx hb dX5_act_168 rfl (lv_at hl 5 rfl) ?_
              refine va_get (D := D) (ci := 5) (v := .ref (o 1)) (C := RX5) (T := TX5) (N := 8) hx hb hts (by decide +kernel) hown hK hP 0 rfl rfl 3 (by decide) (hts (.fieldLink RX5 16 "WarrenLaw$Den" "kinds" "[I") (by decide +kernel)) (fun _ h9 => h9) rfl dX5_act_169 ?_
              refine lv_iload hx hb dX5_act_172 (lv_at hl 1 rfl) ?_
              refine lv_iconst (v := 0) hx hb dX5_act_174 (by decide) ?_
              refine va_iast hx hb hK hP hD hS 1 0 rfl rfl (by rw [mana_R δ jb x jb 1 (by decide)]; exact hin9 _) dX5_act_175 (fun H locs hP hD hS => ?_)
              have hP : va_P D vwCl (dW cI cZ cG cY o rr h b dr (e_k (manaD δ jb x) (upd (d_k (manaD δ jb x)) ((((d_R (manaD δ jb x) jb) 1) + (stepD (x - 1))).toNatClampNeg) 0)) Y ++ bW cI rr (d_n (e_k (manaD δ jb x) (upd (d_k (manaD δ jb x)) ((((d_R (manaD δ jb x) jb) 1) + (stepD (x - 1))).toNatClampNeg) 0))) (d_R (e_k (manaD δ jb x) (upd (d_k (manaD δ jb x)) ((((d_R (manaD δ jb x) jb) 1) + (stepD (x - 1))).toNatClampNeg) 0)))) H := hP
              have hD : va_D A (dW cI cZ cG cY o rr h b dr (e_k (manaD δ jb x) (upd (d_k (manaD δ jb x)) ((((d_R (manaD δ jb x) jb) 1) + (stepD (x - 1))).toNatClampNeg) 0)) Y ++ bW cI rr (d_n (e_k (manaD δ jb x) (upd (d_k (manaD δ jb x)) ((((d_R (manaD δ jb x) jb) 1) + (stepD (x - 1))).toNatClampNeg) 0))) (d_R (e_k (manaD δ jb x) (upd (d_k (manaD δ jb x)) ((((d_R (manaD δ jb x) jb) 1) + (stepD (x - 1))).toNatClampNeg) 0)))) := hD
              refine lv_goto (tgt := 184) hx hb dX5_act_176 (by decide) ?_
              exact L184 (e_k (manaD δ jb x) (upd (d_k (manaD δ jb x)) ((((d_R (manaD δ jb x) jb) 1) + (stepD (x - 1))).toNatClampNeg) 0)) 0 (by unfold go1 goD; rw [if_neg c_73, if_neg c_78, if_pos c_103, if_pos c_165]) (by unfold go2 goT; rw [if_neg c_73, if_neg c_78, if_pos c_103]) hn hjb _ _ ls (lv_sub hl [2, 3, 4, 5, 6, 7] rfl) hP hD hS
          · obtain ⟨o9, ho9, eo⟩ := (on_or (manaD δ jb x) ((d_R (manaD δ jb x) jb 1) + (stepD (x - 1)))).resolve_left (fun z => c_103 (by rw [z]; exact neg1_lt))
            rw [eo] at hl
            refine lv_aload_n hx hb dX5_act_106 rfl (lv_at hl 5 rfl) ?_
            refine va_get (D := D) (ci := 5) (v := .ref (o 5)) (C := RX5) (T := TX5) (N := 8) hx hb hts (by decide +kernel) hown hK hP 0 rfl rfl 5 (by decide) (hts (.fieldLink RX5 26 "WarrenLaw$Den" "beings" "[[I") (by decide +kernel)) (fun _ h9 => h9) rfl dX5_act_107 ?_
            refine lv_iload hx hb dX5_act_110 (lv_at hl 0 rfl) ?_
            refine w_ldB hx hb hK hP 5 rfl (vp_in_nI ho9 (Nat.lt_of_le_of_lt hn (by decide))) dX5_act_112 ?_
            rw [nI_clamp (Nat.lt_trans ho9 hn31)]
            refine lv_iconst (v := 2) hx hb dX5_act_113 (by decide) ?_
            refine va_iald hx hb hK hP (6 + o9) 0 (bW_at rfl ho9) rfl (vp_in_nI (n := 2) (by decide) (by decide)) dX5_act_114 ?_
            rw [show (2 : Int32).toNatClampNeg = 2 by decide]
            refine lv_aload_n hx hb dX5_act_115 rfl (lv_at hl 5 rfl) ?_
            refine lv_iload_n hx hb dX5_act_116 rfl (lv_at hl 6 rfl) ?_
            refine lv_iload hx hb dX5_act_117 (lv_at hl 0 rfl) ?_
            refine vp_callSi (va_Run.run (va_runV (As := [.int (nI jb), .int (nI o9)]) (rest := [.int ((d_R (manaD δ jb x) o9) 2)]) ⟨hx, hb, hml, hown, hts⟩ (c_X5_hit l D cI cZ cG cY o rr h b dr (manaD δ jb x) Y jb o9 hn hjb ho9) (cwV 2 hts gX5_act_X5_hit rfl rfl rfl (by decide +kernel) ⟨Nat.le_of_ble_eq_true rfl, Nat.le_of_ble_eq_true rfl⟩) ⟨preDR_blind, va_recv hK hP (ci := 5) (q0 := 0) rfl rfl, preDR_of hP hK [.ref (o 0), .int (nI jb), .int (nI o9)]⟩ rfl rfl hl.1 rfl (lv_room (Nat.le_of_ble_eq_true rfl)) dX5_act_119 ⟨Nat.zero_le _, Nat.zero_le _⟩)) (fun r9 hr9 => ?_)
            subst hr9
            refine va_mmin hx hb (hml.trans hl.1.symm) hown (hts (.methodLink RX5 106 Lib.Math.min.name) (by decide +kernel)) (hts (.static Lib.Math.min.name) (by decide +kernel)) (hts (.initialized "java/lang/Math") (by decide +kernel)) (hts (.code Lib.Math.min.name Lib.Math.min.code 2 (some .int)) (by decide +kernel)) (Nat.le_of_ble_eq_true rfl) (Nat.le_of_ble_eq_true rfl) (Nat.le_of_ble_eq_true rfl) (Nat.le_of_ble_eq_true rfl) dX5_act_122 ?_
            refine lv_istore (lv' := [(5, .int (minI ((d_R (manaD δ jb x) o9) 2) (hitD (manaD δ jb x) jb o9))), (7, .int (nI o9)), (6, .int (((d_R (manaD δ jb x) jb) 1) + (stepD (x - 1)))), (4, .int t4), (3, .ref (rr jb)), (0, .ref (o 0)), (1, .int (nI jb)), (2, .int x)]) hx hb dX5_act_125 hl (by decide) rfl (fun ls hl => ?_)
            refine lv_aload_n hx hb dX5_act_127 rfl (lv_at hl 5 rfl) ?_
            refine va_get (D := D) (ci := 5) (v := .ref (o 5)) (C := RX5) (T := TX5) (N := 8) hx hb hts (by decide +kernel) hown hK hP 0 rfl rfl 5 (by decide) (hts (.fieldLink RX5 26 "WarrenLaw$Den" "beings" "[[I") (by decide +kernel)) (fun _ h9 => h9) rfl dX5_act_128 ?_
            refine lv_iload hx hb dX5_act_131 (lv_at hl 1 rfl) ?_
            refine w_ldB hx hb hK hP 5 rfl (vp_in_nI ho9 (Nat.lt_of_le_of_lt hn (by decide))) dX5_act_133 ?_
            rw [nI_clamp (Nat.lt_trans ho9 hn31)]
            refine lv_aload_n hx hb dX5_act_134 rfl (lv_at hl 5 rfl) ?_
            refine lv_iload_n hx hb dX5_act_135 rfl (lv_at hl 6 rfl) ?_
            refine lv_iload hx hb dX5_act_136 (lv_at hl 1 rfl) ?_
            refine vp_callSi (va_Run.run (va_runV (As := [.int (nI jb), .int (nI o9)]) (rest := [.ref (rr o9)]) ⟨hx, hb, hml, hown, hts⟩ (c_X5_hit l D cI cZ cG cY o rr h b dr (manaD δ jb x) Y jb o9 hn hjb ho9) (cwV 2 hts gX5_act_X5_hit rfl rfl rfl (by decide +kernel) ⟨Nat.le_of_ble_eq_true rfl, Nat.le_of_ble_eq_true rfl⟩) ⟨preDR_blind, va_recv hK hP (ci := 5) (q0 := 0) rfl rfl, preDR_of hP hK [.ref (o 0), .int (nI jb), .int (nI o9)]⟩ rfl rfl hl.1 rfl (lv_room (Nat.le_of_ble_eq_true rfl)) dX5_act_138 ⟨Nat.zero_le _, Nat.zero_le _⟩)) (fun r9 hr9 => ?_)
            subst hr9
            have hFc := free0 hD hS hA
            refine va_callv (va_runS (As := [.ref (rr o9), .int (hitD (manaD δ jb x) jb o9)]) (rest := []) ⟨hx, hb, hml, hown, hts⟩ (c_X5_lose l D cI _ cZ cG cY o rr h b dr (manaD δ jb x) Y t L xs o9 (hitD (manaD δ jb x) jb o9) hn ho9) (va_cwS 2 hts gX5_act_X5_lose rfl rfl rfl (by decide +kernel) ⟨Nat.le_of_ble_eq_true rfl, Nat.le_of_ble_eq_true rfl⟩) ⟨preD_blind, preD_of hP hK hD hGX hS hFc [.ref (rr o9), .int (hitD (manaD δ jb x) jb o9)]⟩ rfl rfl hl.1 rfl (lv_room (Nat.le_of_ble_eq_true rfl)) dX5_act_141 ⟨Nat.le_of_ble_eq_true rfl, Nat.le_of_ble_eq_true rfl⟩) hS (fun q _ h => hFc q h) hFc (fun u t9 H1 locs ht hvm hw hB hz1 hk1 hS => ?_)
            obtain ⟨hP1, -, hD1⟩ := hB
            rw [ht] at hP1
            subst hw
            have hP := hP1
            have hD := join0 hFc hD1
            generalize H1 = H at hP hS ⊢
            have hP : va_P D vwCl (dW cI cZ cG cY o rr h b dr (e_g (manaD δ jb x) o9 (loseR (d_R (manaD δ jb x) o9) (hitD (manaD δ jb x) jb o9))) Y ++ bW cI rr (d_n (e_g (manaD δ jb x) o9 (loseR (d_R (manaD δ jb x) o9) (hitD (manaD δ jb x) jb o9)))) (d_R (e_g (manaD δ jb x) o9 (loseR (d_R (manaD δ jb x) o9) (hitD (manaD δ jb x) jb o9))))) H := hP
            have hD : va_D A (dW cI cZ cG cY o rr h b dr (e_g (manaD δ jb x) o9 (loseR (d_R (manaD δ jb x) o9) (hitD (manaD δ jb x) jb o9))) Y ++ bW cI rr (d_n (e_g (manaD δ jb x) o9 (loseR (d_R (manaD δ jb x) o9) (hitD (manaD δ jb x) jb o9)))) (d_R (e_g (manaD δ jb x) o9 (loseR (d_R (manaD δ jb x) o9) (hitD (manaD δ jb x) jb o9))))) := hD
            refine lv_aload_n hx hb dX5_act_144 rfl (lv_at hl 5 rfl) ?_
            refine lv_dup hx hb dX5_act_145 rfl ?_
            refine va_get (D := D) (ci := 5) (v := .int (d_hi (e_g (manaD δ jb x) o9 (loseR (d_R (manaD δ jb x) o9) (hitD (manaD δ jb x) jb o9))))) (C := RX5) (T := TX5) (N := 8) hx hb hts (by decide +kernel) hown hK hP 0 rfl rfl 7 (by decide) (hts (.fieldLink RX5 129 "WarrenLaw$Den" "hits" "I") (by decide +kernel)) (fun _ h9 => h9) rfl dX5_act_146 ?_
            refine lv_iconst (v := 1) hx hb dX5_act_149 (by decide) ?_
            refine lv_iadd hx hb dX5_act_150 ?_
            refine va_put (D := D) (ci := 5) (v := .int ((d_hi (e_g (manaD δ jb x) o9 (loseR (d_R (manaD δ jb x) o9) (hitD (manaD δ jb x) jb o9)))) + 1)) (ty := .int) (C := RX5) (T := TX5) (N := 8) hx hb hts (by decide +kernel) tyX5 tyX5_ok nmX5 hown hK hP hD hS 0 rfl rfl 7 (by decide) (hts (.fieldLink RX5 129 "WarrenLaw$Den" "hits" "I") (by decide +kernel)) (fun _ h9 => h9) rfl (by decide +kernel) rfl rfl (Nat.le_of_ble_eq_true rfl) dX5_act_151 (fun H locs hP hD hS => ?_)
            have hP : va_P D vwCl (dW cI cZ cG cY o rr h b dr (e_hi (e_g (manaD δ jb x) o9 (loseR (d_R (manaD δ jb x) o9) (hitD (manaD δ jb x) jb o9))) ((d_hi (e_g (manaD δ jb x) o9 (loseR (d_R (manaD δ jb x) o9) (hitD (manaD δ jb x) jb o9)))) + 1)) Y ++ bW cI rr (d_n (e_hi (e_g (manaD δ jb x) o9 (loseR (d_R (manaD δ jb x) o9) (hitD (manaD δ jb x) jb o9))) ((d_hi (e_g (manaD δ jb x) o9 (loseR (d_R (manaD δ jb x) o9) (hitD (manaD δ jb x) jb o9)))) + 1))) (d_R (e_hi (e_g (manaD δ jb x) o9 (loseR (d_R (manaD δ jb x) o9) (hitD (manaD δ jb x) jb o9))) ((d_hi (e_g (manaD δ jb x) o9 (loseR (d_R (manaD δ jb x) o9) (hitD (manaD δ jb x) jb o9)))) + 1)))) H := hP
            have hD : va_D A (dW cI cZ cG cY o rr h b dr (e_hi (e_g (manaD δ jb x) o9 (loseR (d_R (manaD δ jb x) o9) (hitD (manaD δ jb x) jb o9))) ((d_hi (e_g (manaD δ jb x) o9 (loseR (d_R (manaD δ jb x) o9) (hitD (manaD δ jb x) jb o9)))) + 1)) Y ++ bW cI rr (d_n (e_hi (e_g (manaD δ jb x) o9 (loseR (d_R (manaD δ jb x) o9) (hitD (manaD δ jb x) jb o9))) ((d_hi (e_g (manaD δ jb x) o9 (loseR (d_R (manaD δ jb x) o9) (hitD (manaD δ jb x) jb o9)))) + 1))) (d_R (e_hi (e_g (manaD δ jb x) o9 (loseR (d_R (manaD δ jb x) o9) (hitD (manaD δ jb x) jb o9))) ((d_hi (e_g (manaD δ jb x) o9 (loseR (d_R (manaD δ jb x) o9) (hitD (manaD δ jb x) jb o9)))) + 1)))) := hD
            refine lv_goto (tgt := 184) hx hb dX5_act_154 (by decide) ?_
            exact L184 (e_hi (e_g (manaD δ jb x) o9 (loseR (d_R (manaD δ jb x) o9) (hitD (manaD δ jb x) jb o9))) ((d_hi (e_g (manaD δ jb x) o9 (loseR (d_R (manaD δ jb x) o9) (hitD (manaD δ jb x) jb o9)))) + 1)) (minI ((d_R (manaD δ jb x) o9) 2) (hitD (manaD δ jb x) jb o9)) (by unfold go1 goD; rw [if_neg c_73, if_neg c_78, eo, if_neg (nI_pos (Nat.lt_trans ho9 hn31)), nI_clamp (Nat.lt_trans ho9 hn31)]) (by unfold go2 goT; rw [if_neg c_73, if_neg c_78, eo, if_neg (nI_pos (Nat.lt_trans ho9 hn31)), nI_clamp (Nat.lt_trans ho9 hn31)]) hn hjb _ _ ls (lv_sub hl [0, 3, 4, 5, 6, 7] rfl) hP hD hS
    refine lv_if_ne (tgt := 53) hx hb dX5_act_36 (by decide) (fun c_36 => ?_) (fun c_36 => ?_)
    · refine lv_iload_n hx hb dX5_act_53 rfl (lv_at hl 5 rfl) ?_
      refine lv_iconst (v := 4) hx hb dX5_act_54 (by decide) ?_
      refine lv_icmp_le (tgt := 67) hx hb dX5_act_55 (by decide) (fun c_55 => ?_) (fun c_55 => ?_)
      · refine lv_aload_n hx hb dX5_act_67 rfl (lv_at hl 2 rfl) ?_
        refine lv_bipush (v := 7) hx hb dX5_act_68 (by decide) ?_
        refine va_iald hx hb hK hP (6 + jb) 0 (bW_at rfl hjb) rfl (vp_in_nI (n := 7) (by decide) (by decide)) dX5_act_70 ?_
        rw [show (7 : Int32).toNatClampNeg = 7 by decide]
        exact L71 ((d_R δ jb) 7) (by rw [if_neg c_36, if_pos c_55]) _ _ ls (lv_sub hl [0, 1, 2, 3, 4, 5] rfl) hP hD hS
      · refine lv_aload_n hx hb dX5_act_58 rfl (lv_at hl 2 rfl) ?_
        refine lv_bipush (v := 7) hx hb dX5_act_59 (by decide) ?_
        refine va_iald hx hb hK hP (6 + jb) 0 (bW_at rfl hjb) rfl (vp_in_nI (n := 7) (by decide) (by decide)) dX5_act_61 ?_
        rw [show (7 : Int32).toNatClampNeg = 7 by decide]
        refine lv_iconst (v := 3) hx hb dX5_act_62 (by decide) ?_
        refine lv_isub hx hb dX5_act_63 ?_
        refine lv_goto (tgt := 71) hx hb dX5_act_64 (by decide) ?_
        exact L71 (((d_R δ jb) 7) - 3) (by rw [if_neg c_36, if_neg c_55]) _ _ ls (lv_sub hl [0, 1, 2, 3, 4, 5] rfl) hP hD hS
    · refine lv_bipush (v := 9) hx hb dX5_act_39 (by decide) ?_
      refine lv_aload_n hx hb dX5_act_41 rfl (lv_at hl 2 rfl) ?_
      refine lv_bipush (v := 7) hx hb dX5_act_42 (by decide) ?_
      refine va_iald hx hb hK hP (6 + jb) 0 (bW_at rfl hjb) rfl (vp_in_nI (n := 7) (by decide) (by decide)) dX5_act_44 ?_
      rw [show (7 : Int32).toNatClampNeg = 7 by decide]
      refine lv_iconst (v := 1) hx hb dX5_act_45 (by decide) ?_
      refine lv_iadd hx hb dX5_act_46 ?_
      refine va_mmin hx hb (hml.trans hl.1.symm) hown (hts (.methodLink RX5 106 Lib.Math.min.name) (by decide +kernel)) (hts (.static Lib.Math.min.name) (by decide +kernel)) (hts (.initialized "java/lang/Math") (by decide +kernel)) (hts (.code Lib.Math.min.name Lib.Math.min.code 2 (some .int)) (by decide +kernel)) (Nat.le_of_ble_eq_true rfl) (Nat.le_of_ble_eq_true rfl) (Nat.le_of_ble_eq_true rfl) (Nat.le_of_ble_eq_true rfl) dX5_act_47 ?_
      refine lv_goto (tgt := 71) hx hb dX5_act_50 (by decide) ?_
      exact L71 (minI 9 (((d_R δ jb) 7) + 1)) (by rw [if_pos c_36]) _ _ ls (lv_sub hl [0, 1, 2, 3, 4, 5] rfl) hP hD hS
  refine lv_if_le (tgt := 29) hx hb dX5_act_20 (by decide) (fun c_20 => ?_) (fun c_20 => ?_)
  · exact L29 (12 / ((d_R δ jb) 6)) (by unfold timeD; rw [if_pos c_20]) _ _ ls (lv_sub hl [0, 1, 2, 3, 4] rfl) hP hD hS
  · refine lv_iload hx hb dX5_act_23 (lv_at hl 0 rfl) ?_
    refine lv_iconst (v := 2) hx hb dX5_act_25 (by decide) ?_
    refine lv_imul hx hb dX5_act_26 ?_
    refine lv_istore (lv' := [(4, .int ((12 / ((d_R δ jb) 6)) * 2)), (3, .ref (rr jb)), (0, .ref (o 0)), (1, .int (nI jb)), (2, .int x)]) hx hb dX5_act_27 hl (by decide) rfl (fun ls hl => ?_)
    exact L29 ((12 / ((d_R δ jb) 6)) * 2) (by unfold timeD; rw [if_neg c_20]) _ _ ls (lv_sub hl [0, 1, 2, 3, 4] rfl) hP hD hS
