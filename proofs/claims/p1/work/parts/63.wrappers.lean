set_option maxHeartbeats 4000000 in
set_option maxRecDepth 100000 in
theorem c_L_act_0 (l : Launch) (hst : l.stackTraces = false) (D : va_G) (cI cO : ClassId) (sz : Nat) (h t0 l0 m0 : Nat) (a : Nat → Nat) (σ : SS) (x : Int32) (o0 : Nat) (fo : Nat → Int64) (h0 : s_n σ = 0) : Met l yL_act wsL_act ({ frames := 7, cells := 1, slots := 6, locals := 104 } : Room) (va_Pc [.ref h, .int x, .ref o0] (preL D cI cO (wW h (a 0) t0 l0 m0 ++ sW cI a σ ++ oW cO o0 fo) sz)) (va_Qi (fun (r : Int32) (u : Nat → Int64) => r = nI (actT0 x) ∧ (actT0 x = 0 → u 0 = (0).toInt64)) (fun (u : Nat → Int64) => posO D cO (va_A (wW h (a 0) t0 l0 m0 ++ sW cI a σ ++ oW cO o0 fo) sz) o0 u) (va_A (wW h (a 0) t0 l0 m0 ++ sW cI a σ ++ oW cO o0 fo) sz)) 1 6 (va_A (wW h (a 0) t0 l0 m0 ++ sW cI a σ ++ oW cO o0 fo) sz) := by
  refine va_MetW (cc := cL_act) (maxL := 4) (ret := (some .int)) (hh := [(0, 9, 12, 13), (0, 9, 15, 21)]) (by decide) rfl ?_
  intro p e s m args below meth c s₁ B hml hv
  obtain ⟨rfl, hsz, hP, hK2, hXV, hD0, hTX, hN⟩ := hv
  have hK := K_1 hK2
  have hE := hXV.1
  have hx := B.exec
  have hb := B.bytes
  have hr := B.returns
  have hts := atoms_spec (ws := wsL_act) B.pre
  have hown : s.vm.findClass RL = some m.cls := findClass_of_methodNamed B.named
  have hlocks := B.notSynchronized
  have htab : c.exceptionTable.toList = tableOf [(0, 9, 12, 13), (0, 9, 15, 21)] := vx_table (x := yL_act) B (hts _ List.mem_cons_self)
  subst hsz
  have hD := hD0.self (sz := s.heap.size)
  generalize hAe : va_A (wW h (a 0) t0 l0 m0 ++ sW cI a σ ++ oW cO o0 fo) s.heap.size = A at hD hTX ⊢
  have hA : ∀ q : Nat, s.heap.size ≤ q → A q := fun q h => by rw [← hAe]; exact Or.inr h
  have hS : va_S A s.heap s.heap [] := va_S.rf
  have hP : va_P D vwCl (wW h (a 0) t0 l0 m0 ++ sW cI a σ ++ oW cO o0 fo) s.heap := hP
  have hl := lv_entry ([.ref h, .int x, .ref o0]) (n := 4) (Nat.le_of_ble_eq_true rfl)
  rw [lg_entry_eq]
  generalize (lg_sl ([.ref h, .int x, .ref o0]) ++ List.replicate (4 - (lg_sl ([.ref h, .int x, .ref o0])).length) Slot.unset).toArray = ls at hl ⊢
  have hl : lv_has ls 4 [(0, .ref h), (1, .int x), (2, .ref o0)] := hl
  refine lv_aload_n hx hb dL_act_0 rfl (lv_at hl 2 rfl) ?_
  refine lv_iconst (v := 0) hx hb dL_act_1 (by decide) ?_
  refine lv_aload_n hx hb dL_act_2 rfl (lv_at hl 0 rfl) ?_
  refine lv_iload_n hx hb dL_act_3 rfl (lv_at hl 1 rfl) ?_
  have hFc := va_free (wc := wW h (a 0) t0 l0 m0 ++ sW cI a σ) hD hS hA [0, 1, 2, 3, 4, 5, 6] rfl
  refine vx_calli (vx_runV (As := [.int x]) (rest := [.int 0, .ref o0]) ⟨hx, hb, hml, hown, hts⟩ (c_X4_act_0 l hst D cI _ h t0 l0 m0 a σ x h0) (cwV 1 hts gL_act_X4_act rfl rfl rfl (by decide +kernel) ⟨Nat.le_of_ble_eq_true rfl, Nat.le_of_ble_eq_true rfl⟩) ⟨preX_blind, va_recv hK hP (ci := 4) (q0 := 0) rfl rfl, preX_of (hP.sub (ws' := wW h (a 0) t0 l0 m0 ++ sW cI a σ) [0, 1, 2, 3, 4, 5, 6] rfl) hK hXV (hD.sub (ws' := wW h (a 0) t0 l0 m0 ++ sW cI a σ) [0, 1, 2, 3, 4, 5, 6] (by decide) rfl) hTX hS hFc [.ref h, .int x]⟩ rfl rfl hl.1 rfl (lv_room (Nat.le_of_ble_eq_true rfl)) dL_act_4 ⟨Nat.le_of_ble_eq_true rfl, Nat.le_of_ble_eq_true rfl⟩) hS (fun q _ h => hFc q h) hFc (fun q _ h => hFc q h) (fun E ce q9 u t9 H1 locs ht hvm hpx hBX hz1 hk1 hS hq9 hce hcl => ?_) (fun r u t9 H1 locs ht hvm hw hB hz1 hk1 hS => ?_)
  · obtain ⟨hEn, hP1, -, hD1⟩ := hBX
    rw [ht] at hP1
    obtain ⟨hP, hD⟩ := va_join (wr := oW cO o0 fo) (w1 := wW h (a 0) t0 l0 m0 ++ sW cI a σ) hP hD [0, 1, 2, 3, 4, 5, 6] [7] rfl rfl (by decide) (by decide) hk1 hFc hP1 hD1
    have hP9 := hP.sub (ws' := oW cO o0 fo) [0] rfl
    have hD9 := hD.sub (ws' := oW cO o0 fo) [0] (by decide) rfl
    have hle : actT0 x ≤ 2 := by unfold actT0; (repeat' split) <;> omega
    rcases thr2 hpx hle with hT | hT
    · rw [hT] at hEn
      have hEn : E = eA := hEn
      subst hEn
      refine vx_catch (name := "java/lang/IllegalArgumentException") hown [] ⟨0, 9, 12, 13⟩ [⟨0, 9, 15, 21⟩] htab (fun z hz => nomatch hz) (by decide) (by decide) (hts (.classLink RL 13 "java/lang/IllegalArgumentException") (by decide +kernel)) (va_Nw.use rfl hXV.2.2.1) hq9 hce hcl ?_
      refine lv_astore_n (lv' := [(3, .ref q9), (0, .ref h), (1, .int x), (2, .ref o0)]) hx hb dL_act_12 rfl hl (by decide) rfl (fun ls hl => ?_)
      refine lv_iconst (v := 1) hx hb dL_act_13 (by decide) ?_
      exact W.iret (v := 1) hx hb hr (fun T9 ht hW => ⟨⟨1, fo, rfl, ⟨by rw [hT]; rfl, fun hz => absurd hz (by rw [hT]; decide)⟩, by rw [ht]; exact hP9, hD9⟩, hS.F ht⟩) hS.2.2 dL_act_14
    · rw [hT] at hEn
      have hEn : E = eS := hEn
      subst hEn
      refine vx_catch (name := "java/lang/IllegalStateException") hown [⟨0, 9, 12, 13⟩] ⟨0, 9, 15, 21⟩ [] htab (fun z hz => by rw [List.mem_singleton.mp hz]; exact Or.inr ⟨by decide, _, (hts (.classLink RL 13 "java/lang/IllegalArgumentException") (by decide +kernel)), hN.2.2.1⟩) (by decide) (by decide) (hts (.classLink RL 21 "java/lang/IllegalStateException") (by decide +kernel)) (va_Nw.use rfl hXV.2.2.2.1) hq9 hce hcl ?_
      refine lv_astore_n (lv' := [(3, .ref q9), (0, .ref h), (1, .int x), (2, .ref o0)]) hx hb dL_act_15 rfl hl (by decide) rfl (fun ls hl => ?_)
      refine lv_iconst (v := 2) hx hb dL_act_16 (by decide) ?_
      exact W.iret (v := 2) hx hb hr (fun T9 ht hW => ⟨⟨2, fo, rfl, ⟨by rw [hT]; rfl, fun hz => absurd hz (by rw [hT]; decide)⟩, by rw [ht]; exact hP9, hD9⟩, hS.F ht⟩) hS.2.2 dL_act_17
  · exact hw.1.elim

set_option maxHeartbeats 4000000 in
set_option maxRecDepth 100000 in
theorem c_L_ahead_0 (l : Launch) (hst : l.stackTraces = false) (D : va_G) (cI cO : ClassId) (sz : Nat) (h l0 m0 : Nat) (a b : Nat → Nat) (σ τ : SS) (x : Int32) (o0 : Nat) (fo : Nat → Int64) (h0 : s_n σ = 0) : Met l yL_ahead wsL_ahead ({ frames := 7, cells := 1, slots := 6, locals := 112 } : Room) (va_Pc [.ref h, .int x, .ref o0] (preL D cI cO (wW h (a 0) (b 0) l0 m0 ++ sW cI a σ ++ sW cI b τ ++ oW cO o0 fo) sz)) (va_Qi (fun (r : Int32) (u : Nat → Int64) => r = nI (followT x) ∧ (followT x = 0 → u 0 = (0).toInt64)) (fun (u : Nat → Int64) => posO D cO (va_A (wW h (a 0) (b 0) l0 m0 ++ sW cI a σ ++ sW cI b τ ++ oW cO o0 fo) sz) o0 u) (va_A (wW h (a 0) (b 0) l0 m0 ++ sW cI a σ ++ sW cI b τ ++ oW cO o0 fo) sz)) 1 6 (va_A (wW h (a 0) (b 0) l0 m0 ++ sW cI a σ ++ sW cI b τ ++ oW cO o0 fo) sz) := by
  refine va_MetW (cc := cL_ahead) (maxL := 4) (ret := (some .int)) (hh := [(0, 9, 12, 13)]) (by decide) rfl ?_
  intro p e s m args below meth c s₁ B hml hv
  obtain ⟨rfl, hsz, hP, hK2, hXV, hD0, hTX, hN⟩ := hv
  have hK := K_1 hK2
  have hE := hXV.1
  have hx := B.exec
  have hb := B.bytes
  have hr := B.returns
  have hts := atoms_spec (ws := wsL_ahead) B.pre
  have hown : s.vm.findClass RL = some m.cls := findClass_of_methodNamed B.named
  have hlocks := B.notSynchronized
  have htab : c.exceptionTable.toList = tableOf [(0, 9, 12, 13)] := vx_table (x := yL_ahead) B (hts _ List.mem_cons_self)
  subst hsz
  have hD := hD0.self (sz := s.heap.size)
  generalize hAe : va_A (wW h (a 0) (b 0) l0 m0 ++ sW cI a σ ++ sW cI b τ ++ oW cO o0 fo) s.heap.size = A at hD hTX ⊢
  have hA : ∀ q : Nat, s.heap.size ≤ q → A q := fun q h => by rw [← hAe]; exact Or.inr h
  have hS : va_S A s.heap s.heap [] := va_S.rf
  have hP : va_P D vwCl (wW h (a 0) (b 0) l0 m0 ++ sW cI a σ ++ sW cI b τ ++ oW cO o0 fo) s.heap := hP
  have hl := lv_entry ([.ref h, .int x, .ref o0]) (n := 4) (Nat.le_of_ble_eq_true rfl)
  rw [lg_entry_eq]
  generalize (lg_sl ([.ref h, .int x, .ref o0]) ++ List.replicate (4 - (lg_sl ([.ref h, .int x, .ref o0])).length) Slot.unset).toArray = ls at hl ⊢
  have hl : lv_has ls 4 [(0, .ref h), (1, .int x), (2, .ref o0)] := hl
  refine lv_aload_n hx hb dL_ahead_0 rfl (lv_at hl 2 rfl) ?_
  refine lv_iconst (v := 0) hx hb dL_ahead_1 (by decide) ?_
  refine lv_aload_n hx hb dL_ahead_2 rfl (lv_at hl 0 rfl) ?_
  refine lv_iload_n hx hb dL_ahead_3 rfl (lv_at hl 1 rfl) ?_
  have hFc := va_free (wc := wW h (a 0) (b 0) l0 m0 ++ sW cI a σ ++ sW cI b τ) hD hS hA [0, 1, 2, 3, 4, 5, 6, 7, 8, 9, 10, 11, 12] rfl
  refine vx_calli (vx_runV (As := [.int x]) (rest := [.int 0, .ref o0]) ⟨hx, hb, hml, hown, hts⟩ (c_X4_ahead_0 l hst D cI _ h l0 m0 a b σ τ x h0) (cwV 1 hts gL_ahead_X4_ahead rfl rfl rfl (by decide +kernel) ⟨Nat.le_of_ble_eq_true rfl, Nat.le_of_ble_eq_true rfl⟩) ⟨preX_blind, va_recv hK hP (ci := 4) (q0 := 0) rfl rfl, preX_of (hP.sub (ws' := wW h (a 0) (b 0) l0 m0 ++ sW cI a σ ++ sW cI b τ) [0, 1, 2, 3, 4, 5, 6, 7, 8, 9, 10, 11, 12] rfl) hK hXV (hD.sub (ws' := wW h (a 0) (b 0) l0 m0 ++ sW cI a σ ++ sW cI b τ) [0, 1, 2, 3, 4, 5, 6, 7, 8, 9, 10, 11, 12] (by decide) rfl) hTX hS hFc [.ref h, .int x]⟩ rfl rfl hl.1 rfl (lv_room (Nat.le_of_ble_eq_true rfl)) dL_ahead_4 ⟨Nat.le_of_ble_eq_true rfl, Nat.le_of_ble_eq_true rfl⟩) hS (fun q _ h => hFc q h) hFc (fun q _ h => hFc q h) (fun E ce q9 u t9 H1 locs ht hvm hpx hBX hz1 hk1 hS hq9 hce hcl => ?_) (fun r u t9 H1 locs ht hvm hw hB hz1 hk1 hS => ?_)
  · obtain ⟨hEn, hP1, -, hD1⟩ := hBX
    rw [ht] at hP1
    obtain ⟨hP, hD⟩ := va_join (wr := oW cO o0 fo) (w1 := wW h (a 0) (b 0) l0 m0 ++ sW cI a σ ++ sW cI b τ) hP hD [0, 1, 2, 3, 4, 5, 6, 7, 8, 9, 10, 11, 12] [13] rfl rfl (by decide) (by decide) hk1 hFc hP1 hD1
    have hP9 := hP.sub (ws' := oW cO o0 fo) [0] rfl
    have hD9 := hD.sub (ws' := oW cO o0 fo) [0] (by decide) rfl
    have hle : followT x ≤ 1 := by unfold followT; (repeat' split) <;> omega
    have hT := thr1 hpx hle
    rw [hT] at hEn
    have hEn : E = eA := hEn
    subst hEn
    refine vx_catch (name := "java/lang/IllegalArgumentException") hown [] ⟨0, 9, 12, 13⟩ [] htab (fun z hz => nomatch hz) (by decide) (by decide) (hts (.classLink RL 13 "java/lang/IllegalArgumentException") (by decide +kernel)) (va_Nw.use rfl hXV.2.2.1) hq9 hce hcl ?_
    refine lv_astore_n (lv' := [(3, .ref q9), (0, .ref h), (1, .int x), (2, .ref o0)]) hx hb dL_ahead_12 rfl hl (by decide) rfl (fun ls hl => ?_)
    refine lv_iconst (v := 1) hx hb dL_ahead_13 (by decide) ?_
    exact W.iret (v := 1) hx hb hr (fun T9 ht hW => ⟨⟨1, fo, rfl, ⟨by rw [hT]; rfl, fun hz => absurd hz (by rw [hT]; decide)⟩, by rw [ht]; exact hP9, hD9⟩, hS.F ht⟩) hS.2.2 dL_ahead_14
  · obtain ⟨hT, hR, -⟩ := hw
    obtain ⟨hP1, hK1, hD1⟩ := hB
    rw [ht] at hP1
    obtain ⟨hP, hD⟩ := va_join (wr := oW cO o0 fo) (w1 := wW h (a 0) (b 0) l0 m0 ++ sW cI a σ ++ sW cI b u) hP hD [0, 1, 2, 3, 4, 5, 6, 7, 8, 9, 10, 11, 12] [13] rfl rfl (by decide) (by decide) hk1 hFc hP1 hD1
    have hP := hP.sub (ws' := oW cO o0 fo) [0] rfl
    have hD := hD.sub (ws' := oW cO o0 fo) [0] (by decide) rfl
    generalize H1 = H at hP hS ⊢
    subst hR
    have hP : va_P D vwCl (oW cO o0 fo) H := hP
    have hD : va_D A (oW cO o0 fo) := hD
    refine lv_i2l (v := (0).toInt64) hx hb dL_ahead_7 rfl ?_
    refine va_last hx hb hK2 hP hD hS 0 1 rfl rfl (vp_in_nI (n := 0) (by decide) (by decide)) dL_ahead_8 (fun H locs hP hD hS => ?_)
    have hP : va_P D vwCl (oW cO o0 (vp_updL fo (0 : Int32).toNatClampNeg ((0).toInt64))) H := hP
    have hD : va_D A (oW cO o0 (vp_updL fo (0 : Int32).toNatClampNeg ((0).toInt64))) := hD
    refine lv_goto (tgt := 15) hx hb dL_ahead_9 (by decide) ?_
    refine lv_iconst (v := 0) hx hb dL_ahead_15 (by decide) ?_
    have hP9 := hP
    have hD9 := hD
    exact W.iret (v := 0) hx hb hr (fun T9 ht hW => ⟨⟨0, (vp_updL fo (0 : Int32).toNatClampNeg ((0).toInt64)), rfl, ⟨by rw [hT]; rfl, fun _ => rfl⟩, by rw [ht]; exact hP9, hD9⟩, hS.F ht⟩) hS.2.2 dL_ahead_16

set_option maxHeartbeats 4000000 in
set_option maxRecDepth 100000 in
theorem c_L_become (l : Launch) (hst : l.stackTraces = false) (D : va_G) (cI cO : ClassId) (sz : Nat) (h t0 l0 m0 : Nat) (a : Nat → Nat) (σ : SS) (x y z v : Int32) (o0 : Nat) (fo : Nat → Int64) : Met l yL_become wsL_become ({ frames := 7, cells := 1, slots := 6, locals := 107 } : Room) (va_Pc [.ref h, .int x, .int y, .int z, .int v, .ref o0] (preL D cI cO (wW h (a 0) t0 l0 m0 ++ sW cI a σ ++ oW cO o0 fo) sz)) (va_Qi (fun (r : Int32) (u : Nat → Int64) => r = nI (becomeT σ x y z v) ∧ (becomeT σ x y z v = 0 → u 0 = (traitF σ x 4).toInt64)) (fun (u : Nat → Int64) => posO D cO (va_A (wW h (a 0) t0 l0 m0 ++ sW cI a σ ++ oW cO o0 fo) sz) o0 u) (va_A (wW h (a 0) t0 l0 m0 ++ sW cI a σ ++ oW cO o0 fo) sz)) 1 6 (va_A (wW h (a 0) t0 l0 m0 ++ sW cI a σ ++ oW cO o0 fo) sz) := by
  refine va_MetW (cc := cL_become) (maxL := 7) (ret := (some .int)) (hh := [(0, 14, 17, 19), (0, 14, 21, 13)]) (by decide) rfl ?_
  intro p e s m args below meth c s₁ B hml hv
  obtain ⟨rfl, hsz, hP, hK2, hXV, hD0, hTX, hN⟩ := hv
  have hK := K_1 hK2
  have hE := hXV.1
  have hx := B.exec
  have hb := B.bytes
  have hr := B.returns
  have hts := atoms_spec (ws := wsL_become) B.pre
  have hown : s.vm.findClass RL = some m.cls := findClass_of_methodNamed B.named
  have hlocks := B.notSynchronized
  have htab : c.exceptionTable.toList = tableOf [(0, 14, 17, 19), (0, 14, 21, 13)] := vx_table (x := yL_become) B (hts _ List.mem_cons_self)
  subst hsz
  have hD := hD0.self (sz := s.heap.size)
  generalize hAe : va_A (wW h (a 0) t0 l0 m0 ++ sW cI a σ ++ oW cO o0 fo) s.heap.size = A at hD hTX ⊢
  have hA : ∀ q : Nat, s.heap.size ≤ q → A q := fun q h => by rw [← hAe]; exact Or.inr h
  have hS : va_S A s.heap s.heap [] := va_S.rf
  have hP : va_P D vwCl (wW h (a 0) t0 l0 m0 ++ sW cI a σ ++ oW cO o0 fo) s.heap := hP
  have hl := lv_entry ([.ref h, .int x, .int y, .int z, .int v, .ref o0]) (n := 7) (Nat.le_of_ble_eq_true rfl)
  rw [lg_entry_eq]
  generalize (lg_sl ([.ref h, .int x, .int y, .int z, .int v, .ref o0]) ++ List.replicate (7 - (lg_sl ([.ref h, .int x, .int y, .int z, .int v, .ref o0])).length) Slot.unset).toArray = ls at hl ⊢
  have hl : lv_has ls 7 [(0, .ref h), (1, .int x), (2, .int y), (3, .int z), (4, .int v), (5, .ref o0)] := hl
  refine lv_aload hx hb dL_become_0 (lv_at hl 5 rfl) ?_
  refine lv_iconst (v := 0) hx hb dL_become_2 (by decide) ?_
  refine lv_aload_n hx hb dL_become_3 rfl (lv_at hl 0 rfl) ?_
  refine lv_iload_n hx hb dL_become_4 rfl (lv_at hl 1 rfl) ?_
  refine lv_iload_n hx hb dL_become_5 rfl (lv_at hl 2 rfl) ?_
  refine lv_iload_n hx hb dL_become_6 rfl (lv_at hl 3 rfl) ?_
  refine lv_iload hx hb dL_become_7 (lv_at hl 4 rfl) ?_
  have hFc := va_free (wc := wW h (a 0) t0 l0 m0 ++ sW cI a σ) hD hS hA [0, 1, 2, 3, 4, 5, 6] rfl
  refine vx_calli (vx_runV (As := [.int x, .int y, .int z, .int v]) (rest := [.int 0, .ref o0]) ⟨hx, hb, hml, hown, hts⟩ (c_X4_become l hst D cI _ h t0 l0 m0 a σ x y z v) (cwV 4 hts gL_become_X4_become rfl rfl rfl (by decide +kernel) ⟨Nat.le_of_ble_eq_true rfl, Nat.le_of_ble_eq_true rfl⟩) ⟨preX_blind, va_recv hK hP (ci := 4) (q0 := 0) rfl rfl, preX_of (hP.sub (ws' := wW h (a 0) t0 l0 m0 ++ sW cI a σ) [0, 1, 2, 3, 4, 5, 6] rfl) hK hXV (hD.sub (ws' := wW h (a 0) t0 l0 m0 ++ sW cI a σ) [0, 1, 2, 3, 4, 5, 6] (by decide) rfl) hTX hS hFc [.ref h, .int x, .int y, .int z, .int v]⟩ rfl rfl hl.1 rfl (lv_room (Nat.le_of_ble_eq_true rfl)) dL_become_9 ⟨Nat.le_of_ble_eq_true rfl, Nat.le_of_ble_eq_true rfl⟩) hS (fun q _ h => hFc q h) hFc (fun q _ h => hFc q h) (fun E ce q9 u t9 H1 locs ht hvm hpx hBX hz1 hk1 hS hq9 hce hcl => ?_) (fun r u t9 H1 locs ht hvm hw hB hz1 hk1 hS => ?_)
  · obtain ⟨hEn, hP1, -, hD1⟩ := hBX
    rw [ht] at hP1
    obtain ⟨hP, hD⟩ := va_join (wr := oW cO o0 fo) (w1 := wW h (a 0) t0 l0 m0 ++ sW cI a σ) hP hD [0, 1, 2, 3, 4, 5, 6] [7] rfl rfl (by decide) (by decide) hk1 hFc hP1 hD1
    have hP9 := hP.sub (ws' := oW cO o0 fo) [0] rfl
    have hD9 := hD.sub (ws' := oW cO o0 fo) [0] (by decide) rfl
    have hle : becomeT σ x y z v ≤ 2 := by unfold becomeT; (repeat' split) <;> omega
    rcases thr2 hpx hle with hT | hT
    · rw [hT] at hEn
      have hEn : E = eI := hEn
      subst hEn
      refine vx_catch (name := "java/lang/IndexOutOfBoundsException") hown [] ⟨0, 14, 17, 19⟩ [⟨0, 14, 21, 13⟩] htab (fun z hz => nomatch hz) (by decide) (by decide) (hts (.classLink RL 19 "java/lang/IndexOutOfBoundsException") (by decide +kernel)) (va_Nw.use rfl hXV.2.2.2.2.1) hq9 hce hcl ?_
      refine lv_astore (lv' := [(6, .ref q9), (0, .ref h), (1, .int x), (2, .int y), (3, .int z), (4, .int v), (5, .ref o0)]) hx hb dL_become_17 hl (by decide) rfl (fun ls hl => ?_)
      refine lv_iconst (v := 1) hx hb dL_become_19 (by decide) ?_
      exact W.iret (v := 1) hx hb hr (fun T9 ht hW => ⟨⟨1, fo, rfl, ⟨by rw [hT]; rfl, fun hz => absurd hz (by rw [hT]; decide)⟩, by rw [ht]; exact hP9, hD9⟩, hS.F ht⟩) hS.2.2 dL_become_20
    · rw [hT] at hEn
      have hEn : E = eA := hEn
      subst hEn
      refine vx_catch (name := "java/lang/IllegalArgumentException") hown [⟨0, 14, 17, 19⟩] ⟨0, 14, 21, 13⟩ [] htab (fun z hz => by rw [List.mem_singleton.mp hz]; exact Or.inr ⟨by decide, _, (hts (.classLink RL 19 "java/lang/IndexOutOfBoundsException") (by decide +kernel)), hN.1⟩) (by decide) (by decide) (hts (.classLink RL 13 "java/lang/IllegalArgumentException") (by decide +kernel)) (va_Nw.use rfl hXV.2.2.1) hq9 hce hcl ?_
      refine lv_astore (lv' := [(6, .ref q9), (0, .ref h), (1, .int x), (2, .int y), (3, .int z), (4, .int v), (5, .ref o0)]) hx hb dL_become_21 hl (by decide) rfl (fun ls hl => ?_)
      refine lv_iconst (v := 2) hx hb dL_become_23 (by decide) ?_
      exact W.iret (v := 2) hx hb hr (fun T9 ht hW => ⟨⟨2, fo, rfl, ⟨by rw [hT]; rfl, fun hz => absurd hz (by rw [hT]; decide)⟩, by rw [ht]; exact hP9, hD9⟩, hS.F ht⟩) hS.2.2 dL_become_24
  · obtain ⟨hT, hR, -⟩ := hw
    obtain ⟨hP1, hK1, hD1⟩ := hB
    rw [ht] at hP1
    obtain ⟨hP, hD⟩ := va_join (wr := oW cO o0 fo) (w1 := wW h (a 0) t0 l0 m0 ++ sW cI a u) hP hD [0, 1, 2, 3, 4, 5, 6] [7] rfl rfl (by decide) (by decide) hk1 hFc hP1 hD1
    have hP := hP.sub (ws' := oW cO o0 fo) [0] rfl
    have hD := hD.sub (ws' := oW cO o0 fo) [0] (by decide) rfl
    generalize H1 = H at hP hS ⊢
    subst hR
    have hP : va_P D vwCl (oW cO o0 fo) H := hP
    have hD : va_D A (oW cO o0 fo) := hD
    refine lv_i2l (v := (traitF σ x 4).toInt64) hx hb dL_become_12 rfl ?_
    refine va_last hx hb hK2 hP hD hS 0 1 rfl rfl (vp_in_nI (n := 0) (by decide) (by decide)) dL_become_13 (fun H locs hP hD hS => ?_)
    have hP : va_P D vwCl (oW cO o0 (vp_updL fo (0 : Int32).toNatClampNeg ((traitF σ x 4).toInt64))) H := hP
    have hD : va_D A (oW cO o0 (vp_updL fo (0 : Int32).toNatClampNeg ((traitF σ x 4).toInt64))) := hD
    refine lv_goto (tgt := 25) hx hb dL_become_14 (by decide) ?_
    refine lv_iconst (v := 0) hx hb dL_become_25 (by decide) ?_
    have hP9 := hP
    have hD9 := hD
    exact W.iret (v := 0) hx hb hr (fun T9 ht hW => ⟨⟨0, (vp_updL fo (0 : Int32).toNatClampNeg ((traitF σ x 4).toInt64)), rfl, ⟨by rw [hT]; rfl, fun _ => rfl⟩, by rw [ht]; exact hP9, hD9⟩, hS.F ht⟩) hS.2.2 dL_become_26

set_option maxHeartbeats 4000000 in
set_option maxRecDepth 100000 in
theorem c_L_cell (l : Launch) (hst : l.stackTraces = false) (D : va_G) (cI cO : ClassId) (sz : Nat) (h t0 l0 m0 : Nat) (a : Nat → Nat) (σ : SS) (x : Int32) (o0 : Nat) (fo : Nat → Int64) : Met l yL_cell wsL_cell ({ frames := 7, cells := 1, slots := 6, locals := 103 } : Room) (va_Pc [.ref h, .int x, .ref o0] (preL D cI cO (wW h (a 0) t0 l0 m0 ++ sW cI a σ ++ oW cO o0 fo) sz)) (va_Qi (fun (r : Int32) (u : Nat → Int64) => r = nI (cellT x) ∧ (cellT x = 0 → u 0 = (kindF σ x).toInt64)) (fun (u : Nat → Int64) => posO D cO (va_A (wW h (a 0) t0 l0 m0 ++ sW cI a σ ++ oW cO o0 fo) sz) o0 u) (va_A (wW h (a 0) t0 l0 m0 ++ sW cI a σ ++ oW cO o0 fo) sz)) 1 6 (va_A (wW h (a 0) t0 l0 m0 ++ sW cI a σ ++ oW cO o0 fo) sz) := by
  refine va_MetW (cc := cL_cell) (maxL := 4) (ret := (some .int)) (hh := [(0, 9, 12, 19)]) (by decide) rfl ?_
  intro p e s m args below meth c s₁ B hml hv
  obtain ⟨rfl, hsz, hP, hK2, hXV, hD0, hTX, hN⟩ := hv
  have hK := K_1 hK2
  have hE := hXV.1
  have hx := B.exec
  have hb := B.bytes
  have hr := B.returns
  have hts := atoms_spec (ws := wsL_cell) B.pre
  have hown : s.vm.findClass RL = some m.cls := findClass_of_methodNamed B.named
  have hlocks := B.notSynchronized
  have htab : c.exceptionTable.toList = tableOf [(0, 9, 12, 19)] := vx_table (x := yL_cell) B (hts _ List.mem_cons_self)
  subst hsz
  have hD := hD0.self (sz := s.heap.size)
  generalize hAe : va_A (wW h (a 0) t0 l0 m0 ++ sW cI a σ ++ oW cO o0 fo) s.heap.size = A at hD hTX ⊢
  have hA : ∀ q : Nat, s.heap.size ≤ q → A q := fun q h => by rw [← hAe]; exact Or.inr h
  have hS : va_S A s.heap s.heap [] := va_S.rf
  have hP : va_P D vwCl (wW h (a 0) t0 l0 m0 ++ sW cI a σ ++ oW cO o0 fo) s.heap := hP
  have hl := lv_entry ([.ref h, .int x, .ref o0]) (n := 4) (Nat.le_of_ble_eq_true rfl)
  rw [lg_entry_eq]
  generalize (lg_sl ([.ref h, .int x, .ref o0]) ++ List.replicate (4 - (lg_sl ([.ref h, .int x, .ref o0])).length) Slot.unset).toArray = ls at hl ⊢
  have hl : lv_has ls 4 [(0, .ref h), (1, .int x), (2, .ref o0)] := hl
  refine lv_aload_n hx hb dL_cell_0 rfl (lv_at hl 2 rfl) ?_
  refine lv_iconst (v := 0) hx hb dL_cell_1 (by decide) ?_
  refine lv_aload_n hx hb dL_cell_2 rfl (lv_at hl 0 rfl) ?_
  refine lv_iload_n hx hb dL_cell_3 rfl (lv_at hl 1 rfl) ?_
  have hFc := va_free (wc := wW h (a 0) t0 l0 m0 ++ sW cI a σ) hD hS hA [0, 1, 2, 3, 4, 5, 6] rfl
  refine vx_calli (vx_runV (As := [.int x]) (rest := [.int 0, .ref o0]) ⟨hx, hb, hml, hown, hts⟩ (c_X4_cell l hst D cI _ h t0 l0 m0 a σ x) (cwV 1 hts gL_cell_X4_cell rfl rfl rfl (by decide +kernel) ⟨Nat.le_of_ble_eq_true rfl, Nat.le_of_ble_eq_true rfl⟩) ⟨preX_blind, va_recv hK hP (ci := 4) (q0 := 0) rfl rfl, preX_of (hP.sub (ws' := wW h (a 0) t0 l0 m0 ++ sW cI a σ) [0, 1, 2, 3, 4, 5, 6] rfl) hK hXV (hD.sub (ws' := wW h (a 0) t0 l0 m0 ++ sW cI a σ) [0, 1, 2, 3, 4, 5, 6] (by decide) rfl) hTX hS hFc [.ref h, .int x]⟩ rfl rfl hl.1 rfl (lv_room (Nat.le_of_ble_eq_true rfl)) dL_cell_4 ⟨Nat.le_of_ble_eq_true rfl, Nat.le_of_ble_eq_true rfl⟩) hS (fun q _ h => hFc q h) hFc (fun q _ h => hFc q h) (fun E ce q9 u t9 H1 locs ht hvm hpx hBX hz1 hk1 hS hq9 hce hcl => ?_) (fun r u t9 H1 locs ht hvm hw hB hz1 hk1 hS => ?_)
  · obtain ⟨hEn, hP1, -, hD1⟩ := hBX
    rw [ht] at hP1
    obtain ⟨hP, hD⟩ := va_join (wr := oW cO o0 fo) (w1 := wW h (a 0) t0 l0 m0 ++ sW cI a σ) hP hD [0, 1, 2, 3, 4, 5, 6] [7] rfl rfl (by decide) (by decide) hk1 hFc hP1 hD1
    have hP9 := hP.sub (ws' := oW cO o0 fo) [0] rfl
    have hD9 := hD.sub (ws' := oW cO o0 fo) [0] (by decide) rfl
    have hle : cellT x ≤ 1 := by unfold cellT; (repeat' split) <;> omega
    have hT := thr1 hpx hle
    rw [hT] at hEn
    have hEn : E = eI := hEn
    subst hEn
    refine vx_catch (name := "java/lang/IndexOutOfBoundsException") hown [] ⟨0, 9, 12, 19⟩ [] htab (fun z hz => nomatch hz) (by decide) (by decide) (hts (.classLink RL 19 "java/lang/IndexOutOfBoundsException") (by decide +kernel)) (va_Nw.use rfl hXV.2.2.2.2.1) hq9 hce hcl ?_
    refine lv_astore_n (lv' := [(3, .ref q9), (0, .ref h), (1, .int x), (2, .ref o0)]) hx hb dL_cell_12 rfl hl (by decide) rfl (fun ls hl => ?_)
    refine lv_iconst (v := 1) hx hb dL_cell_13 (by decide) ?_
    exact W.iret (v := 1) hx hb hr (fun T9 ht hW => ⟨⟨1, fo, rfl, ⟨by rw [hT]; rfl, fun hz => absurd hz (by rw [hT]; decide)⟩, by rw [ht]; exact hP9, hD9⟩, hS.F ht⟩) hS.2.2 dL_cell_14
  · obtain ⟨hT, hR, -⟩ := hw
    obtain ⟨hP1, hK1, hD1⟩ := hB
    rw [ht] at hP1
    obtain ⟨hP, hD⟩ := va_join (wr := oW cO o0 fo) (w1 := wW h (a 0) t0 l0 m0 ++ sW cI a u) hP hD [0, 1, 2, 3, 4, 5, 6] [7] rfl rfl (by decide) (by decide) hk1 hFc hP1 hD1
    have hP := hP.sub (ws' := oW cO o0 fo) [0] rfl
    have hD := hD.sub (ws' := oW cO o0 fo) [0] (by decide) rfl
    generalize H1 = H at hP hS ⊢
    subst hR
    have hP : va_P D vwCl (oW cO o0 fo) H := hP
    have hD : va_D A (oW cO o0 fo) := hD
    refine lv_i2l (v := (kindF σ x).toInt64) hx hb dL_cell_7 rfl ?_
    refine va_last hx hb hK2 hP hD hS 0 1 rfl rfl (vp_in_nI (n := 0) (by decide) (by decide)) dL_cell_8 (fun H locs hP hD hS => ?_)
    have hP : va_P D vwCl (oW cO o0 (vp_updL fo (0 : Int32).toNatClampNeg ((kindF σ x).toInt64))) H := hP
    have hD : va_D A (oW cO o0 (vp_updL fo (0 : Int32).toNatClampNeg ((kindF σ x).toInt64))) := hD
    refine lv_goto (tgt := 15) hx hb dL_cell_9 (by decide) ?_
    refine lv_iconst (v := 0) hx hb dL_cell_15 (by decide) ?_
    have hP9 := hP
    have hD9 := hD
    exact W.iret (v := 0) hx hb hr (fun T9 ht hW => ⟨⟨0, (vp_updL fo (0 : Int32).toNatClampNeg ((kindF σ x).toInt64)), rfl, ⟨by rw [hT]; rfl, fun _ => rfl⟩, by rw [ht]; exact hP9, hD9⟩, hS.F ht⟩) hS.2.2 dL_cell_16

set_option maxHeartbeats 4000000 in
set_option maxRecDepth 100000 in
theorem c_L_come (l : Launch) (hst : l.stackTraces = false) (D : va_G) (cI cO : ClassId) (sz : Nat) (h t0 l0 m0 : Nat) (a : Nat → Nat) (σ : SS) (x y z : Int32) (o0 : Nat) (fo : Nat → Int64) (hn : s_n σ ≤ 10) : Met l yL_come wsL_come ({ frames := 7, cells := 1, slots := 6, locals := 143 } : Room) (va_Pc [.ref h, .int x, .int y, .int z, .ref o0] (preL D cI cO (wW h (a 0) t0 l0 m0 ++ sW cI a σ ++ oW cO o0 fo) sz)) (va_Qi (fun (r : Int32) (u : Nat → Int64) => r = nI (comeT σ x y z) ∧ (comeT σ x y z = 0 → u 0 = (nI (s_n σ)).toInt64)) (fun (u : Nat → Int64) => posO D cO (va_A (wW h (a 0) t0 l0 m0 ++ sW cI a σ ++ oW cO o0 fo) sz) o0 u) (va_A (wW h (a 0) t0 l0 m0 ++ sW cI a σ ++ oW cO o0 fo) sz)) 1 6 (va_A (wW h (a 0) t0 l0 m0 ++ sW cI a σ ++ oW cO o0 fo) sz) := by
  refine va_MetW (cc := cL_come) (maxL := 6) (ret := (some .int)) (hh := [(0, 12, 15, 19), (0, 12, 19, 13), (0, 12, 23, 21)]) (by decide) rfl ?_
  intro p e s m args below meth c s₁ B hml hv
  obtain ⟨rfl, hsz, hP, hK2, hXV, hD0, hTX, hN⟩ := hv
  have hK := K_1 hK2
  have hE := hXV.1
  have hx := B.exec
  have hb := B.bytes
  have hr := B.returns
  have hts := atoms_spec (ws := wsL_come) B.pre
  have hown : s.vm.findClass RL = some m.cls := findClass_of_methodNamed B.named
  have hlocks := B.notSynchronized
  have htab : c.exceptionTable.toList = tableOf [(0, 12, 15, 19), (0, 12, 19, 13), (0, 12, 23, 21)] := vx_table (x := yL_come) B (hts _ List.mem_cons_self)
  subst hsz
  have hD := hD0.self (sz := s.heap.size)
  generalize hAe : va_A (wW h (a 0) t0 l0 m0 ++ sW cI a σ ++ oW cO o0 fo) s.heap.size = A at hD hTX ⊢
  have hA : ∀ q : Nat, s.heap.size ≤ q → A q := fun q h => by rw [← hAe]; exact Or.inr h
  have hS : va_S A s.heap s.heap [] := va_S.rf
  have hP : va_P D vwCl (wW h (a 0) t0 l0 m0 ++ sW cI a σ ++ oW cO o0 fo) s.heap := hP
  have hl := lv_entry ([.ref h, .int x, .int y, .int z, .ref o0]) (n := 6) (Nat.le_of_ble_eq_true rfl)
  rw [lg_entry_eq]
  generalize (lg_sl ([.ref h, .int x, .int y, .int z, .ref o0]) ++ List.replicate (6 - (lg_sl ([.ref h, .int x, .int y, .int z, .ref o0])).length) Slot.unset).toArray = ls at hl ⊢
  have hl : lv_has ls 6 [(0, .ref h), (1, .int x), (2, .int y), (3, .int z), (4, .ref o0)] := hl
  refine lv_aload hx hb dL_come_0 (lv_at hl 4 rfl) ?_
  refine lv_iconst (v := 0) hx hb dL_come_2 (by decide) ?_
  refine lv_aload_n hx hb dL_come_3 rfl (lv_at hl 0 rfl) ?_
  refine lv_iload_n hx hb dL_come_4 rfl (lv_at hl 1 rfl) ?_
  refine lv_iload_n hx hb dL_come_5 rfl (lv_at hl 2 rfl) ?_
  refine lv_iload_n hx hb dL_come_6 rfl (lv_at hl 3 rfl) ?_
  have hFc := va_free (wc := wW h (a 0) t0 l0 m0 ++ sW cI a σ) hD hS hA [0, 1, 2, 3, 4, 5, 6] rfl
  refine vx_calli (vx_runV (As := [.int x, .int y, .int z]) (rest := [.int 0, .ref o0]) ⟨hx, hb, hml, hown, hts⟩ (c_X4_come l hst D cI _ h t0 l0 m0 a σ x y z hn) (cwV 3 hts gL_come_X4_come rfl rfl rfl (by decide +kernel) ⟨Nat.le_of_ble_eq_true rfl, Nat.le_of_ble_eq_true rfl⟩) ⟨preX_blind, va_recv hK hP (ci := 4) (q0 := 0) rfl rfl, preX_of (hP.sub (ws' := wW h (a 0) t0 l0 m0 ++ sW cI a σ) [0, 1, 2, 3, 4, 5, 6] rfl) hK hXV (hD.sub (ws' := wW h (a 0) t0 l0 m0 ++ sW cI a σ) [0, 1, 2, 3, 4, 5, 6] (by decide) rfl) hTX hS hFc [.ref h, .int x, .int y, .int z]⟩ rfl rfl hl.1 rfl (lv_room (Nat.le_of_ble_eq_true rfl)) dL_come_7 ⟨Nat.le_of_ble_eq_true rfl, Nat.le_of_ble_eq_true rfl⟩) hS (fun q _ h => hFc q h) hFc (fun q _ h => hFc q h) (fun E ce q9 u t9 H1 locs ht hvm hpx hBX hz1 hk1 hS hq9 hce hcl => ?_) (fun r u t9 H1 locs ht hvm hw hB hz1 hk1 hS => ?_)
  · obtain ⟨hEn, hP1, -, hD1⟩ := hBX
    rw [ht] at hP1
    obtain ⟨hP, hD⟩ := va_join (wr := oW cO o0 fo) (w1 := wW h (a 0) t0 l0 m0 ++ sW cI a σ) hP hD [0, 1, 2, 3, 4, 5, 6] [7] rfl rfl (by decide) (by decide) hk1 hFc hP1 hD1
    have hP9 := hP.sub (ws' := oW cO o0 fo) [0] rfl
    have hD9 := hD.sub (ws' := oW cO o0 fo) [0] (by decide) rfl
    have hle : comeT σ x y z ≤ 3 := by unfold comeT comeT2; (repeat' split) <;> omega
    rcases thr3 hpx hle with hT | hT | hT
    · rw [hT] at hEn
      have hEn : E = eI := hEn
      subst hEn
      refine vx_catch (name := "java/lang/IndexOutOfBoundsException") hown [] ⟨0, 12, 15, 19⟩ [⟨0, 12, 19, 13⟩, ⟨0, 12, 23, 21⟩] htab (fun z hz => nomatch hz) (by decide) (by decide) (hts (.classLink RL 19 "java/lang/IndexOutOfBoundsException") (by decide +kernel)) (va_Nw.use rfl hXV.2.2.2.2.1) hq9 hce hcl ?_
      refine lv_astore (lv' := [(5, .ref q9), (0, .ref h), (1, .int x), (2, .int y), (3, .int z), (4, .ref o0)]) hx hb dL_come_15 hl (by decide) rfl (fun ls hl => ?_)
      refine lv_iconst (v := 1) hx hb dL_come_17 (by decide) ?_
      exact W.iret (v := 1) hx hb hr (fun T9 ht hW => ⟨⟨1, fo, rfl, ⟨by rw [hT]; rfl, fun hz => absurd hz (by rw [hT]; decide)⟩, by rw [ht]; exact hP9, hD9⟩, hS.F ht⟩) hS.2.2 dL_come_18
    · rw [hT] at hEn
      have hEn : E = eA := hEn
      subst hEn
      refine vx_catch (name := "java/lang/IllegalArgumentException") hown [⟨0, 12, 15, 19⟩] ⟨0, 12, 19, 13⟩ [⟨0, 12, 23, 21⟩] htab (fun z hz => by rw [List.mem_singleton.mp hz]; exact Or.inr ⟨by decide, _, (hts (.classLink RL 19 "java/lang/IndexOutOfBoundsException") (by decide +kernel)), hN.1⟩) (by decide) (by decide) (hts (.classLink RL 13 "java/lang/IllegalArgumentException") (by decide +kernel)) (va_Nw.use rfl hXV.2.2.1) hq9 hce hcl ?_
      refine lv_astore (lv' := [(5, .ref q9), (0, .ref h), (1, .int x), (2, .int y), (3, .int z), (4, .ref o0)]) hx hb dL_come_19 hl (by decide) rfl (fun ls hl => ?_)
      refine lv_iconst (v := 2) hx hb dL_come_21 (by decide) ?_
      exact W.iret (v := 2) hx hb hr (fun T9 ht hW => ⟨⟨2, fo, rfl, ⟨by rw [hT]; rfl, fun hz => absurd hz (by rw [hT]; decide)⟩, by rw [ht]; exact hP9, hD9⟩, hS.F ht⟩) hS.2.2 dL_come_22
    · rw [hT] at hEn
      have hEn : E = eS := hEn
      subst hEn
      refine vx_catch (name := "java/lang/IllegalStateException") hown [⟨0, 12, 15, 19⟩, ⟨0, 12, 19, 13⟩] ⟨0, 12, 23, 21⟩ [] htab (fun z hz => by rcases List.mem_cons.mp hz with rfl | hz; exact Or.inr ⟨by decide, _, (hts (.classLink RL 19 "java/lang/IndexOutOfBoundsException") (by decide +kernel)), hN.2.1⟩; rw [List.mem_singleton.mp hz]; exact Or.inr ⟨by decide, _, (hts (.classLink RL 13 "java/lang/IllegalArgumentException") (by decide +kernel)), hN.2.2.1⟩) (by decide) (by decide) (hts (.classLink RL 21 "java/lang/IllegalStateException") (by decide +kernel)) (va_Nw.use rfl hXV.2.2.2.1) hq9 hce hcl ?_
      refine lv_astore (lv' := [(5, .ref q9), (0, .ref h), (1, .int x), (2, .int y), (3, .int z), (4, .ref o0)]) hx hb dL_come_23 hl (by decide) rfl (fun ls hl => ?_)
      refine lv_iconst (v := 3) hx hb dL_come_25 (by decide) ?_
      exact W.iret (v := 3) hx hb hr (fun T9 ht hW => ⟨⟨3, fo, rfl, ⟨by rw [hT]; rfl, fun hz => absurd hz (by rw [hT]; decide)⟩, by rw [ht]; exact hP9, hD9⟩, hS.F ht⟩) hS.2.2 dL_come_26
  · obtain ⟨hT, hR, -⟩ := hw
    obtain ⟨hP1, hK1, hD1⟩ := hB
    rw [ht] at hP1
    obtain ⟨hP, hD⟩ := va_join (wr := oW cO o0 fo) (w1 := wW h (a 0) t0 l0 m0 ++ sW cI a u) hP hD [0, 1, 2, 3, 4, 5, 6] [7] rfl rfl (by decide) (by decide) hk1 hFc hP1 hD1
    have hP := hP.sub (ws' := oW cO o0 fo) [0] rfl
    have hD := hD.sub (ws' := oW cO o0 fo) [0] (by decide) rfl
    generalize H1 = H at hP hS ⊢
    subst hR
    have hP : va_P D vwCl (oW cO o0 fo) H := hP
    have hD : va_D A (oW cO o0 fo) := hD
    refine lv_i2l (v := (nI (s_n σ)).toInt64) hx hb dL_come_10 rfl ?_
    refine va_last hx hb hK2 hP hD hS 0 1 rfl rfl (vp_in_nI (n := 0) (by decide) (by decide)) dL_come_11 (fun H locs hP hD hS => ?_)
    have hP : va_P D vwCl (oW cO o0 (vp_updL fo (0 : Int32).toNatClampNeg ((nI (s_n σ)).toInt64))) H := hP
    have hD : va_D A (oW cO o0 (vp_updL fo (0 : Int32).toNatClampNeg ((nI (s_n σ)).toInt64))) := hD
    refine lv_goto (tgt := 27) hx hb dL_come_12 (by decide) ?_
    refine lv_iconst (v := 0) hx hb dL_come_27 (by decide) ?_
    have hP9 := hP
    have hD9 := hD
    exact W.iret (v := 0) hx hb hr (fun T9 ht hW => ⟨⟨0, (vp_updL fo (0 : Int32).toNatClampNeg ((nI (s_n σ)).toInt64)), rfl, ⟨by rw [hT]; rfl, fun _ => rfl⟩, by rw [ht]; exact hP9, hD9⟩, hS.F ht⟩) hS.2.2 dL_come_28

set_option maxHeartbeats 4000000 in
set_option maxRecDepth 100000 in
theorem c_L_danger (l : Launch) (hst : l.stackTraces = false) (D : va_G) (cI cO : ClassId) (sz : Nat) (h t0 l0 m0 : Nat) (a : Nat → Nat) (σ : SS) (x y : Int32) (o0 : Nat) (fo : Nat → Int64) (hn : s_n σ ≤ 10) : Met l yL_danger wsL_danger ({ frames := 7, cells := 1, slots := 6, locals := 116 } : Room) (va_Pc [.ref h, .int x, .int y, .ref o0] (preL D cI cO (wW h (a 0) t0 l0 m0 ++ sW cI a σ ++ oW cO o0 fo) sz)) (va_Qi (fun (r : Int32) (u : Nat → Int64) => r = nI (knowsT x y) ∧ (knowsT x y = 0 → u 0 = (watchF σ x y).toInt64)) (fun (u : Nat → Int64) => posO D cO (va_A (wW h (a 0) t0 l0 m0 ++ sW cI a σ ++ oW cO o0 fo) sz) o0 u) (va_A (wW h (a 0) t0 l0 m0 ++ sW cI a σ ++ oW cO o0 fo) sz)) 1 6 (va_A (wW h (a 0) t0 l0 m0 ++ sW cI a σ ++ oW cO o0 fo) sz) := by
  refine va_MetW (cc := cL_danger) (maxL := 5) (ret := (some .int)) (hh := [(0, 10, 13, 13), (0, 10, 17, 19)]) (by decide) rfl ?_
  intro p e s m args below meth c s₁ B hml hv
  obtain ⟨rfl, hsz, hP, hK2, hXV, hD0, hTX, hN⟩ := hv
  have hK := K_1 hK2
  have hE := hXV.1
  have hx := B.exec
  have hb := B.bytes
  have hr := B.returns
  have hts := atoms_spec (ws := wsL_danger) B.pre
  have hown : s.vm.findClass RL = some m.cls := findClass_of_methodNamed B.named
  have hlocks := B.notSynchronized
  have htab : c.exceptionTable.toList = tableOf [(0, 10, 13, 13), (0, 10, 17, 19)] := vx_table (x := yL_danger) B (hts _ List.mem_cons_self)
  subst hsz
  have hD := hD0.self (sz := s.heap.size)
  generalize hAe : va_A (wW h (a 0) t0 l0 m0 ++ sW cI a σ ++ oW cO o0 fo) s.heap.size = A at hD hTX ⊢
  have hA : ∀ q : Nat, s.heap.size ≤ q → A q := fun q h => by rw [← hAe]; exact Or.inr h
  have hS : va_S A s.heap s.heap [] := va_S.rf
  have hP : va_P D vwCl (wW h (a 0) t0 l0 m0 ++ sW cI a σ ++ oW cO o0 fo) s.heap := hP
  have hl := lv_entry ([.ref h, .int x, .int y, .ref o0]) (n := 5) (Nat.le_of_ble_eq_true rfl)
  rw [lg_entry_eq]
  generalize (lg_sl ([.ref h, .int x, .int y, .ref o0]) ++ List.replicate (5 - (lg_sl ([.ref h, .int x, .int y, .ref o0])).length) Slot.unset).toArray = ls at hl ⊢
  have hl : lv_has ls 5 [(0, .ref h), (1, .int x), (2, .int y), (3, .ref o0)] := hl
  refine lv_aload_n hx hb dL_danger_0 rfl (lv_at hl 3 rfl) ?_
  refine lv_iconst (v := 0) hx hb dL_danger_1 (by decide) ?_
  refine lv_aload_n hx hb dL_danger_2 rfl (lv_at hl 0 rfl) ?_
  refine lv_iload_n hx hb dL_danger_3 rfl (lv_at hl 1 rfl) ?_
  refine lv_iload_n hx hb dL_danger_4 rfl (lv_at hl 2 rfl) ?_
  have hFc := va_free (wc := wW h (a 0) t0 l0 m0 ++ sW cI a σ) hD hS hA [0, 1, 2, 3, 4, 5, 6] rfl
  refine vx_calli (vx_runV (As := [.int x, .int y]) (rest := [.int 0, .ref o0]) ⟨hx, hb, hml, hown, hts⟩ (c_X4_danger l hst D cI _ h t0 l0 m0 a σ x y hn) (cwV 2 hts gL_danger_X4_danger rfl rfl rfl (by decide +kernel) ⟨Nat.le_of_ble_eq_true rfl, Nat.le_of_ble_eq_true rfl⟩) ⟨preX_blind, va_recv hK hP (ci := 4) (q0 := 0) rfl rfl, preX_of (hP.sub (ws' := wW h (a 0) t0 l0 m0 ++ sW cI a σ) [0, 1, 2, 3, 4, 5, 6] rfl) hK hXV (hD.sub (ws' := wW h (a 0) t0 l0 m0 ++ sW cI a σ) [0, 1, 2, 3, 4, 5, 6] (by decide) rfl) hTX hS hFc [.ref h, .int x, .int y]⟩ rfl rfl hl.1 rfl (lv_room (Nat.le_of_ble_eq_true rfl)) dL_danger_5 ⟨Nat.le_of_ble_eq_true rfl, Nat.le_of_ble_eq_true rfl⟩) hS (fun q _ h => hFc q h) hFc (fun q _ h => hFc q h) (fun E ce q9 u t9 H1 locs ht hvm hpx hBX hz1 hk1 hS hq9 hce hcl => ?_) (fun r u t9 H1 locs ht hvm hw hB hz1 hk1 hS => ?_)
  · obtain ⟨hEn, hP1, -, hD1⟩ := hBX
    rw [ht] at hP1
    obtain ⟨hP, hD⟩ := va_join (wr := oW cO o0 fo) (w1 := wW h (a 0) t0 l0 m0 ++ sW cI a σ) hP hD [0, 1, 2, 3, 4, 5, 6] [7] rfl rfl (by decide) (by decide) hk1 hFc hP1 hD1
    have hP9 := hP.sub (ws' := oW cO o0 fo) [0] rfl
    have hD9 := hD.sub (ws' := oW cO o0 fo) [0] (by decide) rfl
    have hle : knowsT x y ≤ 2 := by unfold knowsT; (repeat' split) <;> omega
    rcases thr2 hpx hle with hT | hT
    · rw [hT] at hEn
      have hEn : E = eA := hEn
      subst hEn
      refine vx_catch (name := "java/lang/IllegalArgumentException") hown [] ⟨0, 10, 13, 13⟩ [⟨0, 10, 17, 19⟩] htab (fun z hz => nomatch hz) (by decide) (by decide) (hts (.classLink RL 13 "java/lang/IllegalArgumentException") (by decide +kernel)) (va_Nw.use rfl hXV.2.2.1) hq9 hce hcl ?_
      refine lv_astore (lv' := [(4, .ref q9), (0, .ref h), (1, .int x), (2, .int y), (3, .ref o0)]) hx hb dL_danger_13 hl (by decide) rfl (fun ls hl => ?_)
      refine lv_iconst (v := 1) hx hb dL_danger_15 (by decide) ?_
      exact W.iret (v := 1) hx hb hr (fun T9 ht hW => ⟨⟨1, fo, rfl, ⟨by rw [hT]; rfl, fun hz => absurd hz (by rw [hT]; decide)⟩, by rw [ht]; exact hP9, hD9⟩, hS.F ht⟩) hS.2.2 dL_danger_16
    · rw [hT] at hEn
      have hEn : E = eI := hEn
      subst hEn
      refine vx_catch (name := "java/lang/IndexOutOfBoundsException") hown [⟨0, 10, 13, 13⟩] ⟨0, 10, 17, 19⟩ [] htab (fun z hz => by rw [List.mem_singleton.mp hz]; exact Or.inr ⟨by decide, _, (hts (.classLink RL 13 "java/lang/IllegalArgumentException") (by decide +kernel)), hN.2.2.2⟩) (by decide) (by decide) (hts (.classLink RL 19 "java/lang/IndexOutOfBoundsException") (by decide +kernel)) (va_Nw.use rfl hXV.2.2.2.2.1) hq9 hce hcl ?_
      refine lv_astore (lv' := [(4, .ref q9), (0, .ref h), (1, .int x), (2, .int y), (3, .ref o0)]) hx hb dL_danger_17 hl (by decide) rfl (fun ls hl => ?_)
      refine lv_iconst (v := 2) hx hb dL_danger_19 (by decide) ?_
      exact W.iret (v := 2) hx hb hr (fun T9 ht hW => ⟨⟨2, fo, rfl, ⟨by rw [hT]; rfl, fun hz => absurd hz (by rw [hT]; decide)⟩, by rw [ht]; exact hP9, hD9⟩, hS.F ht⟩) hS.2.2 dL_danger_20
  · obtain ⟨hT, hR, -⟩ := hw
    obtain ⟨hP1, hK1, hD1⟩ := hB
    rw [ht] at hP1
    obtain ⟨hP, hD⟩ := va_join (wr := oW cO o0 fo) (w1 := wW h (a 0) t0 l0 m0 ++ sW cI a u) hP hD [0, 1, 2, 3, 4, 5, 6] [7] rfl rfl (by decide) (by decide) hk1 hFc hP1 hD1
    have hP := hP.sub (ws' := oW cO o0 fo) [0] rfl
    have hD := hD.sub (ws' := oW cO o0 fo) [0] (by decide) rfl
    generalize H1 = H at hP hS ⊢
    subst hR
    have hP : va_P D vwCl (oW cO o0 fo) H := hP
    have hD : va_D A (oW cO o0 fo) := hD
    refine lv_i2l (v := (watchF σ x y).toInt64) hx hb dL_danger_8 rfl ?_
    refine va_last hx hb hK2 hP hD hS 0 1 rfl rfl (vp_in_nI (n := 0) (by decide) (by decide)) dL_danger_9 (fun H locs hP hD hS => ?_)
    have hP : va_P D vwCl (oW cO o0 (vp_updL fo (0 : Int32).toNatClampNeg ((watchF σ x y).toInt64))) H := hP
    have hD : va_D A (oW cO o0 (vp_updL fo (0 : Int32).toNatClampNeg ((watchF σ x y).toInt64))) := hD
    refine lv_goto (tgt := 21) hx hb dL_danger_10 (by decide) ?_
    refine lv_iconst (v := 0) hx hb dL_danger_21 (by decide) ?_
    have hP9 := hP
    have hD9 := hD
    exact W.iret (v := 0) hx hb hr (fun T9 ht hW => ⟨⟨0, (vp_updL fo (0 : Int32).toNatClampNeg ((watchF σ x y).toInt64)), rfl, ⟨by rw [hT]; rfl, fun _ => rfl⟩, by rw [ht]; exact hP9, hD9⟩, hS.F ht⟩) hS.2.2 dL_danger_22

set_option maxHeartbeats 4000000 in
set_option maxRecDepth 100000 in
theorem c_L_dig (l : Launch) (hst : l.stackTraces = false) (D : va_G) (cI cO : ClassId) (sz : Nat) (h t0 l0 m0 : Nat) (a : Nat → Nat) (σ : SS) (x y z v : Int32) (o0 : Nat) (fo : Nat → Int64) : Met l yL_dig wsL_dig ({ frames := 7, cells := 1, slots := 6, locals := 106 } : Room) (va_Pc [.ref h, .int x, .int y, .int z, .int v, .ref o0] (preL D cI cO (wW h (a 0) t0 l0 m0 ++ sW cI a σ ++ oW cO o0 fo) sz)) (va_Qi (fun (r : Int32) (u : Nat → Int64) => r = nI (digT x y z v) ∧ (digT x y z v = 0 → u 0 = ((digA σ x y z v).2).toInt64)) (fun (u : Nat → Int64) => posO D cO (va_A (wW h (a 0) t0 l0 m0 ++ sW cI a σ ++ oW cO o0 fo) sz) o0 u) (va_A (wW h (a 0) t0 l0 m0 ++ sW cI a σ ++ oW cO o0 fo) sz)) 1 6 (va_A (wW h (a 0) t0 l0 m0 ++ sW cI a σ ++ oW cO o0 fo) sz) := by
  refine va_MetW (cc := cL_dig) (maxL := 7) (ret := (some .int)) (hh := [(0, 14, 17, 13)]) (by decide) rfl ?_
  intro p e s m args below meth c s₁ B hml hv
  obtain ⟨rfl, hsz, hP, hK2, hXV, hD0, hTX, hN⟩ := hv
  have hK := K_1 hK2
  have hE := hXV.1
  have hx := B.exec
  have hb := B.bytes
  have hr := B.returns
  have hts := atoms_spec (ws := wsL_dig) B.pre
  have hown : s.vm.findClass RL = some m.cls := findClass_of_methodNamed B.named
  have hlocks := B.notSynchronized
  have htab : c.exceptionTable.toList = tableOf [(0, 14, 17, 13)] := vx_table (x := yL_dig) B (hts _ List.mem_cons_self)
  subst hsz
  have hD := hD0.self (sz := s.heap.size)
  generalize hAe : va_A (wW h (a 0) t0 l0 m0 ++ sW cI a σ ++ oW cO o0 fo) s.heap.size = A at hD hTX ⊢
  have hA : ∀ q : Nat, s.heap.size ≤ q → A q := fun q h => by rw [← hAe]; exact Or.inr h
  have hS : va_S A s.heap s.heap [] := va_S.rf
  have hP : va_P D vwCl (wW h (a 0) t0 l0 m0 ++ sW cI a σ ++ oW cO o0 fo) s.heap := hP
  have hl := lv_entry ([.ref h, .int x, .int y, .int z, .int v, .ref o0]) (n := 7) (Nat.le_of_ble_eq_true rfl)
  rw [lg_entry_eq]
  generalize (lg_sl ([.ref h, .int x, .int y, .int z, .int v, .ref o0]) ++ List.replicate (7 - (lg_sl ([.ref h, .int x, .int y, .int z, .int v, .ref o0])).length) Slot.unset).toArray = ls at hl ⊢
  have hl : lv_has ls 7 [(0, .ref h), (1, .int x), (2, .int y), (3, .int z), (4, .int v), (5, .ref o0)] := hl
  refine lv_aload hx hb dL_dig_0 (lv_at hl 5 rfl) ?_
  refine lv_iconst (v := 0) hx hb dL_dig_2 (by decide) ?_
  refine lv_aload_n hx hb dL_dig_3 rfl (lv_at hl 0 rfl) ?_
  refine lv_iload_n hx hb dL_dig_4 rfl (lv_at hl 1 rfl) ?_
  refine lv_iload_n hx hb dL_dig_5 rfl (lv_at hl 2 rfl) ?_
  refine lv_iload_n hx hb dL_dig_6 rfl (lv_at hl 3 rfl) ?_
  refine lv_iload hx hb dL_dig_7 (lv_at hl 4 rfl) ?_
  have hFc := va_free (wc := wW h (a 0) t0 l0 m0 ++ sW cI a σ) hD hS hA [0, 1, 2, 3, 4, 5, 6] rfl
  refine vx_calli (vx_runV (As := [.int x, .int y, .int z, .int v]) (rest := [.int 0, .ref o0]) ⟨hx, hb, hml, hown, hts⟩ (c_X4_dig l hst D cI _ h t0 l0 m0 a σ x y z v) (cwV 4 hts gL_dig_X4_dig rfl rfl rfl (by decide +kernel) ⟨Nat.le_of_ble_eq_true rfl, Nat.le_of_ble_eq_true rfl⟩) ⟨preX_blind, va_recv hK hP (ci := 4) (q0 := 0) rfl rfl, preX_of (hP.sub (ws' := wW h (a 0) t0 l0 m0 ++ sW cI a σ) [0, 1, 2, 3, 4, 5, 6] rfl) hK hXV (hD.sub (ws' := wW h (a 0) t0 l0 m0 ++ sW cI a σ) [0, 1, 2, 3, 4, 5, 6] (by decide) rfl) hTX hS hFc [.ref h, .int x, .int y, .int z, .int v]⟩ rfl rfl hl.1 rfl (lv_room (Nat.le_of_ble_eq_true rfl)) dL_dig_9 ⟨Nat.le_of_ble_eq_true rfl, Nat.le_of_ble_eq_true rfl⟩) hS (fun q _ h => hFc q h) hFc (fun q _ h => hFc q h) (fun E ce q9 u t9 H1 locs ht hvm hpx hBX hz1 hk1 hS hq9 hce hcl => ?_) (fun r u t9 H1 locs ht hvm hw hB hz1 hk1 hS => ?_)
  · obtain ⟨hEn, hP1, -, hD1⟩ := hBX
    rw [ht] at hP1
    obtain ⟨hP, hD⟩ := va_join (wr := oW cO o0 fo) (w1 := wW h (a 0) t0 l0 m0 ++ sW cI a σ) hP hD [0, 1, 2, 3, 4, 5, 6] [7] rfl rfl (by decide) (by decide) hk1 hFc hP1 hD1
    have hP9 := hP.sub (ws' := oW cO o0 fo) [0] rfl
    have hD9 := hD.sub (ws' := oW cO o0 fo) [0] (by decide) rfl
    have hle : digT x y z v ≤ 1 := by unfold digT; (repeat' split) <;> omega
    have hT := thr1 hpx hle
    rw [hT] at hEn
    have hEn : E = eA := hEn
    subst hEn
    refine vx_catch (name := "java/lang/IllegalArgumentException") hown [] ⟨0, 14, 17, 13⟩ [] htab (fun z hz => nomatch hz) (by decide) (by decide) (hts (.classLink RL 13 "java/lang/IllegalArgumentException") (by decide +kernel)) (va_Nw.use rfl hXV.2.2.1) hq9 hce hcl ?_
    refine lv_astore (lv' := [(6, .ref q9), (0, .ref h), (1, .int x), (2, .int y), (3, .int z), (4, .int v), (5, .ref o0)]) hx hb dL_dig_17 hl (by decide) rfl (fun ls hl => ?_)
    refine lv_iconst (v := 1) hx hb dL_dig_19 (by decide) ?_
    exact W.iret (v := 1) hx hb hr (fun T9 ht hW => ⟨⟨1, fo, rfl, ⟨by rw [hT]; rfl, fun hz => absurd hz (by rw [hT]; decide)⟩, by rw [ht]; exact hP9, hD9⟩, hS.F ht⟩) hS.2.2 dL_dig_20
  · obtain ⟨hT, hR, -⟩ := hw
    obtain ⟨hP1, hK1, hD1⟩ := hB
    rw [ht] at hP1
    obtain ⟨hP, hD⟩ := va_join (wr := oW cO o0 fo) (w1 := wW h (a 0) t0 l0 m0 ++ sW cI a u) hP hD [0, 1, 2, 3, 4, 5, 6] [7] rfl rfl (by decide) (by decide) hk1 hFc hP1 hD1
    have hP := hP.sub (ws' := oW cO o0 fo) [0] rfl
    have hD := hD.sub (ws' := oW cO o0 fo) [0] (by decide) rfl
    generalize H1 = H at hP hS ⊢
    subst hR
    have hP : va_P D vwCl (oW cO o0 fo) H := hP
    have hD : va_D A (oW cO o0 fo) := hD
    refine lv_i2l (v := ((digA σ x y z v).2).toInt64) hx hb dL_dig_12 rfl ?_
    refine va_last hx hb hK2 hP hD hS 0 1 rfl rfl (vp_in_nI (n := 0) (by decide) (by decide)) dL_dig_13 (fun H locs hP hD hS => ?_)
    have hP : va_P D vwCl (oW cO o0 (vp_updL fo (0 : Int32).toNatClampNeg (((digA σ x y z v).2).toInt64))) H := hP
    have hD : va_D A (oW cO o0 (vp_updL fo (0 : Int32).toNatClampNeg (((digA σ x y z v).2).toInt64))) := hD
    refine lv_goto (tgt := 21) hx hb dL_dig_14 (by decide) ?_
    refine lv_iconst (v := 0) hx hb dL_dig_21 (by decide) ?_
    have hP9 := hP
    have hD9 := hD
    exact W.iret (v := 0) hx hb hr (fun T9 ht hW => ⟨⟨0, (vp_updL fo (0 : Int32).toNatClampNeg (((digA σ x y z v).2).toInt64)), rfl, ⟨by rw [hT]; rfl, fun _ => rfl⟩, by rw [ht]; exact hP9, hD9⟩, hS.F ht⟩) hS.2.2 dL_dig_22

set_option maxHeartbeats 4000000 in
set_option maxRecDepth 100000 in
theorem c_L_effect (l : Launch) (hst : l.stackTraces = false) (D : va_G) (cI cO : ClassId) (sz : Nat) (h t0 l0 m0 : Nat) (a : Nat → Nat) (σ : SS) (x y z : Int32) (o0 : Nat) (fo : Nat → Int64) : Met l yL_effect wsL_effect ({ frames := 7, cells := 1, slots := 6, locals := 105 } : Room) (va_Pc [.ref h, .int x, .int y, .int z, .ref o0] (preL D cI cO (wW h (a 0) t0 l0 m0 ++ sW cI a σ ++ oW cO o0 fo) sz)) (va_Qi (fun (r : Int32) (u : Nat → Int64) => r = nI (effectT σ x y) ∧ (effectT σ x y = 0 → u 0 = (effectF σ x y z).toInt64)) (fun (u : Nat → Int64) => posO D cO (va_A (wW h (a 0) t0 l0 m0 ++ sW cI a σ ++ oW cO o0 fo) sz) o0 u) (va_A (wW h (a 0) t0 l0 m0 ++ sW cI a σ ++ oW cO o0 fo) sz)) 1 6 (va_A (wW h (a 0) t0 l0 m0 ++ sW cI a σ ++ oW cO o0 fo) sz) := by
  refine va_MetW (cc := cL_effect) (maxL := 6) (ret := (some .int)) (hh := [(0, 12, 15, 19), (0, 12, 19, 13)]) (by decide) rfl ?_
  intro p e s m args below meth c s₁ B hml hv
  obtain ⟨rfl, hsz, hP, hK2, hXV, hD0, hTX, hN⟩ := hv
  have hK := K_1 hK2
  have hE := hXV.1
  have hx := B.exec
  have hb := B.bytes
  have hr := B.returns
  have hts := atoms_spec (ws := wsL_effect) B.pre
  have hown : s.vm.findClass RL = some m.cls := findClass_of_methodNamed B.named
  have hlocks := B.notSynchronized
  have htab : c.exceptionTable.toList = tableOf [(0, 12, 15, 19), (0, 12, 19, 13)] := vx_table (x := yL_effect) B (hts _ List.mem_cons_self)
  subst hsz
  have hD := hD0.self (sz := s.heap.size)
  generalize hAe : va_A (wW h (a 0) t0 l0 m0 ++ sW cI a σ ++ oW cO o0 fo) s.heap.size = A at hD hTX ⊢
  have hA : ∀ q : Nat, s.heap.size ≤ q → A q := fun q h => by rw [← hAe]; exact Or.inr h
  have hS : va_S A s.heap s.heap [] := va_S.rf
  have hP : va_P D vwCl (wW h (a 0) t0 l0 m0 ++ sW cI a σ ++ oW cO o0 fo) s.heap := hP
  have hl := lv_entry ([.ref h, .int x, .int y, .int z, .ref o0]) (n := 6) (Nat.le_of_ble_eq_true rfl)
  rw [lg_entry_eq]
  generalize (lg_sl ([.ref h, .int x, .int y, .int z, .ref o0]) ++ List.replicate (6 - (lg_sl ([.ref h, .int x, .int y, .int z, .ref o0])).length) Slot.unset).toArray = ls at hl ⊢
  have hl : lv_has ls 6 [(0, .ref h), (1, .int x), (2, .int y), (3, .int z), (4, .ref o0)] := hl
  refine lv_aload hx hb dL_effect_0 (lv_at hl 4 rfl) ?_
  refine lv_iconst (v := 0) hx hb dL_effect_2 (by decide) ?_
  refine lv_aload_n hx hb dL_effect_3 rfl (lv_at hl 0 rfl) ?_
  refine lv_iload_n hx hb dL_effect_4 rfl (lv_at hl 1 rfl) ?_
  refine lv_iload_n hx hb dL_effect_5 rfl (lv_at hl 2 rfl) ?_
  refine lv_iload_n hx hb dL_effect_6 rfl (lv_at hl 3 rfl) ?_
  have hFc := va_free (wc := wW h (a 0) t0 l0 m0 ++ sW cI a σ) hD hS hA [0, 1, 2, 3, 4, 5, 6] rfl
  refine vx_calli (vx_runV (As := [.int x, .int y, .int z]) (rest := [.int 0, .ref o0]) ⟨hx, hb, hml, hown, hts⟩ (c_X4_effect l hst D cI _ h t0 l0 m0 a σ x y z) (cwV 3 hts gL_effect_X4_effect rfl rfl rfl (by decide +kernel) ⟨Nat.le_of_ble_eq_true rfl, Nat.le_of_ble_eq_true rfl⟩) ⟨preX_blind, va_recv hK hP (ci := 4) (q0 := 0) rfl rfl, preX_of (hP.sub (ws' := wW h (a 0) t0 l0 m0 ++ sW cI a σ) [0, 1, 2, 3, 4, 5, 6] rfl) hK hXV (hD.sub (ws' := wW h (a 0) t0 l0 m0 ++ sW cI a σ) [0, 1, 2, 3, 4, 5, 6] (by decide) rfl) hTX hS hFc [.ref h, .int x, .int y, .int z]⟩ rfl rfl hl.1 rfl (lv_room (Nat.le_of_ble_eq_true rfl)) dL_effect_7 ⟨Nat.le_of_ble_eq_true rfl, Nat.le_of_ble_eq_true rfl⟩) hS (fun q _ h => hFc q h) hFc (fun q _ h => hFc q h) (fun E ce q9 u t9 H1 locs ht hvm hpx hBX hz1 hk1 hS hq9 hce hcl => ?_) (fun r u t9 H1 locs ht hvm hw hB hz1 hk1 hS => ?_)
  · obtain ⟨hEn, hP1, -, hD1⟩ := hBX
    rw [ht] at hP1
    obtain ⟨hP, hD⟩ := va_join (wr := oW cO o0 fo) (w1 := wW h (a 0) t0 l0 m0 ++ sW cI a σ) hP hD [0, 1, 2, 3, 4, 5, 6] [7] rfl rfl (by decide) (by decide) hk1 hFc hP1 hD1
    have hP9 := hP.sub (ws' := oW cO o0 fo) [0] rfl
    have hD9 := hD.sub (ws' := oW cO o0 fo) [0] (by decide) rfl
    have hle : effectT σ x y ≤ 2 := by unfold effectT; (repeat' split) <;> omega
    rcases thr2 hpx hle with hT | hT
    · rw [hT] at hEn
      have hEn : E = eI := hEn
      subst hEn
      refine vx_catch (name := "java/lang/IndexOutOfBoundsException") hown [] ⟨0, 12, 15, 19⟩ [⟨0, 12, 19, 13⟩] htab (fun z hz => nomatch hz) (by decide) (by decide) (hts (.classLink RL 19 "java/lang/IndexOutOfBoundsException") (by decide +kernel)) (va_Nw.use rfl hXV.2.2.2.2.1) hq9 hce hcl ?_
      refine lv_astore (lv' := [(5, .ref q9), (0, .ref h), (1, .int x), (2, .int y), (3, .int z), (4, .ref o0)]) hx hb dL_effect_15 hl (by decide) rfl (fun ls hl => ?_)
      refine lv_iconst (v := 1) hx hb dL_effect_17 (by decide) ?_
      exact W.iret (v := 1) hx hb hr (fun T9 ht hW => ⟨⟨1, fo, rfl, ⟨by rw [hT]; rfl, fun hz => absurd hz (by rw [hT]; decide)⟩, by rw [ht]; exact hP9, hD9⟩, hS.F ht⟩) hS.2.2 dL_effect_18
    · rw [hT] at hEn
      have hEn : E = eA := hEn
      subst hEn
      refine vx_catch (name := "java/lang/IllegalArgumentException") hown [⟨0, 12, 15, 19⟩] ⟨0, 12, 19, 13⟩ [] htab (fun z hz => by rw [List.mem_singleton.mp hz]; exact Or.inr ⟨by decide, _, (hts (.classLink RL 19 "java/lang/IndexOutOfBoundsException") (by decide +kernel)), hN.1⟩) (by decide) (by decide) (hts (.classLink RL 13 "java/lang/IllegalArgumentException") (by decide +kernel)) (va_Nw.use rfl hXV.2.2.1) hq9 hce hcl ?_
      refine lv_astore (lv' := [(5, .ref q9), (0, .ref h), (1, .int x), (2, .int y), (3, .int z), (4, .ref o0)]) hx hb dL_effect_19 hl (by decide) rfl (fun ls hl => ?_)
      refine lv_iconst (v := 2) hx hb dL_effect_21 (by decide) ?_
      exact W.iret (v := 2) hx hb hr (fun T9 ht hW => ⟨⟨2, fo, rfl, ⟨by rw [hT]; rfl, fun hz => absurd hz (by rw [hT]; decide)⟩, by rw [ht]; exact hP9, hD9⟩, hS.F ht⟩) hS.2.2 dL_effect_22
  · obtain ⟨hT, hR, -⟩ := hw
    obtain ⟨hP1, hK1, hD1⟩ := hB
    rw [ht] at hP1
    obtain ⟨hP, hD⟩ := va_join (wr := oW cO o0 fo) (w1 := wW h (a 0) t0 l0 m0 ++ sW cI a u) hP hD [0, 1, 2, 3, 4, 5, 6] [7] rfl rfl (by decide) (by decide) hk1 hFc hP1 hD1
    have hP := hP.sub (ws' := oW cO o0 fo) [0] rfl
    have hD := hD.sub (ws' := oW cO o0 fo) [0] (by decide) rfl
    generalize H1 = H at hP hS ⊢
    subst hR
    have hP : va_P D vwCl (oW cO o0 fo) H := hP
    have hD : va_D A (oW cO o0 fo) := hD
    refine lv_i2l (v := (effectF σ x y z).toInt64) hx hb dL_effect_10 rfl ?_
    refine va_last hx hb hK2 hP hD hS 0 1 rfl rfl (vp_in_nI (n := 0) (by decide) (by decide)) dL_effect_11 (fun H locs hP hD hS => ?_)
    have hP : va_P D vwCl (oW cO o0 (vp_updL fo (0 : Int32).toNatClampNeg ((effectF σ x y z).toInt64))) H := hP
    have hD : va_D A (oW cO o0 (vp_updL fo (0 : Int32).toNatClampNeg ((effectF σ x y z).toInt64))) := hD
    refine lv_goto (tgt := 23) hx hb dL_effect_12 (by decide) ?_
    refine lv_iconst (v := 0) hx hb dL_effect_23 (by decide) ?_
    have hP9 := hP
    have hD9 := hD
    exact W.iret (v := 0) hx hb hr (fun T9 ht hW => ⟨⟨0, (vp_updL fo (0 : Int32).toNatClampNeg ((effectF σ x y z).toInt64)), rfl, ⟨by rw [hT]; rfl, fun _ => rfl⟩, by rw [ht]; exact hP9, hD9⟩, hS.F ht⟩) hS.2.2 dL_effect_24

set_option maxHeartbeats 4000000 in
set_option maxRecDepth 100000 in
theorem c_L_follow_0 (l : Launch) (hst : l.stackTraces = false) (D : va_G) (cI cO : ClassId) (sz : Nat) (h t0 l0 m0 : Nat) (a : Nat → Nat) (σ : SS) (x : Int32) (o0 : Nat) (fo : Nat → Int64) (h0 : s_n σ = 0) : Met l yL_follow wsL_follow ({ frames := 7, cells := 1, slots := 6, locals := 111 } : Room) (va_Pc [.ref h, .int x, .ref o0] (preL D cI cO (wW h (a 0) t0 l0 m0 ++ sW cI a σ ++ oW cO o0 fo) sz)) (va_Qi (fun (r : Int32) (u : Nat → Int64) => r = nI (followT x) ∧ (followT x = 0 → u 0 = ((0 : Int32)).toInt64)) (fun (u : Nat → Int64) => posO D cO (va_A (wW h (a 0) t0 l0 m0 ++ sW cI a σ ++ oW cO o0 fo) sz) o0 u) (va_A (wW h (a 0) t0 l0 m0 ++ sW cI a σ ++ oW cO o0 fo) sz)) 1 6 (va_A (wW h (a 0) t0 l0 m0 ++ sW cI a σ ++ oW cO o0 fo) sz) := by
  refine va_MetW (cc := cL_follow) (maxL := 4) (ret := (some .int)) (hh := [(0, 9, 12, 13)]) (by decide) rfl ?_
  intro p e s m args below meth c s₁ B hml hv
  obtain ⟨rfl, hsz, hP, hK2, hXV, hD0, hTX, hN⟩ := hv
  have hK := K_1 hK2
  have hE := hXV.1
  have hx := B.exec
  have hb := B.bytes
  have hr := B.returns
  have hts := atoms_spec (ws := wsL_follow) B.pre
  have hown : s.vm.findClass RL = some m.cls := findClass_of_methodNamed B.named
  have hlocks := B.notSynchronized
  have htab : c.exceptionTable.toList = tableOf [(0, 9, 12, 13)] := vx_table (x := yL_follow) B (hts _ List.mem_cons_self)
  subst hsz
  have hD := hD0.self (sz := s.heap.size)
  generalize hAe : va_A (wW h (a 0) t0 l0 m0 ++ sW cI a σ ++ oW cO o0 fo) s.heap.size = A at hD hTX ⊢
  have hA : ∀ q : Nat, s.heap.size ≤ q → A q := fun q h => by rw [← hAe]; exact Or.inr h
  have hS : va_S A s.heap s.heap [] := va_S.rf
  have hP : va_P D vwCl (wW h (a 0) t0 l0 m0 ++ sW cI a σ ++ oW cO o0 fo) s.heap := hP
  have hl := lv_entry ([.ref h, .int x, .ref o0]) (n := 4) (Nat.le_of_ble_eq_true rfl)
  rw [lg_entry_eq]
  generalize (lg_sl ([.ref h, .int x, .ref o0]) ++ List.replicate (4 - (lg_sl ([.ref h, .int x, .ref o0])).length) Slot.unset).toArray = ls at hl ⊢
  have hl : lv_has ls 4 [(0, .ref h), (1, .int x), (2, .ref o0)] := hl
  refine lv_aload_n hx hb dL_follow_0 rfl (lv_at hl 2 rfl) ?_
  refine lv_iconst (v := 0) hx hb dL_follow_1 (by decide) ?_
  refine lv_aload_n hx hb dL_follow_2 rfl (lv_at hl 0 rfl) ?_
  refine lv_iload_n hx hb dL_follow_3 rfl (lv_at hl 1 rfl) ?_
  have hFc := va_free (wc := wW h (a 0) t0 l0 m0 ++ sW cI a σ) hD hS hA [0, 1, 2, 3, 4, 5, 6] rfl
  refine vx_calli (vx_runV (As := [.int x]) (rest := [.int 0, .ref o0]) ⟨hx, hb, hml, hown, hts⟩ (c_X4_follow_0 l hst D cI _ h t0 l0 m0 a σ x h0) (cwV 1 hts gL_follow_X4_follow rfl rfl rfl (by decide +kernel) ⟨Nat.le_of_ble_eq_true rfl, Nat.le_of_ble_eq_true rfl⟩) ⟨preX_blind, va_recv hK hP (ci := 4) (q0 := 0) rfl rfl, preX_of (hP.sub (ws' := wW h (a 0) t0 l0 m0 ++ sW cI a σ) [0, 1, 2, 3, 4, 5, 6] rfl) hK hXV (hD.sub (ws' := wW h (a 0) t0 l0 m0 ++ sW cI a σ) [0, 1, 2, 3, 4, 5, 6] (by decide) rfl) hTX hS hFc [.ref h, .int x]⟩ rfl rfl hl.1 rfl (lv_room (Nat.le_of_ble_eq_true rfl)) dL_follow_4 ⟨Nat.le_of_ble_eq_true rfl, Nat.le_of_ble_eq_true rfl⟩) hS (fun q _ h => hFc q h) hFc (fun q _ h => hFc q h) (fun E ce q9 u t9 H1 locs ht hvm hpx hBX hz1 hk1 hS hq9 hce hcl => ?_) (fun r u t9 H1 locs ht hvm hw hB hz1 hk1 hS => ?_)
  · obtain ⟨hEn, hP1, -, hD1⟩ := hBX
    rw [ht] at hP1
    obtain ⟨hP, hD⟩ := va_join (wr := oW cO o0 fo) (w1 := wW h (a 0) t0 l0 m0 ++ sW cI a σ) hP hD [0, 1, 2, 3, 4, 5, 6] [7] rfl rfl (by decide) (by decide) hk1 hFc hP1 hD1
    have hP9 := hP.sub (ws' := oW cO o0 fo) [0] rfl
    have hD9 := hD.sub (ws' := oW cO o0 fo) [0] (by decide) rfl
    have hle : followT x ≤ 1 := by unfold followT; (repeat' split) <;> omega
    have hT := thr1 hpx hle
    rw [hT] at hEn
    have hEn : E = eA := hEn
    subst hEn
    refine vx_catch (name := "java/lang/IllegalArgumentException") hown [] ⟨0, 9, 12, 13⟩ [] htab (fun z hz => nomatch hz) (by decide) (by decide) (hts (.classLink RL 13 "java/lang/IllegalArgumentException") (by decide +kernel)) (va_Nw.use rfl hXV.2.2.1) hq9 hce hcl ?_
    refine lv_astore_n (lv' := [(3, .ref q9), (0, .ref h), (1, .int x), (2, .ref o0)]) hx hb dL_follow_12 rfl hl (by decide) rfl (fun ls hl => ?_)
    refine lv_iconst (v := 1) hx hb dL_follow_13 (by decide) ?_
    exact W.iret (v := 1) hx hb hr (fun T9 ht hW => ⟨⟨1, fo, rfl, ⟨by rw [hT]; rfl, fun hz => absurd hz (by rw [hT]; decide)⟩, by rw [ht]; exact hP9, hD9⟩, hS.F ht⟩) hS.2.2 dL_follow_14
  · obtain ⟨hT, hR, -⟩ := hw
    obtain ⟨hP1, hK1, hD1⟩ := hB
    rw [ht] at hP1
    obtain ⟨hP, hD⟩ := va_join (wr := oW cO o0 fo) (w1 := wW h (a 0) t0 l0 m0 ++ sW cI a u) hP hD [0, 1, 2, 3, 4, 5, 6] [7] rfl rfl (by decide) (by decide) hk1 hFc hP1 hD1
    have hP := hP.sub (ws' := oW cO o0 fo) [0] rfl
    have hD := hD.sub (ws' := oW cO o0 fo) [0] (by decide) rfl
    generalize H1 = H at hP hS ⊢
    subst hR
    have hP : va_P D vwCl (oW cO o0 fo) H := hP
    have hD : va_D A (oW cO o0 fo) := hD
    refine lv_i2l (v := ((0 : Int32)).toInt64) hx hb dL_follow_7 rfl ?_
    refine va_last hx hb hK2 hP hD hS 0 1 rfl rfl (vp_in_nI (n := 0) (by decide) (by decide)) dL_follow_8 (fun H locs hP hD hS => ?_)
    have hP : va_P D vwCl (oW cO o0 (vp_updL fo (0 : Int32).toNatClampNeg (((0 : Int32)).toInt64))) H := hP
    have hD : va_D A (oW cO o0 (vp_updL fo (0 : Int32).toNatClampNeg (((0 : Int32)).toInt64))) := hD
    refine lv_goto (tgt := 15) hx hb dL_follow_9 (by decide) ?_
    refine lv_iconst (v := 0) hx hb dL_follow_15 (by decide) ?_
    have hP9 := hP
    have hD9 := hD
    exact W.iret (v := 0) hx hb hr (fun T9 ht hW => ⟨⟨0, (vp_updL fo (0 : Int32).toNatClampNeg (((0 : Int32)).toInt64)), rfl, ⟨by rw [hT]; rfl, fun _ => rfl⟩, by rw [ht]; exact hP9, hD9⟩, hS.F ht⟩) hS.2.2 dL_follow_16

set_option maxHeartbeats 4000000 in
set_option maxRecDepth 100000 in
theorem c_L_hit (l : Launch) (hst : l.stackTraces = false) (D : va_G) (cI cO : ClassId) (sz : Nat) (h t0 l0 m0 : Nat) (a : Nat → Nat) (σ : SS) (x y : Int32) (o0 : Nat) (fo : Nat → Int64) : Met l yL_hit wsL_hit ({ frames := 7, cells := 1, slots := 6, locals := 104 } : Room) (va_Pc [.ref h, .int x, .int y, .ref o0] (preL D cI cO (wW h (a 0) t0 l0 m0 ++ sW cI a σ ++ oW cO o0 fo) sz)) (va_Qi (fun (r : Int32) (u : Nat → Int64) => r = nI (hitT σ x y) ∧ (hitT σ x y = 0 → u 0 = (hitF σ x y).toInt64)) (fun (u : Nat → Int64) => posO D cO (va_A (wW h (a 0) t0 l0 m0 ++ sW cI a σ ++ oW cO o0 fo) sz) o0 u) (va_A (wW h (a 0) t0 l0 m0 ++ sW cI a σ ++ oW cO o0 fo) sz)) 1 6 (va_A (wW h (a 0) t0 l0 m0 ++ sW cI a σ ++ oW cO o0 fo) sz) := by
  refine va_MetW (cc := cL_hit) (maxL := 5) (ret := (some .int)) (hh := [(0, 10, 13, 19)]) (by decide) rfl ?_
  intro p e s m args below meth c s₁ B hml hv
  obtain ⟨rfl, hsz, hP, hK2, hXV, hD0, hTX, hN⟩ := hv
  have hK := K_1 hK2
  have hE := hXV.1
  have hx := B.exec
  have hb := B.bytes
  have hr := B.returns
  have hts := atoms_spec (ws := wsL_hit) B.pre
  have hown : s.vm.findClass RL = some m.cls := findClass_of_methodNamed B.named
  have hlocks := B.notSynchronized
  have htab : c.exceptionTable.toList = tableOf [(0, 10, 13, 19)] := vx_table (x := yL_hit) B (hts _ List.mem_cons_self)
  subst hsz
  have hD := hD0.self (sz := s.heap.size)
  generalize hAe : va_A (wW h (a 0) t0 l0 m0 ++ sW cI a σ ++ oW cO o0 fo) s.heap.size = A at hD hTX ⊢
  have hA : ∀ q : Nat, s.heap.size ≤ q → A q := fun q h => by rw [← hAe]; exact Or.inr h
  have hS : va_S A s.heap s.heap [] := va_S.rf
  have hP : va_P D vwCl (wW h (a 0) t0 l0 m0 ++ sW cI a σ ++ oW cO o0 fo) s.heap := hP
  have hl := lv_entry ([.ref h, .int x, .int y, .ref o0]) (n := 5) (Nat.le_of_ble_eq_true rfl)
  rw [lg_entry_eq]
  generalize (lg_sl ([.ref h, .int x, .int y, .ref o0]) ++ List.replicate (5 - (lg_sl ([.ref h, .int x, .int y, .ref o0])).length) Slot.unset).toArray = ls at hl ⊢
  have hl : lv_has ls 5 [(0, .ref h), (1, .int x), (2, .int y), (3, .ref o0)] := hl
  refine lv_aload_n hx hb dL_hit_0 rfl (lv_at hl 3 rfl) ?_
  refine lv_iconst (v := 0) hx hb dL_hit_1 (by decide) ?_
  refine lv_aload_n hx hb dL_hit_2 rfl (lv_at hl 0 rfl) ?_
  refine lv_iload_n hx hb dL_hit_3 rfl (lv_at hl 1 rfl) ?_
  refine lv_iload_n hx hb dL_hit_4 rfl (lv_at hl 2 rfl) ?_
  have hFc := va_free (wc := wW h (a 0) t0 l0 m0 ++ sW cI a σ) hD hS hA [0, 1, 2, 3, 4, 5, 6] rfl
  refine vx_calli (vx_runV (As := [.int x, .int y]) (rest := [.int 0, .ref o0]) ⟨hx, hb, hml, hown, hts⟩ (c_X4_hit l hst D cI _ h t0 l0 m0 a σ x y) (cwV 2 hts gL_hit_X4_hit rfl rfl rfl (by decide +kernel) ⟨Nat.le_of_ble_eq_true rfl, Nat.le_of_ble_eq_true rfl⟩) ⟨preX_blind, va_recv hK hP (ci := 4) (q0 := 0) rfl rfl, preX_of (hP.sub (ws' := wW h (a 0) t0 l0 m0 ++ sW cI a σ) [0, 1, 2, 3, 4, 5, 6] rfl) hK hXV (hD.sub (ws' := wW h (a 0) t0 l0 m0 ++ sW cI a σ) [0, 1, 2, 3, 4, 5, 6] (by decide) rfl) hTX hS hFc [.ref h, .int x, .int y]⟩ rfl rfl hl.1 rfl (lv_room (Nat.le_of_ble_eq_true rfl)) dL_hit_5 ⟨Nat.le_of_ble_eq_true rfl, Nat.le_of_ble_eq_true rfl⟩) hS (fun q _ h => hFc q h) hFc (fun q _ h => hFc q h) (fun E ce q9 u t9 H1 locs ht hvm hpx hBX hz1 hk1 hS hq9 hce hcl => ?_) (fun r u t9 H1 locs ht hvm hw hB hz1 hk1 hS => ?_)
  · obtain ⟨hEn, hP1, -, hD1⟩ := hBX
    rw [ht] at hP1
    obtain ⟨hP, hD⟩ := va_join (wr := oW cO o0 fo) (w1 := wW h (a 0) t0 l0 m0 ++ sW cI a σ) hP hD [0, 1, 2, 3, 4, 5, 6] [7] rfl rfl (by decide) (by decide) hk1 hFc hP1 hD1
    have hP9 := hP.sub (ws' := oW cO o0 fo) [0] rfl
    have hD9 := hD.sub (ws' := oW cO o0 fo) [0] (by decide) rfl
    have hle : hitT σ x y ≤ 1 := by unfold hitT; (repeat' split) <;> omega
    have hT := thr1 hpx hle
    rw [hT] at hEn
    have hEn : E = eI := hEn
    subst hEn
    refine vx_catch (name := "java/lang/IndexOutOfBoundsException") hown [] ⟨0, 10, 13, 19⟩ [] htab (fun z hz => nomatch hz) (by decide) (by decide) (hts (.classLink RL 19 "java/lang/IndexOutOfBoundsException") (by decide +kernel)) (va_Nw.use rfl hXV.2.2.2.2.1) hq9 hce hcl ?_
    refine lv_astore (lv' := [(4, .ref q9), (0, .ref h), (1, .int x), (2, .int y), (3, .ref o0)]) hx hb dL_hit_13 hl (by decide) rfl (fun ls hl => ?_)
    refine lv_iconst (v := 1) hx hb dL_hit_15 (by decide) ?_
    exact W.iret (v := 1) hx hb hr (fun T9 ht hW => ⟨⟨1, fo, rfl, ⟨by rw [hT]; rfl, fun hz => absurd hz (by rw [hT]; decide)⟩, by rw [ht]; exact hP9, hD9⟩, hS.F ht⟩) hS.2.2 dL_hit_16
  · obtain ⟨hT, hR, -⟩ := hw
    obtain ⟨hP1, hK1, hD1⟩ := hB
    rw [ht] at hP1
    obtain ⟨hP, hD⟩ := va_join (wr := oW cO o0 fo) (w1 := wW h (a 0) t0 l0 m0 ++ sW cI a u) hP hD [0, 1, 2, 3, 4, 5, 6] [7] rfl rfl (by decide) (by decide) hk1 hFc hP1 hD1
    have hP := hP.sub (ws' := oW cO o0 fo) [0] rfl
    have hD := hD.sub (ws' := oW cO o0 fo) [0] (by decide) rfl
    generalize H1 = H at hP hS ⊢
    subst hR
    have hP : va_P D vwCl (oW cO o0 fo) H := hP
    have hD : va_D A (oW cO o0 fo) := hD
    refine lv_i2l (v := (hitF σ x y).toInt64) hx hb dL_hit_8 rfl ?_
    refine va_last hx hb hK2 hP hD hS 0 1 rfl rfl (vp_in_nI (n := 0) (by decide) (by decide)) dL_hit_9 (fun H locs hP hD hS => ?_)
    have hP : va_P D vwCl (oW cO o0 (vp_updL fo (0 : Int32).toNatClampNeg ((hitF σ x y).toInt64))) H := hP
    have hD : va_D A (oW cO o0 (vp_updL fo (0 : Int32).toNatClampNeg ((hitF σ x y).toInt64))) := hD
    refine lv_goto (tgt := 17) hx hb dL_hit_10 (by decide) ?_
    refine lv_iconst (v := 0) hx hb dL_hit_17 (by decide) ?_
    have hP9 := hP
    have hD9 := hD
    exact W.iret (v := 0) hx hb hr (fun T9 ht hW => ⟨⟨0, (vp_updL fo (0 : Int32).toNatClampNeg ((hitF σ x y).toInt64)), rfl, ⟨by rw [hT]; rfl, fun _ => rfl⟩, by rw [ht]; exact hP9, hD9⟩, hS.F ht⟩) hS.2.2 dL_hit_18

set_option maxHeartbeats 4000000 in
set_option maxRecDepth 100000 in
theorem c_L_knows (l : Launch) (hst : l.stackTraces = false) (D : va_G) (cI cO : ClassId) (sz : Nat) (h t0 l0 m0 : Nat) (a : Nat → Nat) (σ : SS) (x y : Int32) (o0 : Nat) (fo : Nat → Int64) : Met l yL_knows wsL_knows ({ frames := 7, cells := 1, slots := 6, locals := 104 } : Room) (va_Pc [.ref h, .int x, .int y, .ref o0] (preL D cI cO (wW h (a 0) t0 l0 m0 ++ sW cI a σ ++ oW cO o0 fo) sz)) (va_Qi (fun (r : Int32) (u : Nat → Int64) => r = nI (knowsT x y) ∧ (knowsT x y = 0 → u 0 = (if knownB σ x y = true then (1 : Int64) else 0))) (fun (u : Nat → Int64) => posO D cO (va_A (wW h (a 0) t0 l0 m0 ++ sW cI a σ ++ oW cO o0 fo) sz) o0 u) (va_A (wW h (a 0) t0 l0 m0 ++ sW cI a σ ++ oW cO o0 fo) sz)) 1 6 (va_A (wW h (a 0) t0 l0 m0 ++ sW cI a σ ++ oW cO o0 fo) sz) := by
  refine va_MetW (cc := cL_knows) (maxL := 5) (ret := (some .int)) (hh := [(0, 17, 20, 13), (0, 17, 24, 19)]) (by decide) rfl ?_
  intro p e s m args below meth c s₁ B hml hv
  obtain ⟨rfl, hsz, hP, hK2, hXV, hD0, hTX, hN⟩ := hv
  have hK := K_1 hK2
  have hE := hXV.1
  have hx := B.exec
  have hb := B.bytes
  have hr := B.returns
  have hts := atoms_spec (ws := wsL_knows) B.pre
  have hown : s.vm.findClass RL = some m.cls := findClass_of_methodNamed B.named
  have hlocks := B.notSynchronized
  have htab : c.exceptionTable.toList = tableOf [(0, 17, 20, 13), (0, 17, 24, 19)] := vx_table (x := yL_knows) B (hts _ List.mem_cons_self)
  subst hsz
  have hD := hD0.self (sz := s.heap.size)
  generalize hAe : va_A (wW h (a 0) t0 l0 m0 ++ sW cI a σ ++ oW cO o0 fo) s.heap.size = A at hD hTX ⊢
  have hA : ∀ q : Nat, s.heap.size ≤ q → A q := fun q h => by rw [← hAe]; exact Or.inr h
  have hS : va_S A s.heap s.heap [] := va_S.rf
  have hP : va_P D vwCl (wW h (a 0) t0 l0 m0 ++ sW cI a σ ++ oW cO o0 fo) s.heap := hP
  have hl := lv_entry ([.ref h, .int x, .int y, .ref o0]) (n := 5) (Nat.le_of_ble_eq_true rfl)
  rw [lg_entry_eq]
  generalize (lg_sl ([.ref h, .int x, .int y, .ref o0]) ++ List.replicate (5 - (lg_sl ([.ref h, .int x, .int y, .ref o0])).length) Slot.unset).toArray = ls at hl ⊢
  have hl : lv_has ls 5 [(0, .ref h), (1, .int x), (2, .int y), (3, .ref o0)] := hl
  refine lv_aload_n hx hb dL_knows_0 rfl (lv_at hl 3 rfl) ?_
  refine lv_iconst (v := 0) hx hb dL_knows_1 (by decide) ?_
  refine lv_aload_n hx hb dL_knows_2 rfl (lv_at hl 0 rfl) ?_
  refine lv_iload_n hx hb dL_knows_3 rfl (lv_at hl 1 rfl) ?_
  refine lv_iload_n hx hb dL_knows_4 rfl (lv_at hl 2 rfl) ?_
  have hFc := va_free (wc := wW h (a 0) t0 l0 m0 ++ sW cI a σ) hD hS hA [0, 1, 2, 3, 4, 5, 6] rfl
  refine vx_calli (vx_runV (As := [.int x, .int y]) (rest := [.int 0, .ref o0]) ⟨hx, hb, hml, hown, hts⟩ (c_X4_knows l hst D cI _ h t0 l0 m0 a σ x y) (cwV 2 hts gL_knows_X4_knows rfl rfl rfl (by decide +kernel) ⟨Nat.le_of_ble_eq_true rfl, Nat.le_of_ble_eq_true rfl⟩) ⟨preX_blind, va_recv hK hP (ci := 4) (q0 := 0) rfl rfl, preX_of (hP.sub (ws' := wW h (a 0) t0 l0 m0 ++ sW cI a σ) [0, 1, 2, 3, 4, 5, 6] rfl) hK hXV (hD.sub (ws' := wW h (a 0) t0 l0 m0 ++ sW cI a σ) [0, 1, 2, 3, 4, 5, 6] (by decide) rfl) hTX hS hFc [.ref h, .int x, .int y]⟩ rfl rfl hl.1 rfl (lv_room (Nat.le_of_ble_eq_true rfl)) dL_knows_5 ⟨Nat.le_of_ble_eq_true rfl, Nat.le_of_ble_eq_true rfl⟩) hS (fun q _ h => hFc q h) hFc (fun q _ h => hFc q h) (fun E ce q9 u t9 H1 locs ht hvm hpx hBX hz1 hk1 hS hq9 hce hcl => ?_) (fun r u t9 H1 locs ht hvm hw hB hz1 hk1 hS => ?_)
  · obtain ⟨hEn, hP1, -, hD1⟩ := hBX
    rw [ht] at hP1
    obtain ⟨hP, hD⟩ := va_join (wr := oW cO o0 fo) (w1 := wW h (a 0) t0 l0 m0 ++ sW cI a σ) hP hD [0, 1, 2, 3, 4, 5, 6] [7] rfl rfl (by decide) (by decide) hk1 hFc hP1 hD1
    have hP9 := hP.sub (ws' := oW cO o0 fo) [0] rfl
    have hD9 := hD.sub (ws' := oW cO o0 fo) [0] (by decide) rfl
    have hle : knowsT x y ≤ 2 := by unfold knowsT; (repeat' split) <;> omega
    rcases thr2 hpx hle with hT | hT
    · rw [hT] at hEn
      have hEn : E = eA := hEn
      subst hEn
      refine vx_catch (name := "java/lang/IllegalArgumentException") hown [] ⟨0, 17, 20, 13⟩ [⟨0, 17, 24, 19⟩] htab (fun z hz => nomatch hz) (by decide) (by decide) (hts (.classLink RL 13 "java/lang/IllegalArgumentException") (by decide +kernel)) (va_Nw.use rfl hXV.2.2.1) hq9 hce hcl ?_
      refine lv_astore (lv' := [(4, .ref q9), (0, .ref h), (1, .int x), (2, .int y), (3, .ref o0)]) hx hb dL_knows_20 hl (by decide) rfl (fun ls hl => ?_)
      refine lv_iconst (v := 1) hx hb dL_knows_22 (by decide) ?_
      exact W.iret (v := 1) hx hb hr (fun T9 ht hW => ⟨⟨1, fo, rfl, ⟨by rw [hT]; rfl, fun hz => absurd hz (by rw [hT]; decide)⟩, by rw [ht]; exact hP9, hD9⟩, hS.F ht⟩) hS.2.2 dL_knows_23
    · rw [hT] at hEn
      have hEn : E = eI := hEn
      subst hEn
      refine vx_catch (name := "java/lang/IndexOutOfBoundsException") hown [⟨0, 17, 20, 13⟩] ⟨0, 17, 24, 19⟩ [] htab (fun z hz => by rw [List.mem_singleton.mp hz]; exact Or.inr ⟨by decide, _, (hts (.classLink RL 13 "java/lang/IllegalArgumentException") (by decide +kernel)), hN.2.2.2⟩) (by decide) (by decide) (hts (.classLink RL 19 "java/lang/IndexOutOfBoundsException") (by decide +kernel)) (va_Nw.use rfl hXV.2.2.2.2.1) hq9 hce hcl ?_
      refine lv_astore (lv' := [(4, .ref q9), (0, .ref h), (1, .int x), (2, .int y), (3, .ref o0)]) hx hb dL_knows_24 hl (by decide) rfl (fun ls hl => ?_)
      refine lv_iconst (v := 2) hx hb dL_knows_26 (by decide) ?_
      exact W.iret (v := 2) hx hb hr (fun T9 ht hW => ⟨⟨2, fo, rfl, ⟨by rw [hT]; rfl, fun hz => absurd hz (by rw [hT]; decide)⟩, by rw [ht]; exact hP9, hD9⟩, hS.F ht⟩) hS.2.2 dL_knows_27
  · obtain ⟨hT, hR, -⟩ := hw
    obtain ⟨hP1, hK1, hD1⟩ := hB
    rw [ht] at hP1
    obtain ⟨hP, hD⟩ := va_join (wr := oW cO o0 fo) (w1 := wW h (a 0) t0 l0 m0 ++ sW cI a u) hP hD [0, 1, 2, 3, 4, 5, 6] [7] rfl rfl (by decide) (by decide) hk1 hFc hP1 hD1
    have hP := hP.sub (ws' := oW cO o0 fo) [0] rfl
    have hD := hD.sub (ws' := oW cO o0 fo) [0] (by decide) rfl
    generalize H1 = H at hP hS ⊢
    subst hR
    have hP : va_P D vwCl (oW cO o0 fo) H := hP
    have hD : va_D A (oW cO o0 fo) := hD
    refine w_bz (tgt := 15) hx hb dL_knows_8 (by decide) (fun c_8 => ?_) (fun c_8 => ?_)
    · refine lv_lconst (v := 0) hx hb dL_knows_15 (by decide) ?_
      refine va_last hx hb hK2 hP hD hS 0 1 rfl rfl (vp_in_nI (n := 0) (by decide) (by decide)) dL_knows_16 (fun H locs hP hD hS => ?_)
      have hP : va_P D vwCl (oW cO o0 (vp_updL fo (0 : Int32).toNatClampNeg 0)) H := hP
      have hD : va_D A (oW cO o0 (vp_updL fo (0 : Int32).toNatClampNeg 0)) := hD
      refine lv_goto (tgt := 28) hx hb dL_knows_17 (by decide) ?_
      refine lv_iconst (v := 0) hx hb dL_knows_28 (by decide) ?_
      have hP9 := hP
      have hD9 := hD
      exact W.iret (v := 0) hx hb hr (fun T9 ht hW => ⟨⟨0, (vp_updL fo (0 : Int32).toNatClampNeg 0), rfl, ⟨by rw [hT]; rfl, fun _ => by rw [c_8]; rfl⟩, by rw [ht]; exact hP9, hD9⟩, hS.F ht⟩) hS.2.2 dL_knows_29
    · refine lv_lconst (v := 1) hx hb dL_knows_11 (by decide) ?_
      refine lv_goto (tgt := 16) hx hb dL_knows_12 (by decide) ?_
      refine va_last hx hb hK2 hP hD hS 0 1 rfl rfl (vp_in_nI (n := 0) (by decide) (by decide)) dL_knows_16 (fun H locs hP hD hS => ?_)
      have hP : va_P D vwCl (oW cO o0 (vp_updL fo (0 : Int32).toNatClampNeg 1)) H := hP
      have hD : va_D A (oW cO o0 (vp_updL fo (0 : Int32).toNatClampNeg 1)) := hD
      refine lv_goto (tgt := 28) hx hb dL_knows_17 (by decide) ?_
      refine lv_iconst (v := 0) hx hb dL_knows_28 (by decide) ?_
      have hP9 := hP
      have hD9 := hD
      exact W.iret (v := 0) hx hb hr (fun T9 ht hW => ⟨⟨0, (vp_updL fo (0 : Int32).toNatClampNeg 1), rfl, ⟨by rw [hT]; rfl, fun _ => by rw [c_8]; rfl⟩, by rw [ht]; exact hP9, hD9⟩, hS.F ht⟩) hS.2.2 dL_knows_29

set_option maxHeartbeats 4000000 in
set_option maxRecDepth 100000 in
theorem c_L_lay (l : Launch) (hst : l.stackTraces = false) (D : va_G) (cI cO : ClassId) (sz : Nat) (h t0 l0 m0 : Nat) (a : Nat → Nat) (σ : SS) (x y z v : Int32) (o0 : Nat) (fo : Nat → Int64) : Met l yL_lay wsL_lay ({ frames := 7, cells := 1, slots := 6, locals := 106 } : Room) (va_Pc [.ref h, .int x, .int y, .int z, .int v, .ref o0] (preL D cI cO (wW h (a 0) t0 l0 m0 ++ sW cI a σ ++ oW cO o0 fo) sz)) (va_Qi (fun (r : Int32) (u : Nat → Int64) => r = nI (layT σ x y z v) ∧ (layT σ x y z v = 0 → u 0 = (stackF (addEffectF σ x y z v) x y).toInt64)) (fun (u : Nat → Int64) => posO D cO (va_A (wW h (a 0) t0 l0 m0 ++ sW cI a σ ++ oW cO o0 fo) sz) o0 u) (va_A (wW h (a 0) t0 l0 m0 ++ sW cI a σ ++ oW cO o0 fo) sz)) 1 6 (va_A (wW h (a 0) t0 l0 m0 ++ sW cI a σ ++ oW cO o0 fo) sz) := by
  refine va_MetW (cc := cL_lay) (maxL := 7) (ret := (some .int)) (hh := [(0, 14, 17, 19), (0, 14, 21, 13), (0, 14, 25, 21)]) (by decide) rfl ?_
  intro p e s m args below meth c s₁ B hml hv
  obtain ⟨rfl, hsz, hP, hK2, hXV, hD0, hTX, hN⟩ := hv
  have hK := K_1 hK2
  have hE := hXV.1
  have hx := B.exec
  have hb := B.bytes
  have hr := B.returns
  have hts := atoms_spec (ws := wsL_lay) B.pre
  have hown : s.vm.findClass RL = some m.cls := findClass_of_methodNamed B.named
  have hlocks := B.notSynchronized
  have htab : c.exceptionTable.toList = tableOf [(0, 14, 17, 19), (0, 14, 21, 13), (0, 14, 25, 21)] := vx_table (x := yL_lay) B (hts _ List.mem_cons_self)
  subst hsz
  have hD := hD0.self (sz := s.heap.size)
  generalize hAe : va_A (wW h (a 0) t0 l0 m0 ++ sW cI a σ ++ oW cO o0 fo) s.heap.size = A at hD hTX ⊢
  have hA : ∀ q : Nat, s.heap.size ≤ q → A q := fun q h => by rw [← hAe]; exact Or.inr h
  have hS : va_S A s.heap s.heap [] := va_S.rf
  have hP : va_P D vwCl (wW h (a 0) t0 l0 m0 ++ sW cI a σ ++ oW cO o0 fo) s.heap := hP
  have hl := lv_entry ([.ref h, .int x, .int y, .int z, .int v, .ref o0]) (n := 7) (Nat.le_of_ble_eq_true rfl)
  rw [lg_entry_eq]
  generalize (lg_sl ([.ref h, .int x, .int y, .int z, .int v, .ref o0]) ++ List.replicate (7 - (lg_sl ([.ref h, .int x, .int y, .int z, .int v, .ref o0])).length) Slot.unset).toArray = ls at hl ⊢
  have hl : lv_has ls 7 [(0, .ref h), (1, .int x), (2, .int y), (3, .int z), (4, .int v), (5, .ref o0)] := hl
  refine lv_aload hx hb dL_lay_0 (lv_at hl 5 rfl) ?_
  refine lv_iconst (v := 0) hx hb dL_lay_2 (by decide) ?_
  refine lv_aload_n hx hb dL_lay_3 rfl (lv_at hl 0 rfl) ?_
  refine lv_iload_n hx hb dL_lay_4 rfl (lv_at hl 1 rfl) ?_
  refine lv_iload_n hx hb dL_lay_5 rfl (lv_at hl 2 rfl) ?_
  refine lv_iload_n hx hb dL_lay_6 rfl (lv_at hl 3 rfl) ?_
  refine lv_iload hx hb dL_lay_7 (lv_at hl 4 rfl) ?_
  have hFc := va_free (wc := wW h (a 0) t0 l0 m0 ++ sW cI a σ) hD hS hA [0, 1, 2, 3, 4, 5, 6] rfl
  refine vx_calli (vx_runV (As := [.int x, .int y, .int z, .int v]) (rest := [.int 0, .ref o0]) ⟨hx, hb, hml, hown, hts⟩ (c_X4_lay l hst D cI _ h t0 l0 m0 a σ x y z v) (cwV 4 hts gL_lay_X4_lay rfl rfl rfl (by decide +kernel) ⟨Nat.le_of_ble_eq_true rfl, Nat.le_of_ble_eq_true rfl⟩) ⟨preX_blind, va_recv hK hP (ci := 4) (q0 := 0) rfl rfl, preX_of (hP.sub (ws' := wW h (a 0) t0 l0 m0 ++ sW cI a σ) [0, 1, 2, 3, 4, 5, 6] rfl) hK hXV (hD.sub (ws' := wW h (a 0) t0 l0 m0 ++ sW cI a σ) [0, 1, 2, 3, 4, 5, 6] (by decide) rfl) hTX hS hFc [.ref h, .int x, .int y, .int z, .int v]⟩ rfl rfl hl.1 rfl (lv_room (Nat.le_of_ble_eq_true rfl)) dL_lay_9 ⟨Nat.le_of_ble_eq_true rfl, Nat.le_of_ble_eq_true rfl⟩) hS (fun q _ h => hFc q h) hFc (fun q _ h => hFc q h) (fun E ce q9 u t9 H1 locs ht hvm hpx hBX hz1 hk1 hS hq9 hce hcl => ?_) (fun r u t9 H1 locs ht hvm hw hB hz1 hk1 hS => ?_)
  · obtain ⟨hEn, hP1, -, hD1⟩ := hBX
    rw [ht] at hP1
    obtain ⟨hP, hD⟩ := va_join (wr := oW cO o0 fo) (w1 := wW h (a 0) t0 l0 m0 ++ sW cI a σ) hP hD [0, 1, 2, 3, 4, 5, 6] [7] rfl rfl (by decide) (by decide) hk1 hFc hP1 hD1
    have hP9 := hP.sub (ws' := oW cO o0 fo) [0] rfl
    have hD9 := hD.sub (ws' := oW cO o0 fo) [0] (by decide) rfl
    have hle : layT σ x y z v ≤ 3 := by unfold layT; (repeat' split) <;> omega
    rcases thr3 hpx hle with hT | hT | hT
    · rw [hT] at hEn
      have hEn : E = eI := hEn
      subst hEn
      refine vx_catch (name := "java/lang/IndexOutOfBoundsException") hown [] ⟨0, 14, 17, 19⟩ [⟨0, 14, 21, 13⟩, ⟨0, 14, 25, 21⟩] htab (fun z hz => nomatch hz) (by decide) (by decide) (hts (.classLink RL 19 "java/lang/IndexOutOfBoundsException") (by decide +kernel)) (va_Nw.use rfl hXV.2.2.2.2.1) hq9 hce hcl ?_
      refine lv_astore (lv' := [(6, .ref q9), (0, .ref h), (1, .int x), (2, .int y), (3, .int z), (4, .int v), (5, .ref o0)]) hx hb dL_lay_17 hl (by decide) rfl (fun ls hl => ?_)
      refine lv_iconst (v := 1) hx hb dL_lay_19 (by decide) ?_
      exact W.iret (v := 1) hx hb hr (fun T9 ht hW => ⟨⟨1, fo, rfl, ⟨by rw [hT]; rfl, fun hz => absurd hz (by rw [hT]; decide)⟩, by rw [ht]; exact hP9, hD9⟩, hS.F ht⟩) hS.2.2 dL_lay_20
    · rw [hT] at hEn
      have hEn : E = eA := hEn
      subst hEn
      refine vx_catch (name := "java/lang/IllegalArgumentException") hown [⟨0, 14, 17, 19⟩] ⟨0, 14, 21, 13⟩ [⟨0, 14, 25, 21⟩] htab (fun z hz => by rw [List.mem_singleton.mp hz]; exact Or.inr ⟨by decide, _, (hts (.classLink RL 19 "java/lang/IndexOutOfBoundsException") (by decide +kernel)), hN.1⟩) (by decide) (by decide) (hts (.classLink RL 13 "java/lang/IllegalArgumentException") (by decide +kernel)) (va_Nw.use rfl hXV.2.2.1) hq9 hce hcl ?_
      refine lv_astore (lv' := [(6, .ref q9), (0, .ref h), (1, .int x), (2, .int y), (3, .int z), (4, .int v), (5, .ref o0)]) hx hb dL_lay_21 hl (by decide) rfl (fun ls hl => ?_)
      refine lv_iconst (v := 2) hx hb dL_lay_23 (by decide) ?_
      exact W.iret (v := 2) hx hb hr (fun T9 ht hW => ⟨⟨2, fo, rfl, ⟨by rw [hT]; rfl, fun hz => absurd hz (by rw [hT]; decide)⟩, by rw [ht]; exact hP9, hD9⟩, hS.F ht⟩) hS.2.2 dL_lay_24
    · rw [hT] at hEn
      have hEn : E = eS := hEn
      subst hEn
      refine vx_catch (name := "java/lang/IllegalStateException") hown [⟨0, 14, 17, 19⟩, ⟨0, 14, 21, 13⟩] ⟨0, 14, 25, 21⟩ [] htab (fun z hz => by rcases List.mem_cons.mp hz with rfl | hz; exact Or.inr ⟨by decide, _, (hts (.classLink RL 19 "java/lang/IndexOutOfBoundsException") (by decide +kernel)), hN.2.1⟩; rw [List.mem_singleton.mp hz]; exact Or.inr ⟨by decide, _, (hts (.classLink RL 13 "java/lang/IllegalArgumentException") (by decide +kernel)), hN.2.2.1⟩) (by decide) (by decide) (hts (.classLink RL 21 "java/lang/IllegalStateException") (by decide +kernel)) (va_Nw.use rfl hXV.2.2.2.1) hq9 hce hcl ?_
      refine lv_astore (lv' := [(6, .ref q9), (0, .ref h), (1, .int x), (2, .int y), (3, .int z), (4, .int v), (5, .ref o0)]) hx hb dL_lay_25 hl (by decide) rfl (fun ls hl => ?_)
      refine lv_iconst (v := 3) hx hb dL_lay_27 (by decide) ?_
      exact W.iret (v := 3) hx hb hr (fun T9 ht hW => ⟨⟨3, fo, rfl, ⟨by rw [hT]; rfl, fun hz => absurd hz (by rw [hT]; decide)⟩, by rw [ht]; exact hP9, hD9⟩, hS.F ht⟩) hS.2.2 dL_lay_28
  · obtain ⟨hT, hR, -⟩ := hw
    obtain ⟨hP1, hK1, hD1⟩ := hB
    rw [ht] at hP1
    obtain ⟨hP, hD⟩ := va_join (wr := oW cO o0 fo) (w1 := wW h (a 0) t0 l0 m0 ++ sW cI a u) hP hD [0, 1, 2, 3, 4, 5, 6] [7] rfl rfl (by decide) (by decide) hk1 hFc hP1 hD1
    have hP := hP.sub (ws' := oW cO o0 fo) [0] rfl
    have hD := hD.sub (ws' := oW cO o0 fo) [0] (by decide) rfl
    generalize H1 = H at hP hS ⊢
    subst hR
    have hP : va_P D vwCl (oW cO o0 fo) H := hP
    have hD : va_D A (oW cO o0 fo) := hD
    refine lv_i2l (v := (stackF (addEffectF σ x y z v) x y).toInt64) hx hb dL_lay_12 rfl ?_
    refine va_last hx hb hK2 hP hD hS 0 1 rfl rfl (vp_in_nI (n := 0) (by decide) (by decide)) dL_lay_13 (fun H locs hP hD hS => ?_)
    have hP : va_P D vwCl (oW cO o0 (vp_updL fo (0 : Int32).toNatClampNeg ((stackF (addEffectF σ x y z v) x y).toInt64))) H := hP
    have hD : va_D A (oW cO o0 (vp_updL fo (0 : Int32).toNatClampNeg ((stackF (addEffectF σ x y z v) x y).toInt64))) := hD
    refine lv_goto (tgt := 29) hx hb dL_lay_14 (by decide) ?_
    refine lv_iconst (v := 0) hx hb dL_lay_29 (by decide) ?_
    have hP9 := hP
    have hD9 := hD
    exact W.iret (v := 0) hx hb hr (fun T9 ht hW => ⟨⟨0, (vp_updL fo (0 : Int32).toNatClampNeg ((stackF (addEffectF σ x y z v) x y).toInt64)), rfl, ⟨by rw [hT]; rfl, fun _ => rfl⟩, by rw [ht]; exact hP9, hD9⟩, hS.F ht⟩) hS.2.2 dL_lay_30

set_option maxHeartbeats 4000000 in
set_option maxRecDepth 100000 in
theorem c_L_load_0 (l : Launch) (hst : l.stackTraces = false) (D : va_G) (cI cO : ClassId) (sz : Nat) (h t0 l0 m0 : Nat) (a : Nat → Nat) (σ : SS) (mc : Int32) (e0 : Nat) (x : Int32) (o0 : Nat) (fo : Nat → Int64) : Met l yL_load wsL_load ({ frames := 7, cells := 1, slots := 6, locals := 103 } : Room) (va_Pc [.ref h, .int x, .ref o0] (preL D cI cO (wW h (a 0) t0 l0 m0 ++ sW cI a σ ++ wL l0 mc e0 0 ++ oW cO o0 fo) sz)) (va_Qi (fun (r : Int32) (u : Nat → Int64) => r = nI (1) ∧ (1 = 0 → u 0 = (0).toInt64)) (fun (u : Nat → Int64) => posO D cO (va_A (wW h (a 0) t0 l0 m0 ++ sW cI a σ ++ wL l0 mc e0 0 ++ oW cO o0 fo) sz) o0 u) (va_A (wW h (a 0) t0 l0 m0 ++ sW cI a σ ++ wL l0 mc e0 0 ++ oW cO o0 fo) sz)) 1 6 (va_A (wW h (a 0) t0 l0 m0 ++ sW cI a σ ++ wL l0 mc e0 0 ++ oW cO o0 fo) sz) := by
  refine va_MetW (cc := cL_load) (maxL := 4) (ret := (some .int)) (hh := [(0, 9, 12, 19)]) (by decide) rfl ?_
  intro p e s m args below meth c s₁ B hml hv
  obtain ⟨rfl, hsz, hP, hK2, hXV, hD0, hTX, hN⟩ := hv
  have hK := K_1 hK2
  have hE := hXV.1
  have hx := B.exec
  have hb := B.bytes
  have hr := B.returns
  have hts := atoms_spec (ws := wsL_load) B.pre
  have hown : s.vm.findClass RL = some m.cls := findClass_of_methodNamed B.named
  have hlocks := B.notSynchronized
  have htab : c.exceptionTable.toList = tableOf [(0, 9, 12, 19)] := vx_table (x := yL_load) B (hts _ List.mem_cons_self)
  subst hsz
  have hD := hD0.self (sz := s.heap.size)
  generalize hAe : va_A (wW h (a 0) t0 l0 m0 ++ sW cI a σ ++ wL l0 mc e0 0 ++ oW cO o0 fo) s.heap.size = A at hD hTX ⊢
  have hA : ∀ q : Nat, s.heap.size ≤ q → A q := fun q h => by rw [← hAe]; exact Or.inr h
  have hS : va_S A s.heap s.heap [] := va_S.rf
  have hP : va_P D vwCl (wW h (a 0) t0 l0 m0 ++ sW cI a σ ++ wL l0 mc e0 0 ++ oW cO o0 fo) s.heap := hP
  have hl := lv_entry ([.ref h, .int x, .ref o0]) (n := 4) (Nat.le_of_ble_eq_true rfl)
  rw [lg_entry_eq]
  generalize (lg_sl ([.ref h, .int x, .ref o0]) ++ List.replicate (4 - (lg_sl ([.ref h, .int x, .ref o0])).length) Slot.unset).toArray = ls at hl ⊢
  have hl : lv_has ls 4 [(0, .ref h), (1, .int x), (2, .ref o0)] := hl
  refine lv_aload_n hx hb dL_load_0 rfl (lv_at hl 2 rfl) ?_
  refine lv_iconst (v := 0) hx hb dL_load_1 (by decide) ?_
  refine lv_aload_n hx hb dL_load_2 rfl (lv_at hl 0 rfl) ?_
  refine lv_iload_n hx hb dL_load_3 rfl (lv_at hl 1 rfl) ?_
  have hFc := va_free (wc := wW h (a 0) t0 l0 m0 ++ sW cI a σ ++ wL l0 mc e0 0) hD hS hA [0, 1, 2, 3, 4, 5, 6, 7] rfl
  refine vx_calli (vx_runV (As := [.int x]) (rest := [.int 0, .ref o0]) ⟨hx, hb, hml, hown, hts⟩ (c_X4_load_0 l hst D cI _ h t0 l0 m0 a σ mc e0 x) (cwV 1 hts gL_load_X4_load rfl rfl rfl (by decide +kernel) ⟨Nat.le_of_ble_eq_true rfl, Nat.le_of_ble_eq_true rfl⟩) ⟨preX_blind, va_recv hK hP (ci := 4) (q0 := 0) rfl rfl, preX_of (hP.sub (ws' := wW h (a 0) t0 l0 m0 ++ sW cI a σ ++ wL l0 mc e0 0) [0, 1, 2, 3, 4, 5, 6, 7] rfl) hK hXV (hD.sub (ws' := wW h (a 0) t0 l0 m0 ++ sW cI a σ ++ wL l0 mc e0 0) [0, 1, 2, 3, 4, 5, 6, 7] (by decide) rfl) hTX hS hFc [.ref h, .int x]⟩ rfl rfl hl.1 rfl (lv_room (Nat.le_of_ble_eq_true rfl)) dL_load_4 ⟨Nat.le_of_ble_eq_true rfl, Nat.le_of_ble_eq_true rfl⟩) hS (fun q _ h => hFc q h) hFc (fun q _ h => hFc q h) (fun E ce q9 u t9 H1 locs ht hvm hpx hBX hz1 hk1 hS hq9 hce hcl => ?_) (fun r u t9 H1 locs ht hvm hw hB hz1 hk1 hS => ?_)
  · obtain ⟨hEn, hP1, -, hD1⟩ := hBX
    rw [ht] at hP1
    obtain ⟨hP, hD⟩ := va_join (wr := oW cO o0 fo) (w1 := wW h (a 0) t0 l0 m0 ++ sW cI a σ ++ wL l0 mc e0 0) hP hD [0, 1, 2, 3, 4, 5, 6, 7] [8] rfl rfl (by decide) (by decide) hk1 hFc hP1 hD1
    have hP9 := hP.sub (ws' := oW cO o0 fo) [0] rfl
    have hD9 := hD.sub (ws' := oW cO o0 fo) [0] (by decide) rfl
    have hle : 1 ≤ 1 := by omega
    have hT := thr1 hpx hle
    rw [hT] at hEn
    have hEn : E = eI := hEn
    subst hEn
    refine vx_catch (name := "java/lang/IndexOutOfBoundsException") hown [] ⟨0, 9, 12, 19⟩ [] htab (fun z hz => nomatch hz) (by decide) (by decide) (hts (.classLink RL 19 "java/lang/IndexOutOfBoundsException") (by decide +kernel)) (va_Nw.use rfl hXV.2.2.2.2.1) hq9 hce hcl ?_
    refine lv_astore_n (lv' := [(3, .ref q9), (0, .ref h), (1, .int x), (2, .ref o0)]) hx hb dL_load_12 rfl hl (by decide) rfl (fun ls hl => ?_)
    refine lv_iconst (v := 1) hx hb dL_load_13 (by decide) ?_
    exact W.iret (v := 1) hx hb hr (fun T9 ht hW => ⟨⟨1, fo, rfl, ⟨by rw [hT]; rfl, fun hz => absurd hz (by rw [hT]; decide)⟩, by rw [ht]; exact hP9, hD9⟩, hS.F ht⟩) hS.2.2 dL_load_14
  · exact hw.1.elim

set_option maxHeartbeats 4000000 in
set_option maxRecDepth 100000 in
theorem c_L_many (l : Launch) (hst : l.stackTraces = false) (D : va_G) (cI cO : ClassId) (sz : Nat) (h t0 l0 m0 : Nat) (a : Nat → Nat) (σ : SS) (mc : Int32) (e0 g : Nat) (x : Int32) (o0 : Nat) (fo : Nat → Int64) (hn : s_n σ ≤ 10) : Met l yL_many wsL_many ({ frames := 7, cells := 1, slots := 6, locals := 109 } : Room) (va_Pc [.ref h, .int x, .ref o0] (preL D cI cO (wW h (a 0) t0 l0 m0 ++ sW cI a σ ++ wL l0 mc e0 g ++ oW cO o0 fo) sz)) (va_Qi (fun (r : Int32) (u : Nat → Int64) => r = nI (manyT x) ∧ (manyT x = 0 → u 0 = (countF σ g x).toInt64)) (fun (u : Nat → Int64) => posO D cO (va_A (wW h (a 0) t0 l0 m0 ++ sW cI a σ ++ wL l0 mc e0 g ++ oW cO o0 fo) sz) o0 u) (va_A (wW h (a 0) t0 l0 m0 ++ sW cI a σ ++ wL l0 mc e0 g ++ oW cO o0 fo) sz)) 1 6 (va_A (wW h (a 0) t0 l0 m0 ++ sW cI a σ ++ wL l0 mc e0 g ++ oW cO o0 fo) sz) := by
  refine va_MetW (cc := cL_many) (maxL := 4) (ret := (some .int)) (hh := [(0, 9, 12, 13)]) (by decide) rfl ?_
  intro p e s m args below meth c s₁ B hml hv
  obtain ⟨rfl, hsz, hP, hK2, hXV, hD0, hTX, hN⟩ := hv
  have hK := K_1 hK2
  have hE := hXV.1
  have hx := B.exec
  have hb := B.bytes
  have hr := B.returns
  have hts := atoms_spec (ws := wsL_many) B.pre
  have hown : s.vm.findClass RL = some m.cls := findClass_of_methodNamed B.named
  have hlocks := B.notSynchronized
  have htab : c.exceptionTable.toList = tableOf [(0, 9, 12, 13)] := vx_table (x := yL_many) B (hts _ List.mem_cons_self)
  subst hsz
  have hD := hD0.self (sz := s.heap.size)
  generalize hAe : va_A (wW h (a 0) t0 l0 m0 ++ sW cI a σ ++ wL l0 mc e0 g ++ oW cO o0 fo) s.heap.size = A at hD hTX ⊢
  have hA : ∀ q : Nat, s.heap.size ≤ q → A q := fun q h => by rw [← hAe]; exact Or.inr h
  have hS : va_S A s.heap s.heap [] := va_S.rf
  have hP : va_P D vwCl (wW h (a 0) t0 l0 m0 ++ sW cI a σ ++ wL l0 mc e0 g ++ oW cO o0 fo) s.heap := hP
  have hl := lv_entry ([.ref h, .int x, .ref o0]) (n := 4) (Nat.le_of_ble_eq_true rfl)
  rw [lg_entry_eq]
  generalize (lg_sl ([.ref h, .int x, .ref o0]) ++ List.replicate (4 - (lg_sl ([.ref h, .int x, .ref o0])).length) Slot.unset).toArray = ls at hl ⊢
  have hl : lv_has ls 4 [(0, .ref h), (1, .int x), (2, .ref o0)] := hl
  refine lv_aload_n hx hb dL_many_0 rfl (lv_at hl 2 rfl) ?_
  refine lv_iconst (v := 0) hx hb dL_many_1 (by decide) ?_
  refine lv_aload_n hx hb dL_many_2 rfl (lv_at hl 0 rfl) ?_
  refine lv_iload_n hx hb dL_many_3 rfl (lv_at hl 1 rfl) ?_
  have hFc := va_free (wc := wW h (a 0) t0 l0 m0 ++ sW cI a σ ++ wL l0 mc e0 g) hD hS hA [0, 1, 2, 3, 4, 5, 6, 7] rfl
  refine vx_calli (vx_runV (As := [.int x]) (rest := [.int 0, .ref o0]) ⟨hx, hb, hml, hown, hts⟩ (c_X4_many l hst D cI _ h t0 l0 m0 a σ mc e0 g x hn) (cwV 1 hts gL_many_X4_many rfl rfl rfl (by decide +kernel) ⟨Nat.le_of_ble_eq_true rfl, Nat.le_of_ble_eq_true rfl⟩) ⟨preX_blind, va_recv hK hP (ci := 4) (q0 := 0) rfl rfl, preX_of (hP.sub (ws' := wW h (a 0) t0 l0 m0 ++ sW cI a σ ++ wL l0 mc e0 g) [0, 1, 2, 3, 4, 5, 6, 7] rfl) hK hXV (hD.sub (ws' := wW h (a 0) t0 l0 m0 ++ sW cI a σ ++ wL l0 mc e0 g) [0, 1, 2, 3, 4, 5, 6, 7] (by decide) rfl) hTX hS hFc [.ref h, .int x]⟩ rfl rfl hl.1 rfl (lv_room (Nat.le_of_ble_eq_true rfl)) dL_many_4 ⟨Nat.le_of_ble_eq_true rfl, Nat.le_of_ble_eq_true rfl⟩) hS (fun q _ h => hFc q h) hFc (fun q _ h => hFc q h) (fun E ce q9 u t9 H1 locs ht hvm hpx hBX hz1 hk1 hS hq9 hce hcl => ?_) (fun r u t9 H1 locs ht hvm hw hB hz1 hk1 hS => ?_)
  · obtain ⟨hEn, hP1, -, hD1⟩ := hBX
    rw [ht] at hP1
    obtain ⟨hP, hD⟩ := va_join (wr := oW cO o0 fo) (w1 := wW h (a 0) t0 l0 m0 ++ sW cI a σ ++ wL l0 mc e0 g) hP hD [0, 1, 2, 3, 4, 5, 6, 7] [8] rfl rfl (by decide) (by decide) hk1 hFc hP1 hD1
    have hP9 := hP.sub (ws' := oW cO o0 fo) [0] rfl
    have hD9 := hD.sub (ws' := oW cO o0 fo) [0] (by decide) rfl
    have hle : manyT x ≤ 1 := by unfold manyT; (repeat' split) <;> omega
    have hT := thr1 hpx hle
    rw [hT] at hEn
    have hEn : E = eA := hEn
    subst hEn
    refine vx_catch (name := "java/lang/IllegalArgumentException") hown [] ⟨0, 9, 12, 13⟩ [] htab (fun z hz => nomatch hz) (by decide) (by decide) (hts (.classLink RL 13 "java/lang/IllegalArgumentException") (by decide +kernel)) (va_Nw.use rfl hXV.2.2.1) hq9 hce hcl ?_
    refine lv_astore_n (lv' := [(3, .ref q9), (0, .ref h), (1, .int x), (2, .ref o0)]) hx hb dL_many_12 rfl hl (by decide) rfl (fun ls hl => ?_)
    refine lv_iconst (v := 1) hx hb dL_many_13 (by decide) ?_
    exact W.iret (v := 1) hx hb hr (fun T9 ht hW => ⟨⟨1, fo, rfl, ⟨by rw [hT]; rfl, fun hz => absurd hz (by rw [hT]; decide)⟩, by rw [ht]; exact hP9, hD9⟩, hS.F ht⟩) hS.2.2 dL_many_14
  · obtain ⟨hT, hR, -⟩ := hw
    obtain ⟨hP1, hK1, hD1⟩ := hB
    rw [ht] at hP1
    obtain ⟨hP, hD⟩ := va_join (wr := oW cO o0 fo) (w1 := wW h (a 0) t0 l0 m0 ++ sW cI a u ++ wL l0 mc e0 g) hP hD [0, 1, 2, 3, 4, 5, 6, 7] [8] rfl rfl (by decide) (by decide) hk1 hFc hP1 hD1
    have hP := hP.sub (ws' := oW cO o0 fo) [0] rfl
    have hD := hD.sub (ws' := oW cO o0 fo) [0] (by decide) rfl
    generalize H1 = H at hP hS ⊢
    subst hR
    have hP : va_P D vwCl (oW cO o0 fo) H := hP
    have hD : va_D A (oW cO o0 fo) := hD
    refine lv_i2l (v := (countF σ g x).toInt64) hx hb dL_many_7 rfl ?_
    refine va_last hx hb hK2 hP hD hS 0 1 rfl rfl (vp_in_nI (n := 0) (by decide) (by decide)) dL_many_8 (fun H locs hP hD hS => ?_)
    have hP : va_P D vwCl (oW cO o0 (vp_updL fo (0 : Int32).toNatClampNeg ((countF σ g x).toInt64))) H := hP
    have hD : va_D A (oW cO o0 (vp_updL fo (0 : Int32).toNatClampNeg ((countF σ g x).toInt64))) := hD
    refine lv_goto (tgt := 15) hx hb dL_many_9 (by decide) ?_
    refine lv_iconst (v := 0) hx hb dL_many_15 (by decide) ?_
    have hP9 := hP
    have hD9 := hD
    exact W.iret (v := 0) hx hb hr (fun T9 ht hW => ⟨⟨0, (vp_updL fo (0 : Int32).toNatClampNeg ((countF σ g x).toInt64)), rfl, ⟨by rw [hT]; rfl, fun _ => rfl⟩, by rw [ht]; exact hP9, hD9⟩, hS.F ht⟩) hS.2.2 dL_many_16

set_option maxHeartbeats 4000000 in
set_option maxRecDepth 100000 in
theorem c_L_of (l : Launch) (hst : l.stackTraces = false) (D : va_G) (cI cO : ClassId) (sz : Nat) (h t0 l0 m0 : Nat) (a : Nat → Nat) (σ : SS) (x y : Int32) (o0 : Nat) (fo : Nat → Int64) : Met l yL_of wsL_of ({ frames := 7, cells := 1, slots := 6, locals := 104 } : Room) (va_Pc [.ref h, .int x, .int y, .ref o0] (preL D cI cO (wW h (a 0) t0 l0 m0 ++ sW cI a σ ++ oW cO o0 fo) sz)) (va_Qi (fun (r : Int32) (u : Nat → Int64) => r = nI (ofT σ x y) ∧ (ofT σ x y = 0 → u 0 = (answerF σ x y).toInt64)) (fun (u : Nat → Int64) => posO D cO (va_A (wW h (a 0) t0 l0 m0 ++ sW cI a σ ++ oW cO o0 fo) sz) o0 u) (va_A (wW h (a 0) t0 l0 m0 ++ sW cI a σ ++ oW cO o0 fo) sz)) 1 6 (va_A (wW h (a 0) t0 l0 m0 ++ sW cI a σ ++ oW cO o0 fo) sz) := by
  refine va_MetW (cc := cL_of) (maxL := 5) (ret := (some .int)) (hh := [(0, 10, 13, 19), (0, 10, 17, 13)]) (by decide) rfl ?_
  intro p e s m args below meth c s₁ B hml hv
  obtain ⟨rfl, hsz, hP, hK2, hXV, hD0, hTX, hN⟩ := hv
  have hK := K_1 hK2
  have hE := hXV.1
  have hx := B.exec
  have hb := B.bytes
  have hr := B.returns
  have hts := atoms_spec (ws := wsL_of) B.pre
  have hown : s.vm.findClass RL = some m.cls := findClass_of_methodNamed B.named
  have hlocks := B.notSynchronized
  have htab : c.exceptionTable.toList = tableOf [(0, 10, 13, 19), (0, 10, 17, 13)] := vx_table (x := yL_of) B (hts _ List.mem_cons_self)
  subst hsz
  have hD := hD0.self (sz := s.heap.size)
  generalize hAe : va_A (wW h (a 0) t0 l0 m0 ++ sW cI a σ ++ oW cO o0 fo) s.heap.size = A at hD hTX ⊢
  have hA : ∀ q : Nat, s.heap.size ≤ q → A q := fun q h => by rw [← hAe]; exact Or.inr h
  have hS : va_S A s.heap s.heap [] := va_S.rf
  have hP : va_P D vwCl (wW h (a 0) t0 l0 m0 ++ sW cI a σ ++ oW cO o0 fo) s.heap := hP
  have hl := lv_entry ([.ref h, .int x, .int y, .ref o0]) (n := 5) (Nat.le_of_ble_eq_true rfl)
  rw [lg_entry_eq]
  generalize (lg_sl ([.ref h, .int x, .int y, .ref o0]) ++ List.replicate (5 - (lg_sl ([.ref h, .int x, .int y, .ref o0])).length) Slot.unset).toArray = ls at hl ⊢
  have hl : lv_has ls 5 [(0, .ref h), (1, .int x), (2, .int y), (3, .ref o0)] := hl
  refine lv_aload_n hx hb dL_of_0 rfl (lv_at hl 3 rfl) ?_
  refine lv_iconst (v := 0) hx hb dL_of_1 (by decide) ?_
  refine lv_aload_n hx hb dL_of_2 rfl (lv_at hl 0 rfl) ?_
  refine lv_iload_n hx hb dL_of_3 rfl (lv_at hl 1 rfl) ?_
  refine lv_iload_n hx hb dL_of_4 rfl (lv_at hl 2 rfl) ?_
  have hFc := va_free (wc := wW h (a 0) t0 l0 m0 ++ sW cI a σ) hD hS hA [0, 1, 2, 3, 4, 5, 6] rfl
  refine vx_calli (vx_runV (As := [.int x, .int y]) (rest := [.int 0, .ref o0]) ⟨hx, hb, hml, hown, hts⟩ (c_X4_of l hst D cI _ h t0 l0 m0 a σ x y) (cwV 2 hts gL_of_X4_of rfl rfl rfl (by decide +kernel) ⟨Nat.le_of_ble_eq_true rfl, Nat.le_of_ble_eq_true rfl⟩) ⟨preX_blind, va_recv hK hP (ci := 4) (q0 := 0) rfl rfl, preX_of (hP.sub (ws' := wW h (a 0) t0 l0 m0 ++ sW cI a σ) [0, 1, 2, 3, 4, 5, 6] rfl) hK hXV (hD.sub (ws' := wW h (a 0) t0 l0 m0 ++ sW cI a σ) [0, 1, 2, 3, 4, 5, 6] (by decide) rfl) hTX hS hFc [.ref h, .int x, .int y]⟩ rfl rfl hl.1 rfl (lv_room (Nat.le_of_ble_eq_true rfl)) dL_of_5 ⟨Nat.le_of_ble_eq_true rfl, Nat.le_of_ble_eq_true rfl⟩) hS (fun q _ h => hFc q h) hFc (fun q _ h => hFc q h) (fun E ce q9 u t9 H1 locs ht hvm hpx hBX hz1 hk1 hS hq9 hce hcl => ?_) (fun r u t9 H1 locs ht hvm hw hB hz1 hk1 hS => ?_)
  · obtain ⟨hEn, hP1, -, hD1⟩ := hBX
    rw [ht] at hP1
    obtain ⟨hP, hD⟩ := va_join (wr := oW cO o0 fo) (w1 := wW h (a 0) t0 l0 m0 ++ sW cI a σ) hP hD [0, 1, 2, 3, 4, 5, 6] [7] rfl rfl (by decide) (by decide) hk1 hFc hP1 hD1
    have hP9 := hP.sub (ws' := oW cO o0 fo) [0] rfl
    have hD9 := hD.sub (ws' := oW cO o0 fo) [0] (by decide) rfl
    have hle : ofT σ x y ≤ 2 := by unfold ofT; (repeat' split) <;> omega
    rcases thr2 hpx hle with hT | hT
    · rw [hT] at hEn
      have hEn : E = eI := hEn
      subst hEn
      refine vx_catch (name := "java/lang/IndexOutOfBoundsException") hown [] ⟨0, 10, 13, 19⟩ [⟨0, 10, 17, 13⟩] htab (fun z hz => nomatch hz) (by decide) (by decide) (hts (.classLink RL 19 "java/lang/IndexOutOfBoundsException") (by decide +kernel)) (va_Nw.use rfl hXV.2.2.2.2.1) hq9 hce hcl ?_
      refine lv_astore (lv' := [(4, .ref q9), (0, .ref h), (1, .int x), (2, .int y), (3, .ref o0)]) hx hb dL_of_13 hl (by decide) rfl (fun ls hl => ?_)
      refine lv_iconst (v := 1) hx hb dL_of_15 (by decide) ?_
      exact W.iret (v := 1) hx hb hr (fun T9 ht hW => ⟨⟨1, fo, rfl, ⟨by rw [hT]; rfl, fun hz => absurd hz (by rw [hT]; decide)⟩, by rw [ht]; exact hP9, hD9⟩, hS.F ht⟩) hS.2.2 dL_of_16
    · rw [hT] at hEn
      have hEn : E = eA := hEn
      subst hEn
      refine vx_catch (name := "java/lang/IllegalArgumentException") hown [⟨0, 10, 13, 19⟩] ⟨0, 10, 17, 13⟩ [] htab (fun z hz => by rw [List.mem_singleton.mp hz]; exact Or.inr ⟨by decide, _, (hts (.classLink RL 19 "java/lang/IndexOutOfBoundsException") (by decide +kernel)), hN.1⟩) (by decide) (by decide) (hts (.classLink RL 13 "java/lang/IllegalArgumentException") (by decide +kernel)) (va_Nw.use rfl hXV.2.2.1) hq9 hce hcl ?_
      refine lv_astore (lv' := [(4, .ref q9), (0, .ref h), (1, .int x), (2, .int y), (3, .ref o0)]) hx hb dL_of_17 hl (by decide) rfl (fun ls hl => ?_)
      refine lv_iconst (v := 2) hx hb dL_of_19 (by decide) ?_
      exact W.iret (v := 2) hx hb hr (fun T9 ht hW => ⟨⟨2, fo, rfl, ⟨by rw [hT]; rfl, fun hz => absurd hz (by rw [hT]; decide)⟩, by rw [ht]; exact hP9, hD9⟩, hS.F ht⟩) hS.2.2 dL_of_20
  · obtain ⟨hT, hR, -⟩ := hw
    obtain ⟨hP1, hK1, hD1⟩ := hB
    rw [ht] at hP1
    obtain ⟨hP, hD⟩ := va_join (wr := oW cO o0 fo) (w1 := wW h (a 0) t0 l0 m0 ++ sW cI a u) hP hD [0, 1, 2, 3, 4, 5, 6] [7] rfl rfl (by decide) (by decide) hk1 hFc hP1 hD1
    have hP := hP.sub (ws' := oW cO o0 fo) [0] rfl
    have hD := hD.sub (ws' := oW cO o0 fo) [0] (by decide) rfl
    generalize H1 = H at hP hS ⊢
    subst hR
    have hP : va_P D vwCl (oW cO o0 fo) H := hP
    have hD : va_D A (oW cO o0 fo) := hD
    refine lv_i2l (v := (answerF σ x y).toInt64) hx hb dL_of_8 rfl ?_
    refine va_last hx hb hK2 hP hD hS 0 1 rfl rfl (vp_in_nI (n := 0) (by decide) (by decide)) dL_of_9 (fun H locs hP hD hS => ?_)
    have hP : va_P D vwCl (oW cO o0 (vp_updL fo (0 : Int32).toNatClampNeg ((answerF σ x y).toInt64))) H := hP
    have hD : va_D A (oW cO o0 (vp_updL fo (0 : Int32).toNatClampNeg ((answerF σ x y).toInt64))) := hD
    refine lv_goto (tgt := 21) hx hb dL_of_10 (by decide) ?_
    refine lv_iconst (v := 0) hx hb dL_of_21 (by decide) ?_
    have hP9 := hP
    have hD9 := hD
    exact W.iret (v := 0) hx hb hr (fun T9 ht hW => ⟨⟨0, (vp_updL fo (0 : Int32).toNatClampNeg ((answerF σ x y).toInt64)), rfl, ⟨by rw [hT]; rfl, fun _ => rfl⟩, by rw [ht]; exact hP9, hD9⟩, hS.F ht⟩) hS.2.2 dL_of_22

set_option maxHeartbeats 4000000 in
set_option maxRecDepth 100000 in
theorem c_L_on (l : Launch) (hst : l.stackTraces = false) (D : va_G) (cI cO : ClassId) (sz : Nat) (h t0 l0 m0 : Nat) (a : Nat → Nat) (σ : SS) (x : Int32) (o0 : Nat) (fo : Nat → Int64) (hn : s_n σ ≤ 10) : Met l yL_on wsL_on ({ frames := 7, cells := 1, slots := 6, locals := 103 } : Room) (va_Pc [.ref h, .int x, .ref o0] (preL D cI cO (wW h (a 0) t0 l0 m0 ++ sW cI a σ ++ oW cO o0 fo) sz)) (va_Qi (fun (r : Int32) (u : Nat → Int64) => r = nI (cellT x) ∧ (cellT x = 0 → u 0 = (onF σ x).toInt64)) (fun (u : Nat → Int64) => posO D cO (va_A (wW h (a 0) t0 l0 m0 ++ sW cI a σ ++ oW cO o0 fo) sz) o0 u) (va_A (wW h (a 0) t0 l0 m0 ++ sW cI a σ ++ oW cO o0 fo) sz)) 1 6 (va_A (wW h (a 0) t0 l0 m0 ++ sW cI a σ ++ oW cO o0 fo) sz) := by
  refine va_MetW (cc := cL_on) (maxL := 4) (ret := (some .int)) (hh := [(0, 9, 12, 19)]) (by decide) rfl ?_
  intro p e s m args below meth c s₁ B hml hv
  obtain ⟨rfl, hsz, hP, hK2, hXV, hD0, hTX, hN⟩ := hv
  have hK := K_1 hK2
  have hE := hXV.1
  have hx := B.exec
  have hb := B.bytes
  have hr := B.returns
  have hts := atoms_spec (ws := wsL_on) B.pre
  have hown : s.vm.findClass RL = some m.cls := findClass_of_methodNamed B.named
  have hlocks := B.notSynchronized
  have htab : c.exceptionTable.toList = tableOf [(0, 9, 12, 19)] := vx_table (x := yL_on) B (hts _ List.mem_cons_self)
  subst hsz
  have hD := hD0.self (sz := s.heap.size)
  generalize hAe : va_A (wW h (a 0) t0 l0 m0 ++ sW cI a σ ++ oW cO o0 fo) s.heap.size = A at hD hTX ⊢
  have hA : ∀ q : Nat, s.heap.size ≤ q → A q := fun q h => by rw [← hAe]; exact Or.inr h
  have hS : va_S A s.heap s.heap [] := va_S.rf
  have hP : va_P D vwCl (wW h (a 0) t0 l0 m0 ++ sW cI a σ ++ oW cO o0 fo) s.heap := hP
  have hl := lv_entry ([.ref h, .int x, .ref o0]) (n := 4) (Nat.le_of_ble_eq_true rfl)
  rw [lg_entry_eq]
  generalize (lg_sl ([.ref h, .int x, .ref o0]) ++ List.replicate (4 - (lg_sl ([.ref h, .int x, .ref o0])).length) Slot.unset).toArray = ls at hl ⊢
  have hl : lv_has ls 4 [(0, .ref h), (1, .int x), (2, .ref o0)] := hl
  refine lv_aload_n hx hb dL_on_0 rfl (lv_at hl 2 rfl) ?_
  refine lv_iconst (v := 0) hx hb dL_on_1 (by decide) ?_
  refine lv_aload_n hx hb dL_on_2 rfl (lv_at hl 0 rfl) ?_
  refine lv_iload_n hx hb dL_on_3 rfl (lv_at hl 1 rfl) ?_
  have hFc := va_free (wc := wW h (a 0) t0 l0 m0 ++ sW cI a σ) hD hS hA [0, 1, 2, 3, 4, 5, 6] rfl
  refine vx_calli (vx_runV (As := [.int x]) (rest := [.int 0, .ref o0]) ⟨hx, hb, hml, hown, hts⟩ (c_X4_on l hst D cI _ h t0 l0 m0 a σ x hn) (cwV 1 hts gL_on_X4_on rfl rfl rfl (by decide +kernel) ⟨Nat.le_of_ble_eq_true rfl, Nat.le_of_ble_eq_true rfl⟩) ⟨preX_blind, va_recv hK hP (ci := 4) (q0 := 0) rfl rfl, preX_of (hP.sub (ws' := wW h (a 0) t0 l0 m0 ++ sW cI a σ) [0, 1, 2, 3, 4, 5, 6] rfl) hK hXV (hD.sub (ws' := wW h (a 0) t0 l0 m0 ++ sW cI a σ) [0, 1, 2, 3, 4, 5, 6] (by decide) rfl) hTX hS hFc [.ref h, .int x]⟩ rfl rfl hl.1 rfl (lv_room (Nat.le_of_ble_eq_true rfl)) dL_on_4 ⟨Nat.le_of_ble_eq_true rfl, Nat.le_of_ble_eq_true rfl⟩) hS (fun q _ h => hFc q h) hFc (fun q _ h => hFc q h) (fun E ce q9 u t9 H1 locs ht hvm hpx hBX hz1 hk1 hS hq9 hce hcl => ?_) (fun r u t9 H1 locs ht hvm hw hB hz1 hk1 hS => ?_)
  · obtain ⟨hEn, hP1, -, hD1⟩ := hBX
    rw [ht] at hP1
    obtain ⟨hP, hD⟩ := va_join (wr := oW cO o0 fo) (w1 := wW h (a 0) t0 l0 m0 ++ sW cI a σ) hP hD [0, 1, 2, 3, 4, 5, 6] [7] rfl rfl (by decide) (by decide) hk1 hFc hP1 hD1
    have hP9 := hP.sub (ws' := oW cO o0 fo) [0] rfl
    have hD9 := hD.sub (ws' := oW cO o0 fo) [0] (by decide) rfl
    have hle : cellT x ≤ 1 := by unfold cellT; (repeat' split) <;> omega
    have hT := thr1 hpx hle
    rw [hT] at hEn
    have hEn : E = eI := hEn
    subst hEn
    refine vx_catch (name := "java/lang/IndexOutOfBoundsException") hown [] ⟨0, 9, 12, 19⟩ [] htab (fun z hz => nomatch hz) (by decide) (by decide) (hts (.classLink RL 19 "java/lang/IndexOutOfBoundsException") (by decide +kernel)) (va_Nw.use rfl hXV.2.2.2.2.1) hq9 hce hcl ?_
    refine lv_astore_n (lv' := [(3, .ref q9), (0, .ref h), (1, .int x), (2, .ref o0)]) hx hb dL_on_12 rfl hl (by decide) rfl (fun ls hl => ?_)
    refine lv_iconst (v := 1) hx hb dL_on_13 (by decide) ?_
    exact W.iret (v := 1) hx hb hr (fun T9 ht hW => ⟨⟨1, fo, rfl, ⟨by rw [hT]; rfl, fun hz => absurd hz (by rw [hT]; decide)⟩, by rw [ht]; exact hP9, hD9⟩, hS.F ht⟩) hS.2.2 dL_on_14
  · obtain ⟨hT, hR, -⟩ := hw
    obtain ⟨hP1, hK1, hD1⟩ := hB
    rw [ht] at hP1
    obtain ⟨hP, hD⟩ := va_join (wr := oW cO o0 fo) (w1 := wW h (a 0) t0 l0 m0 ++ sW cI a u) hP hD [0, 1, 2, 3, 4, 5, 6] [7] rfl rfl (by decide) (by decide) hk1 hFc hP1 hD1
    have hP := hP.sub (ws' := oW cO o0 fo) [0] rfl
    have hD := hD.sub (ws' := oW cO o0 fo) [0] (by decide) rfl
    generalize H1 = H at hP hS ⊢
    subst hR
    have hP : va_P D vwCl (oW cO o0 fo) H := hP
    have hD : va_D A (oW cO o0 fo) := hD
    refine lv_i2l (v := (onF σ x).toInt64) hx hb dL_on_7 rfl ?_
    refine va_last hx hb hK2 hP hD hS 0 1 rfl rfl (vp_in_nI (n := 0) (by decide) (by decide)) dL_on_8 (fun H locs hP hD hS => ?_)
    have hP : va_P D vwCl (oW cO o0 (vp_updL fo (0 : Int32).toNatClampNeg ((onF σ x).toInt64))) H := hP
    have hD : va_D A (oW cO o0 (vp_updL fo (0 : Int32).toNatClampNeg ((onF σ x).toInt64))) := hD
    refine lv_goto (tgt := 15) hx hb dL_on_9 (by decide) ?_
    refine lv_iconst (v := 0) hx hb dL_on_15 (by decide) ?_
    have hP9 := hP
    have hD9 := hD
    exact W.iret (v := 0) hx hb hr (fun T9 ht hW => ⟨⟨0, (vp_updL fo (0 : Int32).toNatClampNeg ((onF σ x).toInt64)), rfl, ⟨by rw [hT]; rfl, fun _ => rfl⟩, by rw [ht]; exact hP9, hD9⟩, hS.F ht⟩) hS.2.2 dL_on_16

set_option maxHeartbeats 4000000 in
set_option maxRecDepth 100000 in
theorem c_L_plan_0 (l : Launch) (hst : l.stackTraces = false) (D : va_G) (cI cO : ClassId) (sz : Nat) (h t0 l0 m0 : Nat) (a : Nat → Nat) (σ : SS) (x : Int32) (o0 : Nat) (fo : Nat → Int64) (h0 : s_n σ = 0) : Met l yL_plan wsL_plan ({ frames := 7, cells := 1, slots := 6, locals := 103 } : Room) (va_Pc [.ref h, .int x, .ref o0] (preL D cI cO (wW h (a 0) t0 l0 m0 ++ sW cI a σ ++ oW cO o0 fo) sz)) (va_Qi (fun (r : Int32) (u : Nat → Int64) => r = nI (1) ∧ (1 = 0 → u 0 = (0).toInt64)) (fun (u : Nat → Int64) => posO D cO (va_A (wW h (a 0) t0 l0 m0 ++ sW cI a σ ++ oW cO o0 fo) sz) o0 u) (va_A (wW h (a 0) t0 l0 m0 ++ sW cI a σ ++ oW cO o0 fo) sz)) 1 6 (va_A (wW h (a 0) t0 l0 m0 ++ sW cI a σ ++ oW cO o0 fo) sz) := by
  refine va_MetW (cc := cL_plan) (maxL := 4) (ret := (some .int)) (hh := [(0, 9, 12, 19)]) (by decide) rfl ?_
  intro p e s m args below meth c s₁ B hml hv
  obtain ⟨rfl, hsz, hP, hK2, hXV, hD0, hTX, hN⟩ := hv
  have hK := K_1 hK2
  have hE := hXV.1
  have hx := B.exec
  have hb := B.bytes
  have hr := B.returns
  have hts := atoms_spec (ws := wsL_plan) B.pre
  have hown : s.vm.findClass RL = some m.cls := findClass_of_methodNamed B.named
  have hlocks := B.notSynchronized
  have htab : c.exceptionTable.toList = tableOf [(0, 9, 12, 19)] := vx_table (x := yL_plan) B (hts _ List.mem_cons_self)
  subst hsz
  have hD := hD0.self (sz := s.heap.size)
  generalize hAe : va_A (wW h (a 0) t0 l0 m0 ++ sW cI a σ ++ oW cO o0 fo) s.heap.size = A at hD hTX ⊢
  have hA : ∀ q : Nat, s.heap.size ≤ q → A q := fun q h => by rw [← hAe]; exact Or.inr h
  have hS : va_S A s.heap s.heap [] := va_S.rf
  have hP : va_P D vwCl (wW h (a 0) t0 l0 m0 ++ sW cI a σ ++ oW cO o0 fo) s.heap := hP
  have hl := lv_entry ([.ref h, .int x, .ref o0]) (n := 4) (Nat.le_of_ble_eq_true rfl)
  rw [lg_entry_eq]
  generalize (lg_sl ([.ref h, .int x, .ref o0]) ++ List.replicate (4 - (lg_sl ([.ref h, .int x, .ref o0])).length) Slot.unset).toArray = ls at hl ⊢
  have hl : lv_has ls 4 [(0, .ref h), (1, .int x), (2, .ref o0)] := hl
  refine lv_aload_n hx hb dL_plan_0 rfl (lv_at hl 2 rfl) ?_
  refine lv_iconst (v := 0) hx hb dL_plan_1 (by decide) ?_
  refine lv_aload_n hx hb dL_plan_2 rfl (lv_at hl 0 rfl) ?_
  refine lv_iload_n hx hb dL_plan_3 rfl (lv_at hl 1 rfl) ?_
  have hFc := va_free (wc := wW h (a 0) t0 l0 m0 ++ sW cI a σ) hD hS hA [0, 1, 2, 3, 4, 5, 6] rfl
  refine vx_calli (vx_runV (As := [.int x]) (rest := [.int 0, .ref o0]) ⟨hx, hb, hml, hown, hts⟩ (c_X4_plan_0 l hst D cI _ h t0 l0 m0 a σ x h0) (cwV 1 hts gL_plan_X4_plan rfl rfl rfl (by decide +kernel) ⟨Nat.le_of_ble_eq_true rfl, Nat.le_of_ble_eq_true rfl⟩) ⟨preX_blind, va_recv hK hP (ci := 4) (q0 := 0) rfl rfl, preX_of (hP.sub (ws' := wW h (a 0) t0 l0 m0 ++ sW cI a σ) [0, 1, 2, 3, 4, 5, 6] rfl) hK hXV (hD.sub (ws' := wW h (a 0) t0 l0 m0 ++ sW cI a σ) [0, 1, 2, 3, 4, 5, 6] (by decide) rfl) hTX hS hFc [.ref h, .int x]⟩ rfl rfl hl.1 rfl (lv_room (Nat.le_of_ble_eq_true rfl)) dL_plan_4 ⟨Nat.le_of_ble_eq_true rfl, Nat.le_of_ble_eq_true rfl⟩) hS (fun q _ h => hFc q h) hFc (fun q _ h => hFc q h) (fun E ce q9 u t9 H1 locs ht hvm hpx hBX hz1 hk1 hS hq9 hce hcl => ?_) (fun r u t9 H1 locs ht hvm hw hB hz1 hk1 hS => ?_)
  · obtain ⟨hEn, hP1, -, hD1⟩ := hBX
    rw [ht] at hP1
    obtain ⟨hP, hD⟩ := va_join (wr := oW cO o0 fo) (w1 := wW h (a 0) t0 l0 m0 ++ sW cI a σ) hP hD [0, 1, 2, 3, 4, 5, 6] [7] rfl rfl (by decide) (by decide) hk1 hFc hP1 hD1
    have hP9 := hP.sub (ws' := oW cO o0 fo) [0] rfl
    have hD9 := hD.sub (ws' := oW cO o0 fo) [0] (by decide) rfl
    have hle : 1 ≤ 1 := by omega
    have hT := thr1 hpx hle
    rw [hT] at hEn
    have hEn : E = eI := hEn
    subst hEn
    refine vx_catch (name := "java/lang/IndexOutOfBoundsException") hown [] ⟨0, 9, 12, 19⟩ [] htab (fun z hz => nomatch hz) (by decide) (by decide) (hts (.classLink RL 19 "java/lang/IndexOutOfBoundsException") (by decide +kernel)) (va_Nw.use rfl hXV.2.2.2.2.1) hq9 hce hcl ?_
    refine lv_astore_n (lv' := [(3, .ref q9), (0, .ref h), (1, .int x), (2, .ref o0)]) hx hb dL_plan_12 rfl hl (by decide) rfl (fun ls hl => ?_)
    refine lv_iconst (v := 1) hx hb dL_plan_13 (by decide) ?_
    exact W.iret (v := 1) hx hb hr (fun T9 ht hW => ⟨⟨1, fo, rfl, ⟨by rw [hT]; rfl, fun hz => absurd hz (by rw [hT]; decide)⟩, by rw [ht]; exact hP9, hD9⟩, hS.F ht⟩) hS.2.2 dL_plan_14
  · exact hw.1.elim

set_option maxHeartbeats 4000000 in
set_option maxRecDepth 100000 in
theorem c_L_sees (l : Launch) (hst : l.stackTraces = false) (D : va_G) (cI cO : ClassId) (sz : Nat) (h t0 l0 m0 : Nat) (a : Nat → Nat) (σ : SS) (x y : Int32) (o0 : Nat) (fo : Nat → Int64) : Met l yL_sees wsL_sees ({ frames := 7, cells := 1, slots := 6, locals := 104 } : Room) (va_Pc [.ref h, .int x, .int y, .ref o0] (preL D cI cO (wW h (a 0) t0 l0 m0 ++ sW cI a σ ++ oW cO o0 fo) sz)) (va_Qi (fun (r : Int32) (u : Nat → Int64) => r = nI (seesT x y) ∧ (seesT x y = 0 → u 0 = (if seenB σ x y = true then (1 : Int64) else 0))) (fun (u : Nat → Int64) => posO D cO (va_A (wW h (a 0) t0 l0 m0 ++ sW cI a σ ++ oW cO o0 fo) sz) o0 u) (va_A (wW h (a 0) t0 l0 m0 ++ sW cI a σ ++ oW cO o0 fo) sz)) 1 6 (va_A (wW h (a 0) t0 l0 m0 ++ sW cI a σ ++ oW cO o0 fo) sz) := by
  refine va_MetW (cc := cL_sees) (maxL := 5) (ret := (some .int)) (hh := [(0, 17, 20, 19)]) (by decide) rfl ?_
  intro p e s m args below meth c s₁ B hml hv
  obtain ⟨rfl, hsz, hP, hK2, hXV, hD0, hTX, hN⟩ := hv
  have hK := K_1 hK2
  have hE := hXV.1
  have hx := B.exec
  have hb := B.bytes
  have hr := B.returns
  have hts := atoms_spec (ws := wsL_sees) B.pre
  have hown : s.vm.findClass RL = some m.cls := findClass_of_methodNamed B.named
  have hlocks := B.notSynchronized
  have htab : c.exceptionTable.toList = tableOf [(0, 17, 20, 19)] := vx_table (x := yL_sees) B (hts _ List.mem_cons_self)
  subst hsz
  have hD := hD0.self (sz := s.heap.size)
  generalize hAe : va_A (wW h (a 0) t0 l0 m0 ++ sW cI a σ ++ oW cO o0 fo) s.heap.size = A at hD hTX ⊢
  have hA : ∀ q : Nat, s.heap.size ≤ q → A q := fun q h => by rw [← hAe]; exact Or.inr h
  have hS : va_S A s.heap s.heap [] := va_S.rf
  have hP : va_P D vwCl (wW h (a 0) t0 l0 m0 ++ sW cI a σ ++ oW cO o0 fo) s.heap := hP
  have hl := lv_entry ([.ref h, .int x, .int y, .ref o0]) (n := 5) (Nat.le_of_ble_eq_true rfl)
  rw [lg_entry_eq]
  generalize (lg_sl ([.ref h, .int x, .int y, .ref o0]) ++ List.replicate (5 - (lg_sl ([.ref h, .int x, .int y, .ref o0])).length) Slot.unset).toArray = ls at hl ⊢
  have hl : lv_has ls 5 [(0, .ref h), (1, .int x), (2, .int y), (3, .ref o0)] := hl
  refine lv_aload_n hx hb dL_sees_0 rfl (lv_at hl 3 rfl) ?_
  refine lv_iconst (v := 0) hx hb dL_sees_1 (by decide) ?_
  refine lv_aload_n hx hb dL_sees_2 rfl (lv_at hl 0 rfl) ?_
  refine lv_iload_n hx hb dL_sees_3 rfl (lv_at hl 1 rfl) ?_
  refine lv_iload_n hx hb dL_sees_4 rfl (lv_at hl 2 rfl) ?_
  have hFc := va_free (wc := wW h (a 0) t0 l0 m0 ++ sW cI a σ) hD hS hA [0, 1, 2, 3, 4, 5, 6] rfl
  refine vx_calli (vx_runV (As := [.int x, .int y]) (rest := [.int 0, .ref o0]) ⟨hx, hb, hml, hown, hts⟩ (c_X4_sees l hst D cI _ h t0 l0 m0 a σ x y) (cwV 2 hts gL_sees_X4_sees rfl rfl rfl (by decide +kernel) ⟨Nat.le_of_ble_eq_true rfl, Nat.le_of_ble_eq_true rfl⟩) ⟨preX_blind, va_recv hK hP (ci := 4) (q0 := 0) rfl rfl, preX_of (hP.sub (ws' := wW h (a 0) t0 l0 m0 ++ sW cI a σ) [0, 1, 2, 3, 4, 5, 6] rfl) hK hXV (hD.sub (ws' := wW h (a 0) t0 l0 m0 ++ sW cI a σ) [0, 1, 2, 3, 4, 5, 6] (by decide) rfl) hTX hS hFc [.ref h, .int x, .int y]⟩ rfl rfl hl.1 rfl (lv_room (Nat.le_of_ble_eq_true rfl)) dL_sees_5 ⟨Nat.le_of_ble_eq_true rfl, Nat.le_of_ble_eq_true rfl⟩) hS (fun q _ h => hFc q h) hFc (fun q _ h => hFc q h) (fun E ce q9 u t9 H1 locs ht hvm hpx hBX hz1 hk1 hS hq9 hce hcl => ?_) (fun r u t9 H1 locs ht hvm hw hB hz1 hk1 hS => ?_)
  · obtain ⟨hEn, hP1, -, hD1⟩ := hBX
    rw [ht] at hP1
    obtain ⟨hP, hD⟩ := va_join (wr := oW cO o0 fo) (w1 := wW h (a 0) t0 l0 m0 ++ sW cI a σ) hP hD [0, 1, 2, 3, 4, 5, 6] [7] rfl rfl (by decide) (by decide) hk1 hFc hP1 hD1
    have hP9 := hP.sub (ws' := oW cO o0 fo) [0] rfl
    have hD9 := hD.sub (ws' := oW cO o0 fo) [0] (by decide) rfl
    have hle : seesT x y ≤ 1 := by unfold seesT; (repeat' split) <;> omega
    have hT := thr1 hpx hle
    rw [hT] at hEn
    have hEn : E = eI := hEn
    subst hEn
    refine vx_catch (name := "java/lang/IndexOutOfBoundsException") hown [] ⟨0, 17, 20, 19⟩ [] htab (fun z hz => nomatch hz) (by decide) (by decide) (hts (.classLink RL 19 "java/lang/IndexOutOfBoundsException") (by decide +kernel)) (va_Nw.use rfl hXV.2.2.2.2.1) hq9 hce hcl ?_
    refine lv_astore (lv' := [(4, .ref q9), (0, .ref h), (1, .int x), (2, .int y), (3, .ref o0)]) hx hb dL_sees_20 hl (by decide) rfl (fun ls hl => ?_)
    refine lv_iconst (v := 1) hx hb dL_sees_22 (by decide) ?_
    exact W.iret (v := 1) hx hb hr (fun T9 ht hW => ⟨⟨1, fo, rfl, ⟨by rw [hT]; rfl, fun hz => absurd hz (by rw [hT]; decide)⟩, by rw [ht]; exact hP9, hD9⟩, hS.F ht⟩) hS.2.2 dL_sees_23
  · obtain ⟨hT, hR, -⟩ := hw
    obtain ⟨hP1, hK1, hD1⟩ := hB
    rw [ht] at hP1
    obtain ⟨hP, hD⟩ := va_join (wr := oW cO o0 fo) (w1 := wW h (a 0) t0 l0 m0 ++ sW cI a u) hP hD [0, 1, 2, 3, 4, 5, 6] [7] rfl rfl (by decide) (by decide) hk1 hFc hP1 hD1
    have hP := hP.sub (ws' := oW cO o0 fo) [0] rfl
    have hD := hD.sub (ws' := oW cO o0 fo) [0] (by decide) rfl
    generalize H1 = H at hP hS ⊢
    subst hR
    have hP : va_P D vwCl (oW cO o0 fo) H := hP
    have hD : va_D A (oW cO o0 fo) := hD
    refine w_bz (tgt := 15) hx hb dL_sees_8 (by decide) (fun c_8 => ?_) (fun c_8 => ?_)
    · refine lv_lconst (v := 0) hx hb dL_sees_15 (by decide) ?_
      refine va_last hx hb hK2 hP hD hS 0 1 rfl rfl (vp_in_nI (n := 0) (by decide) (by decide)) dL_sees_16 (fun H locs hP hD hS => ?_)
      have hP : va_P D vwCl (oW cO o0 (vp_updL fo (0 : Int32).toNatClampNeg 0)) H := hP
      have hD : va_D A (oW cO o0 (vp_updL fo (0 : Int32).toNatClampNeg 0)) := hD
      refine lv_goto (tgt := 24) hx hb dL_sees_17 (by decide) ?_
      refine lv_iconst (v := 0) hx hb dL_sees_24 (by decide) ?_
      have hP9 := hP
      have hD9 := hD
      exact W.iret (v := 0) hx hb hr (fun T9 ht hW => ⟨⟨0, (vp_updL fo (0 : Int32).toNatClampNeg 0), rfl, ⟨by rw [hT]; rfl, fun _ => by rw [c_8]; rfl⟩, by rw [ht]; exact hP9, hD9⟩, hS.F ht⟩) hS.2.2 dL_sees_25
    · refine lv_lconst (v := 1) hx hb dL_sees_11 (by decide) ?_
      refine lv_goto (tgt := 16) hx hb dL_sees_12 (by decide) ?_
      refine va_last hx hb hK2 hP hD hS 0 1 rfl rfl (vp_in_nI (n := 0) (by decide) (by decide)) dL_sees_16 (fun H locs hP hD hS => ?_)
      have hP : va_P D vwCl (oW cO o0 (vp_updL fo (0 : Int32).toNatClampNeg 1)) H := hP
      have hD : va_D A (oW cO o0 (vp_updL fo (0 : Int32).toNatClampNeg 1)) := hD
      refine lv_goto (tgt := 24) hx hb dL_sees_17 (by decide) ?_
      refine lv_iconst (v := 0) hx hb dL_sees_24 (by decide) ?_
      have hP9 := hP
      have hD9 := hD
      exact W.iret (v := 0) hx hb hr (fun T9 ht hW => ⟨⟨0, (vp_updL fo (0 : Int32).toNatClampNeg 1), rfl, ⟨by rw [hT]; rfl, fun _ => by rw [c_8]; rfl⟩, by rw [ht]; exact hP9, hD9⟩, hS.F ht⟩) hS.2.2 dL_sees_25

set_option maxHeartbeats 4000000 in
set_option maxRecDepth 100000 in
theorem c_L_set (l : Launch) (hst : l.stackTraces = false) (D : va_G) (cI cO : ClassId) (sz : Nat) (h t0 l0 m0 : Nat) (a : Nat → Nat) (σ : SS) (x y : Int32) (o0 : Nat) (fo : Nat → Int64) (hn : s_n σ ≤ 10) : Met l yL_set wsL_set ({ frames := 7, cells := 1, slots := 6, locals := 105 } : Room) (va_Pc [.ref h, .int x, .int y, .ref o0] (preL D cI cO (wW h (a 0) t0 l0 m0 ++ sW cI a σ ++ oW cO o0 fo) sz)) (va_Qi (fun (r : Int32) (u : Nat → Int64) => r = nI (setT σ x y) ∧ (setT σ x y = 0 → u 0 = (kindF σ x).toInt64)) (fun (u : Nat → Int64) => posO D cO (va_A (wW h (a 0) t0 l0 m0 ++ sW cI a σ ++ oW cO o0 fo) sz) o0 u) (va_A (wW h (a 0) t0 l0 m0 ++ sW cI a σ ++ oW cO o0 fo) sz)) 1 6 (va_A (wW h (a 0) t0 l0 m0 ++ sW cI a σ ++ oW cO o0 fo) sz) := by
  refine va_MetW (cc := cL_set) (maxL := 5) (ret := (some .int)) (hh := [(0, 10, 13, 19), (0, 10, 17, 13), (0, 10, 21, 21)]) (by decide) rfl ?_
  intro p e s m args below meth c s₁ B hml hv
  obtain ⟨rfl, hsz, hP, hK2, hXV, hD0, hTX, hN⟩ := hv
  have hK := K_1 hK2
  have hE := hXV.1
  have hx := B.exec
  have hb := B.bytes
  have hr := B.returns
  have hts := atoms_spec (ws := wsL_set) B.pre
  have hown : s.vm.findClass RL = some m.cls := findClass_of_methodNamed B.named
  have hlocks := B.notSynchronized
  have htab : c.exceptionTable.toList = tableOf [(0, 10, 13, 19), (0, 10, 17, 13), (0, 10, 21, 21)] := vx_table (x := yL_set) B (hts _ List.mem_cons_self)
  subst hsz
  have hD := hD0.self (sz := s.heap.size)
  generalize hAe : va_A (wW h (a 0) t0 l0 m0 ++ sW cI a σ ++ oW cO o0 fo) s.heap.size = A at hD hTX ⊢
  have hA : ∀ q : Nat, s.heap.size ≤ q → A q := fun q h => by rw [← hAe]; exact Or.inr h
  have hS : va_S A s.heap s.heap [] := va_S.rf
  have hP : va_P D vwCl (wW h (a 0) t0 l0 m0 ++ sW cI a σ ++ oW cO o0 fo) s.heap := hP
  have hl := lv_entry ([.ref h, .int x, .int y, .ref o0]) (n := 5) (Nat.le_of_ble_eq_true rfl)
  rw [lg_entry_eq]
  generalize (lg_sl ([.ref h, .int x, .int y, .ref o0]) ++ List.replicate (5 - (lg_sl ([.ref h, .int x, .int y, .ref o0])).length) Slot.unset).toArray = ls at hl ⊢
  have hl : lv_has ls 5 [(0, .ref h), (1, .int x), (2, .int y), (3, .ref o0)] := hl
  refine lv_aload_n hx hb dL_set_0 rfl (lv_at hl 3 rfl) ?_
  refine lv_iconst (v := 0) hx hb dL_set_1 (by decide) ?_
  refine lv_aload_n hx hb dL_set_2 rfl (lv_at hl 0 rfl) ?_
  refine lv_iload_n hx hb dL_set_3 rfl (lv_at hl 1 rfl) ?_
  refine lv_iload_n hx hb dL_set_4 rfl (lv_at hl 2 rfl) ?_
  have hFc := va_free (wc := wW h (a 0) t0 l0 m0 ++ sW cI a σ) hD hS hA [0, 1, 2, 3, 4, 5, 6] rfl
  refine vx_calli (vx_runV (As := [.int x, .int y]) (rest := [.int 0, .ref o0]) ⟨hx, hb, hml, hown, hts⟩ (c_X4_set l hst D cI _ h t0 l0 m0 a σ x y hn) (cwV 2 hts gL_set_X4_set rfl rfl rfl (by decide +kernel) ⟨Nat.le_of_ble_eq_true rfl, Nat.le_of_ble_eq_true rfl⟩) ⟨preX_blind, va_recv hK hP (ci := 4) (q0 := 0) rfl rfl, preX_of (hP.sub (ws' := wW h (a 0) t0 l0 m0 ++ sW cI a σ) [0, 1, 2, 3, 4, 5, 6] rfl) hK hXV (hD.sub (ws' := wW h (a 0) t0 l0 m0 ++ sW cI a σ) [0, 1, 2, 3, 4, 5, 6] (by decide) rfl) hTX hS hFc [.ref h, .int x, .int y]⟩ rfl rfl hl.1 rfl (lv_room (Nat.le_of_ble_eq_true rfl)) dL_set_5 ⟨Nat.le_of_ble_eq_true rfl, Nat.le_of_ble_eq_true rfl⟩) hS (fun q _ h => hFc q h) hFc (fun q _ h => hFc q h) (fun E ce q9 u t9 H1 locs ht hvm hpx hBX hz1 hk1 hS hq9 hce hcl => ?_) (fun r u t9 H1 locs ht hvm hw hB hz1 hk1 hS => ?_)
  · obtain ⟨hEn, hP1, -, hD1⟩ := hBX
    rw [ht] at hP1
    obtain ⟨hP, hD⟩ := va_join (wr := oW cO o0 fo) (w1 := wW h (a 0) t0 l0 m0 ++ sW cI a σ) hP hD [0, 1, 2, 3, 4, 5, 6] [7] rfl rfl (by decide) (by decide) hk1 hFc hP1 hD1
    have hP9 := hP.sub (ws' := oW cO o0 fo) [0] rfl
    have hD9 := hD.sub (ws' := oW cO o0 fo) [0] (by decide) rfl
    have hle : setT σ x y ≤ 3 := by unfold setT setT2; (repeat' split) <;> omega
    rcases thr3 hpx hle with hT | hT | hT
    · rw [hT] at hEn
      have hEn : E = eI := hEn
      subst hEn
      refine vx_catch (name := "java/lang/IndexOutOfBoundsException") hown [] ⟨0, 10, 13, 19⟩ [⟨0, 10, 17, 13⟩, ⟨0, 10, 21, 21⟩] htab (fun z hz => nomatch hz) (by decide) (by decide) (hts (.classLink RL 19 "java/lang/IndexOutOfBoundsException") (by decide +kernel)) (va_Nw.use rfl hXV.2.2.2.2.1) hq9 hce hcl ?_
      refine lv_astore (lv' := [(4, .ref q9), (0, .ref h), (1, .int x), (2, .int y), (3, .ref o0)]) hx hb dL_set_13 hl (by decide) rfl (fun ls hl => ?_)
      refine lv_iconst (v := 1) hx hb dL_set_15 (by decide) ?_
      exact W.iret (v := 1) hx hb hr (fun T9 ht hW => ⟨⟨1, fo, rfl, ⟨by rw [hT]; rfl, fun hz => absurd hz (by rw [hT]; decide)⟩, by rw [ht]; exact hP9, hD9⟩, hS.F ht⟩) hS.2.2 dL_set_16
    · rw [hT] at hEn
      have hEn : E = eA := hEn
      subst hEn
      refine vx_catch (name := "java/lang/IllegalArgumentException") hown [⟨0, 10, 13, 19⟩] ⟨0, 10, 17, 13⟩ [⟨0, 10, 21, 21⟩] htab (fun z hz => by rw [List.mem_singleton.mp hz]; exact Or.inr ⟨by decide, _, (hts (.classLink RL 19 "java/lang/IndexOutOfBoundsException") (by decide +kernel)), hN.1⟩) (by decide) (by decide) (hts (.classLink RL 13 "java/lang/IllegalArgumentException") (by decide +kernel)) (va_Nw.use rfl hXV.2.2.1) hq9 hce hcl ?_
      refine lv_astore (lv' := [(4, .ref q9), (0, .ref h), (1, .int x), (2, .int y), (3, .ref o0)]) hx hb dL_set_17 hl (by decide) rfl (fun ls hl => ?_)
      refine lv_iconst (v := 2) hx hb dL_set_19 (by decide) ?_
      exact W.iret (v := 2) hx hb hr (fun T9 ht hW => ⟨⟨2, fo, rfl, ⟨by rw [hT]; rfl, fun hz => absurd hz (by rw [hT]; decide)⟩, by rw [ht]; exact hP9, hD9⟩, hS.F ht⟩) hS.2.2 dL_set_20
    · rw [hT] at hEn
      have hEn : E = eS := hEn
      subst hEn
      refine vx_catch (name := "java/lang/IllegalStateException") hown [⟨0, 10, 13, 19⟩, ⟨0, 10, 17, 13⟩] ⟨0, 10, 21, 21⟩ [] htab (fun z hz => by rcases List.mem_cons.mp hz with rfl | hz; exact Or.inr ⟨by decide, _, (hts (.classLink RL 19 "java/lang/IndexOutOfBoundsException") (by decide +kernel)), hN.2.1⟩; rw [List.mem_singleton.mp hz]; exact Or.inr ⟨by decide, _, (hts (.classLink RL 13 "java/lang/IllegalArgumentException") (by decide +kernel)), hN.2.2.1⟩) (by decide) (by decide) (hts (.classLink RL 21 "java/lang/IllegalStateException") (by decide +kernel)) (va_Nw.use rfl hXV.2.2.2.1) hq9 hce hcl ?_
      refine lv_astore (lv' := [(4, .ref q9), (0, .ref h), (1, .int x), (2, .int y), (3, .ref o0)]) hx hb dL_set_21 hl (by decide) rfl (fun ls hl => ?_)
      refine lv_iconst (v := 3) hx hb dL_set_23 (by decide) ?_
      exact W.iret (v := 3) hx hb hr (fun T9 ht hW => ⟨⟨3, fo, rfl, ⟨by rw [hT]; rfl, fun hz => absurd hz (by rw [hT]; decide)⟩, by rw [ht]; exact hP9, hD9⟩, hS.F ht⟩) hS.2.2 dL_set_24
  · obtain ⟨hT, hR, -⟩ := hw
    obtain ⟨hP1, hK1, hD1⟩ := hB
    rw [ht] at hP1
    obtain ⟨hP, hD⟩ := va_join (wr := oW cO o0 fo) (w1 := wW h (a 0) t0 l0 m0 ++ sW cI a u) hP hD [0, 1, 2, 3, 4, 5, 6] [7] rfl rfl (by decide) (by decide) hk1 hFc hP1 hD1
    have hP := hP.sub (ws' := oW cO o0 fo) [0] rfl
    have hD := hD.sub (ws' := oW cO o0 fo) [0] (by decide) rfl
    generalize H1 = H at hP hS ⊢
    subst hR
    have hP : va_P D vwCl (oW cO o0 fo) H := hP
    have hD : va_D A (oW cO o0 fo) := hD
    refine lv_i2l (v := (kindF σ x).toInt64) hx hb dL_set_8 rfl ?_
    refine va_last hx hb hK2 hP hD hS 0 1 rfl rfl (vp_in_nI (n := 0) (by decide) (by decide)) dL_set_9 (fun H locs hP hD hS => ?_)
    have hP : va_P D vwCl (oW cO o0 (vp_updL fo (0 : Int32).toNatClampNeg ((kindF σ x).toInt64))) H := hP
    have hD : va_D A (oW cO o0 (vp_updL fo (0 : Int32).toNatClampNeg ((kindF σ x).toInt64))) := hD
    refine lv_goto (tgt := 25) hx hb dL_set_10 (by decide) ?_
    refine lv_iconst (v := 0) hx hb dL_set_25 (by decide) ?_
    have hP9 := hP
    have hD9 := hD
    exact W.iret (v := 0) hx hb hr (fun T9 ht hW => ⟨⟨0, (vp_updL fo (0 : Int32).toNatClampNeg ((kindF σ x).toInt64)), rfl, ⟨by rw [hT]; rfl, fun _ => rfl⟩, by rw [ht]; exact hP9, hD9⟩, hS.F ht⟩) hS.2.2 dL_set_26

set_option maxHeartbeats 4000000 in
set_option maxRecDepth 100000 in
theorem c_L_target (l : Launch) (hst : l.stackTraces = false) (D : va_G) (cI cO : ClassId) (sz : Nat) (h t0 l0 m0 : Nat) (a : Nat → Nat) (σ : SS) (x : Int32) (o0 : Nat) (fo : Nat → Int64) (hn : s_n σ ≤ 10) : Met l yL_target wsL_target ({ frames := 7, cells := 1, slots := 6, locals := 117 } : Room) (va_Pc [.ref h, .int x, .ref o0] (preL D cI cO (wW h (a 0) t0 l0 m0 ++ sW cI a σ ++ oW cO o0 fo) sz)) (va_Qi (fun (r : Int32) (u : Nat → Int64) => r = nI (targetT σ x) ∧ (targetT σ x = 0 → u 0 = (targetF σ x).toInt64)) (fun (u : Nat → Int64) => posO D cO (va_A (wW h (a 0) t0 l0 m0 ++ sW cI a σ ++ oW cO o0 fo) sz) o0 u) (va_A (wW h (a 0) t0 l0 m0 ++ sW cI a σ ++ oW cO o0 fo) sz)) 1 6 (va_A (wW h (a 0) t0 l0 m0 ++ sW cI a σ ++ oW cO o0 fo) sz) := by
  refine va_MetW (cc := cL_target) (maxL := 4) (ret := (some .int)) (hh := [(0, 9, 12, 19)]) (by decide) rfl ?_
  intro p e s m args below meth c s₁ B hml hv
  obtain ⟨rfl, hsz, hP, hK2, hXV, hD0, hTX, hN⟩ := hv
  have hK := K_1 hK2
  have hE := hXV.1
  have hx := B.exec
  have hb := B.bytes
  have hr := B.returns
  have hts := atoms_spec (ws := wsL_target) B.pre
  have hown : s.vm.findClass RL = some m.cls := findClass_of_methodNamed B.named
  have hlocks := B.notSynchronized
  have htab : c.exceptionTable.toList = tableOf [(0, 9, 12, 19)] := vx_table (x := yL_target) B (hts _ List.mem_cons_self)
  subst hsz
  have hD := hD0.self (sz := s.heap.size)
  generalize hAe : va_A (wW h (a 0) t0 l0 m0 ++ sW cI a σ ++ oW cO o0 fo) s.heap.size = A at hD hTX ⊢
  have hA : ∀ q : Nat, s.heap.size ≤ q → A q := fun q h => by rw [← hAe]; exact Or.inr h
  have hS : va_S A s.heap s.heap [] := va_S.rf
  have hP : va_P D vwCl (wW h (a 0) t0 l0 m0 ++ sW cI a σ ++ oW cO o0 fo) s.heap := hP
  have hl := lv_entry ([.ref h, .int x, .ref o0]) (n := 4) (Nat.le_of_ble_eq_true rfl)
  rw [lg_entry_eq]
  generalize (lg_sl ([.ref h, .int x, .ref o0]) ++ List.replicate (4 - (lg_sl ([.ref h, .int x, .ref o0])).length) Slot.unset).toArray = ls at hl ⊢
  have hl : lv_has ls 4 [(0, .ref h), (1, .int x), (2, .ref o0)] := hl
  refine lv_aload_n hx hb dL_target_0 rfl (lv_at hl 2 rfl) ?_
  refine lv_iconst (v := 0) hx hb dL_target_1 (by decide) ?_
  refine lv_aload_n hx hb dL_target_2 rfl (lv_at hl 0 rfl) ?_
  refine lv_iload_n hx hb dL_target_3 rfl (lv_at hl 1 rfl) ?_
  have hFc := va_free (wc := wW h (a 0) t0 l0 m0 ++ sW cI a σ) hD hS hA [0, 1, 2, 3, 4, 5, 6] rfl
  refine vx_calli (vx_runV (As := [.int x]) (rest := [.int 0, .ref o0]) ⟨hx, hb, hml, hown, hts⟩ (c_X4_target l hst D cI _ h t0 l0 m0 a σ x hn) (cwV 1 hts gL_target_X4_target rfl rfl rfl (by decide +kernel) ⟨Nat.le_of_ble_eq_true rfl, Nat.le_of_ble_eq_true rfl⟩) ⟨preX_blind, va_recv hK hP (ci := 4) (q0 := 0) rfl rfl, preX_of (hP.sub (ws' := wW h (a 0) t0 l0 m0 ++ sW cI a σ) [0, 1, 2, 3, 4, 5, 6] rfl) hK hXV (hD.sub (ws' := wW h (a 0) t0 l0 m0 ++ sW cI a σ) [0, 1, 2, 3, 4, 5, 6] (by decide) rfl) hTX hS hFc [.ref h, .int x]⟩ rfl rfl hl.1 rfl (lv_room (Nat.le_of_ble_eq_true rfl)) dL_target_4 ⟨Nat.le_of_ble_eq_true rfl, Nat.le_of_ble_eq_true rfl⟩) hS (fun q _ h => hFc q h) hFc (fun q _ h => hFc q h) (fun E ce q9 u t9 H1 locs ht hvm hpx hBX hz1 hk1 hS hq9 hce hcl => ?_) (fun r u t9 H1 locs ht hvm hw hB hz1 hk1 hS => ?_)
  · obtain ⟨hEn, hP1, -, hD1⟩ := hBX
    rw [ht] at hP1
    obtain ⟨hP, hD⟩ := va_join (wr := oW cO o0 fo) (w1 := wW h (a 0) t0 l0 m0 ++ sW cI a σ) hP hD [0, 1, 2, 3, 4, 5, 6] [7] rfl rfl (by decide) (by decide) hk1 hFc hP1 hD1
    have hP9 := hP.sub (ws' := oW cO o0 fo) [0] rfl
    have hD9 := hD.sub (ws' := oW cO o0 fo) [0] (by decide) rfl
    have hle : targetT σ x ≤ 1 := by unfold targetT; (repeat' split) <;> omega
    have hT := thr1 hpx hle
    rw [hT] at hEn
    have hEn : E = eI := hEn
    subst hEn
    refine vx_catch (name := "java/lang/IndexOutOfBoundsException") hown [] ⟨0, 9, 12, 19⟩ [] htab (fun z hz => nomatch hz) (by decide) (by decide) (hts (.classLink RL 19 "java/lang/IndexOutOfBoundsException") (by decide +kernel)) (va_Nw.use rfl hXV.2.2.2.2.1) hq9 hce hcl ?_
    refine lv_astore_n (lv' := [(3, .ref q9), (0, .ref h), (1, .int x), (2, .ref o0)]) hx hb dL_target_12 rfl hl (by decide) rfl (fun ls hl => ?_)
    refine lv_iconst (v := 1) hx hb dL_target_13 (by decide) ?_
    exact W.iret (v := 1) hx hb hr (fun T9 ht hW => ⟨⟨1, fo, rfl, ⟨by rw [hT]; rfl, fun hz => absurd hz (by rw [hT]; decide)⟩, by rw [ht]; exact hP9, hD9⟩, hS.F ht⟩) hS.2.2 dL_target_14
  · obtain ⟨hT, hR, -⟩ := hw
    obtain ⟨hP1, hK1, hD1⟩ := hB
    rw [ht] at hP1
    obtain ⟨hP, hD⟩ := va_join (wr := oW cO o0 fo) (w1 := wW h (a 0) t0 l0 m0 ++ sW cI a u) hP hD [0, 1, 2, 3, 4, 5, 6] [7] rfl rfl (by decide) (by decide) hk1 hFc hP1 hD1
    have hP := hP.sub (ws' := oW cO o0 fo) [0] rfl
    have hD := hD.sub (ws' := oW cO o0 fo) [0] (by decide) rfl
    generalize H1 = H at hP hS ⊢
    subst hR
    have hP : va_P D vwCl (oW cO o0 fo) H := hP
    have hD : va_D A (oW cO o0 fo) := hD
    refine lv_i2l (v := (targetF σ x).toInt64) hx hb dL_target_7 rfl ?_
    refine va_last hx hb hK2 hP hD hS 0 1 rfl rfl (vp_in_nI (n := 0) (by decide) (by decide)) dL_target_8 (fun H locs hP hD hS => ?_)
    have hP : va_P D vwCl (oW cO o0 (vp_updL fo (0 : Int32).toNatClampNeg ((targetF σ x).toInt64))) H := hP
    have hD : va_D A (oW cO o0 (vp_updL fo (0 : Int32).toNatClampNeg ((targetF σ x).toInt64))) := hD
    refine lv_goto (tgt := 15) hx hb dL_target_9 (by decide) ?_
    refine lv_iconst (v := 0) hx hb dL_target_15 (by decide) ?_
    have hP9 := hP
    have hD9 := hD
    exact W.iret (v := 0) hx hb hr (fun T9 ht hW => ⟨⟨0, (vp_updL fo (0 : Int32).toNatClampNeg ((targetF σ x).toInt64)), rfl, ⟨by rw [hT]; rfl, fun _ => rfl⟩, by rw [ht]; exact hP9, hD9⟩, hS.F ht⟩) hS.2.2 dL_target_16

set_option maxHeartbeats 4000000 in
set_option maxRecDepth 100000 in
theorem c_L_way_0 (l : Launch) (hst : l.stackTraces = false) (D : va_G) (cI cO : ClassId) (sz : Nat) (h t0 l0 m0 : Nat) (a : Nat → Nat) (σ : SS) (x y : Int32) (o0 : Nat) (fo : Nat → Int64) (h0 : s_n σ = 0) : Met l yL_way wsL_way ({ frames := 7, cells := 1, slots := 6, locals := 104 } : Room) (va_Pc [.ref h, .int x, .int y, .ref o0] (preL D cI cO (wW h (a 0) t0 l0 m0 ++ sW cI a σ ++ oW cO o0 fo) sz)) (va_Qi (fun (r : Int32) (u : Nat → Int64) => r = nI (1) ∧ (1 = 0 → u 0 = (0).toInt64)) (fun (u : Nat → Int64) => posO D cO (va_A (wW h (a 0) t0 l0 m0 ++ sW cI a σ ++ oW cO o0 fo) sz) o0 u) (va_A (wW h (a 0) t0 l0 m0 ++ sW cI a σ ++ oW cO o0 fo) sz)) 1 6 (va_A (wW h (a 0) t0 l0 m0 ++ sW cI a σ ++ oW cO o0 fo) sz) := by
  refine va_MetW (cc := cL_way) (maxL := 5) (ret := (some .int)) (hh := [(0, 10, 13, 19)]) (by decide) rfl ?_
  intro p e s m args below meth c s₁ B hml hv
  obtain ⟨rfl, hsz, hP, hK2, hXV, hD0, hTX, hN⟩ := hv
  have hK := K_1 hK2
  have hE := hXV.1
  have hx := B.exec
  have hb := B.bytes
  have hr := B.returns
  have hts := atoms_spec (ws := wsL_way) B.pre
  have hown : s.vm.findClass RL = some m.cls := findClass_of_methodNamed B.named
  have hlocks := B.notSynchronized
  have htab : c.exceptionTable.toList = tableOf [(0, 10, 13, 19)] := vx_table (x := yL_way) B (hts _ List.mem_cons_self)
  subst hsz
  have hD := hD0.self (sz := s.heap.size)
  generalize hAe : va_A (wW h (a 0) t0 l0 m0 ++ sW cI a σ ++ oW cO o0 fo) s.heap.size = A at hD hTX ⊢
  have hA : ∀ q : Nat, s.heap.size ≤ q → A q := fun q h => by rw [← hAe]; exact Or.inr h
  have hS : va_S A s.heap s.heap [] := va_S.rf
  have hP : va_P D vwCl (wW h (a 0) t0 l0 m0 ++ sW cI a σ ++ oW cO o0 fo) s.heap := hP
  have hl := lv_entry ([.ref h, .int x, .int y, .ref o0]) (n := 5) (Nat.le_of_ble_eq_true rfl)
  rw [lg_entry_eq]
  generalize (lg_sl ([.ref h, .int x, .int y, .ref o0]) ++ List.replicate (5 - (lg_sl ([.ref h, .int x, .int y, .ref o0])).length) Slot.unset).toArray = ls at hl ⊢
  have hl : lv_has ls 5 [(0, .ref h), (1, .int x), (2, .int y), (3, .ref o0)] := hl
  refine lv_aload_n hx hb dL_way_0 rfl (lv_at hl 3 rfl) ?_
  refine lv_iconst (v := 0) hx hb dL_way_1 (by decide) ?_
  refine lv_aload_n hx hb dL_way_2 rfl (lv_at hl 0 rfl) ?_
  refine lv_iload_n hx hb dL_way_3 rfl (lv_at hl 1 rfl) ?_
  refine lv_iload_n hx hb dL_way_4 rfl (lv_at hl 2 rfl) ?_
  have hFc := va_free (wc := wW h (a 0) t0 l0 m0 ++ sW cI a σ) hD hS hA [0, 1, 2, 3, 4, 5, 6] rfl
  refine vx_calli (vx_runV (As := [.int x, .int y]) (rest := [.int 0, .ref o0]) ⟨hx, hb, hml, hown, hts⟩ (c_X4_way_0 l hst D cI _ h t0 l0 m0 a σ x y h0) (cwV 2 hts gL_way_X4_way rfl rfl rfl (by decide +kernel) ⟨Nat.le_of_ble_eq_true rfl, Nat.le_of_ble_eq_true rfl⟩) ⟨preX_blind, va_recv hK hP (ci := 4) (q0 := 0) rfl rfl, preX_of (hP.sub (ws' := wW h (a 0) t0 l0 m0 ++ sW cI a σ) [0, 1, 2, 3, 4, 5, 6] rfl) hK hXV (hD.sub (ws' := wW h (a 0) t0 l0 m0 ++ sW cI a σ) [0, 1, 2, 3, 4, 5, 6] (by decide) rfl) hTX hS hFc [.ref h, .int x, .int y]⟩ rfl rfl hl.1 rfl (lv_room (Nat.le_of_ble_eq_true rfl)) dL_way_5 ⟨Nat.le_of_ble_eq_true rfl, Nat.le_of_ble_eq_true rfl⟩) hS (fun q _ h => hFc q h) hFc (fun q _ h => hFc q h) (fun E ce q9 u t9 H1 locs ht hvm hpx hBX hz1 hk1 hS hq9 hce hcl => ?_) (fun r u t9 H1 locs ht hvm hw hB hz1 hk1 hS => ?_)
  · obtain ⟨hEn, hP1, -, hD1⟩ := hBX
    rw [ht] at hP1
    obtain ⟨hP, hD⟩ := va_join (wr := oW cO o0 fo) (w1 := wW h (a 0) t0 l0 m0 ++ sW cI a σ) hP hD [0, 1, 2, 3, 4, 5, 6] [7] rfl rfl (by decide) (by decide) hk1 hFc hP1 hD1
    have hP9 := hP.sub (ws' := oW cO o0 fo) [0] rfl
    have hD9 := hD.sub (ws' := oW cO o0 fo) [0] (by decide) rfl
    have hle : 1 ≤ 1 := by omega
    have hT := thr1 hpx hle
    rw [hT] at hEn
    have hEn : E = eI := hEn
    subst hEn
    refine vx_catch (name := "java/lang/IndexOutOfBoundsException") hown [] ⟨0, 10, 13, 19⟩ [] htab (fun z hz => nomatch hz) (by decide) (by decide) (hts (.classLink RL 19 "java/lang/IndexOutOfBoundsException") (by decide +kernel)) (va_Nw.use rfl hXV.2.2.2.2.1) hq9 hce hcl ?_
    refine lv_astore (lv' := [(4, .ref q9), (0, .ref h), (1, .int x), (2, .int y), (3, .ref o0)]) hx hb dL_way_13 hl (by decide) rfl (fun ls hl => ?_)
    refine lv_iconst (v := 1) hx hb dL_way_15 (by decide) ?_
    exact W.iret (v := 1) hx hb hr (fun T9 ht hW => ⟨⟨1, fo, rfl, ⟨by rw [hT]; rfl, fun hz => absurd hz (by rw [hT]; decide)⟩, by rw [ht]; exact hP9, hD9⟩, hS.F ht⟩) hS.2.2 dL_way_16
  · exact hw.1.elim

set_option maxHeartbeats 4000000 in
set_option maxRecDepth 100000 in
theorem c_L_worth_0 (l : Launch) (hst : l.stackTraces = false) (D : va_G) (cI cO : ClassId) (sz : Nat) (h t0 l0 m0 : Nat) (a : Nat → Nat) (σ : SS) (x y : Int32) (o0 : Nat) (fo : Nat → Int64) (h0 : s_n σ = 0) : Met l yL_worth wsL_worth ({ frames := 7, cells := 1, slots := 6, locals := 104 } : Room) (va_Pc [.ref h, .int x, .int y, .ref o0] (preL D cI cO (wW h (a 0) t0 l0 m0 ++ sW cI a σ ++ oW cO o0 fo) sz)) (va_Qi (fun (r : Int32) (u : Nat → Int64) => r = nI (1) ∧ (1 = 0 → u 0 = (0).toInt64)) (fun (u : Nat → Int64) => posO D cO (va_A (wW h (a 0) t0 l0 m0 ++ sW cI a σ ++ oW cO o0 fo) sz) o0 u) (va_A (wW h (a 0) t0 l0 m0 ++ sW cI a σ ++ oW cO o0 fo) sz)) 1 6 (va_A (wW h (a 0) t0 l0 m0 ++ sW cI a σ ++ oW cO o0 fo) sz) := by
  refine va_MetW (cc := cL_worth) (maxL := 5) (ret := (some .int)) (hh := [(0, 10, 13, 19), (0, 10, 17, 13)]) (by decide) rfl ?_
  intro p e s m args below meth c s₁ B hml hv
  obtain ⟨rfl, hsz, hP, hK2, hXV, hD0, hTX, hN⟩ := hv
  have hK := K_1 hK2
  have hE := hXV.1
  have hx := B.exec
  have hb := B.bytes
  have hr := B.returns
  have hts := atoms_spec (ws := wsL_worth) B.pre
  have hown : s.vm.findClass RL = some m.cls := findClass_of_methodNamed B.named
  have hlocks := B.notSynchronized
  have htab : c.exceptionTable.toList = tableOf [(0, 10, 13, 19), (0, 10, 17, 13)] := vx_table (x := yL_worth) B (hts _ List.mem_cons_self)
  subst hsz
  have hD := hD0.self (sz := s.heap.size)
  generalize hAe : va_A (wW h (a 0) t0 l0 m0 ++ sW cI a σ ++ oW cO o0 fo) s.heap.size = A at hD hTX ⊢
  have hA : ∀ q : Nat, s.heap.size ≤ q → A q := fun q h => by rw [← hAe]; exact Or.inr h
  have hS : va_S A s.heap s.heap [] := va_S.rf
  have hP : va_P D vwCl (wW h (a 0) t0 l0 m0 ++ sW cI a σ ++ oW cO o0 fo) s.heap := hP
  have hl := lv_entry ([.ref h, .int x, .int y, .ref o0]) (n := 5) (Nat.le_of_ble_eq_true rfl)
  rw [lg_entry_eq]
  generalize (lg_sl ([.ref h, .int x, .int y, .ref o0]) ++ List.replicate (5 - (lg_sl ([.ref h, .int x, .int y, .ref o0])).length) Slot.unset).toArray = ls at hl ⊢
  have hl : lv_has ls 5 [(0, .ref h), (1, .int x), (2, .int y), (3, .ref o0)] := hl
  refine lv_aload_n hx hb dL_worth_0 rfl (lv_at hl 3 rfl) ?_
  refine lv_iconst (v := 0) hx hb dL_worth_1 (by decide) ?_
  refine lv_aload_n hx hb dL_worth_2 rfl (lv_at hl 0 rfl) ?_
  refine lv_iload_n hx hb dL_worth_3 rfl (lv_at hl 1 rfl) ?_
  refine lv_iload_n hx hb dL_worth_4 rfl (lv_at hl 2 rfl) ?_
  have hFc := va_free (wc := wW h (a 0) t0 l0 m0 ++ sW cI a σ) hD hS hA [0, 1, 2, 3, 4, 5, 6] rfl
  refine vx_calli (vx_runV (As := [.int x, .int y]) (rest := [.int 0, .ref o0]) ⟨hx, hb, hml, hown, hts⟩ (c_X4_worth_0 l hst D cI _ h t0 l0 m0 a σ x y h0) (cwV 2 hts gL_worth_X4_worth rfl rfl rfl (by decide +kernel) ⟨Nat.le_of_ble_eq_true rfl, Nat.le_of_ble_eq_true rfl⟩) ⟨preX_blind, va_recv hK hP (ci := 4) (q0 := 0) rfl rfl, preX_of (hP.sub (ws' := wW h (a 0) t0 l0 m0 ++ sW cI a σ) [0, 1, 2, 3, 4, 5, 6] rfl) hK hXV (hD.sub (ws' := wW h (a 0) t0 l0 m0 ++ sW cI a σ) [0, 1, 2, 3, 4, 5, 6] (by decide) rfl) hTX hS hFc [.ref h, .int x, .int y]⟩ rfl rfl hl.1 rfl (lv_room (Nat.le_of_ble_eq_true rfl)) dL_worth_5 ⟨Nat.le_of_ble_eq_true rfl, Nat.le_of_ble_eq_true rfl⟩) hS (fun q _ h => hFc q h) hFc (fun q _ h => hFc q h) (fun E ce q9 u t9 H1 locs ht hvm hpx hBX hz1 hk1 hS hq9 hce hcl => ?_) (fun r u t9 H1 locs ht hvm hw hB hz1 hk1 hS => ?_)
  · obtain ⟨hEn, hP1, -, hD1⟩ := hBX
    rw [ht] at hP1
    obtain ⟨hP, hD⟩ := va_join (wr := oW cO o0 fo) (w1 := wW h (a 0) t0 l0 m0 ++ sW cI a σ) hP hD [0, 1, 2, 3, 4, 5, 6] [7] rfl rfl (by decide) (by decide) hk1 hFc hP1 hD1
    have hP9 := hP.sub (ws' := oW cO o0 fo) [0] rfl
    have hD9 := hD.sub (ws' := oW cO o0 fo) [0] (by decide) rfl
    have hle : 1 ≤ 2 := by omega
    rcases thr2 hpx hle with hT | hT
    · rw [hT] at hEn
      have hEn : E = eI := hEn
      subst hEn
      refine vx_catch (name := "java/lang/IndexOutOfBoundsException") hown [] ⟨0, 10, 13, 19⟩ [⟨0, 10, 17, 13⟩] htab (fun z hz => nomatch hz) (by decide) (by decide) (hts (.classLink RL 19 "java/lang/IndexOutOfBoundsException") (by decide +kernel)) (va_Nw.use rfl hXV.2.2.2.2.1) hq9 hce hcl ?_
      refine lv_astore (lv' := [(4, .ref q9), (0, .ref h), (1, .int x), (2, .int y), (3, .ref o0)]) hx hb dL_worth_13 hl (by decide) rfl (fun ls hl => ?_)
      refine lv_iconst (v := 1) hx hb dL_worth_15 (by decide) ?_
      exact W.iret (v := 1) hx hb hr (fun T9 ht hW => ⟨⟨1, fo, rfl, ⟨by rw [hT]; rfl, fun hz => absurd hz (by rw [hT]; decide)⟩, by rw [ht]; exact hP9, hD9⟩, hS.F ht⟩) hS.2.2 dL_worth_16
    · rw [hT] at hEn
      have hEn : E = eA := hEn
      subst hEn
      refine vx_catch (name := "java/lang/IllegalArgumentException") hown [⟨0, 10, 13, 19⟩] ⟨0, 10, 17, 13⟩ [] htab (fun z hz => by rw [List.mem_singleton.mp hz]; exact Or.inr ⟨by decide, _, (hts (.classLink RL 19 "java/lang/IndexOutOfBoundsException") (by decide +kernel)), hN.1⟩) (by decide) (by decide) (hts (.classLink RL 13 "java/lang/IllegalArgumentException") (by decide +kernel)) (va_Nw.use rfl hXV.2.2.1) hq9 hce hcl ?_
      refine lv_astore (lv' := [(4, .ref q9), (0, .ref h), (1, .int x), (2, .int y), (3, .ref o0)]) hx hb dL_worth_17 hl (by decide) rfl (fun ls hl => ?_)
      refine lv_iconst (v := 2) hx hb dL_worth_19 (by decide) ?_
      exact W.iret (v := 2) hx hb hr (fun T9 ht hW => ⟨⟨2, fo, rfl, ⟨by rw [hT]; rfl, fun hz => absurd hz (by rw [hT]; decide)⟩, by rw [ht]; exact hP9, hD9⟩, hS.F ht⟩) hS.2.2 dL_worth_20
  · exact hw.1.elim

