set_option maxHeartbeats 4000000 in
set_option maxRecDepth 100000 in
theorem c_L_save_0 (l : Launch) (hst : l.stackTraces = false) (D : va_G) (cI cO : ClassId) (sz : Nat) (h t0 l0 m0 : Nat) (a : Nat → Nat) (σ : SS) (mc : Int32) (e0 : Nat) (o0 : Nat) (fo : Nat → Int64) : Met l yL_save wsL_save ({ frames := 6, cells := 8, slots := 530, locals := 122 } : Room) (va_Pc [.ref h, .ref o0] (preLE D cI cO (wW h (a 0) t0 l0 m0 ++ sW cI a σ ++ wL l0 mc e0 0 ++ oW cO o0 fo) sz e0)) (va_Qi (fun (r : Int32) (u : Nat → Int64) => r = nI (0) ∧ (0 = 0 → u 0 = ((0 : Int32)).toInt64)) (fun (u : Nat → Int64) => posO D cO (va_A (wW h (a 0) t0 l0 m0 ++ sW cI a σ ++ wL l0 mc e0 0 ++ oW cO o0 fo) sz) o0 u) (va_A (wW h (a 0) t0 l0 m0 ++ sW cI a σ ++ wL l0 mc e0 0 ++ oW cO o0 fo) sz)) 8 530 (va_A (wW h (a 0) t0 l0 m0 ++ sW cI a σ ++ wL l0 mc e0 0 ++ oW cO o0 fo) sz) := by
  refine va_MetW (cc := cL_save) (maxL := 3) (ret := (some .int)) (hh := [(0, 8, 11, 21)]) (by decide) rfl ?_
  intro p e s m args below meth c s₁ B hml hv
  obtain ⟨rfl, ⟨hsz, hP, hK2, hXV, hD0, hTX, hN⟩, hEX⟩ := hv
  have hK := K_1 hK2
  have hE := hXV.1
  have hx := B.exec
  have hb := B.bytes
  have hr := B.returns
  have hts := atoms_spec (ws := wsL_save) B.pre
  have hown : s.vm.findClass RL = some m.cls := findClass_of_methodNamed B.named
  have hlocks := B.notSynchronized
  have htab : c.exceptionTable.toList = tableOf [(0, 8, 11, 21)] := vx_table (x := yL_save) B (hts _ List.mem_cons_self)
  subst hsz
  have hD := hD0.self (sz := s.heap.size)
  generalize hAe : va_A (wW h (a 0) t0 l0 m0 ++ sW cI a σ ++ wL l0 mc e0 0 ++ oW cO o0 fo) s.heap.size = A at hD hTX hEX ⊢
  have hA : ∀ q : Nat, s.heap.size ≤ q → A q := fun q h => by rw [← hAe]; exact Or.inr h
  have hS : va_S A s.heap s.heap [] := va_S.rf
  have hP : va_P D vwCl (wW h (a 0) t0 l0 m0 ++ sW cI a σ ++ wL l0 mc e0 0 ++ oW cO o0 fo) s.heap := hP
  have hl := lv_entry ([.ref h, .ref o0]) (n := 3) (Nat.le_of_ble_eq_true rfl)
  rw [lg_entry_eq]
  generalize (lg_sl ([.ref h, .ref o0]) ++ List.replicate (3 - (lg_sl ([.ref h, .ref o0])).length) Slot.unset).toArray = ls at hl ⊢
  have hl : lv_has ls 3 [(0, .ref h), (1, .ref o0)] := hl
  refine lv_aload_n hx hb dL_save_0 rfl (lv_at hl 1 rfl) ?_
  refine lv_iconst (v := 0) hx hb dL_save_1 (by decide) ?_
  refine lv_aload_n hx hb dL_save_2 rfl (lv_at hl 0 rfl) ?_
  have hFc := va_free (wc := wW h (a 0) t0 l0 m0 ++ sW cI a σ ++ wL l0 mc e0 0) hD hS hA [0, 1, 2, 3, 4, 5, 6, 7] rfl
  refine vx_calli (vx_runV (As := []) (rest := [.int 0, .ref o0]) ⟨hx, hb, hml, hown, hts⟩ (c_X4_save_0 l hst D cI _ h t0 l0 m0 a σ mc e0) (cwV 0 hts gL_save_X4_save rfl rfl rfl (by decide +kernel) ⟨Nat.le_of_ble_eq_true rfl, Nat.le_of_ble_eq_true rfl⟩) ⟨preXE_blind, va_recv hK hP (ci := 4) (q0 := 0) rfl rfl, preXE_of (hP.sub (ws' := wW h (a 0) t0 l0 m0 ++ sW cI a σ ++ wL l0 mc e0 0) [0, 1, 2, 3, 4, 5, 6, 7] rfl) hK hXV (hD.sub (ws' := wW h (a 0) t0 l0 m0 ++ sW cI a σ ++ wL l0 mc e0 0) [0, 1, 2, 3, 4, 5, 6, 7] (by decide) rfl) hTX hEX hS hFc [.ref h]⟩ rfl rfl hl.1 rfl (lv_room (Nat.le_of_ble_eq_true rfl)) dL_save_3 ⟨Nat.le_of_ble_eq_true rfl, Nat.le_of_ble_eq_true rfl⟩) hS (fun q _ h => hFc q h) hFc (fun q _ h => hFc q h) (fun E ce q9 u t9 H1 locs ht hvm hpx hBX hz1 hk1 hS hq9 hce hcl => ?_) (fun r u t9 H1 locs ht hvm hw hB hz1 hk1 hS => ?_)
  · exact absurd rfl hpx
  · obtain ⟨hT, hR, -⟩ := hw
    obtain ⟨hP1, hK1, hD1⟩ := hB
    rw [ht] at hP1
    obtain ⟨hP, hD⟩ := va_join (wr := oW cO o0 fo) (w1 := wW h (a 0) t0 l0 m0 ++ sW cI a u) hP hD [0, 1, 2, 3, 4, 5, 6, 7] [8] rfl rfl (by decide) (by decide) hk1 hFc hP1 hD1
    have hP := hP.sub (ws' := oW cO o0 fo) [0] rfl
    have hD := hD.sub (ws' := oW cO o0 fo) [0] (by decide) rfl
    generalize H1 = H at hP hS ⊢
    subst hR
    have hP : va_P D vwCl (oW cO o0 fo) H := hP
    have hD : va_D A (oW cO o0 fo) := hD
    refine lv_i2l (v := ((0 : Int32)).toInt64) hx hb dL_save_6 rfl ?_
    refine va_last hx hb hK2 hP hD hS 0 1 rfl rfl (vp_in_nI (n := 0) (by decide) (by decide)) dL_save_7 (fun H locs hP hD hS => ?_)
    have hP : va_P D vwCl (oW cO o0 (vp_updL fo (0 : Int32).toNatClampNeg (((0 : Int32)).toInt64))) H := hP
    have hD : va_D A (oW cO o0 (vp_updL fo (0 : Int32).toNatClampNeg (((0 : Int32)).toInt64))) := hD
    refine lv_goto (tgt := 14) hx hb dL_save_8 (by decide) ?_
    refine lv_iconst (v := 0) hx hb dL_save_14 (by decide) ?_
    have hP9 := hP
    have hD9 := hD
    exact W.iret (v := 0) hx hb hr (fun T9 ht hW => ⟨⟨0, (vp_updL fo (0 : Int32).toNatClampNeg (((0 : Int32)).toInt64)), rfl, ⟨rfl, fun _ => rfl⟩, by rw [ht]; exact hP9, hD9⟩, hS.F ht⟩) hS.2.2 dL_save_15

