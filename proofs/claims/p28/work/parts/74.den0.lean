-- ===== the shadow's constructor: what it stands on =====
def NX (cG : ClassId) (e0 : Nat) (A : Nat → Prop) (U : State) (H : Heap) : Prop := EV U ∧ ZE e0 A U H ∧ va_Nw mind_nest U ∧ va_Nw ways_nest U ∧ RowG cG U ∧ (Cond.arrayOver (.array .int)).before #[] U = true ∧ (Cond.arrayOver (.array .boolean)).before #[] U = true
def preN (D : va_G) (cI cZ cG cY : ClassId) (e0 : Nat) (ws : va_W) (sz : Nat) (U : State) : Prop := (U.heap.size = sz ∧ va_P D vwCl ws U.heap ∧ va_K D vwCl (KD cI cZ cG cY) U ∧ va_D (fun _ => True) ws) ∧ NX cG e0 (va_A ws sz) U U.heap
theorem preN_blind {av : List Value} {D : va_G} {cI cZ cG cY : ClassId} {e0 : Nat} {ws : va_W} {sz : Nat} : FrameBlind (va_Pc av (preN D cI cZ cG cY e0 ws sz)) := fun a U g mk q => by
  obtain ⟨q0, ⟨q1, qP, qK, qD⟩, g1, g2, g3, g4, g5, g6, g7⟩ := q
  exact ⟨q0, ⟨q1, qP, va_K.moved (u := U) (U := U.calling g mk a) (Vm.Alike.refl U.vm) qK, qD⟩, EV.same (u := U) (U := U.calling g mk a) rfl g1, va_Z.moved (u := U) (U := U.calling g mk a) (Vm.Alike.refl U.vm) g2, va_Nw.same (u := U) (U := U.calling g mk a) rfl rfl g3, va_Nw.same (u := U) (U := U.calling g mk a) rfl rfl g4,
    RowG.moved (u := U) (U := U.calling g mk a) (Vm.Alike.refl U.vm) g5, over_moved (u := U) (E := U.calling g mk a) (Vm.Alike.refl U.vm) g6, over_moved (u := U) (E := U.calling g mk a) (Vm.Alike.refl U.vm) g7⟩
theorem preN_of {D : va_G} {cI cZ cG cY : ClassId} {e0 : Nat} {ws : va_W} {A : Nat → Prop} {s : State} {H : Heap} {locs : List Loc} (hP : va_P D vwCl ws H) (hK : va_K D vwCl (KD cI cZ cG cY) s) (hD : va_D A ws) (hG : NX cG e0 A s s.heap) (hS : va_S A s.heap H locs) (hF : ∀ q, va_A ws H.size q → A q) (av : List Value) : ∀ U : State, U.heap = H → s.WarmedH U.vm → va_Pc av (preN D cI cZ cG cY e0 ws H.size) av.toArray U := fun U hU hW =>
  ⟨rfl, ⟨by rw [hU], by rw [hU]; exact hP, va_K.moved hW.alike hK, hD.weaken (fun _ _ _ _ => trivial)⟩, EV.warm hW hG.1, by rw [hU]; exact va_Z.moved hW.alike ((va_Z.kept hG.2.1 (fun q h1 h2 => hS.2.1 q h1 h2)).narrow hF), va_Nw.warmM hW hG.2.2.1, va_Nw.warmM hW hG.2.2.2.1, RowG.moved hW.alike hG.2.2.2.2.1, over_moved hW.alike hG.2.2.2.2.2.1, over_moved hW.alike hG.2.2.2.2.2.2⟩
section WNZ
variable {p : Program} {l : Launch} {e : Env} {R : Room} {s : State} {m : MethodId} {args : Array Value} {below : List Frame} {meth : Method} {c : Code} {H : Heap} {locs : List Loc} {cells slots : Nat} {Q : State → Prop}
variable {cc : ByteArray} {pc : Nat} {ls : Array Slot} {rest : List Value} {D : va_G} {cl : List vw_C} {A : Nat → Prop} {ws : va_W} {H0 : Heap} {cI cZ cG cY : ClassId}
/-- new boolean[2][160] -/
theorem w_newZ (hexec : p.tables.exec = Jvm.exec) (hb : c.code = cc) {own : String} {index : Nat} (hown : s.vm.findClass own = some m.cls) (hclink : (Cond.classLink own index "[[Z").before args s = true) (hover : (Cond.arrayOver (.array .boolean)).before args s = true) (harr : (Cond.arrayClass .boolean).before args s = true)
    (hK : va_K D cl (KD cI cZ cG cY) s) (hP : va_P D cl ws H) (hD : va_D A ws) (hS : va_S A H0 H locs) (hA : ∀ q, H0.size ≤ q → A q) (hcells : cells + (1 + 2) ≤ R.cells) (hslots : slots + (2 + 2 * 160) ≤ R.slots) (hdg : decode cc pc = .ok (.multianewarray index 2, 4))
    (kk : ∀ (q : Nat) (r : Nat → Nat) (H1 : Heap), va_P D cl (ws ++ [(q, .inl (cY, 2, .inr (.inr (.inr (.inr (fun i => if i < 2 then some (r i) else none)))))), (r 0, .inl (cZ, 160, .inl (fun _ => 0))), (r 1, .inl (cZ, 160, .inl (fun _ => 0)))]) H1 → va_D A (ws ++ [(q, .inl (cY, 2, .inr (.inr (.inr (.inr (fun i => if i < 2 then some (r i) else none)))))), (r 0, .inl (cZ, 160, .inl (fun _ => 0))), (r 1, .inl (cZ, 160, .inl (fun _ => 0)))]) → va_S A H0 H1 locs →
      W p l e R s m args below meth c H1 locs (cells + 1 + 2) (slots + 2 + 2 * 160) Q (F0 m (pc + 4) ls (.ref q :: rest))) : W p l e R s m args below meth c H locs cells slots Q (F0 m pc ls (.int 160 :: .int 2 :: rest)) := by
  have e0 : ws ++ va_pl [] (fun _ => .inl (cZ, 0, .inl (fun _ => 0))) = ws := List.append_nil _
  refine va_mna (X := ws) (L := []) (f := fun _ => .inl (cZ, 0, .inl (fun _ => 0))) (ty := .boolean) (cy := cZ) (n := 2) (k := 160) (N' := 2) (K' := 160) (z := (160, .inl (fun _ => 0))) hexec hb hown hclink hover harr (hK.2 1 _ rfl).2 hK (by rw [e0]; exact hP) (by rw [e0]; exact hD) hS hA (by decide) (by decide) (by decide) (by decide) (by decide) (by decide) (by decide) rfl rfl hcells hslots (fun c => by rw [vp_cell_i, ← arrV_new]; rfl) hdg (fun q r cA H1 hinj hnL hK1 hP1 hD1 hS1 => ?_)
  have ec : cA = cY := Option.some.inj ((hK1.2 4 _ rfl).2.symm.trans (hK.2 3 _ rfl).2)
  subst ec
  have e1 : va_pl ([] ++ (List.range 2).map r) (vr_up (fun _ => .inl (cZ, 0, .inl (fun _ => 0))) ((List.range 2).map r) (.inl (cZ, ((160, .inl (fun _ => 0)) : vp_A)))) = ([(r 0, .inl (cZ, 160, .inl (fun _ => 0))), (r 1, .inl (cZ, 160, .inl (fun _ => 0)))] : va_W) := by
    show ([(r 0, vr_up (fun _ => .inl (cZ, 0, .inl (fun _ => 0))) [r 0, r 1] (.inl (cZ, ((160, .inl (fun _ => 0)) : vp_A))) (r 0)), (r 1, vr_up (fun _ => .inl (cZ, 0, .inl (fun _ => 0))) [r 0, r 1] (.inl (cZ, ((160, .inl (fun _ => 0)) : vp_A))) (r 1))] : va_W) = _
    rw [vr_up_in (by simp), vr_up_in (by simp)]
  rw [e1, List.append_assoc] at hP1 hD1
  exact kk q r H1 hP1 hD1 hS1
end WNZ
theorem fill_a (x : Int32) : ∀ (m k : Nat) (g : Nat → Int32) (n : Nat), k + m = n → n < 2 ^ 31 → (∀ j, j < k → g j = x) → ∀ j, j < n → fillL x m k g j = x
  | 0, k, g, n, hk, hn, h, j, hj => h j (by omega)
  | m + 1, k, g, n, hk, hn, h, j, hj => by
    refine fill_a x m (k + 1) _ n (by omega) hn (fun i hi => ?_) j hj
    rw [nI_clamp (by omega)]
    by_cases q : i = k
    · subst q; exact pk_us
    · rw [pk_un q]; exact h i (by omega)
theorem s0_kinds {j : Nat} (h : j < 160) : s_ki s0 j = 1 := fill_a 1 160 0 z0 160 rfl (by decide) (fun i hi => by omega) j h
/-- a fresh shadow -/
def dd0 : DD := (fun _ => 1, 0, fun _ _ => 0, 0, 0)
theorem IR0 : IR 0 s0 dd0 := by
  refine ⟨⟨rfl, Nat.zero_le _, fun c hc => s0_kinds hc, fun b hb => ?_, fun b hb => ?_, rfl, rfl⟩, ⟨fun c hc => ⟨1, by decide, rfl⟩, fun c hc _ => rfl, fun j hj => ?_, fun i j hi => ?_, 0, 0, rfl, rfl, Nat.le_refl _, Nat.le_refl _⟩, by decide⟩
  · exact absurd hb (Nat.not_lt_zero _)
  · exact absurd hb (Nat.not_lt_zero _)
  · exact absurd hj (Nat.not_lt_zero _)
  · exact absurd hi (Nat.not_lt_zero _)
set_option maxHeartbeats 4000000 in
set_option maxRecDepth 100000 in
theorem c_X5_init (l : Launch) (D : va_G) (cI : ClassId) (sz : Nat) (cZ cG cY : ClassId) (h0 e0 b dr : Nat) : Met l yX5_init wsX5_init ({ frames := 5, cells := 26, slots := 2100, locals := 92 } : Room) (va_Pc [.ref h0, .ref b, .int (nI dr)] (preN D cI cZ cG cY e0 ([(h0, .inr (5, [.null, .null, .int 0, .null, .null, .null, .int 0, .int 0]))]) sz)) (va_Qv (fun (u : (Nat × (Nat → Nat) × (Nat → Nat) × Nat × Nat × Nat × (Nat → Nat) × (Nat → Nat))) => u.2.2.2.2.2.2.2 0 = h0) (fun (u : (Nat × (Nat → Nat) × (Nat → Nat) × Nat × Nat × Nat × (Nat → Nat) × (Nat → Nat))) => posD D cI cZ cG cY (va_A ([(h0, .inr (5, [.null, .null, .int 0, .null, .null, .null, .int 0, .int 0]))]) sz) (wW u.1 (u.2.1 0) (u.2.2.1 0) u.2.2.2.1 u.2.2.2.2.1 ++ sW cI u.2.1 s0 ++ sW cI u.2.2.1 s0 ++ wL u.2.2.2.1 0 e0 0 ++ mW cI u.2.2.2.2.1 (u.2.2.2.2.2.2.1 0) u.2.2.2.2.2.1 z0 ++ yW cI u.2.2.2.2.2.2.1 y0s ++ dW cI cZ cG cY u.2.2.2.2.2.2.2 (fun _ => 0) u.1 b dr dd0 (fun _ _ => 0))) (va_A ([(h0, .inr (5, [.null, .null, .int 0, .null, .null, .null, .int 0, .int 0]))]) sz)) 26 2100 (va_A ([(h0, .inr (5, [.null, .null, .int 0, .null, .null, .null, .int 0, .int 0]))]) sz) := by
  refine Met.ofW (cc := cX5_init) (maxL := 4) (ret := none) (by decide) rfl ?_
  intro p e s m args below meth c s₁ B hml hv
  obtain ⟨rfl, ⟨hsz, hP, hK4, hD0⟩, hE, hZ, hmn, hwn, hG, hov, hoz⟩ := hv
  have hK := K_D hK4
  have hx := B.exec
  have hb := B.bytes
  have hr := B.returns
  have hts := atoms_spec (ws := wsX5_init) B.pre
  have hown : s.vm.findClass RX5 = some m.cls := findClass_of_methodNamed B.named
  have hlocks := B.notSynchronized
  have hin : meth.name = "<init>" := (name_of_methodNamed B.named B.method).1
  subst hsz
  have hD := hD0.self (sz := s.heap.size)
  generalize hAe : va_A ([(h0, .inr (5, [.null, .null, .int 0, .null, .null, .null, .int 0, .int 0]))]) s.heap.size = A at hD hZ ⊢
  have hA : ∀ q : Nat, s.heap.size ≤ q → A q := fun q h => by rw [← hAe]; exact Or.inr h
  have hS : va_S A s.heap s.heap [] := va_S.rf
  have hP : va_P D vwCl ([(h0, .inr (5, [.null, .null, .int 0, .null, .null, .null, .int 0, .int 0]))]) s.heap := hP
  have hl := lv_entry ([.ref h0, .ref b, .int (nI dr)]) (n := 4) (Nat.le_of_ble_eq_true rfl)
  rw [lg_entry_eq]
  generalize (lg_sl ([.ref h0, .ref b, .int (nI dr)]) ++ List.replicate (4 - (lg_sl ([.ref h0, .ref b, .int (nI dr)])).length) Slot.unset).toArray = ls at hl ⊢
  have hl : lv_has ls 4 [(0, .ref h0), (1, .ref b), (2, .int (nI dr))] := hl
  refine lv_aload_n hx hb dX5_init_0 rfl (lv_at hl 0 rfl) ?_
  refine W.objInit hx hb hown (hts (.methodLink RX5 1 objectInit) (by decide +kernel)) (hts (.instanceMethod objectInit) (by decide +kernel)) (hts (.code objectInit ⟨#[0xb1]⟩ 1 none) (by decide +kernel)) rfl (by rw [hml]; exact hl.1) rfl dX5_init_1 (Nat.le_of_ble_eq_true rfl) (Nat.le_of_ble_eq_true rfl) ?_
  refine W.eq (g2 := F0 m 4 ls []) rfl ?_
  refine lv_aload_n hx hb dX5_init_4 rfl (lv_at hl 0 rfl) ?_
  refine va_new (D := D) (ci := 4) (fs := [.null, .null, .null, .null]) (C := RX4) (T := TX4) (N := 4) hx hb hts (by decide +kernel) tyX4 tyX4_ok hown (hts (.classLink RX5 7 RX4) (by decide +kernel)) (hts (.instantiable RX4 4) (by decide +kernel)) (hts (.initialized RX4) (by decide +kernel)) hK hP hD hS hA rfl (fun j hj => by rcases (show j = 0 ∨ j = 1 ∨ j = 2 ∨ j = 3 by omega) with rfl | rfl | rfl | rfl <;> rfl) (Nat.le_of_ble_eq_true rfl) (Nat.le_of_ble_eq_true rfl) dX5_init_5 (fun q5 H hP hD hS => ?_)
  have hP : va_P D vwCl ([(h0, .inr (5, [.null, .null, .int 0, .null, .null, .null, .int 0, .int 0]))] ++ [(q5, .inr (4, [.null, .null, .null, .null]))]) H := hP
  have hD : va_D A ([(h0, .inr (5, [.null, .null, .int 0, .null, .null, .null, .int 0, .int 0]))] ++ [(q5, .inr (4, [.null, .null, .null, .null]))]) := hD
  refine lv_dup hx hb dX5_init_8 rfl ?_
  have hFc := va_free (wc := [(q5, .inr (4, [.null, .null, .null, .null]))]) hD hS hA [1] rfl
  refine va_callv (va_runI (As := []) (rest := [.ref q5, .ref h0]) ⟨hx, hb, hml, hown, hts⟩ (c_X4_init l D cI _ q5 e0) (cwI 0 hts gX5_init_X4_init rfl rfl rfl (hts (.initialized RX4) (by decide +kernel)) (hts (.methodLink RX5 9 yX4_init) (by decide +kernel)) (hts (.instanceMethod yX4_init) (by decide +kernel)) rfl (by decide +kernel) ⟨Nat.le_of_ble_eq_true rfl, Nat.le_of_ble_eq_true rfl⟩) ⟨preZ_blind, preZ_of (hP.sub (ws' := [(q5, .inr (4, [.null, .null, .null, .null]))]) [1] rfl) hK hE (hD.sub (ws' := [(q5, .inr (4, [.null, .null, .null, .null]))]) [1] (by decide) rfl) hZ hmn hwn hS hFc [.ref q5]⟩ rfl rfl hl.1 rfl (lv_room (Nat.le_of_ble_eq_true rfl)) dX5_init_9 ⟨Nat.le_of_ble_eq_true rfl, Nat.le_of_ble_eq_true rfl⟩) hS (fun q _ h => hFc q h) hFc (fun u t9 H1 locs ht hvm hw hB hz1 hk1 hS => ?_)
  obtain ⟨hP1, hK1, hD1⟩ := hB
  rw [ht] at hP1
  obtain ⟨h5, a5, t5, l5, m5, w5, y5⟩ := u
  dsimp only at hw hP1 hD1
  subst hw
  obtain ⟨hP, hD⟩ := va_join (wr := [(h0, .inr (5, [.null, .null, .int 0, .null, .null, .null, .int 0, .int 0]))]) (w1 := wW h5 (a5 0) (t5 0) l5 m5 ++ sW cI a5 s0 ++ sW cI t5 s0 ++ wL l5 0 e0 0 ++ mW cI m5 (y5 0) w5 z0 ++ yW cI y5 y0s) hP hD [1] [0] rfl rfl (by decide) (by decide) hk1 hFc hP1 hD1
  generalize H1 = H at hP hS ⊢
  have hP : va_P D vwCl ([(h0, .inr (5, [.null, .null, .int 0, .null, .null, .null, .int 0, .int 0]))] ++ wW h5 (a5 0) (t5 0) l5 m5 ++ sW cI a5 s0 ++ sW cI t5 s0 ++ wL l5 0 e0 0 ++ mW cI m5 (y5 0) w5 z0 ++ yW cI y5 y0s) H := hP
  have hD : va_D A ([(h0, .inr (5, [.null, .null, .int 0, .null, .null, .null, .int 0, .int 0]))] ++ wW h5 (a5 0) (t5 0) l5 m5 ++ sW cI a5 s0 ++ sW cI t5 s0 ++ wL l5 0 e0 0 ++ mW cI m5 (y5 0) w5 z0 ++ yW cI y5 y0s) := hD
  refine va_putF (D := D) (ci := 5) (v := .ref h5) (ty := (.object "Warren")) (C := RX5) (T := TX5) (N := 8) hx hb hts (by decide +kernel) tyX5 tyX5_ok nmX5 hown hK hP hD hS 0 rfl rfl 0 (by decide) (hts (.fieldLink RX5 10 "WarrenLaw$Den" "m" "LWarren;") (by decide +kernel)) (fun _ h9 => h9) rfl hin rfl (by decide +kernel) rfl rfl (Nat.le_of_ble_eq_true rfl) dX5_init_12 (fun H locs hP hD hS => ?_)
  have hP : va_P D vwCl ([(h0, .inr (5, [.ref h5, .null, .int 0, .null, .null, .null, .int 0, .int 0]))] ++ wW h5 (a5 0) (t5 0) l5 m5 ++ sW cI a5 s0 ++ sW cI t5 s0 ++ wL l5 0 e0 0 ++ mW cI m5 (y5 0) w5 z0 ++ yW cI y5 y0s) H := hP
  have hD : va_D A ([(h0, .inr (5, [.ref h5, .null, .int 0, .null, .null, .null, .int 0, .int 0]))] ++ wW h5 (a5 0) (t5 0) l5 m5 ++ sW cI a5 s0 ++ sW cI t5 s0 ++ wL l5 0 e0 0 ++ mW cI m5 (y5 0) w5 z0 ++ yW cI y5 y0s) := hD
  refine lv_aload_n hx hb dX5_init_15 rfl (lv_at hl 0 rfl) ?_
  refine lv_sipush (v := 160) hx hb dX5_init_16 (by decide) ?_
  refine w_newI hx hb (hts (.arrayClass .int) (by decide +kernel)) hK hP hD hS hA (by decide) (N' := 160) (by decide) (by decide) (Nat.le_of_ble_eq_true rfl) (Nat.le_of_ble_eq_true rfl) dX5_init_19 (fun q19 H hP hD hS => ?_)
  have hP : va_P D vwCl ([(h0, .inr (5, [.ref h5, .null, .int 0, .null, .null, .null, .int 0, .int 0]))] ++ wW h5 (a5 0) (t5 0) l5 m5 ++ sW cI a5 s0 ++ sW cI t5 s0 ++ wL l5 0 e0 0 ++ mW cI m5 (y5 0) w5 z0 ++ yW cI y5 y0s ++ [(q19, .inl (cI, 160, .inl (fun _ => 0)))]) H := hP
  have hD : va_D A ([(h0, .inr (5, [.ref h5, .null, .int 0, .null, .null, .null, .int 0, .int 0]))] ++ wW h5 (a5 0) (t5 0) l5 m5 ++ sW cI a5 s0 ++ sW cI t5 s0 ++ wL l5 0 e0 0 ++ mW cI m5 (y5 0) w5 z0 ++ yW cI y5 y0s ++ [(q19, .inl (cI, 160, .inl (fun _ => 0)))]) := hD
  refine va_put (D := D) (ci := 5) (v := .ref q19) (ty := (.array .int)) (C := RX5) (T := TX5) (N := 8) hx hb hts (by decide +kernel) tyX5 tyX5_ok nmX5 hown hK hP hD hS 0 rfl rfl 3 (by decide) (hts (.fieldLink RX5 16 "WarrenLaw$Den" "kinds" "[I") (by decide +kernel)) (fun _ h9 => h9) rfl (by decide +kernel) rfl rfl (Nat.le_of_ble_eq_true rfl) dX5_init_21 (fun H locs hP hD hS => ?_)
  have hP : va_P D vwCl ([(h0, .inr (5, [.ref h5, .null, .int 0, .ref q19, .null, .null, .int 0, .int 0]))] ++ wW h5 (a5 0) (t5 0) l5 m5 ++ sW cI a5 s0 ++ sW cI t5 s0 ++ wL l5 0 e0 0 ++ mW cI m5 (y5 0) w5 z0 ++ yW cI y5 y0s ++ [(q19, .inl (cI, 160, .inl (fun _ => 0)))]) H := hP
  have hD : va_D A ([(h0, .inr (5, [.ref h5, .null, .int 0, .ref q19, .null, .null, .int 0, .int 0]))] ++ wW h5 (a5 0) (t5 0) l5 m5 ++ sW cI a5 s0 ++ sW cI t5 s0 ++ wL l5 0 e0 0 ++ mW cI m5 (y5 0) w5 z0 ++ yW cI y5 y0s ++ [(q19, .inl (cI, 160, .inl (fun _ => 0)))]) := hD
  refine lv_aload_n hx hb dX5_init_24 rfl (lv_at hl 0 rfl) ?_
  refine lv_iconst (v := 2) hx hb dX5_init_25 (by decide) ?_
  refine lv_sipush (v := 160) hx hb dX5_init_26 (by decide) ?_
  refine w_newZ hx hb hown (hts (.classLink RX5 20 "[[Z") (by decide +kernel)) (over_moved (Vm.Alike.refl s.vm) hoz) (hts (.arrayClass .boolean) (by decide +kernel)) hK4 hP hD hS hA (Nat.le_of_ble_eq_true rfl) (Nat.le_of_ble_eq_true rfl) dX5_init_29 (fun q29 r29 H hP hD hS => ?_)
  have hP : va_P D vwCl ([(h0, .inr (5, [.ref h5, .null, .int 0, .ref q19, .null, .null, .int 0, .int 0]))] ++ wW h5 (a5 0) (t5 0) l5 m5 ++ sW cI a5 s0 ++ sW cI t5 s0 ++ wL l5 0 e0 0 ++ mW cI m5 (y5 0) w5 z0 ++ yW cI y5 y0s ++ [(q19, .inl (cI, 160, .inl (fun _ => 0)))] ++ [(q29, .inl (cY, 2, .inr (.inr (.inr (.inr (fun i => if i < 2 then some (r29 i) else none)))))), (r29 0, .inl (cZ, 160, .inl (fun _ => 0))), (r29 1, .inl (cZ, 160, .inl (fun _ => 0)))]) H := hP
  have hD : va_D A ([(h0, .inr (5, [.ref h5, .null, .int 0, .ref q19, .null, .null, .int 0, .int 0]))] ++ wW h5 (a5 0) (t5 0) l5 m5 ++ sW cI a5 s0 ++ sW cI t5 s0 ++ wL l5 0 e0 0 ++ mW cI m5 (y5 0) w5 z0 ++ yW cI y5 y0s ++ [(q19, .inl (cI, 160, .inl (fun _ => 0)))] ++ [(q29, .inl (cY, 2, .inr (.inr (.inr (.inr (fun i => if i < 2 then some (r29 i) else none)))))), (r29 0, .inl (cZ, 160, .inl (fun _ => 0))), (r29 1, .inl (cZ, 160, .inl (fun _ => 0)))]) := hD
  refine va_put (D := D) (ci := 5) (v := .ref q29) (ty := (.array (.array .boolean))) (C := RX5) (T := TX5) (N := 8) hx hb hts (by decide +kernel) tyX5 tyX5_ok nmX5 hown hK hP hD hS 0 rfl rfl 4 (by decide) (hts (.fieldLink RX5 22 "WarrenLaw$Den" "known" "[[Z") (by decide +kernel)) (fun _ h9 => h9) rfl (by decide +kernel) rfl rfl (Nat.le_of_ble_eq_true rfl) dX5_init_33 (fun H locs hP hD hS => ?_)
  have hP : va_P D vwCl ([(h0, .inr (5, [.ref h5, .null, .int 0, .ref q19, .ref q29, .null, .int 0, .int 0]))] ++ wW h5 (a5 0) (t5 0) l5 m5 ++ sW cI a5 s0 ++ sW cI t5 s0 ++ wL l5 0 e0 0 ++ mW cI m5 (y5 0) w5 z0 ++ yW cI y5 y0s ++ [(q19, .inl (cI, 160, .inl (fun _ => 0)))] ++ [(q29, .inl (cY, 2, .inr (.inr (.inr (.inr (fun i => if i < 2 then some (r29 i) else none)))))), (r29 0, .inl (cZ, 160, .inl (fun _ => 0))), (r29 1, .inl (cZ, 160, .inl (fun _ => 0)))]) H := hP
  have hD : va_D A ([(h0, .inr (5, [.ref h5, .null, .int 0, .ref q19, .ref q29, .null, .int 0, .int 0]))] ++ wW h5 (a5 0) (t5 0) l5 m5 ++ sW cI a5 s0 ++ sW cI t5 s0 ++ wL l5 0 e0 0 ++ mW cI m5 (y5 0) w5 z0 ++ yW cI y5 y0s ++ [(q19, .inl (cI, 160, .inl (fun _ => 0)))] ++ [(q29, .inl (cY, 2, .inr (.inr (.inr (.inr (fun i => if i < 2 then some (r29 i) else none)))))), (r29 0, .inl (cZ, 160, .inl (fun _ => 0))), (r29 1, .inl (cZ, 160, .inl (fun _ => 0)))]) := hD
  refine lv_aload_n hx hb dX5_init_36 rfl (lv_at hl 0 rfl) ?_
  refine lv_iconst (v := 0) hx hb dX5_init_37 (by decide) ?_
  refine w_newG (N' := 0) hx hb hown (hts (.classLink RX5 25 "[I") (by decide +kernel)) (over_moved (Vm.Alike.refl s.vm) hov) hP hD hS hA (by decide) (by decide) (by decide) (Nat.le_of_ble_eq_true rfl) (Nat.le_of_ble_eq_true rfl) dX5_init_38 (fun q38 cA9 H hG9 hP hD hS => ?_)
  rw [RowG.eq hG9 hG] at hP hD
  have hP : va_P D vwCl ([(h0, .inr (5, [.ref h5, .null, .int 0, .ref q19, .ref q29, .null, .int 0, .int 0]))] ++ wW h5 (a5 0) (t5 0) l5 m5 ++ sW cI a5 s0 ++ sW cI t5 s0 ++ wL l5 0 e0 0 ++ mW cI m5 (y5 0) w5 z0 ++ yW cI y5 y0s ++ [(q19, .inl (cI, 160, .inl (fun _ => 0)))] ++ [(q29, .inl (cY, 2, .inr (.inr (.inr (.inr (fun i => if i < 2 then some (r29 i) else none)))))), (r29 0, .inl (cZ, 160, .inl (fun _ => 0))), (r29 1, .inl (cZ, 160, .inl (fun _ => 0)))] ++ [(q38, .inl (cG, 0, .inr (.inr (.inr (.inr (fun _ => none))))))]) H := hP
  have hD : va_D A ([(h0, .inr (5, [.ref h5, .null, .int 0, .ref q19, .ref q29, .null, .int 0, .int 0]))] ++ wW h5 (a5 0) (t5 0) l5 m5 ++ sW cI a5 s0 ++ sW cI t5 s0 ++ wL l5 0 e0 0 ++ mW cI m5 (y5 0) w5 z0 ++ yW cI y5 y0s ++ [(q19, .inl (cI, 160, .inl (fun _ => 0)))] ++ [(q29, .inl (cY, 2, .inr (.inr (.inr (.inr (fun i => if i < 2 then some (r29 i) else none)))))), (r29 0, .inl (cZ, 160, .inl (fun _ => 0))), (r29 1, .inl (cZ, 160, .inl (fun _ => 0)))] ++ [(q38, .inl (cG, 0, .inr (.inr (.inr (.inr (fun _ => none))))))]) := hD
  refine va_put (D := D) (ci := 5) (v := .ref q38) (ty := (.array (.array .int))) (C := RX5) (T := TX5) (N := 8) hx hb hts (by decide +kernel) tyX5 tyX5_ok nmX5 hown hK hP hD hS 0 rfl rfl 5 (by decide) (hts (.fieldLink RX5 26 "WarrenLaw$Den" "beings" "[[I") (by decide +kernel)) (fun _ h9 => h9) rfl (by decide +kernel) rfl rfl (Nat.le_of_ble_eq_true rfl) dX5_init_41 (fun H locs hP hD hS => ?_)
  have hP : va_P D vwCl ([(h0, .inr (5, [.ref h5, .null, .int 0, .ref q19, .ref q29, .ref q38, .int 0, .int 0]))] ++ wW h5 (a5 0) (t5 0) l5 m5 ++ sW cI a5 s0 ++ sW cI t5 s0 ++ wL l5 0 e0 0 ++ mW cI m5 (y5 0) w5 z0 ++ yW cI y5 y0s ++ [(q19, .inl (cI, 160, .inl (fun _ => 0)))] ++ [(q29, .inl (cY, 2, .inr (.inr (.inr (.inr (fun i => if i < 2 then some (r29 i) else none)))))), (r29 0, .inl (cZ, 160, .inl (fun _ => 0))), (r29 1, .inl (cZ, 160, .inl (fun _ => 0)))] ++ [(q38, .inl (cG, 0, .inr (.inr (.inr (.inr (fun _ => none))))))]) H := hP
  have hD : va_D A ([(h0, .inr (5, [.ref h5, .null, .int 0, .ref q19, .ref q29, .ref q38, .int 0, .int 0]))] ++ wW h5 (a5 0) (t5 0) l5 m5 ++ sW cI a5 s0 ++ sW cI t5 s0 ++ wL l5 0 e0 0 ++ mW cI m5 (y5 0) w5 z0 ++ yW cI y5 y0s ++ [(q19, .inl (cI, 160, .inl (fun _ => 0)))] ++ [(q29, .inl (cY, 2, .inr (.inr (.inr (.inr (fun i => if i < 2 then some (r29 i) else none)))))), (r29 0, .inl (cZ, 160, .inl (fun _ => 0))), (r29 1, .inl (cZ, 160, .inl (fun _ => 0)))] ++ [(q38, .inl (cG, 0, .inr (.inr (.inr (.inr (fun _ => none))))))]) := hD
  refine lv_aload_n hx hb dX5_init_44 rfl (lv_at hl 0 rfl) ?_
  refine lv_aload_n hx hb dX5_init_45 rfl (lv_at hl 1 rfl) ?_
  refine va_putF (D := D) (ci := 5) (v := .ref b) (ty := (.array .int)) (C := RX5) (T := TX5) (N := 8) hx hb hts (by decide +kernel) tyX5 tyX5_ok nmX5 hown hK hP hD hS 0 rfl rfl 1 (by decide) (hts (.fieldLink RX5 30 "WarrenLaw$Den" "s" "[I") (by decide +kernel)) (fun _ h9 => h9) rfl hin rfl (by decide +kernel) rfl rfl (Nat.le_of_ble_eq_true rfl) dX5_init_46 (fun H locs hP hD hS => ?_)
  have hP : va_P D vwCl ([(h0, .inr (5, [.ref h5, .ref b, .int 0, .ref q19, .ref q29, .ref q38, .int 0, .int 0]))] ++ wW h5 (a5 0) (t5 0) l5 m5 ++ sW cI a5 s0 ++ sW cI t5 s0 ++ wL l5 0 e0 0 ++ mW cI m5 (y5 0) w5 z0 ++ yW cI y5 y0s ++ [(q19, .inl (cI, 160, .inl (fun _ => 0)))] ++ [(q29, .inl (cY, 2, .inr (.inr (.inr (.inr (fun i => if i < 2 then some (r29 i) else none)))))), (r29 0, .inl (cZ, 160, .inl (fun _ => 0))), (r29 1, .inl (cZ, 160, .inl (fun _ => 0)))] ++ [(q38, .inl (cG, 0, .inr (.inr (.inr (.inr (fun _ => none))))))]) H := hP
  have hD : va_D A ([(h0, .inr (5, [.ref h5, .ref b, .int 0, .ref q19, .ref q29, .ref q38, .int 0, .int 0]))] ++ wW h5 (a5 0) (t5 0) l5 m5 ++ sW cI a5 s0 ++ sW cI t5 s0 ++ wL l5 0 e0 0 ++ mW cI m5 (y5 0) w5 z0 ++ yW cI y5 y0s ++ [(q19, .inl (cI, 160, .inl (fun _ => 0)))] ++ [(q29, .inl (cY, 2, .inr (.inr (.inr (.inr (fun i => if i < 2 then some (r29 i) else none)))))), (r29 0, .inl (cZ, 160, .inl (fun _ => 0))), (r29 1, .inl (cZ, 160, .inl (fun _ => 0)))] ++ [(q38, .inl (cG, 0, .inr (.inr (.inr (.inr (fun _ => none))))))]) := hD
  refine lv_aload_n hx hb dX5_init_49 rfl (lv_at hl 0 rfl) ?_
  refine lv_iload_n hx hb dX5_init_50 rfl (lv_at hl 2 rfl) ?_
  refine va_put (D := D) (ci := 5) (v := .int (nI dr)) (ty := .int) (C := RX5) (T := TX5) (N := 8) hx hb hts (by decide +kernel) tyX5 tyX5_ok nmX5 hown hK hP hD hS 0 rfl rfl 2 (by decide) (hts (.fieldLink RX5 33 "WarrenLaw$Den" "draws" "I") (by decide +kernel)) (fun _ h9 => h9) rfl (by decide +kernel) rfl rfl (Nat.le_of_ble_eq_true rfl) dX5_init_51 (fun H locs hP hD hS => ?_)
  have hP : va_P D vwCl ([(h0, .inr (5, [.ref h5, .ref b, .int (nI dr), .ref q19, .ref q29, .ref q38, .int 0, .int 0]))] ++ wW h5 (a5 0) (t5 0) l5 m5 ++ sW cI a5 s0 ++ sW cI t5 s0 ++ wL l5 0 e0 0 ++ mW cI m5 (y5 0) w5 z0 ++ yW cI y5 y0s ++ [(q19, .inl (cI, 160, .inl (fun _ => 0)))] ++ [(q29, .inl (cY, 2, .inr (.inr (.inr (.inr (fun i => if i < 2 then some (r29 i) else none)))))), (r29 0, .inl (cZ, 160, .inl (fun _ => 0))), (r29 1, .inl (cZ, 160, .inl (fun _ => 0)))] ++ [(q38, .inl (cG, 0, .inr (.inr (.inr (.inr (fun _ => none))))))]) H := hP
  have hD : va_D A ([(h0, .inr (5, [.ref h5, .ref b, .int (nI dr), .ref q19, .ref q29, .ref q38, .int 0, .int 0]))] ++ wW h5 (a5 0) (t5 0) l5 m5 ++ sW cI a5 s0 ++ sW cI t5 s0 ++ wL l5 0 e0 0 ++ mW cI m5 (y5 0) w5 z0 ++ yW cI y5 y0s ++ [(q19, .inl (cI, 160, .inl (fun _ => 0)))] ++ [(q29, .inl (cY, 2, .inr (.inr (.inr (.inr (fun i => if i < 2 then some (r29 i) else none)))))), (r29 0, .inl (cZ, 160, .inl (fun _ => 0))), (r29 1, .inl (cZ, 160, .inl (fun _ => 0)))] ++ [(q38, .inl (cG, 0, .inr (.inr (.inr (.inr (fun _ => none))))))]) := hD
  refine lv_iconst (v := 0) hx hb dX5_init_54 (by decide) ?_
  refine lv_istore_n (lv' := [(3, .int 0), (0, .ref h0), (1, .ref b), (2, .int (nI dr))]) hx hb dX5_init_55 rfl hl (by decide) rfl (fun ls hl => ?_)
  have L56 : ∀ (n k : Nat) (f : Nat → Int32) (hk : k + n = 160) (hf9 : ∀ j, j < k → f j = 1) (H : Heap) (locs : List Loc) (ls : Array Slot), lv_has ls 4 [(3, .int (nI k)), (0, .ref h0), (1, .ref b), (2, .int (nI dr))] → va_P D vwCl ([(h0, .inr (5, [.ref h5, .ref b, .int (nI dr), .ref q19, .ref q29, .ref q38, .int 0, .int 0]))] ++ wW h5 (a5 0) (t5 0) l5 m5 ++ sW cI a5 s0 ++ sW cI t5 s0 ++ wL l5 0 e0 0 ++ mW cI m5 (y5 0) w5 z0 ++ yW cI y5 y0s ++ [(q19, .inl (cI, 160, .inl f))] ++ [(q29, .inl (cY, 2, .inr (.inr (.inr (.inr (fun i => if i < 2 then some (r29 i) else none)))))), (r29 0, .inl (cZ, 160, .inl (fun _ => 0))), (r29 1, .inl (cZ, 160, .inl (fun _ => 0)))] ++ [(q38, .inl (cG, 0, .inr (.inr (.inr (.inr (fun _ => none))))))]) H → va_D A ([(h0, .inr (5, [.ref h5, .ref b, .int (nI dr), .ref q19, .ref q29, .ref q38, .int 0, .int 0]))] ++ wW h5 (a5 0) (t5 0) l5 m5 ++ sW cI a5 s0 ++ sW cI t5 s0 ++ wL l5 0 e0 0 ++ mW cI m5 (y5 0) w5 z0 ++ yW cI y5 y0s ++ [(q19, .inl (cI, 160, .inl f))] ++ [(q29, .inl (cY, 2, .inr (.inr (.inr (.inr (fun i => if i < 2 then some (r29 i) else none)))))), (r29 0, .inl (cZ, 160, .inl (fun _ => 0))), (r29 1, .inl (cZ, 160, .inl (fun _ => 0)))] ++ [(q38, .inl (cG, 0, .inr (.inr (.inr (.inr (fun _ => none))))))]) → va_S A s.heap H locs → W p l e ({ frames := 5, cells := 26, slots := 2100, locals := 92 } : Room) s m ([.ref h0, .ref b, .int (nI dr)] : List Value).toArray below meth c H locs 25 2086 (MQ below (va_Qv (fun (u : (Nat × (Nat → Nat) × (Nat → Nat) × Nat × Nat × Nat × (Nat → Nat) × (Nat → Nat))) => u.2.2.2.2.2.2.2 0 = h0) (fun (u : (Nat × (Nat → Nat) × (Nat → Nat) × Nat × Nat × Nat × (Nat → Nat) × (Nat → Nat))) => posD D cI cZ cG cY A (wW u.1 (u.2.1 0) (u.2.2.1 0) u.2.2.2.1 u.2.2.2.2.1 ++ sW cI u.2.1 s0 ++ sW cI u.2.2.1 s0 ++ wL u.2.2.2.1 0 e0 0 ++ mW cI u.2.2.2.2.1 (u.2.2.2.2.2.2.1 0) u.2.2.2.2.2.1 z0 ++ yW cI u.2.2.2.2.2.2.1 y0s ++ dW cI cZ cG cY u.2.2.2.2.2.2.2 (fun _ => 0) u.1 b dr dd0 (fun _ _ => 0))) A) ([.ref h0, .ref b, .int (nI dr)] : List Value).toArray s 26 2100 A) (F0 m 56 ls []) := by
    intro n
    induction n with
    | zero =>
      intro k f hk hf9 H locs ls hl hP hD hS
      have hf : ∀ j, j < 160 → f j = 1 := fun j h => hf9 j (by omega)
      refine lv_iload_n hx hb dX5_init_56 rfl (lv_at hl 0 rfl) ?_
      refine lv_sipush (v := 160) hx hb dX5_init_57 (by decide) ?_
      refine lv_icmp_ge (tgt := 76) hx hb dX5_init_60 (by decide) (fun c_60 => ?_) (fun c_60 => absurd (nI_le (a := 160) (by omega) (by omega)) c_60)
      have hP := P_row hP hD 20 rfl (fun _ => 1) hf
      have hD := hD.set (p := 20) (e := .inl (cI, 160, .inl (fun _ => 1))) rfl
      have hP : va_P D vwCl ([(h0, .inr (5, [.ref h5, .ref b, .int (nI dr), .ref q19, .ref q29, .ref q38, .int 0, .int 0]))] ++ wW h5 (a5 0) (t5 0) l5 m5 ++ sW cI a5 s0 ++ sW cI t5 s0 ++ wL l5 0 e0 0 ++ mW cI m5 (y5 0) w5 z0 ++ yW cI y5 y0s ++ [(q19, .inl (cI, 160, .inl (fun _ => 1)))] ++ [(q29, .inl (cY, 2, .inr (.inr (.inr (.inr (fun i => if i < 2 then some (r29 i) else none)))))), (r29 0, .inl (cZ, 160, .inl (fun _ => 0))), (r29 1, .inl (cZ, 160, .inl (fun _ => 0)))] ++ [(q38, .inl (cG, 0, .inr (.inr (.inr (.inr (fun _ => none))))))]) H := hP
      have hD : va_D A ([(h0, .inr (5, [.ref h5, .ref b, .int (nI dr), .ref q19, .ref q29, .ref q38, .int 0, .int 0]))] ++ wW h5 (a5 0) (t5 0) l5 m5 ++ sW cI a5 s0 ++ sW cI t5 s0 ++ wL l5 0 e0 0 ++ mW cI m5 (y5 0) w5 z0 ++ yW cI y5 y0s ++ [(q19, .inl (cI, 160, .inl (fun _ => 1)))] ++ [(q29, .inl (cY, 2, .inr (.inr (.inr (.inr (fun i => if i < 2 then some (r29 i) else none)))))), (r29 0, .inl (cZ, 160, .inl (fun _ => 0))), (r29 1, .inl (cZ, 160, .inl (fun _ => 0)))] ++ [(q38, .inl (cG, 0, .inr (.inr (.inr (.inr (fun _ => none))))))]) := hD
      have hP := P_rowq hP hD 21 rfl (fun j => some ((ad6 h0 q19 q29 (r29 0) (r29 1) q38) (3 + j))) (fun j hj => by rcases (show j = 0 ∨ j = 1 by omega) with q | q <;> subst q <;> rfl)
      have hD := hD.set (p := 21) (e := .inl (cY, 2, .inr (.inr (.inr (.inr (fun j => some ((ad6 h0 q19 q29 (r29 0) (r29 1) q38) (3 + j)))))))) rfl
      have hP : va_P D vwCl ([(h0, .inr (5, [.ref h5, .ref b, .int (nI dr), .ref q19, .ref q29, .ref q38, .int 0, .int 0]))] ++ wW h5 (a5 0) (t5 0) l5 m5 ++ sW cI a5 s0 ++ sW cI t5 s0 ++ wL l5 0 e0 0 ++ mW cI m5 (y5 0) w5 z0 ++ yW cI y5 y0s ++ [(q19, .inl (cI, 160, .inl (fun _ => 1)))] ++ [(q29, .inl (cY, 2, .inr (.inr (.inr (.inr (fun j => some ((ad6 h0 q19 q29 (r29 0) (r29 1) q38) (3 + j)))))))), (r29 0, .inl (cZ, 160, .inl (fun _ => 0))), (r29 1, .inl (cZ, 160, .inl (fun _ => 0)))] ++ [(q38, .inl (cG, 0, .inr (.inr (.inr (.inr (fun _ => none))))))]) H := hP
      have hD : va_D A ([(h0, .inr (5, [.ref h5, .ref b, .int (nI dr), .ref q19, .ref q29, .ref q38, .int 0, .int 0]))] ++ wW h5 (a5 0) (t5 0) l5 m5 ++ sW cI a5 s0 ++ sW cI t5 s0 ++ wL l5 0 e0 0 ++ mW cI m5 (y5 0) w5 z0 ++ yW cI y5 y0s ++ [(q19, .inl (cI, 160, .inl (fun _ => 1)))] ++ [(q29, .inl (cY, 2, .inr (.inr (.inr (.inr (fun j => some ((ad6 h0 q19 q29 (r29 0) (r29 1) q38) (3 + j)))))))), (r29 0, .inl (cZ, 160, .inl (fun _ => 0))), (r29 1, .inl (cZ, 160, .inl (fun _ => 0)))] ++ [(q38, .inl (cG, 0, .inr (.inr (.inr (.inr (fun _ => none))))))]) := hD
      have hP := P_rowq hP hD 24 rfl (fun _ => some 0) (fun j hj => absurd hj (Nat.not_lt_zero j))
      have hD := hD.set (p := 24) (e := .inl (cG, 0, .inr (.inr (.inr (.inr (fun _ => some 0)))))) rfl
      have hP : va_P D vwCl ([(h0, .inr (5, [.ref h5, .ref b, .int (nI dr), .ref q19, .ref q29, .ref q38, .int 0, .int 0]))] ++ wW h5 (a5 0) (t5 0) l5 m5 ++ sW cI a5 s0 ++ sW cI t5 s0 ++ wL l5 0 e0 0 ++ mW cI m5 (y5 0) w5 z0 ++ yW cI y5 y0s ++ [(q19, .inl (cI, 160, .inl (fun _ => 1)))] ++ [(q29, .inl (cY, 2, .inr (.inr (.inr (.inr (fun j => some ((ad6 h0 q19 q29 (r29 0) (r29 1) q38) (3 + j)))))))), (r29 0, .inl (cZ, 160, .inl (fun _ => 0))), (r29 1, .inl (cZ, 160, .inl (fun _ => 0)))] ++ [(q38, .inl (cG, 0, .inr (.inr (.inr (.inr (fun _ => some 0))))))]) H := hP
      have hD : va_D A ([(h0, .inr (5, [.ref h5, .ref b, .int (nI dr), .ref q19, .ref q29, .ref q38, .int 0, .int 0]))] ++ wW h5 (a5 0) (t5 0) l5 m5 ++ sW cI a5 s0 ++ sW cI t5 s0 ++ wL l5 0 e0 0 ++ mW cI m5 (y5 0) w5 z0 ++ yW cI y5 y0s ++ [(q19, .inl (cI, 160, .inl (fun _ => 1)))] ++ [(q29, .inl (cY, 2, .inr (.inr (.inr (.inr (fun j => some ((ad6 h0 q19 q29 (r29 0) (r29 1) q38) (3 + j)))))))), (r29 0, .inl (cZ, 160, .inl (fun _ => 0))), (r29 1, .inl (cZ, 160, .inl (fun _ => 0)))] ++ [(q38, .inl (cG, 0, .inr (.inr (.inr (.inr (fun _ => some 0))))))]) := hD
      have hP9 := hP.sub (ws' := wW h5 (a5 0) (t5 0) l5 m5 ++ sW cI a5 s0 ++ sW cI t5 s0 ++ wL l5 0 e0 0 ++ mW cI m5 (y5 0) w5 z0 ++ yW cI y5 y0s ++ dW cI cZ cG cY (ad6 h0 q19 q29 (r29 0) (r29 1) q38) (fun _ => 0) h5 b dr dd0 (fun _ _ => 0)) [1, 2, 3, 4, 5, 6, 7, 8, 9, 10, 11, 12, 13, 14, 15, 16, 17, 18, 19, 0, 20, 21, 22, 23, 24] rfl
      have hD9 := hD.sub (ws' := wW h5 (a5 0) (t5 0) l5 m5 ++ sW cI a5 s0 ++ sW cI t5 s0 ++ wL l5 0 e0 0 ++ mW cI m5 (y5 0) w5 z0 ++ yW cI y5 y0s ++ dW cI cZ cG cY (ad6 h0 q19 q29 (r29 0) (r29 1) q38) (fun _ => 0) h5 b dr dd0 (fun _ _ => 0)) [1, 2, 3, 4, 5, 6, 7, 8, 9, 10, 11, 12, 13, 14, 15, 16, 17, 18, 19, 0, 20, 21, 22, 23, 24] (by decide) rfl
      refine W.widen (k := 26) (n := 2100) (Nat.le_of_ble_eq_true rfl) (Nat.le_of_ble_eq_true rfl) ?_
      exact W.vret hx hb hr (fun T9 ht hW => ⟨⟨(h5, a5, t5, l5, m5, w5, y5, (ad6 h0 q19 q29 (r29 0) (r29 1) q38)), rfl, rfl, by rw [ht]; exact hP9, va_K.moved hW.alike hK4, hD9⟩, hS.F ht⟩) hS.2.2 dX5_init_76
    | succ n ih56 =>
      intro k f hk hf9 H locs ls hl hP hD hS
      refine lv_iload_n hx hb dX5_init_56 rfl (lv_at hl 0 rfl) ?_
      refine lv_sipush (v := 160) hx hb dX5_init_57 (by decide) ?_
      refine lv_icmp_ge (tgt := 76) hx hb dX5_init_60 (by decide) (fun c_60 => absurd c_60 (nI_ge (b := 160) (by omega) (by omega))) (fun c_60 => ?_)
      refine lv_aload_n hx hb dX5_init_63 rfl (lv_at hl 1 rfl) ?_
      refine va_get (D := D) (ci := 5) (v := .ref q19) (C := RX5) (T := TX5) (N := 8) hx hb hts (by decide +kernel) hown hK hP 0 rfl rfl 3 (by decide) (hts (.fieldLink RX5 16 "WarrenLaw$Den" "kinds" "[I") (by decide +kernel)) (fun _ h9 => h9) rfl dX5_init_64 ?_
      refine lv_iload_n hx hb dX5_init_67 rfl (lv_at hl 0 rfl) ?_
      refine lv_iconst (v := 1) hx hb dX5_init_68 (by decide) ?_
      refine va_iast hx hb hK hP hD hS 20 0 rfl rfl (vp_in_nI (by omega) (by decide)) dX5_init_69 (fun H locs hP hD hS => ?_)
      rw [nI_clamp (by omega)] at hP hD
      have hP : va_P D vwCl ([(h0, .inr (5, [.ref h5, .ref b, .int (nI dr), .ref q19, .ref q29, .ref q38, .int 0, .int 0]))] ++ wW h5 (a5 0) (t5 0) l5 m5 ++ sW cI a5 s0 ++ sW cI t5 s0 ++ wL l5 0 e0 0 ++ mW cI m5 (y5 0) w5 z0 ++ yW cI y5 y0s ++ [(q19, .inl (cI, 160, .inl (upd f k 1)))] ++ [(q29, .inl (cY, 2, .inr (.inr (.inr (.inr (fun i => if i < 2 then some (r29 i) else none)))))), (r29 0, .inl (cZ, 160, .inl (fun _ => 0))), (r29 1, .inl (cZ, 160, .inl (fun _ => 0)))] ++ [(q38, .inl (cG, 0, .inr (.inr (.inr (.inr (fun _ => none))))))]) H := hP
      have hD : va_D A ([(h0, .inr (5, [.ref h5, .ref b, .int (nI dr), .ref q19, .ref q29, .ref q38, .int 0, .int 0]))] ++ wW h5 (a5 0) (t5 0) l5 m5 ++ sW cI a5 s0 ++ sW cI t5 s0 ++ wL l5 0 e0 0 ++ mW cI m5 (y5 0) w5 z0 ++ yW cI y5 y0s ++ [(q19, .inl (cI, 160, .inl (upd f k 1)))] ++ [(q29, .inl (cY, 2, .inr (.inr (.inr (.inr (fun i => if i < 2 then some (r29 i) else none)))))), (r29 0, .inl (cZ, 160, .inl (fun _ => 0))), (r29 1, .inl (cZ, 160, .inl (fun _ => 0)))] ++ [(q38, .inl (cG, 0, .inr (.inr (.inr (.inr (fun _ => none))))))]) := hD
      refine lv_iinc (v := (nI (k + 1))) (lv' := [(3, .int (nI (k + 1))), (0, .ref h0), (1, .ref b), (2, .int (nI dr))]) hx hb dX5_init_70 hl (k := 0) rfl (nI_1 k) (by decide) rfl (fun ls hl => ?_)
      refine lv_goto (tgt := 56) hx hb dX5_init_73 (by decide) ?_
      exact ih56 (k + 1) (upd f k 1) (by omega) (fun j hj => by by_cases q : j = k; exact (by rw [q]; exact pk_us); exact (pk_un q).trans (hf9 j (by omega))) _ _ ls (lv_sub hl [0, 1, 2, 3] rfl) hP hD hS
  exact L56 160 0 (fun _ => 0) rfl (fun j h => absurd h (Nat.not_lt_zero j)) _ _ ls (lv_sub hl [0, 1, 2, 3] rfl) hP hD hS
