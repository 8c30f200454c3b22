-- ===== the law: its turns =====
section LAW28
variable {p : Program} {l : Launch} {e : Env} {s : State} {m : MethodId} {below : List Frame} {meth : Method} {c : Code} {b L : Nat} {xs : Nat → Int32} {D : va_G} {cI cZ cG cY : ClassId} {t e0 : Nat}
set_option maxHeartbeats 4000000 in
set_option maxRecDepth 100000 in
/-- the law's turns -/
theorem law_times (E0 : lawE p s m meth c b L xs D cI cZ cG cY t e0) (hst : l.stackTraces = false) : ∀ (n1 k1 ce sl : Nat) (H : Heap) (locs : List Loc) (ls : Array Slot), k1 + n1 = 3 → ce ≤ 12000 * k1 → sl ≤ 100000 * k1 → lv_has ls 19 [(1, .int (nI k1)), (0, .ref b)] → va_S (lA s) s.heap H locs → W p l e room_1 s m #[Value.ref b] below meth c H locs ce sl (lw_Z below #[Value.ref b] s) (F0 m 2 ls []) := by
  obtain ⟨C0, hK, hGX, hEX, hNX⟩ := id E0
  obtain ⟨hx, hb, hr, hml, hown, hts, hX, hbl, hlocks, hgv⟩ := id C0
  obtain ⟨hXV, hTX, hN, hSX, hG, hBX, hnc, hnb, hov⟩ := id hGX
  have hK1 := K_D hK
  have hE := hXV.1
  have hA : ∀ q : Nat, s.heap.size ≤ q → lA s q := fun _ h => h
  intro n1
  induction n1 with
  | zero =>
    intro k1 ce sl H locs ls hk hce hsl hl hS
    refine lv_iload_n hx hb dL_law_2 rfl (lv_at hl 0 rfl) ?_
    refine lv_iconst (v := 3) hx hb dL_law_3 (by decide) ?_
    refine lv_icmp_ge (tgt := 987) hx hb dL_law_4 (by decide) (fun _ => ?_) (fun q => absurd (nI_le (a := 3) (by omega) (by omega)) q)
    refine lv_iconst (v := 1) hx hb dL_law_987 (by decide) ?_
    refine va_forget (fun q hq => hS.2.2 q hq) (W.widen (k := 600104) (n := 7301314) (by omega) (by omega) (W.base ?_))
    exact lw_ret (Drawn.sameBut.refl s.drawn lw_cs) hx hb hr hlocks dL_law_988
  | succ n1 ih =>
    intro k1 ce sl H locs ls hk hce0 hsl0 hl hS
    have hce : ce ≤ 500000 := by omega
    have hsl : sl ≤ 5000000 := by omega
    refine lv_iload_n hx hb dL_law_2 rfl (lv_at hl 0 rfl) ?_
    refine lv_iconst (v := 3) hx hb dL_law_3 (by decide) ?_
    refine lv_icmp_ge (tgt := 987) hx hb dL_law_4 (by decide) (fun q => absurd q (nI_ge (b := 3) (by omega) (by omega))) (fun _ => ?_)
    have hP : va_P D vwCl [] H := fun k q h => by simp at h
    have hD : va_D (lA s) [] := ⟨fun i j p q h => by simp at h, fun k q h => by simp at h⟩
    refine va_new (D := D) (ci := 5) (fs := [.null, .null, .int 0, .null, .null, .null, .int 0, .int 0]) (C := RX5) (T := TX5) (N := 8) hx hb hts inX5 tyX5 tyX5_ok hown (hts (.classLink RL 9 RX5) w9_0) (hts (.instantiable RX5 8) w9_1) (hts (.initialized RX5) w9_2) hK hP hD hS hA rfl (fun j hj => by rcases (show j = 0 ∨ j = 1 ∨ j = 2 ∨ j = 3 ∨ j = 4 ∨ j = 5 ∨ j = 6 ∨ j = 7 by omega) with rfl | rfl | rfl | rfl | rfl | rfl | rfl | rfl <;> rfl) (room_c hce (Nat.le_of_ble_eq_true rfl) (k := 1)) (room_s hsl (Nat.le_of_ble_eq_true rfl) (k := 8)) dL_law_7 (fun q7 H hP hD hS => ?_)
    have hP : va_P D vwCl ([(q7, .inr (5, [.null, .null, .int 0, .null, .null, .null, .int 0, .int 0]))]) H := hP
    have hD : va_D (lA s) ([(q7, .inr (5, [.null, .null, .int 0, .null, .null, .null, .int 0, .int 0]))]) := hD
    refine lv_dup hx hb dL_law_10 rfl ?_
    refine lv_aload_n hx hb dL_law_11 rfl (lv_at hl 1 rfl) ?_
    refine lv_bipush (v := 31) hx hb dL_law_12 (by decide) ?_
    refine lv_iload_n hx hb dL_law_14 rfl (lv_at hl 0 rfl) ?_
    refine lv_imul hx hb dL_law_15 ?_
    refine lv_bipush (v := 7) hx hb dL_law_16 (by decide) ?_
    refine lv_iadd hx hb dL_law_18 ?_
    rw [show (31 : Int32) * nI k1 + 7 = nI (31 * k1 + 7) from by rw [show (31 : Int32) * nI k1 = nI (31 * k1) from pk_mul 31 k1]; exact nI_add (31 * k1) 7]
    have hFc := free0 hD hS hA
    refine va_callv (va_runI (As := [.ref b, .int (nI (31 * k1 + 7))]) (rest := [.ref q7]) ⟨hx, hb, hml, hown, hts⟩ (c_X5_init l D cI _ cZ cG cY q7 e0 b (31 * k1 + 7)) (cwI 2 hts gL_law_X5_init rfl rfl rfl (hts (.initialized RX5) w9_2) (hts (.methodLink RL 11 yX5_init) w9_3) (hts (.instanceMethod yX5_init) w9_4) rfl (by decide +kernel) ⟨Nat.le_of_ble_eq_true rfl, Nat.le_of_ble_eq_true rfl⟩) ⟨preN_blind, preN_of hP hK hD hNX hS hFc [.ref q7, .ref b, .int (nI (31 * k1 + 7))]⟩ rfl rfl hl.1 rfl (lv_room (Nat.le_of_ble_eq_true rfl)) dL_law_19 ⟨room_c hce (Nat.le_of_ble_eq_true rfl) (k := 27), room_s hsl (Nat.le_of_ble_eq_true rfl) (k := 2108)⟩) hS (fun q _ h => hFc q h) hFc (fun u9 t9 H1 locs ht hvm hw hB hz1 hk1 hS => ?_)
    obtain ⟨hP1, -, hD1⟩ := hB
    rw [ht] at hP1
    obtain ⟨h, a, z, l0, m0, w0, y, o⟩ := u9
    dsimp only at hw hP1 hD1
    subst hw
    have hD := join0 hFc hD1
    have hP := hP1
    generalize H1 = H at hP hS ⊢
    have hP : va_P D vwCl (wW h (a 0) (z 0) l0 m0 ++ sW cI a s0 ++ sW cI z s0 ++ wL l0 0 e0 0 ++ mW cI m0 (y 0) w0 z0 ++ yW cI y y0s ++ dW cI cZ cG cY o (fun _ => 0) h b (31 * k1 + 7) dd0 (fun _ _ => 0)) H := hP
    have hD : va_D (lA s) (wW h (a 0) (z 0) l0 m0 ++ sW cI a s0 ++ sW cI z s0 ++ wL l0 0 e0 0 ++ mW cI m0 (y 0) w0 z0 ++ yW cI y y0s ++ dW cI cZ cG cY o (fun _ => 0) h b (31 * k1 + 7) dd0 (fun _ _ => 0)) := hD
    refine lv_astore_n (lv' := [(2, .ref (o 0)), (1, .int (nI k1)), (0, .ref b)]) hx hb dL_law_22 rfl hl (by decide) rfl (fun ls hl => ?_)
    refine lv_aload_n hx hb dL_law_23 rfl (lv_at hl 0 rfl) ?_
    refine va_get (D := D) (ci := 5) (v := .ref h) (C := RX5) (T := TX5) (N := 8) hx hb hts inX5 hown hK hP 19 rfl rfl 0 (by decide) (hts (.fieldLink RL 14 "WarrenLaw$Den" "m" "LWarren;") w9_5) (fun _ h9 => h9) rfl dL_law_24 ?_
    refine lv_astore_n (lv' := [(3, .ref h), (2, .ref (o 0)), (1, .int (nI k1)), (0, .ref b)]) hx hb dL_law_27 rfl hl (by decide) rfl (fun ls hl => ?_)
    refine lv_aload_n hx hb dL_law_28 rfl (lv_at hl 1 rfl) ?_
    refine lv_bipush (v := 6) hx hb dL_law_29 (by decide) ?_
    have hP : va_P D vwCl ((wW h (a 0) (z 0) l0 m0 ++ sW cI a s0 ++ dW cI cZ cG cY o (fun _ => 0) h b (31 * k1 + 7) dd0 (fun _ _ => 0)) ++ (sW cI z s0 ++ wL l0 0 e0 0 ++ mW cI m0 (y 0) w0 z0 ++ yW cI y y0s) ++ (bW cI (fun _ => 0) (d_n dd0) (d_R dd0) ++ [])) H := hP.sub (ws' := (wW h (a 0) (z 0) l0 m0 ++ sW cI a s0 ++ dW cI cZ cG cY o (fun _ => 0) h b (31 * k1 + 7) dd0 (fun _ _ => 0)) ++ (sW cI z s0 ++ wL l0 0 e0 0 ++ mW cI m0 (y 0) w0 z0 ++ yW cI y y0s) ++ (bW cI (fun _ => 0) (d_n dd0) (d_R dd0) ++ [])) [0, 1, 2, 3, 4, 5, 6, 19, 20, 21, 22, 23, 24, 7, 8, 9, 10, 11, 12, 13, 14, 15, 16, 17, 18] rfl
    have hD : va_D (lA s) ((wW h (a 0) (z 0) l0 m0 ++ sW cI a s0 ++ dW cI cZ cG cY o (fun _ => 0) h b (31 * k1 + 7) dd0 (fun _ _ => 0)) ++ (sW cI z s0 ++ wL l0 0 e0 0 ++ mW cI m0 (y 0) w0 z0 ++ yW cI y y0s) ++ (bW cI (fun _ => 0) (d_n dd0) (d_R dd0) ++ [])) := hD.sub (ws' := (wW h (a 0) (z 0) l0 m0 ++ sW cI a s0 ++ dW cI cZ cG cY o (fun _ => 0) h b (31 * k1 + 7) dd0 (fun _ _ => 0)) ++ (sW cI z s0 ++ wL l0 0 e0 0 ++ mW cI m0 (y 0) w0 z0 ++ yW cI y y0s) ++ (bW cI (fun _ => 0) (d_n dd0) (d_R dd0) ++ [])) [0, 1, 2, 3, 4, 5, 6, 19, 20, 21, 22, 23, 24, 7, 8, 9, 10, 11, 12, 13, 14, 15, 16, 17, 18] (by decide) rfl
    have hFc := freeM hD hS hA
    refine va_calli (va_runV (As := [.int 6]) (rest := []) ⟨hx, hb, hml, hown, hts⟩ (c_X5_found l hst D cI _ cZ cG cY (z 0) l0 m0 a o (fun _ => 0) h b (31 * k1 + 7) 0 s0 dd0 (fun _ _ => 0) t L xs 6 IR0 (by omega) (by decide) rfl) (cwV 1 hts gL_law_X5_found rfl rfl rfl (by decide +kernel) ⟨Nat.le_of_ble_eq_true rfl, Nat.le_of_ble_eq_true rfl⟩) ⟨preD_blind, va_recv hK hP (ci := 5) (q0 := 7) rfl rfl, preD_of (P_pre (toM hP)) hK (D_pre (toMD hD)) hGX hS hFc [.ref (o 0), .int 6]⟩ rfl rfl hl.1 rfl (lv_room (Nat.le_of_ble_eq_true rfl)) dL_law_31 ⟨room_c hce (Nat.le_of_ble_eq_true rfl) (k := 67), room_s hsl (Nat.le_of_ble_eq_true rfl) (k := 2468)⟩) hS (fun q _ h => hFc q h) hFc (fun r9 u9 t9 H1 locs ht hvm hw hB hz1 hk1 hS => ?_)
    obtain ⟨hP1, -, hD1⟩ := hB
    rw [ht] at hP1
    obtain ⟨σ, δ, dr, Y9, o1, rr⟩ := u9
    dsimp only at hw hP1 hD1
    obtain ⟨hr9, hI, hd, hn, ho⟩ := hw
    rw [hr9]
    obtain ⟨hP, hD⟩ := joinM hP hD hk1 hFc hP1 hD1
    generalize H1 = H at hP hS ⊢
    have hP : va_P D vwCl (wW h (a 0) (z 0) l0 m0 ++ sW cI a σ ++ dW cI cZ cG cY o1 rr h b dr δ Y9 ++ sW cI z s0 ++ wL l0 0 e0 0 ++ mW cI m0 (y 0) w0 z0 ++ yW cI y y0s ++ (bW cI rr (d_n δ) (d_R δ) ++ [])) H := hP
    have hD : va_D (lA s) (wW h (a 0) (z 0) l0 m0 ++ sW cI a σ ++ dW cI cZ cG cY o1 rr h b dr δ Y9 ++ sW cI z s0 ++ wL l0 0 e0 0 ++ mW cI m0 (y 0) w0 z0 ++ yW cI y y0s ++ (bW cI rr (d_n δ) (d_R δ) ++ [])) := hD
    refine lv_if_ne (tgt := 39) hx hb dL_law_34 (by decide) (fun _ => ?_) (fun z9 => absurd z9 (by decide))
    refine lv_iconst (v := 0) hx hb dL_law_39 (by decide) ?_
    rw [← ho] at hl
    refine lv_istore (lv' := [(4, .int (nI 0)), (3, .ref h), (2, .ref (o1 0)), (1, .int (nI k1)), (0, .ref b)]) hx hb dL_law_40 hl (by decide) rfl (fun ls hl => ?_)
    refine lv_iload hx hb dL_law_42 (lv_at hl 0 rfl) ?_
    refine lv_bipush (v := 6) hx hb dL_law_44 (by decide) ?_
    refine lv_icmp_ge (tgt := 981) hx hb dL_law_46 (by decide) (fun q => absurd q (by decide)) (fun _ => ?_)
    have hn0 : d_n δ ≤ 6 := Nat.le_trans hn (Nat.le_of_ble_eq_true rfl)
    refine W.widen (k := ce + 100) (n := sl + 2500) (by omega) (by omega) ?_
    refine law_step_0 (xp := []) (g := 0) (q9 := 0) (cP := cI) (pf := fun _ => none) E0 hst hI hn0 (by omega) (by omega) (by omega) (by omega) hl hP hD hS (fun cP1 mc1 q1 g1 pf1 f1 ψ1 σ1 δ1 dr1 Y1 o2 rr1 τ1 ce1 sl1 hc1 hs1 hKp hg1 hg9 hI1 hn1 hd1 H locs ls hl hP hD hS => ?_)
    refine lv_iinc (v := nI (0 + 1)) (lv' := [(4, .int (nI (0 + 1))), (3, .ref h), (2, .ref (o2 0)), (1, .int (nI k1)), (0, .ref b)]) hx hb dL_law_975 hl (k := 0) rfl (nI_1 0) (by decide) rfl (fun ls hl => ?_)
    refine lv_goto (tgt := 42) hx hb dL_law_978 (by decide) ?_
    refine law_steps (k1 := k1) (C9 := ce + 100) (S9 := sl + 2500) E0 hst (by omega) (by omega) (fun ce2 sl2 hc2 hs2 H locs ls hl hS => ?_) 5 (0 + 1) g1 q1 dr1 (0 + 1 + 1) ce1 sl1 o2 rr1 mc1 f1 σ1 τ1 δ1 ψ1 Y1 cP1 pf1 H locs ls (by omega) hI1 hn1 hg1 hg9 hKp (by omega) (by omega) (by omega) (by omega) hl hP hD hS
    refine lv_iinc (v := nI (k1 + 1)) (lv' := [(1, .int (nI (k1 + 1))), (0, .ref b)]) hx hb dL_law_981 hl (k := 0) rfl (nI_1 k1) (by decide) rfl (fun ls hl => ?_)
    refine lv_goto (tgt := 2) hx hb dL_law_984 (by decide) ?_
    exact ih (k1 + 1) ce2 sl2 H locs ls (by omega) (by omega) (by omega) hl hS
end LAW28
