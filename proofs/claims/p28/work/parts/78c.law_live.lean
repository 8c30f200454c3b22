-- ===== the law: law_live =====
section LAW28
variable {p : Program} {l : Launch} {e : Env} {s : State} {m : MethodId} {below : List Frame} {meth : Method} {c : Code} {b L : Nat} {xs : Nat → Int32} {D : va_G} {cI cZ cG cY : ClassId} {t e0 : Nat}
set_option maxHeartbeats 4000000 in
set_option maxRecDepth 100000 in
/-- a living being: where it is, its target, its plan -/
theorem law_live {h l0 m0 w0 q9 g : Nat} {a z y o rr : Nat → Nat} {mc : Int32} {f : Nat → Int32} {σ τ : SS} {δ : DD} {ψ : YS} {Y9 : RW} {dr : Nat} {xp : va_W} {ce sl : Nat} {H : Heap} {locs : List Loc} {ls : Array Slot} {jb na k1 k4 K : Nat} {dg : Int64} {c0 : Nat} (E0 : lawE p s m meth c b L xs D cI cZ cG cY t e0) (hst : l.stackTraces = false) (hI : IR K σ δ) (hn6 : d_n δ ≤ 6) (hjb : jb < d_n δ) (hal : aliveB σ (nI jb) = true) (hc0 : c0 < 160) (e1 : traitF σ (nI jb) 1 = nI c0) (hk03 : kindF σ (nI c0) = 0 ∨ kindF σ (nI c0) = 3) (hce0 : ce ≤ 400000) (hsl0 : sl ≤ 4000000) (hl : lv_has ls 19 [(11, .int (nI c0)), (10, .int (nI jb)), (9, .int (nI na)), (8, .int (nI (d_n δ))), (7, .int (turnF σ)), (5, .long dg), (4, .int (nI k4)), (3, .ref h), (2, .ref (o 0)), (1, .int (nI k1)), (0, .ref b)]) (hP : va_P D vwCl (wW h (a 0) (z 0) l0 m0 ++ sW cI a σ ++ dW cI cZ cG cY o rr h b dr δ Y9 ++ sW cI z τ ++ wL l0 mc q9 g ++ mW cI m0 (y 0) w0 f ++ yW cI y ψ ++ (bW cI rr (d_n δ) (d_R δ) ++ xp)) H) (hD : va_D (lA s) (wW h (a 0) (z 0) l0 m0 ++ sW cI a σ ++ dW cI cZ cG cY o rr h b dr δ Y9 ++ sW cI z τ ++ wL l0 mc q9 g ++ mW cI m0 (y 0) w0 f ++ yW cI y ψ ++ (bW cI rr (d_n δ) (d_R δ) ++ xp))) (hS : va_S (lA s) s.heap H locs)
    (kk552 : ∀ (f1 : Nat → Int32) (ψ1 : YS) (ce1 sl1 : Nat) (hc1 : ce1 ≤ ce + 40) (hs1 : sl1 ≤ sl + 240) (H : Heap) (locs : List Loc) (ls : Array Slot), lv_has ls 19 [(11, .int (nI c0)), (10, .int (nI jb)), (9, .int (nI (na + 1))), (8, .int (nI (d_n δ))), (7, .int (turnF σ)), (5, .long dg), (4, .int (nI k4)), (3, .ref h), (2, .ref (o 0)), (1, .int (nI k1)), (0, .ref b)] → va_P D vwCl (wW h (a 0) (z 0) l0 m0 ++ sW cI a σ ++ dW cI cZ cG cY o rr h b dr δ Y9 ++ sW cI z τ ++ wL l0 mc q9 g ++ mW cI m0 (y 0) w0 f1 ++ yW cI y ψ1 ++ (bW cI rr (d_n δ) (d_R δ) ++ xp)) H → va_D (lA s) (wW h (a 0) (z 0) l0 m0 ++ sW cI a σ ++ dW cI cZ cG cY o rr h b dr δ Y9 ++ sW cI z τ ++ wL l0 mc q9 g ++ mW cI m0 (y 0) w0 f1 ++ yW cI y ψ1 ++ (bW cI rr (d_n δ) (d_R δ) ++ xp)) → va_S (lA s) s.heap H locs → W p l e room_1 s m #[Value.ref b] below meth c H locs ce1 sl1 (lw_Z below #[Value.ref b] s) (F0 m 552 ls [])) : W p l e room_1 s m #[Value.ref b] below meth c H locs ce sl (lw_Z below #[Value.ref b] s) (F0 m 249 ls []) := by
  obtain ⟨C0, hK, hGX, hEX, hNX⟩ := id E0
  obtain ⟨hx, hb, hr, hml, hown, hts, hX, hbl, hlocks, hgv⟩ := id C0
  obtain ⟨hXV, hTX, hN, hSX, hG, hBX, hnc, hnb, hov⟩ := id hGX
  have hK1 := K_D hK
  have hE := hXV.1
  have hA : ∀ q : Nat, s.heap.size ≤ q → lA s q := fun _ h => h
  have hce : ce ≤ 500000 := by omega
  have hsl : sl ≤ 5000000 := by omega
  have hn10 : d_n δ ≤ 10 := by omega
  have hnσ : s_n σ ≤ 10 := by rw [hI.1.1]; exact hn10
  have hbe : beingB σ (nI jb) = true := being_T hI hjb
  obtain ⟨hbt, hT8, hT9⟩ := F_turn hI hjb hal
  refine lv_aload_n hx hb dL_law_249 rfl (lv_at hl 7 rfl) ?_
  refine lv_iload hx hb dL_law_250 (lv_at hl 1 rfl) ?_
  have hFc := va_free (wc := wW h (a 0) (z 0) l0 m0 ++ sW cI a σ) hD hS hA [0, 1, 2, 3, 4, 5, 6] rfl
  refine vx_calli (vx_runV (As := [.int (nI jb)]) (rest := []) ⟨hx, hb, hml, hown, hts⟩ (c_X4_target l hst D cI _ h (z 0) l0 m0 a σ (nI jb) hnσ) (cwV 1 hts gL_law_X4_target rfl rfl rfl (by decide +kernel) ⟨Nat.le_of_ble_eq_true rfl, Nat.le_of_ble_eq_true rfl⟩) ⟨preX_blind, va_recv hK hP (ci := 4) (q0 := 0) rfl rfl, preX_of (hP.sub (ws' := wW h (a 0) (z 0) l0 m0 ++ sW cI a σ) [0, 1, 2, 3, 4, 5, 6] rfl) hK1 hXV (hD.sub (ws' := wW h (a 0) (z 0) l0 m0 ++ sW cI a σ) [0, 1, 2, 3, 4, 5, 6] (by decide) rfl) hTX hS hFc [.ref h, .int (nI jb)]⟩ rfl rfl hl.1 rfl (lv_room (Nat.le_of_ble_eq_true rfl)) dL_law_252 ⟨room_c hce (Nat.le_of_ble_eq_true rfl) (k := 1), room_s hsl (Nat.le_of_ble_eq_true rfl) (k := 6)⟩) hS (fun q _ h => hFc q h) hFc (fun q _ h => hFc q h) (fun E ce9 q9 u9 t9 H1 locs ht hvm hpx hBX9 hz1 hk1 hS hq9 hce9 hcl9 => absurd (F_tgtT hbe) hpx) (fun r9 u9 t9 H1 locs ht hvm hw hB hz1 hk1 hS => ?_)
  obtain ⟨hP1, -, hD1⟩ := hB
  rw [ht] at hP1
  obtain ⟨hT9, hR9, hU9⟩ := hw
  rw [hU9] at hP1 hD1
  obtain ⟨hP, hD⟩ := va_joinQ (wr := dW cI cZ cG cY o rr h b dr δ Y9 ++ sW cI z τ ++ wL l0 mc q9 g ++ mW cI m0 (y 0) w0 f ++ yW cI y ψ) (w1 := wW h (a 0) (z 0) l0 m0 ++ sW cI a σ) hP hD [0, 1, 2, 3, 4, 5, 6] [7, 8, 9, 10, 11, 12, 13, 14, 15, 16, 17, 18, 19, 20, 21, 22, 23, 24] rfl rfl (by decide) (by decide) hk1 hFc hP1 hD1
  generalize H1 = H at hP hS ⊢
  clear ht hvm hz1 hk1 hFc hP1 hD1 hT9 hU9
  have hP : va_P D vwCl (dW cI cZ cG cY o rr h b dr δ Y9 ++ sW cI z τ ++ wL l0 mc q9 g ++ mW cI m0 (y 0) w0 f ++ yW cI y ψ ++ wW h (a 0) (z 0) l0 m0 ++ sW cI a σ ++ (bW cI rr (d_n δ) (d_R δ) ++ xp)) H := hP
  have hD : va_D (lA s) (dW cI cZ cG cY o rr h b dr δ Y9 ++ sW cI z τ ++ wL l0 mc q9 g ++ mW cI m0 (y 0) w0 f ++ yW cI y ψ ++ wW h (a 0) (z 0) l0 m0 ++ sW cI a σ ++ (bW cI rr (d_n δ) (d_R δ) ++ xp)) := hD
  rw [hR9]
  clear hR9
  refine lv_istore (lv' := [(12, .int (targetF σ (nI jb))), (11, .int (nI c0)), (10, .int (nI jb)), (9, .int (nI na)), (8, .int (nI (d_n δ))), (7, .int (turnF σ)), (5, .long dg), (4, .int (nI k4)), (3, .ref h), (2, .ref (o 0)), (1, .int (nI k1)), (0, .ref b)]) hx hb dL_law_255 hl (by decide) rfl (fun ls hl => ?_)
  refine lv_iload hx hb dL_law_257 (lv_at hl 1 rfl) ?_
  refine lv_if_ge (tgt := 314) hx hb dL_law_259 (by decide) (fun c_259 => ?_) (fun c_259 => absurd ((nI_pos' (by omega))) c_259)
  refine lv_iinc (v := (nI (na + 1))) (lv' := [(9, .int (nI (na + 1))), (12, .int (targetF σ (nI jb))), (11, .int (nI c0)), (10, .int (nI jb)), (8, .int (nI (d_n δ))), (7, .int (turnF σ)), (5, .long dg), (4, .int (nI k4)), (3, .ref h), (2, .ref (o 0)), (1, .int (nI k1)), (0, .ref b)]) hx hb dL_law_314 hl (k := 3) rfl (nI_1 na) (by decide) rfl (fun ls hl => ?_)
  refine lv_aload_n hx hb dL_law_317 rfl (lv_at hl 8 rfl) ?_
  refine lv_iload hx hb dL_law_318 (lv_at hl 2 rfl) ?_
  have hFc := va_free (wc := wW h (a 0) (z 0) l0 m0 ++ sW cI a σ) hD hS hA [18, 19, 20, 21, 22, 23, 24] rfl
  refine vx_calli (vx_runV (As := [.int (nI c0)]) (rest := []) ⟨hx, hb, hml, hown, hts⟩ (c_X4_on l hst D cI _ h (z 0) l0 m0 a σ (nI c0) hnσ) (cwV 1 hts gL_law_X4_on rfl rfl rfl (by decide +kernel) ⟨Nat.le_of_ble_eq_true rfl, Nat.le_of_ble_eq_true rfl⟩) ⟨preX_blind, va_recv hK hP (ci := 4) (q0 := 18) rfl rfl, preX_of (hP.sub (ws' := wW h (a 0) (z 0) l0 m0 ++ sW cI a σ) [18, 19, 20, 21, 22, 23, 24] rfl) hK1 hXV (hD.sub (ws' := wW h (a 0) (z 0) l0 m0 ++ sW cI a σ) [18, 19, 20, 21, 22, 23, 24] (by decide) rfl) hTX hS hFc [.ref h, .int (nI c0)]⟩ rfl rfl hl.1 rfl (lv_room (Nat.le_of_ble_eq_true rfl)) dL_law_320 ⟨room_c hce (Nat.le_of_ble_eq_true rfl) (k := 2), room_s hsl (Nat.le_of_ble_eq_true rfl) (k := 12)⟩) hS (fun q _ h => hFc q h) hFc (fun q _ h => hFc q h) (fun E ce9 q9 u9 t9 H1 locs ht hvm hpx hBX9 hz1 hk1 hS hq9 hce9 hcl9 => absurd (F_celT hc0) hpx) (fun r9 u9 t9 H1 locs ht hvm hw hB hz1 hk1 hS => ?_)
  obtain ⟨hP1, -, hD1⟩ := hB
  rw [ht] at hP1
  obtain ⟨hT9, hR9, hU9⟩ := hw
  rw [hU9] at hP1 hD1
  obtain ⟨hP, hD⟩ := va_joinQ (wr := dW cI cZ cG cY o rr h b dr δ Y9 ++ sW cI z τ ++ wL l0 mc q9 g ++ mW cI m0 (y 0) w0 f ++ yW cI y ψ) (w1 := wW h (a 0) (z 0) l0 m0 ++ sW cI a σ) hP hD [18, 19, 20, 21, 22, 23, 24] [0, 1, 2, 3, 4, 5, 6, 7, 8, 9, 10, 11, 12, 13, 14, 15, 16, 17] rfl rfl (by decide) (by decide) hk1 hFc hP1 hD1
  generalize H1 = H at hP hS ⊢
  clear ht hvm hz1 hk1 hFc hP1 hD1 hT9 hU9
  have hP : va_P D vwCl (dW cI cZ cG cY o rr h b dr δ Y9 ++ sW cI z τ ++ wL l0 mc q9 g ++ mW cI m0 (y 0) w0 f ++ yW cI y ψ ++ wW h (a 0) (z 0) l0 m0 ++ sW cI a σ ++ (bW cI rr (d_n δ) (d_R δ) ++ xp)) H := hP
  have hD : va_D (lA s) (dW cI cZ cG cY o rr h b dr δ Y9 ++ sW cI z τ ++ wL l0 mc q9 g ++ mW cI m0 (y 0) w0 f ++ yW cI y ψ ++ wW h (a 0) (z 0) l0 m0 ++ sW cI a σ ++ (bW cI rr (d_n δ) (d_R δ) ++ xp)) := hD
  rw [hR9]
  clear hR9
  rw [L_on hI hjb hc0 e1]
  refine lv_iload hx hb dL_law_323 (lv_at hl 3 rfl) ?_
  refine lv_icmp_ne (tgt := 406) hx hb dL_law_325 (by decide) (fun c_325 => absurd (rfl) c_325) (fun c_325 => ?_)
  refine lv_aload_n hx hb dL_law_328 rfl (lv_at hl 8 rfl) ?_
  refine lv_iload hx hb dL_law_329 (lv_at hl 2 rfl) ?_
  have hFc := va_free (wc := wW h (a 0) (z 0) l0 m0 ++ sW cI a σ) hD hS hA [18, 19, 20, 21, 22, 23, 24] rfl
  refine vx_calli (vx_runV (As := [.int (nI c0)]) (rest := []) ⟨hx, hb, hml, hown, hts⟩ (c_X4_cell l hst D cI _ h (z 0) l0 m0 a σ (nI c0)) (cwV 1 hts gL_law_X4_cell rfl rfl rfl (by decide +kernel) ⟨Nat.le_of_ble_eq_true rfl, Nat.le_of_ble_eq_true rfl⟩) ⟨preX_blind, va_recv hK hP (ci := 4) (q0 := 18) rfl rfl, preX_of (hP.sub (ws' := wW h (a 0) (z 0) l0 m0 ++ sW cI a σ) [18, 19, 20, 21, 22, 23, 24] rfl) hK1 hXV (hD.sub (ws' := wW h (a 0) (z 0) l0 m0 ++ sW cI a σ) [18, 19, 20, 21, 22, 23, 24] (by decide) rfl) hTX hS hFc [.ref h, .int (nI c0)]⟩ rfl rfl hl.1 rfl (lv_room (Nat.le_of_ble_eq_true rfl)) dL_law_331 ⟨room_c hce (Nat.le_of_ble_eq_true rfl) (k := 3), room_s hsl (Nat.le_of_ble_eq_true rfl) (k := 18)⟩) hS (fun q _ h => hFc q h) hFc (fun q _ h => hFc q h) (fun E ce9 q9 u9 t9 H1 locs ht hvm hpx hBX9 hz1 hk1 hS hq9 hce9 hcl9 => absurd (F_celT hc0) hpx) (fun r9 u9 t9 H1 locs ht hvm hw hB hz1 hk1 hS => ?_)
  obtain ⟨hP1, -, hD1⟩ := hB
  rw [ht] at hP1
  obtain ⟨hT9, hR9, hU9⟩ := hw
  rw [hU9] at hP1 hD1
  obtain ⟨hP, hD⟩ := va_joinQ (wr := dW cI cZ cG cY o rr h b dr δ Y9 ++ sW cI z τ ++ wL l0 mc q9 g ++ mW cI m0 (y 0) w0 f ++ yW cI y ψ) (w1 := wW h (a 0) (z 0) l0 m0 ++ sW cI a σ) hP hD [18, 19, 20, 21, 22, 23, 24] [0, 1, 2, 3, 4, 5, 6, 7, 8, 9, 10, 11, 12, 13, 14, 15, 16, 17] rfl rfl (by decide) (by decide) hk1 hFc hP1 hD1
  generalize H1 = H at hP hS ⊢
  clear ht hvm hz1 hk1 hFc hP1 hD1 hT9 hU9
  have hP : va_P D vwCl (dW cI cZ cG cY o rr h b dr δ Y9 ++ sW cI z τ ++ wL l0 mc q9 g ++ mW cI m0 (y 0) w0 f ++ yW cI y ψ ++ wW h (a 0) (z 0) l0 m0 ++ sW cI a σ ++ (bW cI rr (d_n δ) (d_R δ) ++ xp)) H := hP
  have hD : va_D (lA s) (dW cI cZ cG cY o rr h b dr δ Y9 ++ sW cI z τ ++ wL l0 mc q9 g ++ mW cI m0 (y 0) w0 f ++ yW cI y ψ ++ wW h (a 0) (z 0) l0 m0 ++ sW cI a σ ++ (bW cI rr (d_n δ) (d_R δ) ++ xp)) := hD
  rw [hR9]
  clear hR9
  refine lv_iconst (v := 3) hx hb dL_law_334 (by decide) ?_
  refine lv_irem hx hb dL_law_335 (by decide) ?_
  refine lv_if_ne (tgt := 406) hx hb dL_law_336 (by decide) (fun c_336 => absurd ((F_rem3 hk03)) c_336) (fun c_336 => ?_)
  refine lv_aload_n hx hb dL_law_339 rfl (lv_at hl 8 rfl) ?_
  refine lv_iload hx hb dL_law_340 (lv_at hl 2 rfl) ?_
  refine lv_iload hx hb dL_law_342 (lv_at hl 2 rfl) ?_
  have hFc := va_free (wc := wW h (a 0) (z 0) l0 m0 ++ sW cI a σ) hD hS hA [18, 19, 20, 21, 22, 23, 24] rfl
  refine vx_calli (vx_runV (As := [.int (nI c0), .int (nI c0)]) (rest := []) ⟨hx, hb, hml, hown, hts⟩ (c_X4_sees l hst D cI _ h (z 0) l0 m0 a σ (nI c0) (nI c0)) (cwV 2 hts gL_law_X4_sees rfl rfl rfl (by decide +kernel) ⟨Nat.le_of_ble_eq_true rfl, Nat.le_of_ble_eq_true rfl⟩) ⟨preX_blind, va_recv hK hP (ci := 4) (q0 := 18) rfl rfl, preX_of (hP.sub (ws' := wW h (a 0) (z 0) l0 m0 ++ sW cI a σ) [18, 19, 20, 21, 22, 23, 24] rfl) hK1 hXV (hD.sub (ws' := wW h (a 0) (z 0) l0 m0 ++ sW cI a σ) [18, 19, 20, 21, 22, 23, 24] (by decide) rfl) hTX hS hFc [.ref h, .int (nI c0), .int (nI c0)]⟩ rfl rfl hl.1 rfl (lv_room (Nat.le_of_ble_eq_true rfl)) dL_law_344 ⟨room_c hce (Nat.le_of_ble_eq_true rfl) (k := 4), room_s hsl (Nat.le_of_ble_eq_true rfl) (k := 24)⟩) hS (fun q _ h => hFc q h) hFc (fun q _ h => hFc q h) (fun E ce9 q9 u9 t9 H1 locs ht hvm hpx hBX9 hz1 hk1 hS hq9 hce9 hcl9 => absurd (F_seeT hc0 hc0) hpx) (fun r9 u9 t9 H1 locs ht hvm hw hB hz1 hk1 hS => ?_)
  obtain ⟨hP1, -, hD1⟩ := hB
  rw [ht] at hP1
  obtain ⟨hT9, hR9, hU9⟩ := hw
  rw [hU9] at hP1 hD1
  obtain ⟨hP, hD⟩ := va_joinQ (wr := dW cI cZ cG cY o rr h b dr δ Y9 ++ sW cI z τ ++ wL l0 mc q9 g ++ mW cI m0 (y 0) w0 f ++ yW cI y ψ) (w1 := wW h (a 0) (z 0) l0 m0 ++ sW cI a σ) hP hD [18, 19, 20, 21, 22, 23, 24] [0, 1, 2, 3, 4, 5, 6, 7, 8, 9, 10, 11, 12, 13, 14, 15, 16, 17] rfl rfl (by decide) (by decide) hk1 hFc hP1 hD1
  generalize H1 = H at hP hS ⊢
  clear ht hvm hz1 hk1 hFc hP1 hD1 hT9 hU9
  have hP : va_P D vwCl (dW cI cZ cG cY o rr h b dr δ Y9 ++ sW cI z τ ++ wL l0 mc q9 g ++ mW cI m0 (y 0) w0 f ++ yW cI y ψ ++ wW h (a 0) (z 0) l0 m0 ++ sW cI a σ ++ (bW cI rr (d_n δ) (d_R δ) ++ xp)) H := hP
  have hD : va_D (lA s) (dW cI cZ cG cY o rr h b dr δ Y9 ++ sW cI z τ ++ wL l0 mc q9 g ++ mW cI m0 (y 0) w0 f ++ yW cI y ψ ++ wW h (a 0) (z 0) l0 m0 ++ sW cI a σ ++ (bW cI rr (d_n δ) (d_R δ) ++ xp)) := hD
  rw [hR9]
  clear hR9
  refine w_bz (tgt := 406) hx hb dL_law_347 (by decide) (fun c_347 => absurd c_347 ((by rw [seen_self σ hc0]; decide))) (fun c_347 => ?_)
  refine lv_aload_n hx hb dL_law_350 rfl (lv_at hl 8 rfl) ?_
  refine lv_iload hx hb dL_law_351 (lv_at hl 3 rfl) ?_
  refine lv_iload hx hb dL_law_353 (lv_at hl 2 rfl) ?_
  have hFc := va_free (wc := wW h (a 0) (z 0) l0 m0 ++ sW cI a σ ++ mW cI m0 (y 0) w0 f ++ yW cI y ψ) hD hS hA [18, 19, 20, 21, 22, 23, 24, 13, 14, 15, 16, 17] rfl
  refine vx_calli (vx_runV (As := [.int (nI jb), .int (nI c0)]) (rest := []) ⟨hx, hb, hml, hown, hts⟩ (c_X4_way l hst D cI _ h (z 0) l0 m0 w0 a y σ f ψ (nI jb) (nI c0) t hnσ) (cwV 2 hts gL_law_X4_way rfl rfl rfl (by decide +kernel) ⟨Nat.le_of_ble_eq_true rfl, Nat.le_of_ble_eq_true rfl⟩) ⟨preXS_blind, va_recv hK hP (ci := 4) (q0 := 18) rfl rfl, preXS_of (hP.sub (ws' := wW h (a 0) (z 0) l0 m0 ++ sW cI a σ ++ mW cI m0 (y 0) w0 f ++ yW cI y ψ) [18, 19, 20, 21, 22, 23, 24, 13, 14, 15, 16, 17] rfl) hK1 hXV (hD.sub (ws' := wW h (a 0) (z 0) l0 m0 ++ sW cI a σ ++ mW cI m0 (y 0) w0 f ++ yW cI y ψ) [18, 19, 20, 21, 22, 23, 24, 13, 14, 15, 16, 17] (by decide) rfl) hTX hSX hS hFc [.ref h, .int (nI jb), .int (nI c0)]⟩ rfl rfl hl.1 rfl (lv_room (Nat.le_of_ble_eq_true rfl)) dL_law_355 ⟨room_c hce (Nat.le_of_ble_eq_true rfl) (k := 5), room_s hsl (Nat.le_of_ble_eq_true rfl) (k := 30)⟩) hS (fun q _ h => hFc q h) hFc (fun q _ h => hFc q h) (fun E ce9 q9 u9 t9 H1 locs ht hvm hpx hBX9 hz1 hk1 hS hq9 hce9 hcl9 => absurd (F_wayT hbe hc0) hpx) (fun r9 u9 t9 H1 locs ht hvm hw hB hz1 hk1 hS => ?_)
  obtain ⟨hP1, -, hD1⟩ := hB
  rw [ht] at hP1
  obtain ⟨s355, f355, φ355⟩ := u9
  dsimp only at hw hP1 hD1
  obtain ⟨hT9, hR9, hU9⟩ := hw
  rw [hU9] at hP1 hD1
  obtain ⟨hP, hD⟩ := va_joinQ (wr := dW cI cZ cG cY o rr h b dr δ Y9 ++ sW cI z τ ++ wL l0 mc q9 g) (w1 := wW h (a 0) (z 0) l0 m0 ++ sW cI a σ ++ mW cI m0 (y 0) w0 f355 ++ yW cI y φ355) hP hD [18, 19, 20, 21, 22, 23, 24, 13, 14, 15, 16, 17] [0, 1, 2, 3, 4, 5, 6, 7, 8, 9, 10, 11, 12] rfl rfl (by decide) (by decide) hk1 hFc hP1 hD1
  generalize H1 = H at hP hS ⊢
  clear ht hvm hz1 hk1 hFc hP1 hD1 hT9 hU9
  have hP : va_P D vwCl (dW cI cZ cG cY o rr h b dr δ Y9 ++ sW cI z τ ++ wL l0 mc q9 g ++ wW h (a 0) (z 0) l0 m0 ++ sW cI a σ ++ mW cI m0 (y 0) w0 f355 ++ yW cI y φ355 ++ (bW cI rr (d_n δ) (d_R δ) ++ xp)) H := hP
  have hD : va_D (lA s) (dW cI cZ cG cY o rr h b dr δ Y9 ++ sW cI z τ ++ wL l0 mc q9 g ++ wW h (a 0) (z 0) l0 m0 ++ sW cI a σ ++ mW cI m0 (y 0) w0 f355 ++ yW cI y φ355 ++ (bW cI rr (d_n δ) (d_R δ) ++ xp)) := hD
  rw [hR9]
  clear hR9
  rw [L_way0 hI hal hc0 e1 hk03]
  refine lv_if_ne (tgt := 406) hx hb dL_law_358 (by decide) (fun z9 => absurd (by decide) z9) (fun _ => ?_)
  refine lv_aload_n hx hb dL_law_361 rfl (lv_at hl 8 rfl) ?_
  refine lv_iload hx hb dL_law_362 (lv_at hl 3 rfl) ?_
  refine lv_bipush (v := 8) hx hb dL_law_364 (by decide) ?_
  have hFc := va_free (wc := wW h (a 0) (z 0) l0 m0 ++ sW cI a σ) hD hS hA [13, 14, 15, 16, 17, 18, 19] rfl
  refine vx_calli (vx_runV (As := [.int (nI jb), .int 8]) (rest := []) ⟨hx, hb, hml, hown, hts⟩ (c_X4_of l hst D cI _ h (z 0) l0 m0 a σ (nI jb) 8) (cwV 2 hts gL_law_X4_of rfl rfl rfl (by decide +kernel) ⟨Nat.le_of_ble_eq_true rfl, Nat.le_of_ble_eq_true rfl⟩) ⟨preX_blind, va_recv hK hP (ci := 4) (q0 := 13) rfl rfl, preX_of (hP.sub (ws' := wW h (a 0) (z 0) l0 m0 ++ sW cI a σ) [13, 14, 15, 16, 17, 18, 19] rfl) hK1 hXV (hD.sub (ws' := wW h (a 0) (z 0) l0 m0 ++ sW cI a σ) [13, 14, 15, 16, 17, 18, 19] (by decide) rfl) hTX hS hFc [.ref h, .int (nI jb), .int 8]⟩ rfl rfl hl.1 rfl (lv_room (Nat.le_of_ble_eq_true rfl)) dL_law_366 ⟨room_c hce (Nat.le_of_ble_eq_true rfl) (k := 6), room_s hsl (Nat.le_of_ble_eq_true rfl) (k := 36)⟩) hS (fun q _ h => hFc q h) hFc (fun q _ h => hFc q h) (fun E ce9 q9 u9 t9 H1 locs ht hvm hpx hBX9 hz1 hk1 hS hq9 hce9 hcl9 => absurd (F_of hbe (by decide)) hpx) (fun r9 u9 t9 H1 locs ht hvm hw hB hz1 hk1 hS => ?_)
  obtain ⟨hP1, -, hD1⟩ := hB
  rw [ht] at hP1
  obtain ⟨hT9, hR9, hU9⟩ := hw
  rw [hU9] at hP1 hD1
  obtain ⟨hP, hD⟩ := va_joinQ (wr := dW cI cZ cG cY o rr h b dr δ Y9 ++ sW cI z τ ++ wL l0 mc q9 g ++ mW cI m0 (y 0) w0 f355 ++ yW cI y φ355) (w1 := wW h (a 0) (z 0) l0 m0 ++ sW cI a σ) hP hD [13, 14, 15, 16, 17, 18, 19] [0, 1, 2, 3, 4, 5, 6, 7, 8, 9, 10, 11, 12, 20, 21, 22, 23, 24] rfl rfl (by decide) (by decide) hk1 hFc hP1 hD1
  generalize H1 = H at hP hS ⊢
  clear ht hvm hz1 hk1 hFc hP1 hD1 hT9 hU9
  have hP : va_P D vwCl (dW cI cZ cG cY o rr h b dr δ Y9 ++ sW cI z τ ++ wL l0 mc q9 g ++ mW cI m0 (y 0) w0 f355 ++ yW cI y φ355 ++ wW h (a 0) (z 0) l0 m0 ++ sW cI a σ ++ (bW cI rr (d_n δ) (d_R δ) ++ xp)) H := hP
  have hD : va_D (lA s) (dW cI cZ cG cY o rr h b dr δ Y9 ++ sW cI z τ ++ wL l0 mc q9 g ++ mW cI m0 (y 0) w0 f355 ++ yW cI y φ355 ++ wW h (a 0) (z 0) l0 m0 ++ sW cI a σ ++ (bW cI rr (d_n δ) (d_R δ) ++ xp)) := hD
  rw [hR9]
  clear hR9
  rw [F_ans (by decide)]
  refine lv_aload_n hx hb dL_law_369 rfl (lv_at hl 8 rfl) ?_
  refine lv_iload hx hb dL_law_370 (lv_at hl 5 rfl) ?_
  refine lv_bipush (v := 8) hx hb dL_law_372 (by decide) ?_
  have hFc := va_free (wc := wW h (a 0) (z 0) l0 m0 ++ sW cI a σ) hD hS hA [18, 19, 20, 21, 22, 23, 24] rfl
  refine vx_calli (vx_runV (As := [.int (turnF σ), .int 8]) (rest := [.int (traitF σ (nI jb) 8)]) ⟨hx, hb, hml, hown, hts⟩ (c_X4_of l hst D cI _ h (z 0) l0 m0 a σ (turnF σ) 8) (cwV 2 hts gL_law_X4_of rfl rfl rfl (by decide +kernel) ⟨Nat.le_of_ble_eq_true rfl, Nat.le_of_ble_eq_true rfl⟩) ⟨preX_blind, va_recv hK hP (ci := 4) (q0 := 18) rfl rfl, preX_of (hP.sub (ws' := wW h (a 0) (z 0) l0 m0 ++ sW cI a σ) [18, 19, 20, 21, 22, 23, 24] rfl) hK1 hXV (hD.sub (ws' := wW h (a 0) (z 0) l0 m0 ++ sW cI a σ) [18, 19, 20, 21, 22, 23, 24] (by decide) rfl) hTX hS hFc [.ref h, .int (turnF σ), .int 8]⟩ rfl rfl hl.1 rfl (lv_room (Nat.le_of_ble_eq_true rfl)) dL_law_374 ⟨room_c hce (Nat.le_of_ble_eq_true rfl) (k := 7), room_s hsl (Nat.le_of_ble_eq_true rfl) (k := 42)⟩) hS (fun q _ h => hFc q h) hFc (fun q _ h => hFc q h) (fun E ce9 q9 u9 t9 H1 locs ht hvm hpx hBX9 hz1 hk1 hS hq9 hce9 hcl9 => absurd (F_of hbt (by decide)) hpx) (fun r9 u9 t9 H1 locs ht hvm hw hB hz1 hk1 hS => ?_)
  obtain ⟨hP1, -, hD1⟩ := hB
  rw [ht] at hP1
  obtain ⟨hT9, hR9, hU9⟩ := hw
  rw [hU9] at hP1 hD1
  obtain ⟨hP, hD⟩ := va_joinQ (wr := dW cI cZ cG cY o rr h b dr δ Y9 ++ sW cI z τ ++ wL l0 mc q9 g ++ mW cI m0 (y 0) w0 f355 ++ yW cI y φ355) (w1 := wW h (a 0) (z 0) l0 m0 ++ sW cI a σ) hP hD [18, 19, 20, 21, 22, 23, 24] [0, 1, 2, 3, 4, 5, 6, 7, 8, 9, 10, 11, 12, 13, 14, 15, 16, 17] rfl rfl (by decide) (by decide) hk1 hFc hP1 hD1
  generalize H1 = H at hP hS ⊢
  clear ht hvm hz1 hk1 hFc hP1 hD1 hT9 hU9
  have hP : va_P D vwCl (dW cI cZ cG cY o rr h b dr δ Y9 ++ sW cI z τ ++ wL l0 mc q9 g ++ mW cI m0 (y 0) w0 f355 ++ yW cI y φ355 ++ wW h (a 0) (z 0) l0 m0 ++ sW cI a σ ++ (bW cI rr (d_n δ) (d_R δ) ++ xp)) H := hP
  have hD : va_D (lA s) (dW cI cZ cG cY o rr h b dr δ Y9 ++ sW cI z τ ++ wL l0 mc q9 g ++ mW cI m0 (y 0) w0 f355 ++ yW cI y φ355 ++ wW h (a 0) (z 0) l0 m0 ++ sW cI a σ ++ (bW cI rr (d_n δ) (d_R δ) ++ xp)) := hD
  rw [hR9]
  clear hR9
  rw [F_ans (by decide)]
  refine lv_icmp_lt (tgt := 406) hx hb dL_law_377 (by decide) (fun c_377 => absurd c_377 ((Int32.not_lt.mpr hT8))) (fun c_377 => ?_)
  refine lv_aload_n hx hb dL_law_380 rfl (lv_at hl 8 rfl) ?_
  refine lv_iload hx hb dL_law_381 (lv_at hl 3 rfl) ?_
  refine lv_bipush (v := 8) hx hb dL_law_383 (by decide) ?_
  have hFc := va_free (wc := wW h (a 0) (z 0) l0 m0 ++ sW cI a σ) hD hS hA [18, 19, 20, 21, 22, 23, 24] rfl
  refine vx_calli (vx_runV (As := [.int (nI jb), .int 8]) (rest := []) ⟨hx, hb, hml, hown, hts⟩ (c_X4_of l hst D cI _ h (z 0) l0 m0 a σ (nI jb) 8) (cwV 2 hts gL_law_X4_of rfl rfl rfl (by decide +kernel) ⟨Nat.le_of_ble_eq_true rfl, Nat.le_of_ble_eq_true rfl⟩) ⟨preX_blind, va_recv hK hP (ci := 4) (q0 := 18) rfl rfl, preX_of (hP.sub (ws' := wW h (a 0) (z 0) l0 m0 ++ sW cI a σ) [18, 19, 20, 21, 22, 23, 24] rfl) hK1 hXV (hD.sub (ws' := wW h (a 0) (z 0) l0 m0 ++ sW cI a σ) [18, 19, 20, 21, 22, 23, 24] (by decide) rfl) hTX hS hFc [.ref h, .int (nI jb), .int 8]⟩ rfl rfl hl.1 rfl (lv_room (Nat.le_of_ble_eq_true rfl)) dL_law_385 ⟨room_c hce (Nat.le_of_ble_eq_true rfl) (k := 8), room_s hsl (Nat.le_of_ble_eq_true rfl) (k := 48)⟩) hS (fun q _ h => hFc q h) hFc (fun q _ h => hFc q h) (fun E ce9 q9 u9 t9 H1 locs ht hvm hpx hBX9 hz1 hk1 hS hq9 hce9 hcl9 => absurd (F_of hbe (by decide)) hpx) (fun r9 u9 t9 H1 locs ht hvm hw hB hz1 hk1 hS => ?_)
  obtain ⟨hP1, -, hD1⟩ := hB
  rw [ht] at hP1
  obtain ⟨hT9, hR9, hU9⟩ := hw
  rw [hU9] at hP1 hD1
  obtain ⟨hP, hD⟩ := va_joinQ (wr := dW cI cZ cG cY o rr h b dr δ Y9 ++ sW cI z τ ++ wL l0 mc q9 g ++ mW cI m0 (y 0) w0 f355 ++ yW cI y φ355) (w1 := wW h (a 0) (z 0) l0 m0 ++ sW cI a σ) hP hD [18, 19, 20, 21, 22, 23, 24] [0, 1, 2, 3, 4, 5, 6, 7, 8, 9, 10, 11, 12, 13, 14, 15, 16, 17] rfl rfl (by decide) (by decide) hk1 hFc hP1 hD1
  generalize H1 = H at hP hS ⊢
  clear ht hvm hz1 hk1 hFc hP1 hD1 hT9 hU9
  have hP : va_P D vwCl (dW cI cZ cG cY o rr h b dr δ Y9 ++ sW cI z τ ++ wL l0 mc q9 g ++ mW cI m0 (y 0) w0 f355 ++ yW cI y φ355 ++ wW h (a 0) (z 0) l0 m0 ++ sW cI a σ ++ (bW cI rr (d_n δ) (d_R δ) ++ xp)) H := hP
  have hD : va_D (lA s) (dW cI cZ cG cY o rr h b dr δ Y9 ++ sW cI z τ ++ wL l0 mc q9 g ++ mW cI m0 (y 0) w0 f355 ++ yW cI y φ355 ++ wW h (a 0) (z 0) l0 m0 ++ sW cI a σ ++ (bW cI rr (d_n δ) (d_R δ) ++ xp)) := hD
  rw [hR9]
  clear hR9
  rw [F_ans (by decide)]
  refine lv_aload_n hx hb dL_law_388 rfl (lv_at hl 8 rfl) ?_
  refine lv_iload hx hb dL_law_389 (lv_at hl 5 rfl) ?_
  refine lv_bipush (v := 8) hx hb dL_law_391 (by decide) ?_
  have hFc := va_free (wc := wW h (a 0) (z 0) l0 m0 ++ sW cI a σ) hD hS hA [18, 19, 20, 21, 22, 23, 24] rfl
  refine vx_calli (vx_runV (As := [.int (turnF σ), .int 8]) (rest := [.int (traitF σ (nI jb) 8)]) ⟨hx, hb, hml, hown, hts⟩ (c_X4_of l hst D cI _ h (z 0) l0 m0 a σ (turnF σ) 8) (cwV 2 hts gL_law_X4_of rfl rfl rfl (by decide +kernel) ⟨Nat.le_of_ble_eq_true rfl, Nat.le_of_ble_eq_true rfl⟩) ⟨preX_blind, va_recv hK hP (ci := 4) (q0 := 18) rfl rfl, preX_of (hP.sub (ws' := wW h (a 0) (z 0) l0 m0 ++ sW cI a σ) [18, 19, 20, 21, 22, 23, 24] rfl) hK1 hXV (hD.sub (ws' := wW h (a 0) (z 0) l0 m0 ++ sW cI a σ) [18, 19, 20, 21, 22, 23, 24] (by decide) rfl) hTX hS hFc [.ref h, .int (turnF σ), .int 8]⟩ rfl rfl hl.1 rfl (lv_room (Nat.le_of_ble_eq_true rfl)) dL_law_393 ⟨room_c hce (Nat.le_of_ble_eq_true rfl) (k := 9), room_s hsl (Nat.le_of_ble_eq_true rfl) (k := 54)⟩) hS (fun q _ h => hFc q h) hFc (fun q _ h => hFc q h) (fun E ce9 q9 u9 t9 H1 locs ht hvm hpx hBX9 hz1 hk1 hS hq9 hce9 hcl9 => absurd (F_of hbt (by decide)) hpx) (fun r9 u9 t9 H1 locs ht hvm hw hB hz1 hk1 hS => ?_)
  obtain ⟨hP1, -, hD1⟩ := hB
  rw [ht] at hP1
  obtain ⟨hT9, hR9, hU9⟩ := hw
  rw [hU9] at hP1 hD1
  obtain ⟨hP, hD⟩ := va_joinQ (wr := dW cI cZ cG cY o rr h b dr δ Y9 ++ sW cI z τ ++ wL l0 mc q9 g ++ mW cI m0 (y 0) w0 f355 ++ yW cI y φ355) (w1 := wW h (a 0) (z 0) l0 m0 ++ sW cI a σ) hP hD [18, 19, 20, 21, 22, 23, 24] [0, 1, 2, 3, 4, 5, 6, 7, 8, 9, 10, 11, 12, 13, 14, 15, 16, 17] rfl rfl (by decide) (by decide) hk1 hFc hP1 hD1
  generalize H1 = H at hP hS ⊢
  clear ht hvm hz1 hk1 hFc hP1 hD1 hT9 hU9
  have hP : va_P D vwCl (dW cI cZ cG cY o rr h b dr δ Y9 ++ sW cI z τ ++ wL l0 mc q9 g ++ mW cI m0 (y 0) w0 f355 ++ yW cI y φ355 ++ wW h (a 0) (z 0) l0 m0 ++ sW cI a σ ++ (bW cI rr (d_n δ) (d_R δ) ++ xp)) H := hP
  have hD : va_D (lA s) (dW cI cZ cG cY o rr h b dr δ Y9 ++ sW cI z τ ++ wL l0 mc q9 g ++ mW cI m0 (y 0) w0 f355 ++ yW cI y φ355 ++ wW h (a 0) (z 0) l0 m0 ++ sW cI a σ ++ (bW cI rr (d_n δ) (d_R δ) ++ xp)) := hD
  rw [hR9]
  clear hR9
  rw [F_ans (by decide)]
  have hP := hP.part (cx := wW h (a 0) (z 0) l0 m0 ++ sW cI a σ ++ dW cI cZ cG cY o rr h b dr δ Y9 ++ sW cI z τ ++ wL l0 mc q9 g ++ mW cI m0 (y 0) w0 f355 ++ yW cI y φ355) [18, 19, 20, 21, 22, 23, 24, 0, 1, 2, 3, 4, 5, 6, 7, 8, 9, 10, 11, 12, 13, 14, 15, 16, 17] rfl
  have hD := hD.part (cx := wW h (a 0) (z 0) l0 m0 ++ sW cI a σ ++ dW cI cZ cG cY o rr h b dr δ Y9 ++ sW cI z τ ++ wL l0 mc q9 g ++ mW cI m0 (y 0) w0 f355 ++ yW cI y φ355) [18, 19, 20, 21, 22, 23, 24, 0, 1, 2, 3, 4, 5, 6, 7, 8, 9, 10, 11, 12, 13, 14, 15, 16, 17] (by decide) rfl
  have hP : va_P D vwCl (wW h (a 0) (z 0) l0 m0 ++ sW cI a σ ++ dW cI cZ cG cY o rr h b dr δ Y9 ++ sW cI z τ ++ wL l0 mc q9 g ++ mW cI m0 (y 0) w0 f355 ++ yW cI y φ355 ++ (bW cI rr (d_n δ) (d_R δ) ++ xp)) H := hP
  have hD : va_D (lA s) (wW h (a 0) (z 0) l0 m0 ++ sW cI a σ ++ dW cI cZ cG cY o rr h b dr δ Y9 ++ sW cI z τ ++ wL l0 mc q9 g ++ mW cI m0 (y 0) w0 f355 ++ yW cI y φ355 ++ (bW cI rr (d_n δ) (d_R δ) ++ xp)) := hD
  have L408 : ∀ (ce6 sl6 : Nat) (hcb6 : ce6 ≤ ce + 20) (hsb6 : sl6 ≤ sl + 120) (H : Heap) (locs : List Loc) (ls : Array Slot), lv_has ls 19 [(9, .int (nI (na + 1))), (12, .int (targetF σ (nI jb))), (11, .int (nI c0)), (10, .int (nI jb)), (8, .int (nI (d_n δ))), (7, .int (turnF σ)), (5, .long dg), (4, .int (nI k4)), (3, .ref h), (2, .ref (o 0)), (1, .int (nI k1)), (0, .ref b)] → va_P D vwCl (wW h (a 0) (z 0) l0 m0 ++ sW cI a σ ++ dW cI cZ cG cY o rr h b dr δ Y9 ++ sW cI z τ ++ wL l0 mc q9 g ++ mW cI m0 (y 0) w0 f355 ++ yW cI y φ355 ++ (bW cI rr (d_n δ) (d_R δ) ++ xp)) H → va_D (lA s) (wW h (a 0) (z 0) l0 m0 ++ sW cI a σ ++ dW cI cZ cG cY o rr h b dr δ Y9 ++ sW cI z τ ++ wL l0 mc q9 g ++ mW cI m0 (y 0) w0 f355 ++ yW cI y φ355 ++ (bW cI rr (d_n δ) (d_R δ) ++ xp)) → va_S (lA s) s.heap H locs → W p l e room_1 s m #[Value.ref b] below meth c H locs ce6 sl6 (lw_Z below #[Value.ref b] s) (F0 m 408 ls []) := by
    intro ce6 sl6 hcb6 hsb6 H locs ls hl hP hD hS
    have hce6 : ce6 ≤ 500000 := by omega
    have hsl6 : sl6 ≤ 5000000 := by omega
    have L514 : ∀ (f5 : Nat → Int32) (ψ5 : YS) (ce7 sl7 : Nat) (hcb7 : ce7 ≤ ce + 30) (hsb7 : sl7 ≤ sl + 180) (H : Heap) (locs : List Loc) (ls : Array Slot), lv_has ls 19 [(9, .int (nI (na + 1))), (11, .int (nI c0)), (10, .int (nI jb)), (8, .int (nI (d_n δ))), (7, .int (turnF σ)), (5, .long dg), (4, .int (nI k4)), (3, .ref h), (2, .ref (o 0)), (1, .int (nI k1)), (0, .ref b)] → va_P D vwCl (wW h (a 0) (z 0) l0 m0 ++ sW cI a σ ++ dW cI cZ cG cY o rr h b dr δ Y9 ++ sW cI z τ ++ wL l0 mc q9 g ++ mW cI m0 (y 0) w0 f5 ++ yW cI y ψ5 ++ (bW cI rr (d_n δ) (d_R δ) ++ xp)) H → va_D (lA s) (wW h (a 0) (z 0) l0 m0 ++ sW cI a σ ++ dW cI cZ cG cY o rr h b dr δ Y9 ++ sW cI z τ ++ wL l0 mc q9 g ++ mW cI m0 (y 0) w0 f5 ++ yW cI y ψ5 ++ (bW cI rr (d_n δ) (d_R δ) ++ xp)) → va_S (lA s) s.heap H locs → W p l e room_1 s m #[Value.ref b] below meth c H locs ce7 sl7 (lw_Z below #[Value.ref b] s) (F0 m 514 ls []) := by
      intro f5 ψ5 ce7 sl7 hcb7 hsb7 H locs ls hl hP hD hS
      have hce7 : ce7 ≤ 500000 := by omega
      have hsl7 : sl7 ≤ 5000000 := by omega
      refine lv_aload_n hx hb dL_law_514 rfl (lv_at hl 7 rfl) ?_
      refine lv_iload hx hb dL_law_515 (lv_at hl 2 rfl) ?_
      have hFc := va_free (wc := wW h (a 0) (z 0) l0 m0 ++ sW cI a σ ++ mW cI m0 (y 0) w0 f5 ++ yW cI y ψ5) hD hS hA [0, 1, 2, 3, 4, 5, 6, 20, 21, 22, 23, 24] rfl
      refine vx_calli (vx_runV (As := [.int (nI jb)]) (rest := []) ⟨hx, hb, hml, hown, hts⟩ (c_X4_plan l hst D cI _ h (z 0) l0 m0 w0 a y σ f5 ψ5 (nI jb) t hnσ) (cwV 1 hts gL_law_X4_plan rfl rfl rfl (by decide +kernel) ⟨Nat.le_of_ble_eq_true rfl, Nat.le_of_ble_eq_true rfl⟩) ⟨preXS_blind, va_recv hK hP (ci := 4) (q0 := 0) rfl rfl, preXS_of (hP.sub (ws' := wW h (a 0) (z 0) l0 m0 ++ sW cI a σ ++ mW cI m0 (y 0) w0 f5 ++ yW cI y ψ5) [0, 1, 2, 3, 4, 5, 6, 20, 21, 22, 23, 24] rfl) hK1 hXV (hD.sub (ws' := wW h (a 0) (z 0) l0 m0 ++ sW cI a σ ++ mW cI m0 (y 0) w0 f5 ++ yW cI y ψ5) [0, 1, 2, 3, 4, 5, 6, 20, 21, 22, 23, 24] (by decide) rfl) hTX hSX hS hFc [.ref h, .int (nI jb)]⟩ rfl rfl hl.1 rfl (lv_room (Nat.le_of_ble_eq_true rfl)) dL_law_517 ⟨room_c hce7 (Nat.le_of_ble_eq_true rfl) (k := 1), room_s hsl7 (Nat.le_of_ble_eq_true rfl) (k := 6)⟩) hS (fun q _ h => hFc q h) hFc (fun q _ h => hFc q h) (fun E ce9 q9 u9 t9 H1 locs ht hvm hpx hBX9 hz1 hk1 hS hq9 hce9 hcl9 => absurd (F_tgtT hbe) hpx) (fun r9 u9 t9 H1 locs ht hvm hw hB hz1 hk1 hS => ?_)
      obtain ⟨hP1, -, hD1⟩ := hB
      rw [ht] at hP1
      obtain ⟨s517, f517, φ517⟩ := u9
      dsimp only at hw hP1 hD1
      obtain ⟨hT9, hR9, hU9⟩ := hw
      rw [hU9] at hP1 hD1
      obtain ⟨hP, hD⟩ := va_joinQ (wr := dW cI cZ cG cY o rr h b dr δ Y9 ++ sW cI z τ ++ wL l0 mc q9 g) (w1 := wW h (a 0) (z 0) l0 m0 ++ sW cI a σ ++ mW cI m0 (y 0) w0 f517 ++ yW cI y φ517) hP hD [0, 1, 2, 3, 4, 5, 6, 20, 21, 22, 23, 24] [7, 8, 9, 10, 11, 12, 13, 14, 15, 16, 17, 18, 19] rfl rfl (by decide) (by decide) hk1 hFc hP1 hD1
      generalize H1 = H at hP hS ⊢
      clear ht hvm hz1 hk1 hFc hP1 hD1 hT9 hU9
      have hP : va_P D vwCl (dW cI cZ cG cY o rr h b dr δ Y9 ++ sW cI z τ ++ wL l0 mc q9 g ++ wW h (a 0) (z 0) l0 m0 ++ sW cI a σ ++ mW cI m0 (y 0) w0 f517 ++ yW cI y φ517 ++ (bW cI rr (d_n δ) (d_R δ) ++ xp)) H := hP
      have hD : va_D (lA s) (dW cI cZ cG cY o rr h b dr δ Y9 ++ sW cI z τ ++ wL l0 mc q9 g ++ wW h (a 0) (z 0) l0 m0 ++ sW cI a σ ++ mW cI m0 (y 0) w0 f517 ++ yW cI y φ517 ++ (bW cI rr (d_n δ) (d_R δ) ++ xp)) := hD
      rw [hR9]
      clear hR9
      obtain ⟨j9, hj9, ej9, hwj9⟩ := plan_ok hal
      rw [ej9]
      refine lv_if_lt (tgt := 550) hx hb dL_law_520 (by decide) (fun c_520 => absurd c_520 ((nI_pos (by omega)))) (fun c_520 => ?_)
      refine lv_aload_n hx hb dL_law_523 rfl (lv_at hl 7 rfl) ?_
      refine lv_iload hx hb dL_law_524 (lv_at hl 2 rfl) ?_
      refine lv_aload_n hx hb dL_law_526 rfl (lv_at hl 7 rfl) ?_
      refine lv_iload hx hb dL_law_527 (lv_at hl 2 rfl) ?_
      have hFc := va_free (wc := wW h (a 0) (z 0) l0 m0 ++ sW cI a σ ++ mW cI m0 (y 0) w0 f517 ++ yW cI y φ517) hD hS hA [13, 14, 15, 16, 17, 18, 19, 20, 21, 22, 23, 24] rfl
      refine vx_calli (vx_runV (As := [.int (nI jb)]) (rest := [.int (nI jb), .ref h]) ⟨hx, hb, hml, hown, hts⟩ (c_X4_plan l hst D cI _ h (z 0) l0 m0 w0 a y σ f517 φ517 (nI jb) t hnσ) (cwV 1 hts gL_law_X4_plan rfl rfl rfl (by decide +kernel) ⟨Nat.le_of_ble_eq_true rfl, Nat.le_of_ble_eq_true rfl⟩) ⟨preXS_blind, va_recv hK hP (ci := 4) (q0 := 13) rfl rfl, preXS_of (hP.sub (ws' := wW h (a 0) (z 0) l0 m0 ++ sW cI a σ ++ mW cI m0 (y 0) w0 f517 ++ yW cI y φ517) [13, 14, 15, 16, 17, 18, 19, 20, 21, 22, 23, 24] rfl) hK1 hXV (hD.sub (ws' := wW h (a 0) (z 0) l0 m0 ++ sW cI a σ ++ mW cI m0 (y 0) w0 f517 ++ yW cI y φ517) [13, 14, 15, 16, 17, 18, 19, 20, 21, 22, 23, 24] (by decide) rfl) hTX hSX hS hFc [.ref h, .int (nI jb)]⟩ rfl rfl hl.1 rfl (lv_room (Nat.le_of_ble_eq_true rfl)) dL_law_529 ⟨room_c hce7 (Nat.le_of_ble_eq_true rfl) (k := 2), room_s hsl7 (Nat.le_of_ble_eq_true rfl) (k := 12)⟩) hS (fun q _ h => hFc q h) hFc (fun q _ h => hFc q h) (fun E ce9 q9 u9 t9 H1 locs ht hvm hpx hBX9 hz1 hk1 hS hq9 hce9 hcl9 => absurd (F_tgtT hbe) hpx) (fun r9 u9 t9 H1 locs ht hvm hw hB hz1 hk1 hS => ?_)
      obtain ⟨hP1, -, hD1⟩ := hB
      rw [ht] at hP1
      obtain ⟨s529, f529, φ529⟩ := u9
      dsimp only at hw hP1 hD1
      obtain ⟨hT9, hR9, hU9⟩ := hw
      rw [hU9] at hP1 hD1
      obtain ⟨hP, hD⟩ := va_joinQ (wr := dW cI cZ cG cY o rr h b dr δ Y9 ++ sW cI z τ ++ wL l0 mc q9 g) (w1 := wW h (a 0) (z 0) l0 m0 ++ sW cI a σ ++ mW cI m0 (y 0) w0 f529 ++ yW cI y φ529) hP hD [13, 14, 15, 16, 17, 18, 19, 20, 21, 22, 23, 24] [0, 1, 2, 3, 4, 5, 6, 7, 8, 9, 10, 11, 12] rfl rfl (by decide) (by decide) hk1 hFc hP1 hD1
      generalize H1 = H at hP hS ⊢
      clear ht hvm hz1 hk1 hFc hP1 hD1 hT9 hU9
      have hP : va_P D vwCl (dW cI cZ cG cY o rr h b dr δ Y9 ++ sW cI z τ ++ wL l0 mc q9 g ++ wW h (a 0) (z 0) l0 m0 ++ sW cI a σ ++ mW cI m0 (y 0) w0 f529 ++ yW cI y φ529 ++ (bW cI rr (d_n δ) (d_R δ) ++ xp)) H := hP
      have hD : va_D (lA s) (dW cI cZ cG cY o rr h b dr δ Y9 ++ sW cI z τ ++ wL l0 mc q9 g ++ wW h (a 0) (z 0) l0 m0 ++ sW cI a σ ++ mW cI m0 (y 0) w0 f529 ++ yW cI y φ529 ++ (bW cI rr (d_n δ) (d_R δ) ++ xp)) := hD
      rw [hR9]
      clear hR9
      rw [ej9]
      have hFc := va_free (wc := wW h (a 0) (z 0) l0 m0 ++ sW cI a σ ++ mW cI m0 (y 0) w0 f529 ++ yW cI y φ529) hD hS hA [13, 14, 15, 16, 17, 18, 19, 20, 21, 22, 23, 24] rfl
      refine vx_calli (vx_runV (As := [.int (nI jb), .int (nI j9)]) (rest := []) ⟨hx, hb, hml, hown, hts⟩ (c_X4_worth l hst D cI _ h (z 0) l0 m0 w0 a y σ f529 φ529 (nI jb) (nI j9) t hnσ) (cwV 2 hts gL_law_X4_worth rfl rfl rfl (by decide +kernel) ⟨Nat.le_of_ble_eq_true rfl, Nat.le_of_ble_eq_true rfl⟩) ⟨preXS_blind, va_recv hK hP (ci := 4) (q0 := 13) rfl rfl, preXS_of (hP.sub (ws' := wW h (a 0) (z 0) l0 m0 ++ sW cI a σ ++ mW cI m0 (y 0) w0 f529 ++ yW cI y φ529) [13, 14, 15, 16, 17, 18, 19, 20, 21, 22, 23, 24] rfl) hK1 hXV (hD.sub (ws' := wW h (a 0) (z 0) l0 m0 ++ sW cI a σ ++ mW cI m0 (y 0) w0 f529 ++ yW cI y φ529) [13, 14, 15, 16, 17, 18, 19, 20, 21, 22, 23, 24] (by decide) rfl) hTX hSX hS hFc [.ref h, .int (nI jb), .int (nI j9)]⟩ rfl rfl hl.1 rfl (lv_room (Nat.le_of_ble_eq_true rfl)) dL_law_532 ⟨room_c hce7 (Nat.le_of_ble_eq_true rfl) (k := 3), room_s hsl7 (Nat.le_of_ble_eq_true rfl) (k := 18)⟩) hS (fun q _ h => hFc q h) hFc (fun q _ h => hFc q h) (fun E ce9 q9 u9 t9 H1 locs ht hvm hpx hBX9 hz1 hk1 hS hq9 hce9 hcl9 => absurd (F_worT hbe (F_in7 hj9)) hpx) (fun r9 u9 t9 H1 locs ht hvm hw hB hz1 hk1 hS => ?_)
      obtain ⟨hP1, -, hD1⟩ := hB
      rw [ht] at hP1
      obtain ⟨s532, f532, φ532⟩ := u9
      dsimp only at hw hP1 hD1
      obtain ⟨hT9, hR9, hU9⟩ := hw
      rw [hU9] at hP1 hD1
      obtain ⟨hP, hD⟩ := va_joinQ (wr := dW cI cZ cG cY o rr h b dr δ Y9 ++ sW cI z τ ++ wL l0 mc q9 g) (w1 := wW h (a 0) (z 0) l0 m0 ++ sW cI a σ ++ mW cI m0 (y 0) w0 f532 ++ yW cI y φ532) hP hD [13, 14, 15, 16, 17, 18, 19, 20, 21, 22, 23, 24] [0, 1, 2, 3, 4, 5, 6, 7, 8, 9, 10, 11, 12] rfl rfl (by decide) (by decide) hk1 hFc hP1 hD1
      generalize H1 = H at hP hS ⊢
      clear ht hvm hz1 hk1 hFc hP1 hD1 hT9 hU9
      have hP : va_P D vwCl (dW cI cZ cG cY o rr h b dr δ Y9 ++ sW cI z τ ++ wL l0 mc q9 g ++ wW h (a 0) (z 0) l0 m0 ++ sW cI a σ ++ mW cI m0 (y 0) w0 f532 ++ yW cI y φ532 ++ (bW cI rr (d_n δ) (d_R δ) ++ xp)) H := hP
      have hD : va_D (lA s) (dW cI cZ cG cY o rr h b dr δ Y9 ++ sW cI z τ ++ wL l0 mc q9 g ++ wW h (a 0) (z 0) l0 m0 ++ sW cI a σ ++ mW cI m0 (y 0) w0 f532 ++ yW cI y φ532 ++ (bW cI rr (d_n δ) (d_R δ) ++ xp)) := hD
      rw [hR9]
      clear hR9
      rw [worthOf_at hj9]
      refine lv_iconst (v := 1) hx hb dL_law_535 (by decide) ?_
      refine lv_icmp_lt (tgt := 550) hx hb dL_law_536 (by decide) (fun c_536 => absurd c_536 ((Int32.not_lt.mpr hwj9))) (fun c_536 => ?_)
      refine lv_aload_n hx hb dL_law_539 rfl (lv_at hl 7 rfl) ?_
      refine lv_iload hx hb dL_law_540 (lv_at hl 2 rfl) ?_
      refine lv_iconst (v := 0) hx hb dL_law_542 (by decide) ?_
      have hFc := va_free (wc := wW h (a 0) (z 0) l0 m0 ++ sW cI a σ ++ mW cI m0 (y 0) w0 f532 ++ yW cI y φ532) hD hS hA [13, 14, 15, 16, 17, 18, 19, 20, 21, 22, 23, 24] rfl
      refine vx_calli (vx_runV (As := [.int (nI jb), .int 0]) (rest := []) ⟨hx, hb, hml, hown, hts⟩ (c_X4_worth l hst D cI _ h (z 0) l0 m0 w0 a y σ f532 φ532 (nI jb) 0 t hnσ) (cwV 2 hts gL_law_X4_worth rfl rfl rfl (by decide +kernel) ⟨Nat.le_of_ble_eq_true rfl, Nat.le_of_ble_eq_true rfl⟩) ⟨preXS_blind, va_recv hK hP (ci := 4) (q0 := 13) rfl rfl, preXS_of (hP.sub (ws' := wW h (a 0) (z 0) l0 m0 ++ sW cI a σ ++ mW cI m0 (y 0) w0 f532 ++ yW cI y φ532) [13, 14, 15, 16, 17, 18, 19, 20, 21, 22, 23, 24] rfl) hK1 hXV (hD.sub (ws' := wW h (a 0) (z 0) l0 m0 ++ sW cI a σ ++ mW cI m0 (y 0) w0 f532 ++ yW cI y φ532) [13, 14, 15, 16, 17, 18, 19, 20, 21, 22, 23, 24] (by decide) rfl) hTX hSX hS hFc [.ref h, .int (nI jb), .int 0]⟩ rfl rfl hl.1 rfl (lv_room (Nat.le_of_ble_eq_true rfl)) dL_law_543 ⟨room_c hce7 (Nat.le_of_ble_eq_true rfl) (k := 4), room_s hsl7 (Nat.le_of_ble_eq_true rfl) (k := 24)⟩) hS (fun q _ h => hFc q h) hFc (fun q _ h => hFc q h) (fun E ce9 q9 u9 t9 H1 locs ht hvm hpx hBX9 hz1 hk1 hS hq9 hce9 hcl9 => absurd (F_worT hbe (by decide)) hpx) (fun r9 u9 t9 H1 locs ht hvm hw hB hz1 hk1 hS => ?_)
      obtain ⟨hP1, -, hD1⟩ := hB
      rw [ht] at hP1
      obtain ⟨s543, f543, φ543⟩ := u9
      dsimp only at hw hP1 hD1
      obtain ⟨hT9, hR9, hU9⟩ := hw
      rw [hU9] at hP1 hD1
      obtain ⟨hP, hD⟩ := va_joinQ (wr := dW cI cZ cG cY o rr h b dr δ Y9 ++ sW cI z τ ++ wL l0 mc q9 g) (w1 := wW h (a 0) (z 0) l0 m0 ++ sW cI a σ ++ mW cI m0 (y 0) w0 f543 ++ yW cI y φ543) hP hD [13, 14, 15, 16, 17, 18, 19, 20, 21, 22, 23, 24] [0, 1, 2, 3, 4, 5, 6, 7, 8, 9, 10, 11, 12] rfl rfl (by decide) (by decide) hk1 hFc hP1 hD1
      generalize H1 = H at hP hS ⊢
      clear ht hvm hz1 hk1 hFc hP1 hD1 hT9 hU9
      have hP : va_P D vwCl (dW cI cZ cG cY o rr h b dr δ Y9 ++ sW cI z τ ++ wL l0 mc q9 g ++ wW h (a 0) (z 0) l0 m0 ++ sW cI a σ ++ mW cI m0 (y 0) w0 f543 ++ yW cI y φ543 ++ (bW cI rr (d_n δ) (d_R δ) ++ xp)) H := hP
      have hD : va_D (lA s) (dW cI cZ cG cY o rr h b dr δ Y9 ++ sW cI z τ ++ wL l0 mc q9 g ++ wW h (a 0) (z 0) l0 m0 ++ sW cI a σ ++ mW cI m0 (y 0) w0 f543 ++ yW cI y φ543 ++ (bW cI rr (d_n δ) (d_R δ) ++ xp)) := hD
      rw [hR9]
      clear hR9
      rw [show worthOfF (worthF σ (nI jb)) 0 = 1 from (worthOf_at (k := 0) (by decide)).trans (worth_wait hal)]
      refine lv_iconst (v := 1) hx hb dL_law_546 (by decide) ?_
      refine lv_icmp_eq (tgt := 552) hx hb dL_law_547 (by decide) (fun c_547 => ?_) (fun c_547 => absurd (rfl) c_547)
      have hP := hP.part (cx := wW h (a 0) (z 0) l0 m0 ++ sW cI a σ ++ dW cI cZ cG cY o rr h b dr δ Y9 ++ sW cI z τ ++ wL l0 mc q9 g ++ mW cI m0 (y 0) w0 f543 ++ yW cI y φ543) [13, 14, 15, 16, 17, 18, 19, 0, 1, 2, 3, 4, 5, 6, 7, 8, 9, 10, 11, 12, 20, 21, 22, 23, 24] rfl
      have hD := hD.part (cx := wW h (a 0) (z 0) l0 m0 ++ sW cI a σ ++ dW cI cZ cG cY o rr h b dr δ Y9 ++ sW cI z τ ++ wL l0 mc q9 g ++ mW cI m0 (y 0) w0 f543 ++ yW cI y φ543) [13, 14, 15, 16, 17, 18, 19, 0, 1, 2, 3, 4, 5, 6, 7, 8, 9, 10, 11, 12, 20, 21, 22, 23, 24] (by decide) rfl
      have hP : va_P D vwCl (wW h (a 0) (z 0) l0 m0 ++ sW cI a σ ++ dW cI cZ cG cY o rr h b dr δ Y9 ++ sW cI z τ ++ wL l0 mc q9 g ++ mW cI m0 (y 0) w0 f543 ++ yW cI y φ543 ++ (bW cI rr (d_n δ) (d_R δ) ++ xp)) H := hP
      have hD : va_D (lA s) (wW h (a 0) (z 0) l0 m0 ++ sW cI a σ ++ dW cI cZ cG cY o rr h b dr δ Y9 ++ sW cI z τ ++ wL l0 mc q9 g ++ mW cI m0 (y 0) w0 f543 ++ yW cI y φ543 ++ (bW cI rr (d_n δ) (d_R δ) ++ xp)) := hD
      exact kk552 f543 φ543 (ce7 + 4) (sl7 + 24) (by omega) (by omega) _ _ ls (lv_sub hl [1, 2, 0, 3, 4, 5, 6, 7, 8, 9, 10] rfl) hP hD hS
    rcases L_target hI hjb hal hc0 e1 with ⟨eT, eW⟩ | ⟨o9, c9, ho9, eT, hs9, hc9, e9, hse9, w9, hw1, hw2, eW⟩
    · rw [eT] at hl
      refine lv_iload hx hb dL_law_408 (lv_at hl 1 rfl) ?_
      refine lv_if_lt (tgt := 473) hx hb dL_law_410 (by decide) (fun c_410 => ?_) (fun c_410 => absurd ((by decide)) c_410)
      refine lv_iload hx hb dL_law_473 (lv_at hl 1 rfl) ?_
      refine lv_if_ge (tgt := 494) hx hb dL_law_475 (by decide) (fun c_475 => absurd c_475 ((by decide))) (fun c_475 => ?_)
      refine lv_aload_n hx hb dL_law_478 rfl (lv_at hl 8 rfl) ?_
      refine lv_aload_n hx hb dL_law_479 rfl (lv_at hl 8 rfl) ?_
      refine lv_iload hx hb dL_law_480 (lv_at hl 3 rfl) ?_
      refine lv_iconst (v := 0) hx hb dL_law_482 (by decide) ?_
      have hFc := va_free (wc := wW h (a 0) (z 0) l0 m0 ++ sW cI a σ) hD hS hA [0, 1, 2, 3, 4, 5, 6] rfl
      refine vx_calli (vx_runV (As := [.int (nI jb), .int 0]) (rest := [.ref h]) ⟨hx, hb, hml, hown, hts⟩ (c_X4_of l hst D cI _ h (z 0) l0 m0 a σ (nI jb) 0) (cwV 2 hts gL_law_X4_of rfl rfl rfl (by decide +kernel) ⟨Nat.le_of_ble_eq_true rfl, Nat.le_of_ble_eq_true rfl⟩) ⟨preX_blind, va_recv hK hP (ci := 4) (q0 := 0) rfl rfl, preX_of (hP.sub (ws' := wW h (a 0) (z 0) l0 m0 ++ sW cI a σ) [0, 1, 2, 3, 4, 5, 6] rfl) hK1 hXV (hD.sub (ws' := wW h (a 0) (z 0) l0 m0 ++ sW cI a σ) [0, 1, 2, 3, 4, 5, 6] (by decide) rfl) hTX hS hFc [.ref h, .int (nI jb), .int 0]⟩ rfl rfl hl.1 rfl (lv_room (Nat.le_of_ble_eq_true rfl)) dL_law_483 ⟨room_c hce6 (Nat.le_of_ble_eq_true rfl) (k := 1), room_s hsl6 (Nat.le_of_ble_eq_true rfl) (k := 6)⟩) hS (fun q _ h => hFc q h) hFc (fun q _ h => hFc q h) (fun E ce9 q9 u9 t9 H1 locs ht hvm hpx hBX9 hz1 hk1 hS hq9 hce9 hcl9 => absurd (F_of hbe (by decide)) hpx) (fun r9 u9 t9 H1 locs ht hvm hw hB hz1 hk1 hS => ?_)
      obtain ⟨hP1, -, hD1⟩ := hB
      rw [ht] at hP1
      obtain ⟨hT9, hR9, hU9⟩ := hw
      rw [hU9] at hP1 hD1
      obtain ⟨hP, hD⟩ := va_joinQ (wr := dW cI cZ cG cY o rr h b dr δ Y9 ++ sW cI z τ ++ wL l0 mc q9 g ++ mW cI m0 (y 0) w0 f355 ++ yW cI y φ355) (w1 := wW h (a 0) (z 0) l0 m0 ++ sW cI a σ) hP hD [0, 1, 2, 3, 4, 5, 6] [7, 8, 9, 10, 11, 12, 13, 14, 15, 16, 17, 18, 19, 20, 21, 22, 23, 24] rfl rfl (by decide) (by decide) hk1 hFc hP1 hD1
      generalize H1 = H at hP hS ⊢
      clear ht hvm hz1 hk1 hFc hP1 hD1 hT9 hU9
      have hP : va_P D vwCl (dW cI cZ cG cY o rr h b dr δ Y9 ++ sW cI z τ ++ wL l0 mc q9 g ++ mW cI m0 (y 0) w0 f355 ++ yW cI y φ355 ++ wW h (a 0) (z 0) l0 m0 ++ sW cI a σ ++ (bW cI rr (d_n δ) (d_R δ) ++ xp)) H := hP
      have hD : va_D (lA s) (dW cI cZ cG cY o rr h b dr δ Y9 ++ sW cI z τ ++ wL l0 mc q9 g ++ mW cI m0 (y 0) w0 f355 ++ yW cI y φ355 ++ wW h (a 0) (z 0) l0 m0 ++ sW cI a σ ++ (bW cI rr (d_n δ) (d_R δ) ++ xp)) := hD
      rw [hR9]
      clear hR9
      rw [F_ans (by decide)]
      refine lv_iload hx hb dL_law_486 (lv_at hl 2 rfl) ?_
      have hFc := va_free (wc := wW h (a 0) (z 0) l0 m0 ++ sW cI a σ) hD hS hA [18, 19, 20, 21, 22, 23, 24] rfl
      refine vx_calli (vx_runV (As := [.int (traitF σ (nI jb) 0), .int (nI c0)]) (rest := []) ⟨hx, hb, hml, hown, hts⟩ (c_X4_danger l hst D cI _ h (z 0) l0 m0 a σ (traitF σ (nI jb) 0) (nI c0) hnσ) (cwV 2 hts gL_law_X4_danger rfl rfl rfl (by decide +kernel) ⟨Nat.le_of_ble_eq_true rfl, Nat.le_of_ble_eq_true rfl⟩) ⟨preX_blind, va_recv hK hP (ci := 4) (q0 := 18) rfl rfl, preX_of (hP.sub (ws' := wW h (a 0) (z 0) l0 m0 ++ sW cI a σ) [18, 19, 20, 21, 22, 23, 24] rfl) hK1 hXV (hD.sub (ws' := wW h (a 0) (z 0) l0 m0 ++ sW cI a σ) [18, 19, 20, 21, 22, 23, 24] (by decide) rfl) hTX hS hFc [.ref h, .int (traitF σ (nI jb) 0), .int (nI c0)]⟩ rfl rfl hl.1 rfl (lv_room (Nat.le_of_ble_eq_true rfl)) dL_law_488 ⟨room_c hce6 (Nat.le_of_ble_eq_true rfl) (k := 2), room_s hsl6 (Nat.le_of_ble_eq_true rfl) (k := 12)⟩) hS (fun q _ h => hFc q h) hFc (fun q _ h => hFc q h) (fun E ce9 q9 u9 t9 H1 locs ht hvm hpx hBX9 hz1 hk1 hS hq9 hce9 hcl9 => absurd (F_danT (F_side hI hjb) hc0) hpx) (fun r9 u9 t9 H1 locs ht hvm hw hB hz1 hk1 hS => ?_)
      obtain ⟨hP1, -, hD1⟩ := hB
      rw [ht] at hP1
      obtain ⟨hT9, hR9, hU9⟩ := hw
      rw [hU9] at hP1 hD1
      obtain ⟨hP, hD⟩ := va_joinQ (wr := dW cI cZ cG cY o rr h b dr δ Y9 ++ sW cI z τ ++ wL l0 mc q9 g ++ mW cI m0 (y 0) w0 f355 ++ yW cI y φ355) (w1 := wW h (a 0) (z 0) l0 m0 ++ sW cI a σ) hP hD [18, 19, 20, 21, 22, 23, 24] [0, 1, 2, 3, 4, 5, 6, 7, 8, 9, 10, 11, 12, 13, 14, 15, 16, 17] rfl rfl (by decide) (by decide) hk1 hFc hP1 hD1
      generalize H1 = H at hP hS ⊢
      clear ht hvm hz1 hk1 hFc hP1 hD1 hT9 hU9
      have hP : va_P D vwCl (dW cI cZ cG cY o rr h b dr δ Y9 ++ sW cI z τ ++ wL l0 mc q9 g ++ mW cI m0 (y 0) w0 f355 ++ yW cI y φ355 ++ wW h (a 0) (z 0) l0 m0 ++ sW cI a σ ++ (bW cI rr (d_n δ) (d_R δ) ++ xp)) H := hP
      have hD : va_D (lA s) (dW cI cZ cG cY o rr h b dr δ Y9 ++ sW cI z τ ++ wL l0 mc q9 g ++ mW cI m0 (y 0) w0 f355 ++ yW cI y φ355 ++ wW h (a 0) (z 0) l0 m0 ++ sW cI a σ ++ (bW cI rr (d_n δ) (d_R δ) ++ xp)) := hD
      rw [hR9]
      clear hR9
      rw [eW]
      refine lv_if_ne (tgt := 512) hx hb dL_law_491 (by decide) (fun z9 => absurd (by decide) z9) (fun _ => ?_)
      refine lv_iload hx hb dL_law_494 (lv_at hl 1 rfl) ?_
      refine lv_if_ge (tgt := 514) hx hb dL_law_496 (by decide) (fun c_496 => absurd c_496 ((by decide))) (fun c_496 => ?_)
      refine lv_aload_n hx hb dL_law_499 rfl (lv_at hl 8 rfl) ?_
      refine lv_iload hx hb dL_law_500 (lv_at hl 3 rfl) ?_
      refine lv_iconst (v := 5) hx hb dL_law_502 (by decide) ?_
      have hFc := va_free (wc := wW h (a 0) (z 0) l0 m0 ++ sW cI a σ ++ mW cI m0 (y 0) w0 f355 ++ yW cI y φ355) hD hS hA [18, 19, 20, 21, 22, 23, 24, 13, 14, 15, 16, 17] rfl
      refine vx_calli (vx_runV (As := [.int (nI jb), .int 5]) (rest := []) ⟨hx, hb, hml, hown, hts⟩ (c_X4_worth l hst D cI _ h (z 0) l0 m0 w0 a y σ f355 φ355 (nI jb) 5 t hnσ) (cwV 2 hts gL_law_X4_worth rfl rfl rfl (by decide +kernel) ⟨Nat.le_of_ble_eq_true rfl, Nat.le_of_ble_eq_true rfl⟩) ⟨preXS_blind, va_recv hK hP (ci := 4) (q0 := 18) rfl rfl, preXS_of (hP.sub (ws' := wW h (a 0) (z 0) l0 m0 ++ sW cI a σ ++ mW cI m0 (y 0) w0 f355 ++ yW cI y φ355) [18, 19, 20, 21, 22, 23, 24, 13, 14, 15, 16, 17] rfl) hK1 hXV (hD.sub (ws' := wW h (a 0) (z 0) l0 m0 ++ sW cI a σ ++ mW cI m0 (y 0) w0 f355 ++ yW cI y φ355) [18, 19, 20, 21, 22, 23, 24, 13, 14, 15, 16, 17] (by decide) rfl) hTX hSX hS hFc [.ref h, .int (nI jb), .int 5]⟩ rfl rfl hl.1 rfl (lv_room (Nat.le_of_ble_eq_true rfl)) dL_law_503 ⟨room_c hce6 (Nat.le_of_ble_eq_true rfl) (k := 3), room_s hsl6 (Nat.le_of_ble_eq_true rfl) (k := 18)⟩) hS (fun q _ h => hFc q h) hFc (fun q _ h => hFc q h) (fun E ce9 q9 u9 t9 H1 locs ht hvm hpx hBX9 hz1 hk1 hS hq9 hce9 hcl9 => absurd (F_worT hbe (by decide)) hpx) (fun r9 u9 t9 H1 locs ht hvm hw hB hz1 hk1 hS => ?_)
      obtain ⟨hP1, -, hD1⟩ := hB
      rw [ht] at hP1
      obtain ⟨s503, f503, φ503⟩ := u9
      dsimp only at hw hP1 hD1
      obtain ⟨hT9, hR9, hU9⟩ := hw
      rw [hU9] at hP1 hD1
      obtain ⟨hP, hD⟩ := va_joinQ (wr := dW cI cZ cG cY o rr h b dr δ Y9 ++ sW cI z τ ++ wL l0 mc q9 g) (w1 := wW h (a 0) (z 0) l0 m0 ++ sW cI a σ ++ mW cI m0 (y 0) w0 f503 ++ yW cI y φ503) hP hD [18, 19, 20, 21, 22, 23, 24, 13, 14, 15, 16, 17] [0, 1, 2, 3, 4, 5, 6, 7, 8, 9, 10, 11, 12] rfl rfl (by decide) (by decide) hk1 hFc hP1 hD1
      generalize H1 = H at hP hS ⊢
      clear ht hvm hz1 hk1 hFc hP1 hD1 hT9 hU9
      have hP : va_P D vwCl (dW cI cZ cG cY o rr h b dr δ Y9 ++ sW cI z τ ++ wL l0 mc q9 g ++ wW h (a 0) (z 0) l0 m0 ++ sW cI a σ ++ mW cI m0 (y 0) w0 f503 ++ yW cI y φ503 ++ (bW cI rr (d_n δ) (d_R δ) ++ xp)) H := hP
      have hD : va_D (lA s) (dW cI cZ cG cY o rr h b dr δ Y9 ++ sW cI z τ ++ wL l0 mc q9 g ++ wW h (a 0) (z 0) l0 m0 ++ sW cI a σ ++ mW cI m0 (y 0) w0 f503 ++ yW cI y φ503 ++ (bW cI rr (d_n δ) (d_R δ) ++ xp)) := hD
      rw [hR9]
      clear hR9
      rw [show worthOfF (worthF σ (nI jb)) 5 = -1000 from (worthOf_at (k := 5) (by decide)).trans (worth_5 eT)]
      refine lv_sipush (v := (-1000)) hx hb dL_law_506 (by decide) ?_
      refine lv_icmp_eq (tgt := 514) hx hb dL_law_509 (by decide) (fun c_509 => ?_) (fun c_509 => absurd (rfl) c_509)
      have hP := hP.part (cx := wW h (a 0) (z 0) l0 m0 ++ sW cI a σ ++ dW cI cZ cG cY o rr h b dr δ Y9 ++ sW cI z τ ++ wL l0 mc q9 g ++ mW cI m0 (y 0) w0 f503 ++ yW cI y φ503) [13, 14, 15, 16, 17, 18, 19, 0, 1, 2, 3, 4, 5, 6, 7, 8, 9, 10, 11, 12, 20, 21, 22, 23, 24] rfl
      have hD := hD.part (cx := wW h (a 0) (z 0) l0 m0 ++ sW cI a σ ++ dW cI cZ cG cY o rr h b dr δ Y9 ++ sW cI z τ ++ wL l0 mc q9 g ++ mW cI m0 (y 0) w0 f503 ++ yW cI y φ503) [13, 14, 15, 16, 17, 18, 19, 0, 1, 2, 3, 4, 5, 6, 7, 8, 9, 10, 11, 12, 20, 21, 22, 23, 24] (by decide) rfl
      have hP : va_P D vwCl (wW h (a 0) (z 0) l0 m0 ++ sW cI a σ ++ dW cI cZ cG cY o rr h b dr δ Y9 ++ sW cI z τ ++ wL l0 mc q9 g ++ mW cI m0 (y 0) w0 f503 ++ yW cI y φ503 ++ (bW cI rr (d_n δ) (d_R δ) ++ xp)) H := hP
      have hD : va_D (lA s) (wW h (a 0) (z 0) l0 m0 ++ sW cI a σ ++ dW cI cZ cG cY o rr h b dr δ Y9 ++ sW cI z τ ++ wL l0 mc q9 g ++ mW cI m0 (y 0) w0 f503 ++ yW cI y φ503 ++ (bW cI rr (d_n δ) (d_R δ) ++ xp)) := hD
      exact L514 f503 φ503 (ce6 + 3) (sl6 + 18) (by omega) (by omega) _ _ ls (lv_sub hl [0, 2, 3, 4, 5, 6, 7, 8, 9, 10, 11] rfl) hP hD hS
    · rw [eT] at hl
      refine lv_iload hx hb dL_law_408 (lv_at hl 1 rfl) ?_
      refine lv_if_lt (tgt := 473) hx hb dL_law_410 (by decide) (fun c_410 => absurd c_410 ((nI_pos (by omega)))) (fun c_410 => ?_)
      refine lv_aload_n hx hb dL_law_413 rfl (lv_at hl 8 rfl) ?_
      refine lv_iload hx hb dL_law_414 (lv_at hl 1 rfl) ?_
      refine lv_iconst (v := 0) hx hb dL_law_416 (by decide) ?_
      have hFc := va_free (wc := wW h (a 0) (z 0) l0 m0 ++ sW cI a σ) hD hS hA [0, 1, 2, 3, 4, 5, 6] rfl
      refine vx_calli (vx_runV (As := [.int (nI o9), .int 0]) (rest := []) ⟨hx, hb, hml, hown, hts⟩ (c_X4_of l hst D cI _ h (z 0) l0 m0 a σ (nI o9) 0) (cwV 2 hts gL_law_X4_of rfl rfl rfl (by decide +kernel) ⟨Nat.le_of_ble_eq_true rfl, Nat.le_of_ble_eq_true rfl⟩) ⟨preX_blind, va_recv hK hP (ci := 4) (q0 := 0) rfl rfl, preX_of (hP.sub (ws' := wW h (a 0) (z 0) l0 m0 ++ sW cI a σ) [0, 1, 2, 3, 4, 5, 6] rfl) hK1 hXV (hD.sub (ws' := wW h (a 0) (z 0) l0 m0 ++ sW cI a σ) [0, 1, 2, 3, 4, 5, 6] (by decide) rfl) hTX hS hFc [.ref h, .int (nI o9), .int 0]⟩ rfl rfl hl.1 rfl (lv_room (Nat.le_of_ble_eq_true rfl)) dL_law_417 ⟨room_c hce6 (Nat.le_of_ble_eq_true rfl) (k := 1), room_s hsl6 (Nat.le_of_ble_eq_true rfl) (k := 6)⟩) hS (fun q _ h => hFc q h) hFc (fun q _ h => hFc q h) (fun E ce9 q9 u9 t9 H1 locs ht hvm hpx hBX9 hz1 hk1 hS hq9 hce9 hcl9 => absurd (F_of (being_T hI ho9) (by decide)) hpx) (fun r9 u9 t9 H1 locs ht hvm hw hB hz1 hk1 hS => ?_)
      obtain ⟨hP1, -, hD1⟩ := hB
      rw [ht] at hP1
      obtain ⟨hT9, hR9, hU9⟩ := hw
      rw [hU9] at hP1 hD1
      obtain ⟨hP, hD⟩ := va_joinQ (wr := dW cI cZ cG cY o rr h b dr δ Y9 ++ sW cI z τ ++ wL l0 mc q9 g ++ mW cI m0 (y 0) w0 f355 ++ yW cI y φ355) (w1 := wW h (a 0) (z 0) l0 m0 ++ sW cI a σ) hP hD [0, 1, 2, 3, 4, 5, 6] [7, 8, 9, 10, 11, 12, 13, 14, 15, 16, 17, 18, 19, 20, 21, 22, 23, 24] rfl rfl (by decide) (by decide) hk1 hFc hP1 hD1
      generalize H1 = H at hP hS ⊢
      clear ht hvm hz1 hk1 hFc hP1 hD1 hT9 hU9
      have hP : va_P D vwCl (dW cI cZ cG cY o rr h b dr δ Y9 ++ sW cI z τ ++ wL l0 mc q9 g ++ mW cI m0 (y 0) w0 f355 ++ yW cI y φ355 ++ wW h (a 0) (z 0) l0 m0 ++ sW cI a σ ++ (bW cI rr (d_n δ) (d_R δ) ++ xp)) H := hP
      have hD : va_D (lA s) (dW cI cZ cG cY o rr h b dr δ Y9 ++ sW cI z τ ++ wL l0 mc q9 g ++ mW cI m0 (y 0) w0 f355 ++ yW cI y φ355 ++ wW h (a 0) (z 0) l0 m0 ++ sW cI a σ ++ (bW cI rr (d_n δ) (d_R δ) ++ xp)) := hD
      rw [hR9]
      clear hR9
      rw [F_ans (by decide)]
      refine lv_aload_n hx hb dL_law_420 rfl (lv_at hl 8 rfl) ?_
      refine lv_iload hx hb dL_law_421 (lv_at hl 3 rfl) ?_
      refine lv_iconst (v := 0) hx hb dL_law_423 (by decide) ?_
      have hFc := va_free (wc := wW h (a 0) (z 0) l0 m0 ++ sW cI a σ) hD hS hA [18, 19, 20, 21, 22, 23, 24] rfl
      refine vx_calli (vx_runV (As := [.int (nI jb), .int 0]) (rest := [.int (traitF σ (nI o9) 0)]) ⟨hx, hb, hml, hown, hts⟩ (c_X4_of l hst D cI _ h (z 0) l0 m0 a σ (nI jb) 0) (cwV 2 hts gL_law_X4_of rfl rfl rfl (by decide +kernel) ⟨Nat.le_of_ble_eq_true rfl, Nat.le_of_ble_eq_true rfl⟩) ⟨preX_blind, va_recv hK hP (ci := 4) (q0 := 18) rfl rfl, preX_of (hP.sub (ws' := wW h (a 0) (z 0) l0 m0 ++ sW cI a σ) [18, 19, 20, 21, 22, 23, 24] rfl) hK1 hXV (hD.sub (ws' := wW h (a 0) (z 0) l0 m0 ++ sW cI a σ) [18, 19, 20, 21, 22, 23, 24] (by decide) rfl) hTX hS hFc [.ref h, .int (nI jb), .int 0]⟩ rfl rfl hl.1 rfl (lv_room (Nat.le_of_ble_eq_true rfl)) dL_law_424 ⟨room_c hce6 (Nat.le_of_ble_eq_true rfl) (k := 2), room_s hsl6 (Nat.le_of_ble_eq_true rfl) (k := 12)⟩) hS (fun q _ h => hFc q h) hFc (fun q _ h => hFc q h) (fun E ce9 q9 u9 t9 H1 locs ht hvm hpx hBX9 hz1 hk1 hS hq9 hce9 hcl9 => absurd (F_of hbe (by decide)) hpx) (fun r9 u9 t9 H1 locs ht hvm hw hB hz1 hk1 hS => ?_)
      obtain ⟨hP1, -, hD1⟩ := hB
      rw [ht] at hP1
      obtain ⟨hT9, hR9, hU9⟩ := hw
      rw [hU9] at hP1 hD1
      obtain ⟨hP, hD⟩ := va_joinQ (wr := dW cI cZ cG cY o rr h b dr δ Y9 ++ sW cI z τ ++ wL l0 mc q9 g ++ mW cI m0 (y 0) w0 f355 ++ yW cI y φ355) (w1 := wW h (a 0) (z 0) l0 m0 ++ sW cI a σ) hP hD [18, 19, 20, 21, 22, 23, 24] [0, 1, 2, 3, 4, 5, 6, 7, 8, 9, 10, 11, 12, 13, 14, 15, 16, 17] rfl rfl (by decide) (by decide) hk1 hFc hP1 hD1
      generalize H1 = H at hP hS ⊢
      clear ht hvm hz1 hk1 hFc hP1 hD1 hT9 hU9
      have hP : va_P D vwCl (dW cI cZ cG cY o rr h b dr δ Y9 ++ sW cI z τ ++ wL l0 mc q9 g ++ mW cI m0 (y 0) w0 f355 ++ yW cI y φ355 ++ wW h (a 0) (z 0) l0 m0 ++ sW cI a σ ++ (bW cI rr (d_n δ) (d_R δ) ++ xp)) H := hP
      have hD : va_D (lA s) (dW cI cZ cG cY o rr h b dr δ Y9 ++ sW cI z τ ++ wL l0 mc q9 g ++ mW cI m0 (y 0) w0 f355 ++ yW cI y φ355 ++ wW h (a 0) (z 0) l0 m0 ++ sW cI a σ ++ (bW cI rr (d_n δ) (d_R δ) ++ xp)) := hD
      rw [hR9]
      clear hR9
      rw [F_ans (by decide)]
      refine lv_icmp_eq (tgt := 512) hx hb dL_law_427 (by decide) (fun c_427 => absurd c_427 (hs9)) (fun c_427 => ?_)
      refine lv_aload_n hx hb dL_law_430 rfl (lv_at hl 8 rfl) ?_
      refine lv_iload hx hb dL_law_431 (lv_at hl 1 rfl) ?_
      refine lv_iconst (v := 1) hx hb dL_law_433 (by decide) ?_
      have hFc := va_free (wc := wW h (a 0) (z 0) l0 m0 ++ sW cI a σ) hD hS hA [18, 19, 20, 21, 22, 23, 24] rfl
      refine vx_calli (vx_runV (As := [.int (nI o9), .int 1]) (rest := []) ⟨hx, hb, hml, hown, hts⟩ (c_X4_of l hst D cI _ h (z 0) l0 m0 a σ (nI o9) 1) (cwV 2 hts gL_law_X4_of rfl rfl rfl (by decide +kernel) ⟨Nat.le_of_ble_eq_true rfl, Nat.le_of_ble_eq_true rfl⟩) ⟨preX_blind, va_recv hK hP (ci := 4) (q0 := 18) rfl rfl, preX_of (hP.sub (ws' := wW h (a 0) (z 0) l0 m0 ++ sW cI a σ) [18, 19, 20, 21, 22, 23, 24] rfl) hK1 hXV (hD.sub (ws' := wW h (a 0) (z 0) l0 m0 ++ sW cI a σ) [18, 19, 20, 21, 22, 23, 24] (by decide) rfl) hTX hS hFc [.ref h, .int (nI o9), .int 1]⟩ rfl rfl hl.1 rfl (lv_room (Nat.le_of_ble_eq_true rfl)) dL_law_434 ⟨room_c hce6 (Nat.le_of_ble_eq_true rfl) (k := 3), room_s hsl6 (Nat.le_of_ble_eq_true rfl) (k := 18)⟩) hS (fun q _ h => hFc q h) hFc (fun q _ h => hFc q h) (fun E ce9 q9 u9 t9 H1 locs ht hvm hpx hBX9 hz1 hk1 hS hq9 hce9 hcl9 => absurd (F_of (being_T hI ho9) (by decide)) hpx) (fun r9 u9 t9 H1 locs ht hvm hw hB hz1 hk1 hS => ?_)
      obtain ⟨hP1, -, hD1⟩ := hB
      rw [ht] at hP1
      obtain ⟨hT9, hR9, hU9⟩ := hw
      rw [hU9] at hP1 hD1
      obtain ⟨hP, hD⟩ := va_joinQ (wr := dW cI cZ cG cY o rr h b dr δ Y9 ++ sW cI z τ ++ wL l0 mc q9 g ++ mW cI m0 (y 0) w0 f355 ++ yW cI y φ355) (w1 := wW h (a 0) (z 0) l0 m0 ++ sW cI a σ) hP hD [18, 19, 20, 21, 22, 23, 24] [0, 1, 2, 3, 4, 5, 6, 7, 8, 9, 10, 11, 12, 13, 14, 15, 16, 17] rfl rfl (by decide) (by decide) hk1 hFc hP1 hD1
      generalize H1 = H at hP hS ⊢
      clear ht hvm hz1 hk1 hFc hP1 hD1 hT9 hU9
      have hP : va_P D vwCl (dW cI cZ cG cY o rr h b dr δ Y9 ++ sW cI z τ ++ wL l0 mc q9 g ++ mW cI m0 (y 0) w0 f355 ++ yW cI y φ355 ++ wW h (a 0) (z 0) l0 m0 ++ sW cI a σ ++ (bW cI rr (d_n δ) (d_R δ) ++ xp)) H := hP
      have hD : va_D (lA s) (dW cI cZ cG cY o rr h b dr δ Y9 ++ sW cI z τ ++ wL l0 mc q9 g ++ mW cI m0 (y 0) w0 f355 ++ yW cI y φ355 ++ wW h (a 0) (z 0) l0 m0 ++ sW cI a σ ++ (bW cI rr (d_n δ) (d_R δ) ++ xp)) := hD
      rw [hR9]
      clear hR9
      rw [F_ans (by decide)]
      rw [e9]
      refine lv_if_lt (tgt := 512) hx hb dL_law_437 (by decide) (fun c_437 => absurd c_437 ((nI_pos (by omega)))) (fun c_437 => ?_)
      refine lv_aload_n hx hb dL_law_440 rfl (lv_at hl 8 rfl) ?_
      refine lv_aload_n hx hb dL_law_441 rfl (lv_at hl 8 rfl) ?_
      refine lv_iload hx hb dL_law_442 (lv_at hl 1 rfl) ?_
      refine lv_iconst (v := 1) hx hb dL_law_444 (by decide) ?_
      have hFc := va_free (wc := wW h (a 0) (z 0) l0 m0 ++ sW cI a σ) hD hS hA [18, 19, 20, 21, 22, 23, 24] rfl
      refine vx_calli (vx_runV (As := [.int (nI o9), .int 1]) (rest := [.ref h]) ⟨hx, hb, hml, hown, hts⟩ (c_X4_of l hst D cI _ h (z 0) l0 m0 a σ (nI o9) 1) (cwV 2 hts gL_law_X4_of rfl rfl rfl (by decide +kernel) ⟨Nat.le_of_ble_eq_true rfl, Nat.le_of_ble_eq_true rfl⟩) ⟨preX_blind, va_recv hK hP (ci := 4) (q0 := 18) rfl rfl, preX_of (hP.sub (ws' := wW h (a 0) (z 0) l0 m0 ++ sW cI a σ) [18, 19, 20, 21, 22, 23, 24] rfl) hK1 hXV (hD.sub (ws' := wW h (a 0) (z 0) l0 m0 ++ sW cI a σ) [18, 19, 20, 21, 22, 23, 24] (by decide) rfl) hTX hS hFc [.ref h, .int (nI o9), .int 1]⟩ rfl rfl hl.1 rfl (lv_room (Nat.le_of_ble_eq_true rfl)) dL_law_445 ⟨room_c hce6 (Nat.le_of_ble_eq_true rfl) (k := 4), room_s hsl6 (Nat.le_of_ble_eq_true rfl) (k := 24)⟩) hS (fun q _ h => hFc q h) hFc (fun q _ h => hFc q h) (fun E ce9 q9 u9 t9 H1 locs ht hvm hpx hBX9 hz1 hk1 hS hq9 hce9 hcl9 => absurd (F_of (being_T hI ho9) (by decide)) hpx) (fun r9 u9 t9 H1 locs ht hvm hw hB hz1 hk1 hS => ?_)
      obtain ⟨hP1, -, hD1⟩ := hB
      rw [ht] at hP1
      obtain ⟨hT9, hR9, hU9⟩ := hw
      rw [hU9] at hP1 hD1
      obtain ⟨hP, hD⟩ := va_joinQ (wr := dW cI cZ cG cY o rr h b dr δ Y9 ++ sW cI z τ ++ wL l0 mc q9 g ++ mW cI m0 (y 0) w0 f355 ++ yW cI y φ355) (w1 := wW h (a 0) (z 0) l0 m0 ++ sW cI a σ) hP hD [18, 19, 20, 21, 22, 23, 24] [0, 1, 2, 3, 4, 5, 6, 7, 8, 9, 10, 11, 12, 13, 14, 15, 16, 17] rfl rfl (by decide) (by decide) hk1 hFc hP1 hD1
      generalize H1 = H at hP hS ⊢
      clear ht hvm hz1 hk1 hFc hP1 hD1 hT9 hU9
      have hP : va_P D vwCl (dW cI cZ cG cY o rr h b dr δ Y9 ++ sW cI z τ ++ wL l0 mc q9 g ++ mW cI m0 (y 0) w0 f355 ++ yW cI y φ355 ++ wW h (a 0) (z 0) l0 m0 ++ sW cI a σ ++ (bW cI rr (d_n δ) (d_R δ) ++ xp)) H := hP
      have hD : va_D (lA s) (dW cI cZ cG cY o rr h b dr δ Y9 ++ sW cI z τ ++ wL l0 mc q9 g ++ mW cI m0 (y 0) w0 f355 ++ yW cI y φ355 ++ wW h (a 0) (z 0) l0 m0 ++ sW cI a σ ++ (bW cI rr (d_n δ) (d_R δ) ++ xp)) := hD
      rw [hR9]
      clear hR9
      rw [F_ans (by decide)]
      rw [e9]
      refine lv_iload hx hb dL_law_448 (lv_at hl 2 rfl) ?_
      have hFc := va_free (wc := wW h (a 0) (z 0) l0 m0 ++ sW cI a σ) hD hS hA [18, 19, 20, 21, 22, 23, 24] rfl
      refine vx_calli (vx_runV (As := [.int (nI c9), .int (nI c0)]) (rest := []) ⟨hx, hb, hml, hown, hts⟩ (c_X4_sees l hst D cI _ h (z 0) l0 m0 a σ (nI c9) (nI c0)) (cwV 2 hts gL_law_X4_sees rfl rfl rfl (by decide +kernel) ⟨Nat.le_of_ble_eq_true rfl, Nat.le_of_ble_eq_true rfl⟩) ⟨preX_blind, va_recv hK hP (ci := 4) (q0 := 18) rfl rfl, preX_of (hP.sub (ws' := wW h (a 0) (z 0) l0 m0 ++ sW cI a σ) [18, 19, 20, 21, 22, 23, 24] rfl) hK1 hXV (hD.sub (ws' := wW h (a 0) (z 0) l0 m0 ++ sW cI a σ) [18, 19, 20, 21, 22, 23, 24] (by decide) rfl) hTX hS hFc [.ref h, .int (nI c9), .int (nI c0)]⟩ rfl rfl hl.1 rfl (lv_room (Nat.le_of_ble_eq_true rfl)) dL_law_450 ⟨room_c hce6 (Nat.le_of_ble_eq_true rfl) (k := 5), room_s hsl6 (Nat.le_of_ble_eq_true rfl) (k := 30)⟩) hS (fun q _ h => hFc q h) hFc (fun q _ h => hFc q h) (fun E ce9 q9 u9 t9 H1 locs ht hvm hpx hBX9 hz1 hk1 hS hq9 hce9 hcl9 => absurd (F_seeT hc9 hc0) hpx) (fun r9 u9 t9 H1 locs ht hvm hw hB hz1 hk1 hS => ?_)
      obtain ⟨hP1, -, hD1⟩ := hB
      rw [ht] at hP1
      obtain ⟨hT9, hR9, hU9⟩ := hw
      rw [hU9] at hP1 hD1
      obtain ⟨hP, hD⟩ := va_joinQ (wr := dW cI cZ cG cY o rr h b dr δ Y9 ++ sW cI z τ ++ wL l0 mc q9 g ++ mW cI m0 (y 0) w0 f355 ++ yW cI y φ355) (w1 := wW h (a 0) (z 0) l0 m0 ++ sW cI a σ) hP hD [18, 19, 20, 21, 22, 23, 24] [0, 1, 2, 3, 4, 5, 6, 7, 8, 9, 10, 11, 12, 13, 14, 15, 16, 17] rfl rfl (by decide) (by decide) hk1 hFc hP1 hD1
      generalize H1 = H at hP hS ⊢
      clear ht hvm hz1 hk1 hFc hP1 hD1 hT9 hU9
      have hP : va_P D vwCl (dW cI cZ cG cY o rr h b dr δ Y9 ++ sW cI z τ ++ wL l0 mc q9 g ++ mW cI m0 (y 0) w0 f355 ++ yW cI y φ355 ++ wW h (a 0) (z 0) l0 m0 ++ sW cI a σ ++ (bW cI rr (d_n δ) (d_R δ) ++ xp)) H := hP
      have hD : va_D (lA s) (dW cI cZ cG cY o rr h b dr δ Y9 ++ sW cI z τ ++ wL l0 mc q9 g ++ mW cI m0 (y 0) w0 f355 ++ yW cI y φ355 ++ wW h (a 0) (z 0) l0 m0 ++ sW cI a σ ++ (bW cI rr (d_n δ) (d_R δ) ++ xp)) := hD
      rw [hR9]
      clear hR9
      refine w_bz (tgt := 512) hx hb dL_law_453 (by decide) (fun c_453 => absurd c_453 ((by rw [hse9]; decide))) (fun c_453 => ?_)
      refine lv_aload_n hx hb dL_law_456 rfl (lv_at hl 8 rfl) ?_
      refine lv_aload_n hx hb dL_law_457 rfl (lv_at hl 8 rfl) ?_
      refine lv_iload hx hb dL_law_458 (lv_at hl 3 rfl) ?_
      refine lv_iconst (v := 0) hx hb dL_law_460 (by decide) ?_
      have hFc := va_free (wc := wW h (a 0) (z 0) l0 m0 ++ sW cI a σ) hD hS hA [18, 19, 20, 21, 22, 23, 24] rfl
      refine vx_calli (vx_runV (As := [.int (nI jb), .int 0]) (rest := [.ref h]) ⟨hx, hb, hml, hown, hts⟩ (c_X4_of l hst D cI _ h (z 0) l0 m0 a σ (nI jb) 0) (cwV 2 hts gL_law_X4_of rfl rfl rfl (by decide +kernel) ⟨Nat.le_of_ble_eq_true rfl, Nat.le_of_ble_eq_true rfl⟩) ⟨preX_blind, va_recv hK hP (ci := 4) (q0 := 18) rfl rfl, preX_of (hP.sub (ws' := wW h (a 0) (z 0) l0 m0 ++ sW cI a σ) [18, 19, 20, 21, 22, 23, 24] rfl) hK1 hXV (hD.sub (ws' := wW h (a 0) (z 0) l0 m0 ++ sW cI a σ) [18, 19, 20, 21, 22, 23, 24] (by decide) rfl) hTX hS hFc [.ref h, .int (nI jb), .int 0]⟩ rfl rfl hl.1 rfl (lv_room (Nat.le_of_ble_eq_true rfl)) dL_law_461 ⟨room_c hce6 (Nat.le_of_ble_eq_true rfl) (k := 6), room_s hsl6 (Nat.le_of_ble_eq_true rfl) (k := 36)⟩) hS (fun q _ h => hFc q h) hFc (fun q _ h => hFc q h) (fun E ce9 q9 u9 t9 H1 locs ht hvm hpx hBX9 hz1 hk1 hS hq9 hce9 hcl9 => absurd (F_of hbe (by decide)) hpx) (fun r9 u9 t9 H1 locs ht hvm hw hB hz1 hk1 hS => ?_)
      obtain ⟨hP1, -, hD1⟩ := hB
      rw [ht] at hP1
      obtain ⟨hT9, hR9, hU9⟩ := hw
      rw [hU9] at hP1 hD1
      obtain ⟨hP, hD⟩ := va_joinQ (wr := dW cI cZ cG cY o rr h b dr δ Y9 ++ sW cI z τ ++ wL l0 mc q9 g ++ mW cI m0 (y 0) w0 f355 ++ yW cI y φ355) (w1 := wW h (a 0) (z 0) l0 m0 ++ sW cI a σ) hP hD [18, 19, 20, 21, 22, 23, 24] [0, 1, 2, 3, 4, 5, 6, 7, 8, 9, 10, 11, 12, 13, 14, 15, 16, 17] rfl rfl (by decide) (by decide) hk1 hFc hP1 hD1
      generalize H1 = H at hP hS ⊢
      clear ht hvm hz1 hk1 hFc hP1 hD1 hT9 hU9
      have hP : va_P D vwCl (dW cI cZ cG cY o rr h b dr δ Y9 ++ sW cI z τ ++ wL l0 mc q9 g ++ mW cI m0 (y 0) w0 f355 ++ yW cI y φ355 ++ wW h (a 0) (z 0) l0 m0 ++ sW cI a σ ++ (bW cI rr (d_n δ) (d_R δ) ++ xp)) H := hP
      have hD : va_D (lA s) (dW cI cZ cG cY o rr h b dr δ Y9 ++ sW cI z τ ++ wL l0 mc q9 g ++ mW cI m0 (y 0) w0 f355 ++ yW cI y φ355 ++ wW h (a 0) (z 0) l0 m0 ++ sW cI a σ ++ (bW cI rr (d_n δ) (d_R δ) ++ xp)) := hD
      rw [hR9]
      clear hR9
      rw [F_ans (by decide)]
      refine lv_iload hx hb dL_law_464 (lv_at hl 2 rfl) ?_
      have hFc := va_free (wc := wW h (a 0) (z 0) l0 m0 ++ sW cI a σ) hD hS hA [18, 19, 20, 21, 22, 23, 24] rfl
      refine vx_calli (vx_runV (As := [.int (traitF σ (nI jb) 0), .int (nI c0)]) (rest := []) ⟨hx, hb, hml, hown, hts⟩ (c_X4_danger l hst D cI _ h (z 0) l0 m0 a σ (traitF σ (nI jb) 0) (nI c0) hnσ) (cwV 2 hts gL_law_X4_danger rfl rfl rfl (by decide +kernel) ⟨Nat.le_of_ble_eq_true rfl, Nat.le_of_ble_eq_true rfl⟩) ⟨preX_blind, va_recv hK hP (ci := 4) (q0 := 18) rfl rfl, preX_of (hP.sub (ws' := wW h (a 0) (z 0) l0 m0 ++ sW cI a σ) [18, 19, 20, 21, 22, 23, 24] rfl) hK1 hXV (hD.sub (ws' := wW h (a 0) (z 0) l0 m0 ++ sW cI a σ) [18, 19, 20, 21, 22, 23, 24] (by decide) rfl) hTX hS hFc [.ref h, .int (traitF σ (nI jb) 0), .int (nI c0)]⟩ rfl rfl hl.1 rfl (lv_room (Nat.le_of_ble_eq_true rfl)) dL_law_466 ⟨room_c hce6 (Nat.le_of_ble_eq_true rfl) (k := 7), room_s hsl6 (Nat.le_of_ble_eq_true rfl) (k := 42)⟩) hS (fun q _ h => hFc q h) hFc (fun q _ h => hFc q h) (fun E ce9 q9 u9 t9 H1 locs ht hvm hpx hBX9 hz1 hk1 hS hq9 hce9 hcl9 => absurd (F_danT (F_side hI hjb) hc0) hpx) (fun r9 u9 t9 H1 locs ht hvm hw hB hz1 hk1 hS => ?_)
      obtain ⟨hP1, -, hD1⟩ := hB
      rw [ht] at hP1
      obtain ⟨hT9, hR9, hU9⟩ := hw
      rw [hU9] at hP1 hD1
      obtain ⟨hP, hD⟩ := va_joinQ (wr := dW cI cZ cG cY o rr h b dr δ Y9 ++ sW cI z τ ++ wL l0 mc q9 g ++ mW cI m0 (y 0) w0 f355 ++ yW cI y φ355) (w1 := wW h (a 0) (z 0) l0 m0 ++ sW cI a σ) hP hD [18, 19, 20, 21, 22, 23, 24] [0, 1, 2, 3, 4, 5, 6, 7, 8, 9, 10, 11, 12, 13, 14, 15, 16, 17] rfl rfl (by decide) (by decide) hk1 hFc hP1 hD1
      generalize H1 = H at hP hS ⊢
      clear ht hvm hz1 hk1 hFc hP1 hD1 hT9 hU9
      have hP : va_P D vwCl (dW cI cZ cG cY o rr h b dr δ Y9 ++ sW cI z τ ++ wL l0 mc q9 g ++ mW cI m0 (y 0) w0 f355 ++ yW cI y φ355 ++ wW h (a 0) (z 0) l0 m0 ++ sW cI a σ ++ (bW cI rr (d_n δ) (d_R δ) ++ xp)) H := hP
      have hD : va_D (lA s) (dW cI cZ cG cY o rr h b dr δ Y9 ++ sW cI z τ ++ wL l0 mc q9 g ++ mW cI m0 (y 0) w0 f355 ++ yW cI y φ355 ++ wW h (a 0) (z 0) l0 m0 ++ sW cI a σ ++ (bW cI rr (d_n δ) (d_R δ) ++ xp)) := hD
      rw [hR9]
      clear hR9
      rw [eW]
      refine lv_iconst (v := 1) hx hb dL_law_469 (by decide) ?_
      refine lv_icmp_lt (tgt := 512) hx hb dL_law_470 (by decide) (fun c_470 => absurd c_470 ((nI_nlt (a := w9) (b := 1) hw1 (by omega)))) (fun c_470 => ?_)
      refine lv_iload hx hb dL_law_473 (lv_at hl 1 rfl) ?_
      refine lv_if_ge (tgt := 494) hx hb dL_law_475 (by decide) (fun c_475 => ?_) (fun c_475 => absurd ((nI_pos' (by omega))) c_475)
      refine lv_iload hx hb dL_law_494 (lv_at hl 1 rfl) ?_
      refine lv_if_ge (tgt := 514) hx hb dL_law_496 (by decide) (fun c_496 => ?_) (fun c_496 => absurd ((nI_pos' (by omega))) c_496)
      have hP := hP.part (cx := wW h (a 0) (z 0) l0 m0 ++ sW cI a σ ++ dW cI cZ cG cY o rr h b dr δ Y9 ++ sW cI z τ ++ wL l0 mc q9 g ++ mW cI m0 (y 0) w0 f355 ++ yW cI y φ355) [18, 19, 20, 21, 22, 23, 24, 0, 1, 2, 3, 4, 5, 6, 7, 8, 9, 10, 11, 12, 13, 14, 15, 16, 17] rfl
      have hD := hD.part (cx := wW h (a 0) (z 0) l0 m0 ++ sW cI a σ ++ dW cI cZ cG cY o rr h b dr δ Y9 ++ sW cI z τ ++ wL l0 mc q9 g ++ mW cI m0 (y 0) w0 f355 ++ yW cI y φ355) [18, 19, 20, 21, 22, 23, 24, 0, 1, 2, 3, 4, 5, 6, 7, 8, 9, 10, 11, 12, 13, 14, 15, 16, 17] (by decide) rfl
      have hP : va_P D vwCl (wW h (a 0) (z 0) l0 m0 ++ sW cI a σ ++ dW cI cZ cG cY o rr h b dr δ Y9 ++ sW cI z τ ++ wL l0 mc q9 g ++ mW cI m0 (y 0) w0 f355 ++ yW cI y φ355 ++ (bW cI rr (d_n δ) (d_R δ) ++ xp)) H := hP
      have hD : va_D (lA s) (wW h (a 0) (z 0) l0 m0 ++ sW cI a σ ++ dW cI cZ cG cY o rr h b dr δ Y9 ++ sW cI z τ ++ wL l0 mc q9 g ++ mW cI m0 (y 0) w0 f355 ++ yW cI y φ355 ++ (bW cI rr (d_n δ) (d_R δ) ++ xp)) := hD
      exact L514 f355 φ355 (ce6 + 7) (sl6 + 42) (by omega) (by omega) _ _ ls (lv_sub hl [0, 2, 3, 4, 5, 6, 7, 8, 9, 10, 11] rfl) hP hD hS
  refine lv_icmp_ne (tgt := 408) hx hb dL_law_396 (by decide) (fun c_396 => ?_) (fun c_396 => ?_)
  · exact L408 (ce + 9) (sl + 54) (by omega) (by omega) _ _ ls (lv_sub hl [0, 1, 2, 3, 4, 5, 6, 7, 8, 9, 10, 11] rfl) hP hD hS
  · refine lv_iload hx hb dL_law_399 (lv_at hl 3 rfl) ?_
    refine lv_iload hx hb dL_law_401 (lv_at hl 5 rfl) ?_
    refine lv_icmp_ge (tgt := 408) hx hb dL_law_403 (by decide) (fun c_403 => ?_) (fun c_403 => absurd ((hT9 c_396)) c_403)
    exact L408 (ce + 9) (sl + 54) (by omega) (by omega) _ _ ls (lv_sub hl [0, 1, 2, 3, 4, 5, 6, 7, 8, 9, 10, 11] rfl) hP hD hS
end LAW28
