-- ===== the law: law_dead =====
section LAW28
variable {p : Program} {l : Launch} {e : Env} {s : State} {m : MethodId} {below : List Frame} {meth : Method} {c : Code} {b L : Nat} {xs : Nat → Int32} {D : va_G} {cI cZ cG cY : ClassId} {t e0 : Nat}
set_option maxHeartbeats 4000000 in
set_option maxRecDepth 100000 in
/-- a dead being -/
theorem law_dead {h l0 m0 w0 q9 g : Nat} {a z y o rr : Nat → Nat} {mc : Int32} {f : Nat → Int32} {σ τ : SS} {δ : DD} {ψ : YS} {Y9 : RW} {dr : Nat} {xp : va_W} {ce sl : Nat} {H : Heap} {locs : List Loc} {ls : Array Slot} {jb na k1 k4 K : Nat} {dg : Int64} (E0 : lawE p s m meth c b L xs D cI cZ cG cY t e0) (hst : l.stackTraces = false) (hI : IR K σ δ) (hn6 : d_n δ ≤ 6) (hjb : jb < d_n δ) (hal : aliveB σ (nI jb) = false) (hce0 : ce ≤ 400000) (hsl0 : sl ≤ 4000000) (hl : lv_has ls 19 [(11, .int (-1)), (10, .int (nI jb)), (9, .int (nI na)), (8, .int (nI (d_n δ))), (7, .int (turnF σ)), (5, .long dg), (4, .int (nI k4)), (3, .ref h), (2, .ref (o 0)), (1, .int (nI k1)), (0, .ref b)]) (hP : va_P D vwCl (wW h (a 0) (z 0) l0 m0 ++ sW cI a σ ++ dW cI cZ cG cY o rr h b dr δ Y9 ++ sW cI z τ ++ wL l0 mc q9 g ++ mW cI m0 (y 0) w0 f ++ yW cI y ψ ++ (bW cI rr (d_n δ) (d_R δ) ++ xp)) H) (hD : va_D (lA s) (wW h (a 0) (z 0) l0 m0 ++ sW cI a σ ++ dW cI cZ cG cY o rr h b dr δ Y9 ++ sW cI z τ ++ wL l0 mc q9 g ++ mW cI m0 (y 0) w0 f ++ yW cI y ψ ++ (bW cI rr (d_n δ) (d_R δ) ++ xp))) (hS : va_S (lA s) s.heap H locs)
    (kk762 : ∀ (f1 : Nat → Int32) (ψ1 : YS) (ce1 sl1 : Nat) (hc1 : ce1 ≤ ce + 10) (hs1 : sl1 ≤ sl + 60) (H : Heap) (locs : List Loc) (ls : Array Slot), lv_has ls 19 [(10, .int (nI jb)), (9, .int (nI na)), (8, .int (nI (d_n δ))), (7, .int (turnF σ)), (5, .long dg), (4, .int (nI k4)), (3, .ref h), (2, .ref (o 0)), (1, .int (nI k1)), (0, .ref b)] → va_P D vwCl (wW h (a 0) (z 0) l0 m0 ++ sW cI a σ ++ dW cI cZ cG cY o rr h b dr δ Y9 ++ sW cI z τ ++ wL l0 mc q9 g ++ mW cI m0 (y 0) w0 f1 ++ yW cI y ψ1 ++ (bW cI rr (d_n δ) (d_R δ) ++ xp)) H → va_D (lA s) (wW h (a 0) (z 0) l0 m0 ++ sW cI a σ ++ dW cI cZ cG cY o rr h b dr δ Y9 ++ sW cI z τ ++ wL l0 mc q9 g ++ mW cI m0 (y 0) w0 f1 ++ yW cI y ψ1 ++ (bW cI rr (d_n δ) (d_R δ) ++ xp)) → va_S (lA s) s.heap H locs → W p l e room_1 s m #[Value.ref b] below meth c H locs ce1 sl1 (lw_Z below #[Value.ref b] s) (F0 m 762 ls [])) : W p l e room_1 s m #[Value.ref b] below meth c H locs ce sl (lw_Z below #[Value.ref b] s) (F0 m 249 ls []) := by
  obtain ⟨C0, hK, hGX, hEX, hNX⟩ := id E0
  obtain ⟨hx, hb, hr, hml, hown, hts, hX, hbl, hlocks, hgv⟩ := id C0
  obtain ⟨hXV, hTX, hN, hSX, hG, hBX, hnc, hnb, hov⟩ := id hGX
  have hK1 := K_D hK
  have hE := hXV.1
  have hA : ∀ q : Nat, s.heap.size ≤ q → lA s q := fun _ h => h
  have hce : ce ≤ 500000 := by omega
  have hsl : sl ≤ 5000000 := by omega
  have hn10 : d_n δ ≤ 10 := by omega
  have hnσ : s_n σ ≤ 10 := by rw [hI.1.1]; exact hn10
  have hbe : beingB σ (nI jb) = true := being_T hI hjb
  refine lv_aload_n hx hb dL_law_249 rfl (lv_at hl 7 rfl) ?_
  refine lv_iload hx hb dL_law_250 (lv_at hl 1 rfl) ?_
  have hFc := va_free (wc := wW h (a 0) (z 0) l0 m0 ++ sW cI a σ) hD hS hA [0, 1, 2, 3, 4, 5, 6] rfl
  refine vx_calli (vx_runV (As := [.int (nI jb)]) (rest := []) ⟨hx, hb, hml, hown, hts⟩ (c_X4_target l hst D cI _ h (z 0) l0 m0 a σ (nI jb) hnσ) (cwV 1 hts gL_law_X4_target rfl rfl rfl (by decide +kernel) ⟨Nat.le_of_ble_eq_true rfl, Nat.le_of_ble_eq_true rfl⟩) ⟨preX_blind, va_recv hK hP (ci := 4) (q0 := 0) rfl rfl, preX_of (hP.sub (ws' := wW h (a 0) (z 0) l0 m0 ++ sW cI a σ) [0, 1, 2, 3, 4, 5, 6] rfl) hK1 hXV (hD.sub (ws' := wW h (a 0) (z 0) l0 m0 ++ sW cI a σ) [0, 1, 2, 3, 4, 5, 6] (by decide) rfl) hTX hS hFc [.ref h, .int (nI jb)]⟩ rfl rfl hl.1 rfl (lv_room (Nat.le_of_ble_eq_true rfl)) dL_law_252 ⟨room_c hce (Nat.le_of_ble_eq_true rfl) (k := 1), room_s hsl (Nat.le_of_ble_eq_true rfl) (k := 6)⟩) hS (fun q _ h => hFc q h) hFc (fun q _ h => hFc q h) (fun E ce9 q9 u9 t9 H1 locs ht hvm hpx hBX9 hz1 hk1 hS hq9 hce9 hcl9 => absurd (F_tgtT hbe) hpx) (fun r9 u9 t9 H1 locs ht hvm hw hB hz1 hk1 hS => ?_)
  obtain ⟨hP1, -, hD1⟩ := hB
  rw [ht] at hP1
  obtain ⟨hT9, hR9, hU9⟩ := hw
  rw [hU9] at hP1 hD1
  obtain ⟨hP, hD⟩ := va_joinQ (wr := dW cI cZ cG cY o rr h b dr δ Y9 ++ sW cI z τ ++ wL l0 mc q9 g ++ mW cI m0 (y 0) w0 f ++ yW cI y ψ) (w1 := wW h (a 0) (z 0) l0 m0 ++ sW cI a σ) hP hD [0, 1, 2, 3, 4, 5, 6] [7, 8, 9, 10, 11, 12, 13, 14, 15, 16, 17, 18, 19, 20, 21, 22, 23, 24] rfl rfl (by decide) (by decide) hk1 hFc hP1 hD1
  generalize H1 = H at hP hS ⊢
  clear ht hvm hz1 hk1 hFc hP1 hD1 hT9 hU9
  have hP : va_P D vwCl (dW cI cZ cG cY o rr h b dr δ Y9 ++ sW cI z τ ++ wL l0 mc q9 g ++ mW cI m0 (y 0) w0 f ++ yW cI y ψ ++ wW h (a 0) (z 0) l0 m0 ++ sW cI a σ ++ (bW cI rr (d_n δ) (d_R δ) ++ xp)) H := hP
  have hD : va_D (lA s) (dW cI cZ cG cY o rr h b dr δ Y9 ++ sW cI z τ ++ wL l0 mc q9 g ++ mW cI m0 (y 0) w0 f ++ yW cI y ψ ++ wW h (a 0) (z 0) l0 m0 ++ sW cI a σ ++ (bW cI rr (d_n δ) (d_R δ) ++ xp)) := hD
  rw [hR9]
  clear hR9
  rw [target_dead hal]
  refine lv_istore (lv' := [(12, .int (-1)), (11, .int (-1)), (10, .int (nI jb)), (9, .int (nI na)), (8, .int (nI (d_n δ))), (7, .int (turnF σ)), (5, .long dg), (4, .int (nI k4)), (3, .ref h), (2, .ref (o 0)), (1, .int (nI k1)), (0, .ref b)]) hx hb dL_law_255 hl (by decide) rfl (fun ls hl => ?_)
  refine lv_iload hx hb dL_law_257 (lv_at hl 1 rfl) ?_
  refine lv_if_ge (tgt := 314) hx hb dL_law_259 (by decide) (fun c_259 => absurd c_259 ((by decide))) (fun c_259 => ?_)
  refine lv_iload hx hb dL_law_262 (lv_at hl 0 rfl) ?_
  refine lv_iconst (v := (-1)) hx hb dL_law_264 (by decide) ?_
  refine lv_icmp_ne (tgt := 312) hx hb dL_law_265 (by decide) (fun c_265 => absurd (rfl) c_265) (fun c_265 => ?_)
  refine lv_aload_n hx hb dL_law_268 rfl (lv_at hl 8 rfl) ?_
  refine lv_iload hx hb dL_law_269 (lv_at hl 2 rfl) ?_
  have hFc := va_free (wc := wW h (a 0) (z 0) l0 m0 ++ sW cI a σ ++ mW cI m0 (y 0) w0 f ++ yW cI y ψ) hD hS hA [18, 19, 20, 21, 22, 23, 24, 13, 14, 15, 16, 17] rfl
  refine vx_calli (vx_runV (As := [.int (nI jb)]) (rest := []) ⟨hx, hb, hml, hown, hts⟩ (c_X4_plan l hst D cI _ h (z 0) l0 m0 w0 a y σ f ψ (nI jb) t hnσ) (cwV 1 hts gL_law_X4_plan rfl rfl rfl (by decide +kernel) ⟨Nat.le_of_ble_eq_true rfl, Nat.le_of_ble_eq_true rfl⟩) ⟨preXS_blind, va_recv hK hP (ci := 4) (q0 := 18) rfl rfl, preXS_of (hP.sub (ws' := wW h (a 0) (z 0) l0 m0 ++ sW cI a σ ++ mW cI m0 (y 0) w0 f ++ yW cI y ψ) [18, 19, 20, 21, 22, 23, 24, 13, 14, 15, 16, 17] rfl) hK1 hXV (hD.sub (ws' := wW h (a 0) (z 0) l0 m0 ++ sW cI a σ ++ mW cI m0 (y 0) w0 f ++ yW cI y ψ) [18, 19, 20, 21, 22, 23, 24, 13, 14, 15, 16, 17] (by decide) rfl) hTX hSX hS hFc [.ref h, .int (nI jb)]⟩ rfl rfl hl.1 rfl (lv_room (Nat.le_of_ble_eq_true rfl)) dL_law_271 ⟨room_c hce (Nat.le_of_ble_eq_true rfl) (k := 2), room_s hsl (Nat.le_of_ble_eq_true rfl) (k := 12)⟩) hS (fun q _ h => hFc q h) hFc (fun q _ h => hFc q h) (fun E ce9 q9 u9 t9 H1 locs ht hvm hpx hBX9 hz1 hk1 hS hq9 hce9 hcl9 => absurd (F_tgtT hbe) hpx) (fun r9 u9 t9 H1 locs ht hvm hw hB hz1 hk1 hS => ?_)
  obtain ⟨hP1, -, hD1⟩ := hB
  rw [ht] at hP1
  obtain ⟨s271, f271, φ271⟩ := u9
  dsimp only at hw hP1 hD1
  obtain ⟨hT9, hR9, hU9⟩ := hw
  rw [hU9] at hP1 hD1
  obtain ⟨hP, hD⟩ := va_joinQ (wr := dW cI cZ cG cY o rr h b dr δ Y9 ++ sW cI z τ ++ wL l0 mc q9 g) (w1 := wW h (a 0) (z 0) l0 m0 ++ sW cI a σ ++ mW cI m0 (y 0) w0 f271 ++ yW cI y φ271) hP hD [18, 19, 20, 21, 22, 23, 24, 13, 14, 15, 16, 17] [0, 1, 2, 3, 4, 5, 6, 7, 8, 9, 10, 11, 12] rfl rfl (by decide) (by decide) hk1 hFc hP1 hD1
  generalize H1 = H at hP hS ⊢
  clear ht hvm hz1 hk1 hFc hP1 hD1 hT9 hU9
  have hP : va_P D vwCl (dW cI cZ cG cY o rr h b dr δ Y9 ++ sW cI z τ ++ wL l0 mc q9 g ++ wW h (a 0) (z 0) l0 m0 ++ sW cI a σ ++ mW cI m0 (y 0) w0 f271 ++ yW cI y φ271 ++ (bW cI rr (d_n δ) (d_R δ) ++ xp)) H := hP
  have hD : va_D (lA s) (dW cI cZ cG cY o rr h b dr δ Y9 ++ sW cI z τ ++ wL l0 mc q9 g ++ wW h (a 0) (z 0) l0 m0 ++ sW cI a σ ++ mW cI m0 (y 0) w0 f271 ++ yW cI y φ271 ++ (bW cI rr (d_n δ) (d_R δ) ++ xp)) := hD
  rw [hR9]
  clear hR9
  rw [plan_dead hal]
  refine lv_iconst (v := (-1)) hx hb dL_law_274 (by decide) ?_
  refine lv_icmp_ne (tgt := 312) hx hb dL_law_275 (by decide) (fun c_275 => absurd (rfl) c_275) (fun c_275 => ?_)
  refine lv_aload_n hx hb dL_law_278 rfl (lv_at hl 8 rfl) ?_
  refine lv_iload hx hb dL_law_279 (lv_at hl 2 rfl) ?_
  refine lv_iconst (v := 0) hx hb dL_law_281 (by decide) ?_
  have hFc := va_free (wc := wW h (a 0) (z 0) l0 m0 ++ sW cI a σ ++ mW cI m0 (y 0) w0 f271 ++ yW cI y φ271) hD hS hA [13, 14, 15, 16, 17, 18, 19, 20, 21, 22, 23, 24] rfl
  refine vx_calli (vx_runV (As := [.int (nI jb), .int 0]) (rest := []) ⟨hx, hb, hml, hown, hts⟩ (c_X4_worth l hst D cI _ h (z 0) l0 m0 w0 a y σ f271 φ271 (nI jb) 0 t hnσ) (cwV 2 hts gL_law_X4_worth rfl rfl rfl (by decide +kernel) ⟨Nat.le_of_ble_eq_true rfl, Nat.le_of_ble_eq_true rfl⟩) ⟨preXS_blind, va_recv hK hP (ci := 4) (q0 := 13) rfl rfl, preXS_of (hP.sub (ws' := wW h (a 0) (z 0) l0 m0 ++ sW cI a σ ++ mW cI m0 (y 0) w0 f271 ++ yW cI y φ271) [13, 14, 15, 16, 17, 18, 19, 20, 21, 22, 23, 24] rfl) hK1 hXV (hD.sub (ws' := wW h (a 0) (z 0) l0 m0 ++ sW cI a σ ++ mW cI m0 (y 0) w0 f271 ++ yW cI y φ271) [13, 14, 15, 16, 17, 18, 19, 20, 21, 22, 23, 24] (by decide) rfl) hTX hSX hS hFc [.ref h, .int (nI jb), .int 0]⟩ rfl rfl hl.1 rfl (lv_room (Nat.le_of_ble_eq_true rfl)) dL_law_282 ⟨room_c hce (Nat.le_of_ble_eq_true rfl) (k := 3), room_s hsl (Nat.le_of_ble_eq_true rfl) (k := 18)⟩) hS (fun q _ h => hFc q h) hFc (fun q _ h => hFc q h) (fun E ce9 q9 u9 t9 H1 locs ht hvm hpx hBX9 hz1 hk1 hS hq9 hce9 hcl9 => absurd (F_worT hbe (by decide)) hpx) (fun r9 u9 t9 H1 locs ht hvm hw hB hz1 hk1 hS => ?_)
  obtain ⟨hP1, -, hD1⟩ := hB
  rw [ht] at hP1
  obtain ⟨s282, f282, φ282⟩ := u9
  dsimp only at hw hP1 hD1
  obtain ⟨hT9, hR9, hU9⟩ := hw
  rw [hU9] at hP1 hD1
  obtain ⟨hP, hD⟩ := va_joinQ (wr := dW cI cZ cG cY o rr h b dr δ Y9 ++ sW cI z τ ++ wL l0 mc q9 g) (w1 := wW h (a 0) (z 0) l0 m0 ++ sW cI a σ ++ mW cI m0 (y 0) w0 f282 ++ yW cI y φ282) hP hD [13, 14, 15, 16, 17, 18, 19, 20, 21, 22, 23, 24] [0, 1, 2, 3, 4, 5, 6, 7, 8, 9, 10, 11, 12] rfl rfl (by decide) (by decide) hk1 hFc hP1 hD1
  generalize H1 = H at hP hS ⊢
  clear ht hvm hz1 hk1 hFc hP1 hD1 hT9 hU9
  have hP : va_P D vwCl (dW cI cZ cG cY o rr h b dr δ Y9 ++ sW cI z τ ++ wL l0 mc q9 g ++ wW h (a 0) (z 0) l0 m0 ++ sW cI a σ ++ mW cI m0 (y 0) w0 f282 ++ yW cI y φ282 ++ (bW cI rr (d_n δ) (d_R δ) ++ xp)) H := hP
  have hD : va_D (lA s) (dW cI cZ cG cY o rr h b dr δ Y9 ++ sW cI z τ ++ wL l0 mc q9 g ++ wW h (a 0) (z 0) l0 m0 ++ sW cI a σ ++ mW cI m0 (y 0) w0 f282 ++ yW cI y φ282 ++ (bW cI rr (d_n δ) (d_R δ) ++ xp)) := hD
  rw [hR9]
  clear hR9
  rw [show worthOfF (worthF σ (nI jb)) 0 = -1000 from (worthOf_at (k := 0) (by decide)).trans (worth_dead hal 0)]
  refine lv_sipush (v := (-1000)) hx hb dL_law_285 (by decide) ?_
  refine lv_icmp_ne (tgt := 312) hx hb dL_law_288 (by decide) (fun c_288 => absurd (rfl) c_288) (fun c_288 => ?_)
  refine lv_aload_n hx hb dL_law_291 rfl (lv_at hl 8 rfl) ?_
  refine lv_iload hx hb dL_law_292 (lv_at hl 2 rfl) ?_
  refine lv_iload hx hb dL_law_294 (lv_at hl 5 rfl) ?_
  refine lv_if_ge (tgt := 304) hx hb dL_law_296 (by decide) (fun c_296 => ?_) (fun c_296 => ?_)
  · refine lv_iload hx hb dL_law_304 (lv_at hl 5 rfl) ?_
    have hFc := va_free (wc := wW h (a 0) (z 0) l0 m0 ++ sW cI a σ) hD hS hA [13, 14, 15, 16, 17, 18, 19] rfl
    refine vx_calli (vx_runV (As := [.int (nI jb), .int (turnF σ)]) (rest := []) ⟨hx, hb, hml, hown, hts⟩ (c_X4_hit l hst D cI _ h (z 0) l0 m0 a σ (nI jb) (turnF σ)) (cwV 2 hts gL_law_X4_hit rfl rfl rfl (by decide +kernel) ⟨Nat.le_of_ble_eq_true rfl, Nat.le_of_ble_eq_true rfl⟩) ⟨preX_blind, va_recv hK hP (ci := 4) (q0 := 13) rfl rfl, preX_of (hP.sub (ws' := wW h (a 0) (z 0) l0 m0 ++ sW cI a σ) [13, 14, 15, 16, 17, 18, 19] rfl) hK1 hXV (hD.sub (ws' := wW h (a 0) (z 0) l0 m0 ++ sW cI a σ) [13, 14, 15, 16, 17, 18, 19] (by decide) rfl) hTX hS hFc [.ref h, .int (nI jb), .int (turnF σ)]⟩ rfl rfl hl.1 rfl (lv_room (Nat.le_of_ble_eq_true rfl)) dL_law_306 ⟨room_c hce (Nat.le_of_ble_eq_true rfl) (k := 4), room_s hsl (Nat.le_of_ble_eq_true rfl) (k := 24)⟩) hS (fun q _ h => hFc q h) hFc (fun q _ h => hFc q h) (fun E ce9 q9 u9 t9 H1 locs ht hvm hpx hBX9 hz1 hk1 hS hq9 hce9 hcl9 => absurd (F_hitT hbe (F_turnb hI (Int32.not_lt.mpr c_296))) hpx) (fun r9 u9 t9 H1 locs ht hvm hw hB hz1 hk1 hS => ?_)
    obtain ⟨hP1, -, hD1⟩ := hB
    rw [ht] at hP1
    obtain ⟨hT9, hR9, hU9⟩ := hw
    rw [hU9] at hP1 hD1
    obtain ⟨hP, hD⟩ := va_joinQ (wr := dW cI cZ cG cY o rr h b dr δ Y9 ++ sW cI z τ ++ wL l0 mc q9 g ++ mW cI m0 (y 0) w0 f282 ++ yW cI y φ282) (w1 := wW h (a 0) (z 0) l0 m0 ++ sW cI a σ) hP hD [13, 14, 15, 16, 17, 18, 19] [0, 1, 2, 3, 4, 5, 6, 7, 8, 9, 10, 11, 12, 20, 21, 22, 23, 24] rfl rfl (by decide) (by decide) hk1 hFc hP1 hD1
    generalize H1 = H at hP hS ⊢
    clear ht hvm hz1 hk1 hFc hP1 hD1 hT9 hU9
    have hP : va_P D vwCl (dW cI cZ cG cY o rr h b dr δ Y9 ++ sW cI z τ ++ wL l0 mc q9 g ++ mW cI m0 (y 0) w0 f282 ++ yW cI y φ282 ++ wW h (a 0) (z 0) l0 m0 ++ sW cI a σ ++ (bW cI rr (d_n δ) (d_R δ) ++ xp)) H := hP
    have hD : va_D (lA s) (dW cI cZ cG cY o rr h b dr δ Y9 ++ sW cI z τ ++ wL l0 mc q9 g ++ mW cI m0 (y 0) w0 f282 ++ yW cI y φ282 ++ wW h (a 0) (z 0) l0 m0 ++ sW cI a σ ++ (bW cI rr (d_n δ) (d_R δ) ++ xp)) := hD
    rw [hR9]
    clear hR9
    rw [hit_dead hal]
    refine lv_if_eq (tgt := 762) hx hb dL_law_309 (by decide) (fun _ => ?_) (fun z9 => absurd (by decide) z9)
    have hP := hP.part (cx := wW h (a 0) (z 0) l0 m0 ++ sW cI a σ ++ dW cI cZ cG cY o rr h b dr δ Y9 ++ sW cI z τ ++ wL l0 mc q9 g ++ mW cI m0 (y 0) w0 f282 ++ yW cI y φ282) [18, 19, 20, 21, 22, 23, 24, 0, 1, 2, 3, 4, 5, 6, 7, 8, 9, 10, 11, 12, 13, 14, 15, 16, 17] rfl
    have hD := hD.part (cx := wW h (a 0) (z 0) l0 m0 ++ sW cI a σ ++ dW cI cZ cG cY o rr h b dr δ Y9 ++ sW cI z τ ++ wL l0 mc q9 g ++ mW cI m0 (y 0) w0 f282 ++ yW cI y φ282) [18, 19, 20, 21, 22, 23, 24, 0, 1, 2, 3, 4, 5, 6, 7, 8, 9, 10, 11, 12, 13, 14, 15, 16, 17] (by decide) rfl
    have hP : va_P D vwCl (wW h (a 0) (z 0) l0 m0 ++ sW cI a σ ++ dW cI cZ cG cY o rr h b dr δ Y9 ++ sW cI z τ ++ wL l0 mc q9 g ++ mW cI m0 (y 0) w0 f282 ++ yW cI y φ282 ++ (bW cI rr (d_n δ) (d_R δ) ++ xp)) H := hP
    have hD : va_D (lA s) (wW h (a 0) (z 0) l0 m0 ++ sW cI a σ ++ dW cI cZ cG cY o rr h b dr δ Y9 ++ sW cI z τ ++ wL l0 mc q9 g ++ mW cI m0 (y 0) w0 f282 ++ yW cI y φ282 ++ (bW cI rr (d_n δ) (d_R δ) ++ xp)) := hD
    exact kk762 f282 φ282 (ce + 4) (sl + 24) (by omega) (by omega) _ _ ls (lv_sub hl [2, 3, 4, 5, 6, 7, 8, 9, 10, 11] rfl) hP hD hS
  · refine lv_iload hx hb dL_law_299 (lv_at hl 2 rfl) ?_
    refine lv_goto (tgt := 306) hx hb dL_law_301 (by decide) ?_
    have hFc := va_free (wc := wW h (a 0) (z 0) l0 m0 ++ sW cI a σ) hD hS hA [13, 14, 15, 16, 17, 18, 19] rfl
    refine vx_calli (vx_runV (As := [.int (nI jb), .int (nI jb)]) (rest := []) ⟨hx, hb, hml, hown, hts⟩ (c_X4_hit l hst D cI _ h (z 0) l0 m0 a σ (nI jb) (nI jb)) (cwV 2 hts gL_law_X4_hit rfl rfl rfl (by decide +kernel) ⟨Nat.le_of_ble_eq_true rfl, Nat.le_of_ble_eq_true rfl⟩) ⟨preX_blind, va_recv hK hP (ci := 4) (q0 := 13) rfl rfl, preX_of (hP.sub (ws' := wW h (a 0) (z 0) l0 m0 ++ sW cI a σ) [13, 14, 15, 16, 17, 18, 19] rfl) hK1 hXV (hD.sub (ws' := wW h (a 0) (z 0) l0 m0 ++ sW cI a σ) [13, 14, 15, 16, 17, 18, 19] (by decide) rfl) hTX hS hFc [.ref h, .int (nI jb), .int (nI jb)]⟩ rfl rfl hl.1 rfl (lv_room (Nat.le_of_ble_eq_true rfl)) dL_law_306 ⟨room_c hce (Nat.le_of_ble_eq_true rfl) (k := 4), room_s hsl (Nat.le_of_ble_eq_true rfl) (k := 24)⟩) hS (fun q _ h => hFc q h) hFc (fun q _ h => hFc q h) (fun E ce9 q9 u9 t9 H1 locs ht hvm hpx hBX9 hz1 hk1 hS hq9 hce9 hcl9 => absurd (F_hitT hbe hbe) hpx) (fun r9 u9 t9 H1 locs ht hvm hw hB hz1 hk1 hS => ?_)
    obtain ⟨hP1, -, hD1⟩ := hB
    rw [ht] at hP1
    obtain ⟨hT9, hR9, hU9⟩ := hw
    rw [hU9] at hP1 hD1
    obtain ⟨hP, hD⟩ := va_joinQ (wr := dW cI cZ cG cY o rr h b dr δ Y9 ++ sW cI z τ ++ wL l0 mc q9 g ++ mW cI m0 (y 0) w0 f282 ++ yW cI y φ282) (w1 := wW h (a 0) (z 0) l0 m0 ++ sW cI a σ) hP hD [13, 14, 15, 16, 17, 18, 19] [0, 1, 2, 3, 4, 5, 6, 7, 8, 9, 10, 11, 12, 20, 21, 22, 23, 24] rfl rfl (by decide) (by decide) hk1 hFc hP1 hD1
    generalize H1 = H at hP hS ⊢
    clear ht hvm hz1 hk1 hFc hP1 hD1 hT9 hU9
    have hP : va_P D vwCl (dW cI cZ cG cY o rr h b dr δ Y9 ++ sW cI z τ ++ wL l0 mc q9 g ++ mW cI m0 (y 0) w0 f282 ++ yW cI y φ282 ++ wW h (a 0) (z 0) l0 m0 ++ sW cI a σ ++ (bW cI rr (d_n δ) (d_R δ) ++ xp)) H := hP
    have hD : va_D (lA s) (dW cI cZ cG cY o rr h b dr δ Y9 ++ sW cI z τ ++ wL l0 mc q9 g ++ mW cI m0 (y 0) w0 f282 ++ yW cI y φ282 ++ wW h (a 0) (z 0) l0 m0 ++ sW cI a σ ++ (bW cI rr (d_n δ) (d_R δ) ++ xp)) := hD
    rw [hR9]
    clear hR9
    rw [hit_dead hal]
    refine lv_if_eq (tgt := 762) hx hb dL_law_309 (by decide) (fun _ => ?_) (fun z9 => absurd (by decide) z9)
    have hP := hP.part (cx := wW h (a 0) (z 0) l0 m0 ++ sW cI a σ ++ dW cI cZ cG cY o rr h b dr δ Y9 ++ sW cI z τ ++ wL l0 mc q9 g ++ mW cI m0 (y 0) w0 f282 ++ yW cI y φ282) [18, 19, 20, 21, 22, 23, 24, 0, 1, 2, 3, 4, 5, 6, 7, 8, 9, 10, 11, 12, 13, 14, 15, 16, 17] rfl
    have hD := hD.part (cx := wW h (a 0) (z 0) l0 m0 ++ sW cI a σ ++ dW cI cZ cG cY o rr h b dr δ Y9 ++ sW cI z τ ++ wL l0 mc q9 g ++ mW cI m0 (y 0) w0 f282 ++ yW cI y φ282) [18, 19, 20, 21, 22, 23, 24, 0, 1, 2, 3, 4, 5, 6, 7, 8, 9, 10, 11, 12, 13, 14, 15, 16, 17] (by decide) rfl
    have hP : va_P D vwCl (wW h (a 0) (z 0) l0 m0 ++ sW cI a σ ++ dW cI cZ cG cY o rr h b dr δ Y9 ++ sW cI z τ ++ wL l0 mc q9 g ++ mW cI m0 (y 0) w0 f282 ++ yW cI y φ282 ++ (bW cI rr (d_n δ) (d_R δ) ++ xp)) H := hP
    have hD : va_D (lA s) (wW h (a 0) (z 0) l0 m0 ++ sW cI a σ ++ dW cI cZ cG cY o rr h b dr δ Y9 ++ sW cI z τ ++ wL l0 mc q9 g ++ mW cI m0 (y 0) w0 f282 ++ yW cI y φ282 ++ (bW cI rr (d_n δ) (d_R δ) ++ xp)) := hD
    exact kk762 f282 φ282 (ce + 4) (sl + 24) (by omega) (by omega) _ _ ls (lv_sub hl [2, 3, 4, 5, 6, 7, 8, 9, 10, 11] rfl) hP hD hS
end LAW28
