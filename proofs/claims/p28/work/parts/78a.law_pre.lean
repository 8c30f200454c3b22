-- ===== the law: law_pre =====
section LAW28
variable {p : Program} {l : Launch} {e : Env} {s : State} {m : MethodId} {below : List Frame} {meth : Method} {c : Code} {b L : Nat} {xs : Nat → Int32} {D : va_G} {cI cZ cG cY : ClassId} {t e0 : Nat}
set_option maxHeartbeats 4000000 in
set_option maxRecDepth 100000 in
/-- what each being shows -/
theorem law_pre {h l0 m0 w0 q9 g : Nat} {a z y o rr : Nat → Nat} {mc : Int32} {f : Nat → Int32} {σ τ : SS} {δ : DD} {ψ : YS} {Y9 : RW} {dr : Nat} {xp : va_W} {ce sl : Nat} {H : Heap} {locs : List Loc} {ls : Array Slot} {jb na k1 k4 K : Nat} {dg : Int64} {x1 : Int32} {lf mo mm : Nat} (E0 : lawE p s m meth c b L xs D cI cZ cG cY t e0) (hst : l.stackTraces = false) (hI : IR K σ δ) (hn6 : d_n δ ≤ 6) (hjb : jb < d_n δ) (e1 : traitF σ (nI jb) 1 = x1) (e2 : traitF σ (nI jb) 2 = nI lf) (e3 : traitF σ (nI jb) 3 = nI mo) (e7 : traitF σ (nI jb) 7 = nI mm) (hlm : lf ≤ mo) (hmo : mo ≤ 60) (hmm : mm ≤ 9) (hcl : x1 < 0 ↔ lf = 0) (hce0 : ce ≤ 400000) (hsl0 : sl ≤ 4000000) (hl : lv_has ls 19 [(10, .int (nI jb)), (9, .int (nI na)), (8, .int (nI (d_n δ))), (7, .int (turnF σ)), (5, .long dg), (4, .int (nI k4)), (3, .ref h), (2, .ref (o 0)), (1, .int (nI k1)), (0, .ref b)]) (hP : va_P D vwCl (wW h (a 0) (z 0) l0 m0 ++ sW cI a σ ++ dW cI cZ cG cY o rr h b dr δ Y9 ++ sW cI z τ ++ wL l0 mc q9 g ++ mW cI m0 (y 0) w0 f ++ yW cI y ψ ++ (bW cI rr (d_n δ) (d_R δ) ++ xp)) H) (hD : va_D (lA s) (wW h (a 0) (z 0) l0 m0 ++ sW cI a σ ++ dW cI cZ cG cY o rr h b dr δ Y9 ++ sW cI z τ ++ wL l0 mc q9 g ++ mW cI m0 (y 0) w0 f ++ yW cI y ψ ++ (bW cI rr (d_n δ) (d_R δ) ++ xp))) (hS : va_S (lA s) s.heap H locs)
    (kk249 : ∀  (ce1 sl1 : Nat) (hc1 : ce1 ≤ ce + 30) (hs1 : sl1 ≤ sl + 180) (H : Heap) (locs : List Loc) (ls : Array Slot), lv_has ls 19 [(11, .int x1), (10, .int (nI jb)), (9, .int (nI na)), (8, .int (nI (d_n δ))), (7, .int (turnF σ)), (5, .long dg), (4, .int (nI k4)), (3, .ref h), (2, .ref (o 0)), (1, .int (nI k1)), (0, .ref b)] → va_P D vwCl (wW h (a 0) (z 0) l0 m0 ++ sW cI a σ ++ dW cI cZ cG cY o rr h b dr δ Y9 ++ sW cI z τ ++ wL l0 mc q9 g ++ mW cI m0 (y 0) w0 f ++ yW cI y ψ ++ (bW cI rr (d_n δ) (d_R δ) ++ xp)) H → va_D (lA s) (wW h (a 0) (z 0) l0 m0 ++ sW cI a σ ++ dW cI cZ cG cY o rr h b dr δ Y9 ++ sW cI z τ ++ wL l0 mc q9 g ++ mW cI m0 (y 0) w0 f ++ yW cI y ψ ++ (bW cI rr (d_n δ) (d_R δ) ++ xp)) → va_S (lA s) s.heap H locs → W p l e room_1 s m #[Value.ref b] below meth c H locs ce1 sl1 (lw_Z below #[Value.ref b] s) (F0 m 249 ls [])) : W p l e room_1 s m #[Value.ref b] below meth c H locs ce sl (lw_Z below #[Value.ref b] s) (F0 m 112 ls []) := by
  obtain ⟨C0, hK, hGX, hEX, hNX⟩ := id E0
  obtain ⟨hx, hb, hr, hml, hown, hts, hX, hbl, hlocks, hgv⟩ := id C0
  obtain ⟨hXV, hTX, hN, hSX, hG, hBX, hnc, hnb, hov⟩ := id hGX
  have hK1 := K_D hK
  have hE := hXV.1
  have hA : ∀ q : Nat, s.heap.size ≤ q → lA s q := fun _ h => h
  have hce : ce ≤ 500000 := by omega
  have hsl : sl ≤ 5000000 := by omega
  have hn10 : d_n δ ≤ 10 := by omega
  have hnσ : s_n σ ≤ 10 := by rw [hI.1.1]; exact hn10
  have hbe : beingB σ (nI jb) = true := being_T hI hjb
  refine lv_aload_n hx hb dL_law_112 rfl (lv_at hl 6 rfl) ?_
  refine lv_iload hx hb dL_law_113 (lv_at hl 0 rfl) ?_
  refine lv_iconst (v := 1) hx hb dL_law_115 (by decide) ?_
  have hFc := va_free (wc := wW h (a 0) (z 0) l0 m0 ++ sW cI a σ) hD hS hA [0, 1, 2, 3, 4, 5, 6] rfl
  refine vx_calli (vx_runV (As := [.int (nI jb), .int 1]) (rest := []) ⟨hx, hb, hml, hown, hts⟩ (c_X4_of l hst D cI _ h (z 0) l0 m0 a σ (nI jb) 1) (cwV 2 hts gL_law_X4_of rfl rfl rfl (by decide +kernel) ⟨Nat.le_of_ble_eq_true rfl, Nat.le_of_ble_eq_true rfl⟩) ⟨preX_blind, va_recv hK hP (ci := 4) (q0 := 0) rfl rfl, preX_of (hP.sub (ws' := wW h (a 0) (z 0) l0 m0 ++ sW cI a σ) [0, 1, 2, 3, 4, 5, 6] rfl) hK1 hXV (hD.sub (ws' := wW h (a 0) (z 0) l0 m0 ++ sW cI a σ) [0, 1, 2, 3, 4, 5, 6] (by decide) rfl) hTX hS hFc [.ref h, .int (nI jb), .int 1]⟩ rfl rfl hl.1 rfl (lv_room (Nat.le_of_ble_eq_true rfl)) dL_law_116 ⟨room_c hce (Nat.le_of_ble_eq_true rfl) (k := 1), room_s hsl (Nat.le_of_ble_eq_true rfl) (k := 6)⟩) hS (fun q _ h => hFc q h) hFc (fun q _ h => hFc q h) (fun E ce9 q9 u9 t9 H1 locs ht hvm hpx hBX9 hz1 hk1 hS hq9 hce9 hcl9 => absurd (F_of hbe (by decide)) hpx) (fun r9 u9 t9 H1 locs ht hvm hw hB hz1 hk1 hS => ?_)
  obtain ⟨hP1, -, hD1⟩ := hB
  rw [ht] at hP1
  obtain ⟨hT9, hR9, hU9⟩ := hw
  rw [hU9] at hP1 hD1
  obtain ⟨hP, hD⟩ := va_joinQ (wr := dW cI cZ cG cY o rr h b dr δ Y9 ++ sW cI z τ ++ wL l0 mc q9 g ++ mW cI m0 (y 0) w0 f ++ yW cI y ψ) (w1 := wW h (a 0) (z 0) l0 m0 ++ sW cI a σ) hP hD [0, 1, 2, 3, 4, 5, 6] [7, 8, 9, 10, 11, 12, 13, 14, 15, 16, 17, 18, 19, 20, 21, 22, 23, 24] rfl rfl (by decide) (by decide) hk1 hFc hP1 hD1
  generalize H1 = H at hP hS ⊢
  clear ht hvm hz1 hk1 hFc hP1 hD1 hT9 hU9
  have hP : va_P D vwCl (dW cI cZ cG cY o rr h b dr δ Y9 ++ sW cI z τ ++ wL l0 mc q9 g ++ mW cI m0 (y 0) w0 f ++ yW cI y ψ ++ wW h (a 0) (z 0) l0 m0 ++ sW cI a σ ++ (bW cI rr (d_n δ) (d_R δ) ++ xp)) H := hP
  have hD : va_D (lA s) (dW cI cZ cG cY o rr h b dr δ Y9 ++ sW cI z τ ++ wL l0 mc q9 g ++ mW cI m0 (y 0) w0 f ++ yW cI y ψ ++ wW h (a 0) (z 0) l0 m0 ++ sW cI a σ ++ (bW cI rr (d_n δ) (d_R δ) ++ xp)) := hD
  rw [hR9]
  clear hR9
  rw [F_ans (by decide)]
  rw [e1]
  refine lv_istore (lv' := [(11, .int x1), (10, .int (nI jb)), (9, .int (nI na)), (8, .int (nI (d_n δ))), (7, .int (turnF σ)), (5, .long dg), (4, .int (nI k4)), (3, .ref h), (2, .ref (o 0)), (1, .int (nI k1)), (0, .ref b)]) hx hb dL_law_119 hl (by decide) rfl (fun ls hl => ?_)
  refine lv_iconst (v := 0) hx hb dL_law_121 (by decide) ?_
  refine lv_istore (lv' := [(12, .int 0), (11, .int x1), (10, .int (nI jb)), (9, .int (nI na)), (8, .int (nI (d_n δ))), (7, .int (turnF σ)), (5, .long dg), (4, .int (nI k4)), (3, .ref h), (2, .ref (o 0)), (1, .int (nI k1)), (0, .ref b)]) hx hb dL_law_122 hl (by decide) rfl (fun ls hl => ?_)
  have hP := hP.part (cx := wW h (a 0) (z 0) l0 m0 ++ sW cI a σ ++ dW cI cZ cG cY o rr h b dr δ Y9 ++ sW cI z τ ++ wL l0 mc q9 g ++ mW cI m0 (y 0) w0 f ++ yW cI y ψ) [18, 19, 20, 21, 22, 23, 24, 0, 1, 2, 3, 4, 5, 6, 7, 8, 9, 10, 11, 12, 13, 14, 15, 16, 17] rfl
  have hD := hD.part (cx := wW h (a 0) (z 0) l0 m0 ++ sW cI a σ ++ dW cI cZ cG cY o rr h b dr δ Y9 ++ sW cI z τ ++ wL l0 mc q9 g ++ mW cI m0 (y 0) w0 f ++ yW cI y ψ) [18, 19, 20, 21, 22, 23, 24, 0, 1, 2, 3, 4, 5, 6, 7, 8, 9, 10, 11, 12, 13, 14, 15, 16, 17] (by decide) rfl
  have hP : va_P D vwCl (wW h (a 0) (z 0) l0 m0 ++ sW cI a σ ++ dW cI cZ cG cY o rr h b dr δ Y9 ++ sW cI z τ ++ wL l0 mc q9 g ++ mW cI m0 (y 0) w0 f ++ yW cI y ψ ++ (bW cI rr (d_n δ) (d_R δ) ++ xp)) H := hP
  have hD : va_D (lA s) (wW h (a 0) (z 0) l0 m0 ++ sW cI a σ ++ dW cI cZ cG cY o rr h b dr δ Y9 ++ sW cI z τ ++ wL l0 mc q9 g ++ mW cI m0 (y 0) w0 f ++ yW cI y ψ ++ (bW cI rr (d_n δ) (d_R δ) ++ xp)) := hD
  have L124 : ∀ (n5 k5 ce5 sl5 : Nat) (hk5 : k5 + n5 = 5) (hcb5 : ce5 ≤ ce + 1 + 3 * k5) (hsb5 : sl5 ≤ sl + 6 + 18 * k5) (H : Heap) (locs : List Loc) (ls : Array Slot), lv_has ls 19 [(12, .int (nI k5)), (11, .int x1), (10, .int (nI jb)), (9, .int (nI na)), (8, .int (nI (d_n δ))), (7, .int (turnF σ)), (5, .long dg), (4, .int (nI k4)), (3, .ref h), (2, .ref (o 0)), (1, .int (nI k1)), (0, .ref b)] → va_P D vwCl (wW h (a 0) (z 0) l0 m0 ++ sW cI a σ ++ dW cI cZ cG cY o rr h b dr δ Y9 ++ sW cI z τ ++ wL l0 mc q9 g ++ mW cI m0 (y 0) w0 f ++ yW cI y ψ ++ (bW cI rr (d_n δ) (d_R δ) ++ xp)) H → va_D (lA s) (wW h (a 0) (z 0) l0 m0 ++ sW cI a σ ++ dW cI cZ cG cY o rr h b dr δ Y9 ++ sW cI z τ ++ wL l0 mc q9 g ++ mW cI m0 (y 0) w0 f ++ yW cI y ψ ++ (bW cI rr (d_n δ) (d_R δ) ++ xp)) → va_S (lA s) s.heap H locs → W p l e room_1 s m #[Value.ref b] below meth c H locs ce5 sl5 (lw_Z below #[Value.ref b] s) (F0 m 124 ls []) := by
    intro n5
    induction n5 with
    | zero =>
      intro k5 ce5 sl5 hk5 hcb5 hsb5 H locs ls hl hP hD hS
      have hce5 : ce5 ≤ 500000 := by omega
      have hsl5 : sl5 ≤ 5000000 := by omega
      refine lv_iload hx hb dL_law_124 (lv_at hl 0 rfl) ?_
      refine lv_iconst (v := 5) hx hb dL_law_126 (by decide) ?_
      refine lv_icmp_ge (tgt := 189) hx hb dL_law_127 (by decide) (fun c_127 => ?_) (fun c_127 => absurd (nI_le (a := 5) (by omega) (by omega)) c_127)
      refine lv_aload_n hx hb dL_law_189 rfl (lv_at hl 8 rfl) ?_
      refine lv_iload hx hb dL_law_190 (lv_at hl 2 rfl) ?_
      refine lv_iconst (v := 2) hx hb dL_law_192 (by decide) ?_
      have hFc := va_free (wc := wW h (a 0) (z 0) l0 m0 ++ sW cI a σ) hD hS hA [0, 1, 2, 3, 4, 5, 6] rfl
      refine vx_calli (vx_runV (As := [.int (nI jb), .int 2]) (rest := []) ⟨hx, hb, hml, hown, hts⟩ (c_X4_of l hst D cI _ h (z 0) l0 m0 a σ (nI jb) 2) (cwV 2 hts gL_law_X4_of rfl rfl rfl (by decide +kernel) ⟨Nat.le_of_ble_eq_true rfl, Nat.le_of_ble_eq_true rfl⟩) ⟨preX_blind, va_recv hK hP (ci := 4) (q0 := 0) rfl rfl, preX_of (hP.sub (ws' := wW h (a 0) (z 0) l0 m0 ++ sW cI a σ) [0, 1, 2, 3, 4, 5, 6] rfl) hK1 hXV (hD.sub (ws' := wW h (a 0) (z 0) l0 m0 ++ sW cI a σ) [0, 1, 2, 3, 4, 5, 6] (by decide) rfl) hTX hS hFc [.ref h, .int (nI jb), .int 2]⟩ rfl rfl hl.1 rfl (lv_room (Nat.le_of_ble_eq_true rfl)) dL_law_193 ⟨room_c hce5 (Nat.le_of_ble_eq_true rfl) (k := 1), room_s hsl5 (Nat.le_of_ble_eq_true rfl) (k := 6)⟩) hS (fun q _ h => hFc q h) hFc (fun q _ h => hFc q h) (fun E ce9 q9 u9 t9 H1 locs ht hvm hpx hBX9 hz1 hk1 hS hq9 hce9 hcl9 => absurd (F_of hbe (by decide)) hpx) (fun r9 u9 t9 H1 locs ht hvm hw hB hz1 hk1 hS => ?_)
      obtain ⟨hP1, -, hD1⟩ := hB
      rw [ht] at hP1
      obtain ⟨hT9, hR9, hU9⟩ := hw
      rw [hU9] at hP1 hD1
      obtain ⟨hP, hD⟩ := va_joinQ (wr := dW cI cZ cG cY o rr h b dr δ Y9 ++ sW cI z τ ++ wL l0 mc q9 g ++ mW cI m0 (y 0) w0 f ++ yW cI y ψ) (w1 := wW h (a 0) (z 0) l0 m0 ++ sW cI a σ) hP hD [0, 1, 2, 3, 4, 5, 6] [7, 8, 9, 10, 11, 12, 13, 14, 15, 16, 17, 18, 19, 20, 21, 22, 23, 24] rfl rfl (by decide) (by decide) hk1 hFc hP1 hD1
      generalize H1 = H at hP hS ⊢
      clear ht hvm hz1 hk1 hFc hP1 hD1 hT9 hU9
      have hP : va_P D vwCl (dW cI cZ cG cY o rr h b dr δ Y9 ++ sW cI z τ ++ wL l0 mc q9 g ++ mW cI m0 (y 0) w0 f ++ yW cI y ψ ++ wW h (a 0) (z 0) l0 m0 ++ sW cI a σ ++ (bW cI rr (d_n δ) (d_R δ) ++ xp)) H := hP
      have hD : va_D (lA s) (dW cI cZ cG cY o rr h b dr δ Y9 ++ sW cI z τ ++ wL l0 mc q9 g ++ mW cI m0 (y 0) w0 f ++ yW cI y ψ ++ wW h (a 0) (z 0) l0 m0 ++ sW cI a σ ++ (bW cI rr (d_n δ) (d_R δ) ++ xp)) := hD
      rw [hR9]
      clear hR9
      rw [F_ans (by decide)]
      rw [e2]
      refine lv_aload_n hx hb dL_law_196 rfl (lv_at hl 8 rfl) ?_
      refine lv_iload hx hb dL_law_197 (lv_at hl 2 rfl) ?_
      refine lv_iconst (v := 3) hx hb dL_law_199 (by decide) ?_
      have hFc := va_free (wc := wW h (a 0) (z 0) l0 m0 ++ sW cI a σ) hD hS hA [18, 19, 20, 21, 22, 23, 24] rfl
      refine vx_calli (vx_runV (As := [.int (nI jb), .int 3]) (rest := [.int (nI lf)]) ⟨hx, hb, hml, hown, hts⟩ (c_X4_of l hst D cI _ h (z 0) l0 m0 a σ (nI jb) 3) (cwV 2 hts gL_law_X4_of rfl rfl rfl (by decide +kernel) ⟨Nat.le_of_ble_eq_true rfl, Nat.le_of_ble_eq_true rfl⟩) ⟨preX_blind, va_recv hK hP (ci := 4) (q0 := 18) rfl rfl, preX_of (hP.sub (ws' := wW h (a 0) (z 0) l0 m0 ++ sW cI a σ) [18, 19, 20, 21, 22, 23, 24] rfl) hK1 hXV (hD.sub (ws' := wW h (a 0) (z 0) l0 m0 ++ sW cI a σ) [18, 19, 20, 21, 22, 23, 24] (by decide) rfl) hTX hS hFc [.ref h, .int (nI jb), .int 3]⟩ rfl rfl hl.1 rfl (lv_room (Nat.le_of_ble_eq_true rfl)) dL_law_200 ⟨room_c hce5 (Nat.le_of_ble_eq_true rfl) (k := 2), room_s hsl5 (Nat.le_of_ble_eq_true rfl) (k := 12)⟩) hS (fun q _ h => hFc q h) hFc (fun q _ h => hFc q h) (fun E ce9 q9 u9 t9 H1 locs ht hvm hpx hBX9 hz1 hk1 hS hq9 hce9 hcl9 => absurd (F_of hbe (by decide)) hpx) (fun r9 u9 t9 H1 locs ht hvm hw hB hz1 hk1 hS => ?_)
      obtain ⟨hP1, -, hD1⟩ := hB
      rw [ht] at hP1
      obtain ⟨hT9, hR9, hU9⟩ := hw
      rw [hU9] at hP1 hD1
      obtain ⟨hP, hD⟩ := va_joinQ (wr := dW cI cZ cG cY o rr h b dr δ Y9 ++ sW cI z τ ++ wL l0 mc q9 g ++ mW cI m0 (y 0) w0 f ++ yW cI y ψ) (w1 := wW h (a 0) (z 0) l0 m0 ++ sW cI a σ) hP hD [18, 19, 20, 21, 22, 23, 24] [0, 1, 2, 3, 4, 5, 6, 7, 8, 9, 10, 11, 12, 13, 14, 15, 16, 17] rfl rfl (by decide) (by decide) hk1 hFc hP1 hD1
      generalize H1 = H at hP hS ⊢
      clear ht hvm hz1 hk1 hFc hP1 hD1 hT9 hU9
      have hP : va_P D vwCl (dW cI cZ cG cY o rr h b dr δ Y9 ++ sW cI z τ ++ wL l0 mc q9 g ++ mW cI m0 (y 0) w0 f ++ yW cI y ψ ++ wW h (a 0) (z 0) l0 m0 ++ sW cI a σ ++ (bW cI rr (d_n δ) (d_R δ) ++ xp)) H := hP
      have hD : va_D (lA s) (dW cI cZ cG cY o rr h b dr δ Y9 ++ sW cI z τ ++ wL l0 mc q9 g ++ mW cI m0 (y 0) w0 f ++ yW cI y ψ ++ wW h (a 0) (z 0) l0 m0 ++ sW cI a σ ++ (bW cI rr (d_n δ) (d_R δ) ++ xp)) := hD
      rw [hR9]
      clear hR9
      rw [F_ans (by decide)]
      rw [e3]
      refine lv_icmp_gt (tgt := 247) hx hb dL_law_203 (by decide) (fun c_203 => absurd c_203 ((nI_nlt hlm (by omega)))) (fun c_203 => ?_)
      refine lv_aload_n hx hb dL_law_206 rfl (lv_at hl 8 rfl) ?_
      refine lv_iload hx hb dL_law_207 (lv_at hl 2 rfl) ?_
      refine lv_bipush (v := 7) hx hb dL_law_209 (by decide) ?_
      have hFc := va_free (wc := wW h (a 0) (z 0) l0 m0 ++ sW cI a σ) hD hS hA [18, 19, 20, 21, 22, 23, 24] rfl
      refine vx_calli (vx_runV (As := [.int (nI jb), .int 7]) (rest := []) ⟨hx, hb, hml, hown, hts⟩ (c_X4_of l hst D cI _ h (z 0) l0 m0 a σ (nI jb) 7) (cwV 2 hts gL_law_X4_of rfl rfl rfl (by decide +kernel) ⟨Nat.le_of_ble_eq_true rfl, Nat.le_of_ble_eq_true rfl⟩) ⟨preX_blind, va_recv hK hP (ci := 4) (q0 := 18) rfl rfl, preX_of (hP.sub (ws' := wW h (a 0) (z 0) l0 m0 ++ sW cI a σ) [18, 19, 20, 21, 22, 23, 24] rfl) hK1 hXV (hD.sub (ws' := wW h (a 0) (z 0) l0 m0 ++ sW cI a σ) [18, 19, 20, 21, 22, 23, 24] (by decide) rfl) hTX hS hFc [.ref h, .int (nI jb), .int 7]⟩ rfl rfl hl.1 rfl (lv_room (Nat.le_of_ble_eq_true rfl)) dL_law_211 ⟨room_c hce5 (Nat.le_of_ble_eq_true rfl) (k := 3), room_s hsl5 (Nat.le_of_ble_eq_true rfl) (k := 18)⟩) hS (fun q _ h => hFc q h) hFc (fun q _ h => hFc q h) (fun E ce9 q9 u9 t9 H1 locs ht hvm hpx hBX9 hz1 hk1 hS hq9 hce9 hcl9 => absurd (F_of hbe (by decide)) hpx) (fun r9 u9 t9 H1 locs ht hvm hw hB hz1 hk1 hS => ?_)
      obtain ⟨hP1, -, hD1⟩ := hB
      rw [ht] at hP1
      obtain ⟨hT9, hR9, hU9⟩ := hw
      rw [hU9] at hP1 hD1
      obtain ⟨hP, hD⟩ := va_joinQ (wr := dW cI cZ cG cY o rr h b dr δ Y9 ++ sW cI z τ ++ wL l0 mc q9 g ++ mW cI m0 (y 0) w0 f ++ yW cI y ψ) (w1 := wW h (a 0) (z 0) l0 m0 ++ sW cI a σ) hP hD [18, 19, 20, 21, 22, 23, 24] [0, 1, 2, 3, 4, 5, 6, 7, 8, 9, 10, 11, 12, 13, 14, 15, 16, 17] rfl rfl (by decide) (by decide) hk1 hFc hP1 hD1
      generalize H1 = H at hP hS ⊢
      clear ht hvm hz1 hk1 hFc hP1 hD1 hT9 hU9
      have hP : va_P D vwCl (dW cI cZ cG cY o rr h b dr δ Y9 ++ sW cI z τ ++ wL l0 mc q9 g ++ mW cI m0 (y 0) w0 f ++ yW cI y ψ ++ wW h (a 0) (z 0) l0 m0 ++ sW cI a σ ++ (bW cI rr (d_n δ) (d_R δ) ++ xp)) H := hP
      have hD : va_D (lA s) (dW cI cZ cG cY o rr h b dr δ Y9 ++ sW cI z τ ++ wL l0 mc q9 g ++ mW cI m0 (y 0) w0 f ++ yW cI y ψ ++ wW h (a 0) (z 0) l0 m0 ++ sW cI a σ ++ (bW cI rr (d_n δ) (d_R δ) ++ xp)) := hD
      rw [hR9]
      clear hR9
      rw [F_ans (by decide)]
      rw [e7]
      refine lv_bipush (v := 9) hx hb dL_law_214 (by decide) ?_
      refine lv_icmp_gt (tgt := 247) hx hb dL_law_216 (by decide) (fun c_216 => absurd c_216 ((nI_nlt (a := 9) hmm (by decide)))) (fun c_216 => ?_)
      refine lv_iload hx hb dL_law_219 (lv_at hl 1 rfl) ?_
      refine lv_if_ge (tgt := 228) hx hb dL_law_221 (by decide) (fun c_221 => ?_) (fun c_221 => ?_)
      · refine lv_iconst (v := 0) hx hb dL_law_228 (by decide) ?_
        refine lv_aload_n hx hb dL_law_229 rfl (lv_at hl 8 rfl) ?_
        refine lv_iload hx hb dL_law_230 (lv_at hl 2 rfl) ?_
        refine lv_iconst (v := 2) hx hb dL_law_232 (by decide) ?_
        have hFc := va_free (wc := wW h (a 0) (z 0) l0 m0 ++ sW cI a σ) hD hS hA [18, 19, 20, 21, 22, 23, 24] rfl
        refine vx_calli (vx_runV (As := [.int (nI jb), .int 2]) (rest := [.int 0]) ⟨hx, hb, hml, hown, hts⟩ (c_X4_of l hst D cI _ h (z 0) l0 m0 a σ (nI jb) 2) (cwV 2 hts gL_law_X4_of rfl rfl rfl (by decide +kernel) ⟨Nat.le_of_ble_eq_true rfl, Nat.le_of_ble_eq_true rfl⟩) ⟨preX_blind, va_recv hK hP (ci := 4) (q0 := 18) rfl rfl, preX_of (hP.sub (ws' := wW h (a 0) (z 0) l0 m0 ++ sW cI a σ) [18, 19, 20, 21, 22, 23, 24] rfl) hK1 hXV (hD.sub (ws' := wW h (a 0) (z 0) l0 m0 ++ sW cI a σ) [18, 19, 20, 21, 22, 23, 24] (by decide) rfl) hTX hS hFc [.ref h, .int (nI jb), .int 2]⟩ rfl rfl hl.1 rfl (lv_room (Nat.le_of_ble_eq_true rfl)) dL_law_233 ⟨room_c hce5 (Nat.le_of_ble_eq_true rfl) (k := 4), room_s hsl5 (Nat.le_of_ble_eq_true rfl) (k := 24)⟩) hS (fun q _ h => hFc q h) hFc (fun q _ h => hFc q h) (fun E ce9 q9 u9 t9 H1 locs ht hvm hpx hBX9 hz1 hk1 hS hq9 hce9 hcl9 => absurd (F_of hbe (by decide)) hpx) (fun r9 u9 t9 H1 locs ht hvm hw hB hz1 hk1 hS => ?_)
        obtain ⟨hP1, -, hD1⟩ := hB
        rw [ht] at hP1
        obtain ⟨hT9, hR9, hU9⟩ := hw
        rw [hU9] at hP1 hD1
        obtain ⟨hP, hD⟩ := va_joinQ (wr := dW cI cZ cG cY o rr h b dr δ Y9 ++ sW cI z τ ++ wL l0 mc q9 g ++ mW cI m0 (y 0) w0 f ++ yW cI y ψ) (w1 := wW h (a 0) (z 0) l0 m0 ++ sW cI a σ) hP hD [18, 19, 20, 21, 22, 23, 24] [0, 1, 2, 3, 4, 5, 6, 7, 8, 9, 10, 11, 12, 13, 14, 15, 16, 17] rfl rfl (by decide) (by decide) hk1 hFc hP1 hD1
        generalize H1 = H at hP hS ⊢
        clear ht hvm hz1 hk1 hFc hP1 hD1 hT9 hU9
        have hP : va_P D vwCl (dW cI cZ cG cY o rr h b dr δ Y9 ++ sW cI z τ ++ wL l0 mc q9 g ++ mW cI m0 (y 0) w0 f ++ yW cI y ψ ++ wW h (a 0) (z 0) l0 m0 ++ sW cI a σ ++ (bW cI rr (d_n δ) (d_R δ) ++ xp)) H := hP
        have hD : va_D (lA s) (dW cI cZ cG cY o rr h b dr δ Y9 ++ sW cI z τ ++ wL l0 mc q9 g ++ mW cI m0 (y 0) w0 f ++ yW cI y ψ ++ wW h (a 0) (z 0) l0 m0 ++ sW cI a σ ++ (bW cI rr (d_n δ) (d_R δ) ++ xp)) := hD
        rw [hR9]
        clear hR9
        rw [F_ans (by decide)]
        rw [e2]
        refine lv_if_ne (tgt := 243) hx hb dL_law_236 (by decide) (fun c_236 => ?_) (fun c_236 => absurd c_236 ((nI_ne0 (Nat.pos_of_ne_zero (fun z => Int32.not_lt.mpr c_221 (hcl.mpr z))) (by omega))))
        refine lv_iconst (v := 0) hx hb dL_law_243 (by decide) ?_
        refine lv_icmp_eq (tgt := 249) hx hb dL_law_244 (by decide) (fun c_244 => ?_) (fun c_244 => absurd (rfl) c_244)
        have hP := hP.part (cx := wW h (a 0) (z 0) l0 m0 ++ sW cI a σ ++ dW cI cZ cG cY o rr h b dr δ Y9 ++ sW cI z τ ++ wL l0 mc q9 g ++ mW cI m0 (y 0) w0 f ++ yW cI y ψ) [18, 19, 20, 21, 22, 23, 24, 0, 1, 2, 3, 4, 5, 6, 7, 8, 9, 10, 11, 12, 13, 14, 15, 16, 17] rfl
        have hD := hD.part (cx := wW h (a 0) (z 0) l0 m0 ++ sW cI a σ ++ dW cI cZ cG cY o rr h b dr δ Y9 ++ sW cI z τ ++ wL l0 mc q9 g ++ mW cI m0 (y 0) w0 f ++ yW cI y ψ) [18, 19, 20, 21, 22, 23, 24, 0, 1, 2, 3, 4, 5, 6, 7, 8, 9, 10, 11, 12, 13, 14, 15, 16, 17] (by decide) rfl
        have hP : va_P D vwCl (wW h (a 0) (z 0) l0 m0 ++ sW cI a σ ++ dW cI cZ cG cY o rr h b dr δ Y9 ++ sW cI z τ ++ wL l0 mc q9 g ++ mW cI m0 (y 0) w0 f ++ yW cI y ψ ++ (bW cI rr (d_n δ) (d_R δ) ++ xp)) H := hP
        have hD : va_D (lA s) (wW h (a 0) (z 0) l0 m0 ++ sW cI a σ ++ dW cI cZ cG cY o rr h b dr δ Y9 ++ sW cI z τ ++ wL l0 mc q9 g ++ mW cI m0 (y 0) w0 f ++ yW cI y ψ ++ (bW cI rr (d_n δ) (d_R δ) ++ xp)) := hD
        exact kk249 (ce5 + 4) (sl5 + 24) (by omega) (by omega) _ _ ls (lv_sub hl [1, 2, 3, 4, 5, 6, 7, 8, 9, 10, 11] rfl) hP hD hS
      · refine lv_iconst (v := 1) hx hb dL_law_224 (by decide) ?_
        refine lv_goto (tgt := 229) hx hb dL_law_225 (by decide) ?_
        refine lv_aload_n hx hb dL_law_229 rfl (lv_at hl 8 rfl) ?_
        refine lv_iload hx hb dL_law_230 (lv_at hl 2 rfl) ?_
        refine lv_iconst (v := 2) hx hb dL_law_232 (by decide) ?_
        have hFc := va_free (wc := wW h (a 0) (z 0) l0 m0 ++ sW cI a σ) hD hS hA [18, 19, 20, 21, 22, 23, 24] rfl
        refine vx_calli (vx_runV (As := [.int (nI jb), .int 2]) (rest := [.int 1]) ⟨hx, hb, hml, hown, hts⟩ (c_X4_of l hst D cI _ h (z 0) l0 m0 a σ (nI jb) 2) (cwV 2 hts gL_law_X4_of rfl rfl rfl (by decide +kernel) ⟨Nat.le_of_ble_eq_true rfl, Nat.le_of_ble_eq_true rfl⟩) ⟨preX_blind, va_recv hK hP (ci := 4) (q0 := 18) rfl rfl, preX_of (hP.sub (ws' := wW h (a 0) (z 0) l0 m0 ++ sW cI a σ) [18, 19, 20, 21, 22, 23, 24] rfl) hK1 hXV (hD.sub (ws' := wW h (a 0) (z 0) l0 m0 ++ sW cI a σ) [18, 19, 20, 21, 22, 23, 24] (by decide) rfl) hTX hS hFc [.ref h, .int (nI jb), .int 2]⟩ rfl rfl hl.1 rfl (lv_room (Nat.le_of_ble_eq_true rfl)) dL_law_233 ⟨room_c hce5 (Nat.le_of_ble_eq_true rfl) (k := 4), room_s hsl5 (Nat.le_of_ble_eq_true rfl) (k := 24)⟩) hS (fun q _ h => hFc q h) hFc (fun q _ h => hFc q h) (fun E ce9 q9 u9 t9 H1 locs ht hvm hpx hBX9 hz1 hk1 hS hq9 hce9 hcl9 => absurd (F_of hbe (by decide)) hpx) (fun r9 u9 t9 H1 locs ht hvm hw hB hz1 hk1 hS => ?_)
        obtain ⟨hP1, -, hD1⟩ := hB
        rw [ht] at hP1
        obtain ⟨hT9, hR9, hU9⟩ := hw
        rw [hU9] at hP1 hD1
        obtain ⟨hP, hD⟩ := va_joinQ (wr := dW cI cZ cG cY o rr h b dr δ Y9 ++ sW cI z τ ++ wL l0 mc q9 g ++ mW cI m0 (y 0) w0 f ++ yW cI y ψ) (w1 := wW h (a 0) (z 0) l0 m0 ++ sW cI a σ) hP hD [18, 19, 20, 21, 22, 23, 24] [0, 1, 2, 3, 4, 5, 6, 7, 8, 9, 10, 11, 12, 13, 14, 15, 16, 17] rfl rfl (by decide) (by decide) hk1 hFc hP1 hD1
        generalize H1 = H at hP hS ⊢
        clear ht hvm hz1 hk1 hFc hP1 hD1 hT9 hU9
        have hP : va_P D vwCl (dW cI cZ cG cY o rr h b dr δ Y9 ++ sW cI z τ ++ wL l0 mc q9 g ++ mW cI m0 (y 0) w0 f ++ yW cI y ψ ++ wW h (a 0) (z 0) l0 m0 ++ sW cI a σ ++ (bW cI rr (d_n δ) (d_R δ) ++ xp)) H := hP
        have hD : va_D (lA s) (dW cI cZ cG cY o rr h b dr δ Y9 ++ sW cI z τ ++ wL l0 mc q9 g ++ mW cI m0 (y 0) w0 f ++ yW cI y ψ ++ wW h (a 0) (z 0) l0 m0 ++ sW cI a σ ++ (bW cI rr (d_n δ) (d_R δ) ++ xp)) := hD
        rw [hR9]
        clear hR9
        rw [F_ans (by decide)]
        rw [e2]
        refine lv_if_ne (tgt := 243) hx hb dL_law_236 (by decide) (fun c_236 => absurd (((congrArg nI (hcl.mp (Int32.not_le.mp c_221))).trans nI_0)) c_236) (fun c_236 => ?_)
        refine lv_iconst (v := 1) hx hb dL_law_239 (by decide) ?_
        refine lv_goto (tgt := 244) hx hb dL_law_240 (by decide) ?_
        refine lv_icmp_eq (tgt := 249) hx hb dL_law_244 (by decide) (fun c_244 => ?_) (fun c_244 => absurd (rfl) c_244)
        have hP := hP.part (cx := wW h (a 0) (z 0) l0 m0 ++ sW cI a σ ++ dW cI cZ cG cY o rr h b dr δ Y9 ++ sW cI z τ ++ wL l0 mc q9 g ++ mW cI m0 (y 0) w0 f ++ yW cI y ψ) [18, 19, 20, 21, 22, 23, 24, 0, 1, 2, 3, 4, 5, 6, 7, 8, 9, 10, 11, 12, 13, 14, 15, 16, 17] rfl
        have hD := hD.part (cx := wW h (a 0) (z 0) l0 m0 ++ sW cI a σ ++ dW cI cZ cG cY o rr h b dr δ Y9 ++ sW cI z τ ++ wL l0 mc q9 g ++ mW cI m0 (y 0) w0 f ++ yW cI y ψ) [18, 19, 20, 21, 22, 23, 24, 0, 1, 2, 3, 4, 5, 6, 7, 8, 9, 10, 11, 12, 13, 14, 15, 16, 17] (by decide) rfl
        have hP : va_P D vwCl (wW h (a 0) (z 0) l0 m0 ++ sW cI a σ ++ dW cI cZ cG cY o rr h b dr δ Y9 ++ sW cI z τ ++ wL l0 mc q9 g ++ mW cI m0 (y 0) w0 f ++ yW cI y ψ ++ (bW cI rr (d_n δ) (d_R δ) ++ xp)) H := hP
        have hD : va_D (lA s) (wW h (a 0) (z 0) l0 m0 ++ sW cI a σ ++ dW cI cZ cG cY o rr h b dr δ Y9 ++ sW cI z τ ++ wL l0 mc q9 g ++ mW cI m0 (y 0) w0 f ++ yW cI y ψ ++ (bW cI rr (d_n δ) (d_R δ) ++ xp)) := hD
        exact kk249 (ce5 + 4) (sl5 + 24) (by omega) (by omega) _ _ ls (lv_sub hl [1, 2, 3, 4, 5, 6, 7, 8, 9, 10, 11] rfl) hP hD hS
    | succ n5 ih124 =>
      intro k5 ce5 sl5 hk5 hcb5 hsb5 H locs ls hl hP hD hS
      have hce5 : ce5 ≤ 500000 := by omega
      have hsl5 : sl5 ≤ 5000000 := by omega
      refine lv_iload hx hb dL_law_124 (lv_at hl 0 rfl) ?_
      refine lv_iconst (v := 5) hx hb dL_law_126 (by decide) ?_
      refine lv_icmp_ge (tgt := 189) hx hb dL_law_127 (by decide) (fun c_127 => absurd c_127 (nI_ge (b := 5) (by omega) (by omega))) (fun c_127 => ?_)
      obtain ⟨sE, tE, esE, etE, hsE, htE, hstE⟩ := L_eff hI hjb (e := k5) (by omega)
      by_cases q0 : sE = 0
      · refine lv_aload_n hx hb dL_law_130 rfl (lv_at hl 8 rfl) ?_
        refine lv_iload hx hb dL_law_131 (lv_at hl 2 rfl) ?_
        refine lv_iload hx hb dL_law_133 (lv_at hl 0 rfl) ?_
        refine lv_iconst (v := 0) hx hb dL_law_135 (by decide) ?_
        have hFc := va_free (wc := wW h (a 0) (z 0) l0 m0 ++ sW cI a σ) hD hS hA [0, 1, 2, 3, 4, 5, 6] rfl
        refine vx_calli (vx_runV (As := [.int (nI jb), .int (nI k5), .int 0]) (rest := []) ⟨hx, hb, hml, hown, hts⟩ (c_X4_effect l hst D cI _ h (z 0) l0 m0 a σ (nI jb) (nI k5) 0) (cwV 3 hts gL_law_X4_effect rfl rfl rfl (by decide +kernel) ⟨Nat.le_of_ble_eq_true rfl, Nat.le_of_ble_eq_true rfl⟩) ⟨preX_blind, va_recv hK hP (ci := 4) (q0 := 0) rfl rfl, preX_of (hP.sub (ws' := wW h (a 0) (z 0) l0 m0 ++ sW cI a σ) [0, 1, 2, 3, 4, 5, 6] rfl) hK1 hXV (hD.sub (ws' := wW h (a 0) (z 0) l0 m0 ++ sW cI a σ) [0, 1, 2, 3, 4, 5, 6] (by decide) rfl) hTX hS hFc [.ref h, .int (nI jb), .int (nI k5), .int 0]⟩ rfl rfl hl.1 rfl (lv_room (Nat.le_of_ble_eq_true rfl)) dL_law_136 ⟨room_c hce5 (Nat.le_of_ble_eq_true rfl) (k := 1), room_s hsl5 (Nat.le_of_ble_eq_true rfl) (k := 6)⟩) hS (fun q _ h => hFc q h) hFc (fun q _ h => hFc q h) (fun E ce9 q9 u9 t9 H1 locs ht hvm hpx hBX9 hz1 hk1 hS hq9 hce9 hcl9 => absurd (F_effT hbe (by omega)) hpx) (fun r9 u9 t9 H1 locs ht hvm hw hB hz1 hk1 hS => ?_)
        obtain ⟨hP1, -, hD1⟩ := hB
        rw [ht] at hP1
        obtain ⟨hT9, hR9, hU9⟩ := hw
        rw [hU9] at hP1 hD1
        obtain ⟨hP, hD⟩ := va_joinQ (wr := dW cI cZ cG cY o rr h b dr δ Y9 ++ sW cI z τ ++ wL l0 mc q9 g ++ mW cI m0 (y 0) w0 f ++ yW cI y ψ) (w1 := wW h (a 0) (z 0) l0 m0 ++ sW cI a σ) hP hD [0, 1, 2, 3, 4, 5, 6] [7, 8, 9, 10, 11, 12, 13, 14, 15, 16, 17, 18, 19, 20, 21, 22, 23, 24] rfl rfl (by decide) (by decide) hk1 hFc hP1 hD1
        generalize H1 = H at hP hS ⊢
        clear ht hvm hz1 hk1 hFc hP1 hD1 hT9 hU9
        have hP : va_P D vwCl (dW cI cZ cG cY o rr h b dr δ Y9 ++ sW cI z τ ++ wL l0 mc q9 g ++ mW cI m0 (y 0) w0 f ++ yW cI y ψ ++ wW h (a 0) (z 0) l0 m0 ++ sW cI a σ ++ (bW cI rr (d_n δ) (d_R δ) ++ xp)) H := hP
        have hD : va_D (lA s) (dW cI cZ cG cY o rr h b dr δ Y9 ++ sW cI z τ ++ wL l0 mc q9 g ++ mW cI m0 (y 0) w0 f ++ yW cI y ψ ++ wW h (a 0) (z 0) l0 m0 ++ sW cI a σ ++ (bW cI rr (d_n δ) (d_R δ) ++ xp)) := hD
        rw [hR9]
        clear hR9
        rw [F_eff0, esE]
        refine lv_if_le (tgt := 146) hx hb dL_law_139 (by decide) (fun c_139 => ?_) (fun c_139 => absurd ((by rw [show sE = 0 by omega]; decide)) c_139)
        refine lv_iconst (v := 0) hx hb dL_law_146 (by decide) ?_
        refine lv_aload_n hx hb dL_law_147 rfl (lv_at hl 8 rfl) ?_
        refine lv_iload hx hb dL_law_148 (lv_at hl 2 rfl) ?_
        refine lv_iload hx hb dL_law_150 (lv_at hl 0 rfl) ?_
        refine lv_iconst (v := 1) hx hb dL_law_152 (by decide) ?_
        have hFc := va_free (wc := wW h (a 0) (z 0) l0 m0 ++ sW cI a σ) hD hS hA [18, 19, 20, 21, 22, 23, 24] rfl
        refine vx_calli (vx_runV (As := [.int (nI jb), .int (nI k5), .int 1]) (rest := [.int 0]) ⟨hx, hb, hml, hown, hts⟩ (c_X4_effect l hst D cI _ h (z 0) l0 m0 a σ (nI jb) (nI k5) 1) (cwV 3 hts gL_law_X4_effect rfl rfl rfl (by decide +kernel) ⟨Nat.le_of_ble_eq_true rfl, Nat.le_of_ble_eq_true rfl⟩) ⟨preX_blind, va_recv hK hP (ci := 4) (q0 := 18) rfl rfl, preX_of (hP.sub (ws' := wW h (a 0) (z 0) l0 m0 ++ sW cI a σ) [18, 19, 20, 21, 22, 23, 24] rfl) hK1 hXV (hD.sub (ws' := wW h (a 0) (z 0) l0 m0 ++ sW cI a σ) [18, 19, 20, 21, 22, 23, 24] (by decide) rfl) hTX hS hFc [.ref h, .int (nI jb), .int (nI k5), .int 1]⟩ rfl rfl hl.1 rfl (lv_room (Nat.le_of_ble_eq_true rfl)) dL_law_153 ⟨room_c hce5 (Nat.le_of_ble_eq_true rfl) (k := 2), room_s hsl5 (Nat.le_of_ble_eq_true rfl) (k := 12)⟩) hS (fun q _ h => hFc q h) hFc (fun q _ h => hFc q h) (fun E ce9 q9 u9 t9 H1 locs ht hvm hpx hBX9 hz1 hk1 hS hq9 hce9 hcl9 => absurd (F_effT hbe (by omega)) hpx) (fun r9 u9 t9 H1 locs ht hvm hw hB hz1 hk1 hS => ?_)
        obtain ⟨hP1, -, hD1⟩ := hB
        rw [ht] at hP1
        obtain ⟨hT9, hR9, hU9⟩ := hw
        rw [hU9] at hP1 hD1
        obtain ⟨hP, hD⟩ := va_joinQ (wr := dW cI cZ cG cY o rr h b dr δ Y9 ++ sW cI z τ ++ wL l0 mc q9 g ++ mW cI m0 (y 0) w0 f ++ yW cI y ψ) (w1 := wW h (a 0) (z 0) l0 m0 ++ sW cI a σ) hP hD [18, 19, 20, 21, 22, 23, 24] [0, 1, 2, 3, 4, 5, 6, 7, 8, 9, 10, 11, 12, 13, 14, 15, 16, 17] rfl rfl (by decide) (by decide) hk1 hFc hP1 hD1
        generalize H1 = H at hP hS ⊢
        clear ht hvm hz1 hk1 hFc hP1 hD1 hT9 hU9
        have hP : va_P D vwCl (dW cI cZ cG cY o rr h b dr δ Y9 ++ sW cI z τ ++ wL l0 mc q9 g ++ mW cI m0 (y 0) w0 f ++ yW cI y ψ ++ wW h (a 0) (z 0) l0 m0 ++ sW cI a σ ++ (bW cI rr (d_n δ) (d_R δ) ++ xp)) H := hP
        have hD : va_D (lA s) (dW cI cZ cG cY o rr h b dr δ Y9 ++ sW cI z τ ++ wL l0 mc q9 g ++ mW cI m0 (y 0) w0 f ++ yW cI y ψ ++ wW h (a 0) (z 0) l0 m0 ++ sW cI a σ ++ (bW cI rr (d_n δ) (d_R δ) ++ xp)) := hD
        rw [hR9]
        clear hR9
        rw [F_eff1, etE]
        refine lv_if_le (tgt := 163) hx hb dL_law_156 (by decide) (fun c_156 => ?_) (fun c_156 => absurd ((by rw [show tE = 0 by omega]; decide)) c_156)
        refine lv_iconst (v := 0) hx hb dL_law_163 (by decide) ?_
        refine lv_icmp_ne (tgt := 181) hx hb dL_law_164 (by decide) (fun c_164 => absurd (rfl) c_164) (fun c_164 => ?_)
        refine lv_aload_n hx hb dL_law_167 rfl (lv_at hl 8 rfl) ?_
        refine lv_iload hx hb dL_law_168 (lv_at hl 2 rfl) ?_
        refine lv_iload hx hb dL_law_170 (lv_at hl 0 rfl) ?_
        refine lv_iconst (v := 0) hx hb dL_law_172 (by decide) ?_
        have hFc := va_free (wc := wW h (a 0) (z 0) l0 m0 ++ sW cI a σ) hD hS hA [18, 19, 20, 21, 22, 23, 24] rfl
        refine vx_calli (vx_runV (As := [.int (nI jb), .int (nI k5), .int 0]) (rest := []) ⟨hx, hb, hml, hown, hts⟩ (c_X4_effect l hst D cI _ h (z 0) l0 m0 a σ (nI jb) (nI k5) 0) (cwV 3 hts gL_law_X4_effect rfl rfl rfl (by decide +kernel) ⟨Nat.le_of_ble_eq_true rfl, Nat.le_of_ble_eq_true rfl⟩) ⟨preX_blind, va_recv hK hP (ci := 4) (q0 := 18) rfl rfl, preX_of (hP.sub (ws' := wW h (a 0) (z 0) l0 m0 ++ sW cI a σ) [18, 19, 20, 21, 22, 23, 24] rfl) hK1 hXV (hD.sub (ws' := wW h (a 0) (z 0) l0 m0 ++ sW cI a σ) [18, 19, 20, 21, 22, 23, 24] (by decide) rfl) hTX hS hFc [.ref h, .int (nI jb), .int (nI k5), .int 0]⟩ rfl rfl hl.1 rfl (lv_room (Nat.le_of_ble_eq_true rfl)) dL_law_173 ⟨room_c hce5 (Nat.le_of_ble_eq_true rfl) (k := 3), room_s hsl5 (Nat.le_of_ble_eq_true rfl) (k := 18)⟩) hS (fun q _ h => hFc q h) hFc (fun q _ h => hFc q h) (fun E ce9 q9 u9 t9 H1 locs ht hvm hpx hBX9 hz1 hk1 hS hq9 hce9 hcl9 => absurd (F_effT hbe (by omega)) hpx) (fun r9 u9 t9 H1 locs ht hvm hw hB hz1 hk1 hS => ?_)
        obtain ⟨hP1, -, hD1⟩ := hB
        rw [ht] at hP1
        obtain ⟨hT9, hR9, hU9⟩ := hw
        rw [hU9] at hP1 hD1
        obtain ⟨hP, hD⟩ := va_joinQ (wr := dW cI cZ cG cY o rr h b dr δ Y9 ++ sW cI z τ ++ wL l0 mc q9 g ++ mW cI m0 (y 0) w0 f ++ yW cI y ψ) (w1 := wW h (a 0) (z 0) l0 m0 ++ sW cI a σ) hP hD [18, 19, 20, 21, 22, 23, 24] [0, 1, 2, 3, 4, 5, 6, 7, 8, 9, 10, 11, 12, 13, 14, 15, 16, 17] rfl rfl (by decide) (by decide) hk1 hFc hP1 hD1
        generalize H1 = H at hP hS ⊢
        clear ht hvm hz1 hk1 hFc hP1 hD1 hT9 hU9
        have hP : va_P D vwCl (dW cI cZ cG cY o rr h b dr δ Y9 ++ sW cI z τ ++ wL l0 mc q9 g ++ mW cI m0 (y 0) w0 f ++ yW cI y ψ ++ wW h (a 0) (z 0) l0 m0 ++ sW cI a σ ++ (bW cI rr (d_n δ) (d_R δ) ++ xp)) H := hP
        have hD : va_D (lA s) (dW cI cZ cG cY o rr h b dr δ Y9 ++ sW cI z τ ++ wL l0 mc q9 g ++ mW cI m0 (y 0) w0 f ++ yW cI y ψ ++ wW h (a 0) (z 0) l0 m0 ++ sW cI a σ ++ (bW cI rr (d_n δ) (d_R δ) ++ xp)) := hD
        rw [hR9]
        clear hR9
        rw [F_eff0, esE]
        refine lv_bipush (v := 9) hx hb dL_law_176 (by decide) ?_
        refine lv_icmp_le (tgt := 183) hx hb dL_law_178 (by decide) (fun c_178 => ?_) (fun c_178 => absurd ((nI_le hsE (by decide))) c_178)
        refine lv_iinc (v := (nI (k5 + 1))) (lv' := [(12, .int (nI (k5 + 1))), (11, .int x1), (10, .int (nI jb)), (9, .int (nI na)), (8, .int (nI (d_n δ))), (7, .int (turnF σ)), (5, .long dg), (4, .int (nI k4)), (3, .ref h), (2, .ref (o 0)), (1, .int (nI k1)), (0, .ref b)]) hx hb dL_law_183 hl (k := 0) rfl (nI_1 k5) (by decide) rfl (fun ls hl => ?_)
        refine lv_goto (tgt := 124) hx hb dL_law_186 (by decide) ?_
        have hP := hP.part (cx := wW h (a 0) (z 0) l0 m0 ++ sW cI a σ ++ dW cI cZ cG cY o rr h b dr δ Y9 ++ sW cI z τ ++ wL l0 mc q9 g ++ mW cI m0 (y 0) w0 f ++ yW cI y ψ) [18, 19, 20, 21, 22, 23, 24, 0, 1, 2, 3, 4, 5, 6, 7, 8, 9, 10, 11, 12, 13, 14, 15, 16, 17] rfl
        have hD := hD.part (cx := wW h (a 0) (z 0) l0 m0 ++ sW cI a σ ++ dW cI cZ cG cY o rr h b dr δ Y9 ++ sW cI z τ ++ wL l0 mc q9 g ++ mW cI m0 (y 0) w0 f ++ yW cI y ψ) [18, 19, 20, 21, 22, 23, 24, 0, 1, 2, 3, 4, 5, 6, 7, 8, 9, 10, 11, 12, 13, 14, 15, 16, 17] (by decide) rfl
        have hP : va_P D vwCl (wW h (a 0) (z 0) l0 m0 ++ sW cI a σ ++ dW cI cZ cG cY o rr h b dr δ Y9 ++ sW cI z τ ++ wL l0 mc q9 g ++ mW cI m0 (y 0) w0 f ++ yW cI y ψ ++ (bW cI rr (d_n δ) (d_R δ) ++ xp)) H := hP
        have hD : va_D (lA s) (wW h (a 0) (z 0) l0 m0 ++ sW cI a σ ++ dW cI cZ cG cY o rr h b dr δ Y9 ++ sW cI z τ ++ wL l0 mc q9 g ++ mW cI m0 (y 0) w0 f ++ yW cI y ψ ++ (bW cI rr (d_n δ) (d_R δ) ++ xp)) := hD
        exact ih124 (k5 + 1) (ce5 + 3) (sl5 + 18) (by omega) (by omega) (by omega) _ _ ls (lv_sub hl [0, 1, 2, 3, 4, 5, 6, 7, 8, 9, 10, 11] rfl) hP hD hS
      · refine lv_aload_n hx hb dL_law_130 rfl (lv_at hl 8 rfl) ?_
        refine lv_iload hx hb dL_law_131 (lv_at hl 2 rfl) ?_
        refine lv_iload hx hb dL_law_133 (lv_at hl 0 rfl) ?_
        refine lv_iconst (v := 0) hx hb dL_law_135 (by decide) ?_
        have hFc := va_free (wc := wW h (a 0) (z 0) l0 m0 ++ sW cI a σ) hD hS hA [0, 1, 2, 3, 4, 5, 6] rfl
        refine vx_calli (vx_runV (As := [.int (nI jb), .int (nI k5), .int 0]) (rest := []) ⟨hx, hb, hml, hown, hts⟩ (c_X4_effect l hst D cI _ h (z 0) l0 m0 a σ (nI jb) (nI k5) 0) (cwV 3 hts gL_law_X4_effect rfl rfl rfl (by decide +kernel) ⟨Nat.le_of_ble_eq_true rfl, Nat.le_of_ble_eq_true rfl⟩) ⟨preX_blind, va_recv hK hP (ci := 4) (q0 := 0) rfl rfl, preX_of (hP.sub (ws' := wW h (a 0) (z 0) l0 m0 ++ sW cI a σ) [0, 1, 2, 3, 4, 5, 6] rfl) hK1 hXV (hD.sub (ws' := wW h (a 0) (z 0) l0 m0 ++ sW cI a σ) [0, 1, 2, 3, 4, 5, 6] (by decide) rfl) hTX hS hFc [.ref h, .int (nI jb), .int (nI k5), .int 0]⟩ rfl rfl hl.1 rfl (lv_room (Nat.le_of_ble_eq_true rfl)) dL_law_136 ⟨room_c hce5 (Nat.le_of_ble_eq_true rfl) (k := 1), room_s hsl5 (Nat.le_of_ble_eq_true rfl) (k := 6)⟩) hS (fun q _ h => hFc q h) hFc (fun q _ h => hFc q h) (fun E ce9 q9 u9 t9 H1 locs ht hvm hpx hBX9 hz1 hk1 hS hq9 hce9 hcl9 => absurd (F_effT hbe (by omega)) hpx) (fun r9 u9 t9 H1 locs ht hvm hw hB hz1 hk1 hS => ?_)
        obtain ⟨hP1, -, hD1⟩ := hB
        rw [ht] at hP1
        obtain ⟨hT9, hR9, hU9⟩ := hw
        rw [hU9] at hP1 hD1
        obtain ⟨hP, hD⟩ := va_joinQ (wr := dW cI cZ cG cY o rr h b dr δ Y9 ++ sW cI z τ ++ wL l0 mc q9 g ++ mW cI m0 (y 0) w0 f ++ yW cI y ψ) (w1 := wW h (a 0) (z 0) l0 m0 ++ sW cI a σ) hP hD [0, 1, 2, 3, 4, 5, 6] [7, 8, 9, 10, 11, 12, 13, 14, 15, 16, 17, 18, 19, 20, 21, 22, 23, 24] rfl rfl (by decide) (by decide) hk1 hFc hP1 hD1
        generalize H1 = H at hP hS ⊢
        clear ht hvm hz1 hk1 hFc hP1 hD1 hT9 hU9
        have hP : va_P D vwCl (dW cI cZ cG cY o rr h b dr δ Y9 ++ sW cI z τ ++ wL l0 mc q9 g ++ mW cI m0 (y 0) w0 f ++ yW cI y ψ ++ wW h (a 0) (z 0) l0 m0 ++ sW cI a σ ++ (bW cI rr (d_n δ) (d_R δ) ++ xp)) H := hP
        have hD : va_D (lA s) (dW cI cZ cG cY o rr h b dr δ Y9 ++ sW cI z τ ++ wL l0 mc q9 g ++ mW cI m0 (y 0) w0 f ++ yW cI y ψ ++ wW h (a 0) (z 0) l0 m0 ++ sW cI a σ ++ (bW cI rr (d_n δ) (d_R δ) ++ xp)) := hD
        rw [hR9]
        clear hR9
        rw [F_eff0, esE]
        refine lv_if_le (tgt := 146) hx hb dL_law_139 (by decide) (fun c_139 => absurd c_139 ((nI_nle (by omega) (by omega)))) (fun c_139 => ?_)
        refine lv_iconst (v := 1) hx hb dL_law_142 (by decide) ?_
        refine lv_goto (tgt := 147) hx hb dL_law_143 (by decide) ?_
        refine lv_aload_n hx hb dL_law_147 rfl (lv_at hl 8 rfl) ?_
        refine lv_iload hx hb dL_law_148 (lv_at hl 2 rfl) ?_
        refine lv_iload hx hb dL_law_150 (lv_at hl 0 rfl) ?_
        refine lv_iconst (v := 1) hx hb dL_law_152 (by decide) ?_
        have hFc := va_free (wc := wW h (a 0) (z 0) l0 m0 ++ sW cI a σ) hD hS hA [18, 19, 20, 21, 22, 23, 24] rfl
        refine vx_calli (vx_runV (As := [.int (nI jb), .int (nI k5), .int 1]) (rest := [.int 1]) ⟨hx, hb, hml, hown, hts⟩ (c_X4_effect l hst D cI _ h (z 0) l0 m0 a σ (nI jb) (nI k5) 1) (cwV 3 hts gL_law_X4_effect rfl rfl rfl (by decide +kernel) ⟨Nat.le_of_ble_eq_true rfl, Nat.le_of_ble_eq_true rfl⟩) ⟨preX_blind, va_recv hK hP (ci := 4) (q0 := 18) rfl rfl, preX_of (hP.sub (ws' := wW h (a 0) (z 0) l0 m0 ++ sW cI a σ) [18, 19, 20, 21, 22, 23, 24] rfl) hK1 hXV (hD.sub (ws' := wW h (a 0) (z 0) l0 m0 ++ sW cI a σ) [18, 19, 20, 21, 22, 23, 24] (by decide) rfl) hTX hS hFc [.ref h, .int (nI jb), .int (nI k5), .int 1]⟩ rfl rfl hl.1 rfl (lv_room (Nat.le_of_ble_eq_true rfl)) dL_law_153 ⟨room_c hce5 (Nat.le_of_ble_eq_true rfl) (k := 2), room_s hsl5 (Nat.le_of_ble_eq_true rfl) (k := 12)⟩) hS (fun q _ h => hFc q h) hFc (fun q _ h => hFc q h) (fun E ce9 q9 u9 t9 H1 locs ht hvm hpx hBX9 hz1 hk1 hS hq9 hce9 hcl9 => absurd (F_effT hbe (by omega)) hpx) (fun r9 u9 t9 H1 locs ht hvm hw hB hz1 hk1 hS => ?_)
        obtain ⟨hP1, -, hD1⟩ := hB
        rw [ht] at hP1
        obtain ⟨hT9, hR9, hU9⟩ := hw
        rw [hU9] at hP1 hD1
        obtain ⟨hP, hD⟩ := va_joinQ (wr := dW cI cZ cG cY o rr h b dr δ Y9 ++ sW cI z τ ++ wL l0 mc q9 g ++ mW cI m0 (y 0) w0 f ++ yW cI y ψ) (w1 := wW h (a 0) (z 0) l0 m0 ++ sW cI a σ) hP hD [18, 19, 20, 21, 22, 23, 24] [0, 1, 2, 3, 4, 5, 6, 7, 8, 9, 10, 11, 12, 13, 14, 15, 16, 17] rfl rfl (by decide) (by decide) hk1 hFc hP1 hD1
        generalize H1 = H at hP hS ⊢
        clear ht hvm hz1 hk1 hFc hP1 hD1 hT9 hU9
        have hP : va_P D vwCl (dW cI cZ cG cY o rr h b dr δ Y9 ++ sW cI z τ ++ wL l0 mc q9 g ++ mW cI m0 (y 0) w0 f ++ yW cI y ψ ++ wW h (a 0) (z 0) l0 m0 ++ sW cI a σ ++ (bW cI rr (d_n δ) (d_R δ) ++ xp)) H := hP
        have hD : va_D (lA s) (dW cI cZ cG cY o rr h b dr δ Y9 ++ sW cI z τ ++ wL l0 mc q9 g ++ mW cI m0 (y 0) w0 f ++ yW cI y ψ ++ wW h (a 0) (z 0) l0 m0 ++ sW cI a σ ++ (bW cI rr (d_n δ) (d_R δ) ++ xp)) := hD
        rw [hR9]
        clear hR9
        rw [F_eff1, etE]
        refine lv_if_le (tgt := 163) hx hb dL_law_156 (by decide) (fun c_156 => absurd c_156 ((nI_nle (by omega) (by omega)))) (fun c_156 => ?_)
        refine lv_iconst (v := 1) hx hb dL_law_159 (by decide) ?_
        refine lv_goto (tgt := 164) hx hb dL_law_160 (by decide) ?_
        refine lv_icmp_ne (tgt := 181) hx hb dL_law_164 (by decide) (fun c_164 => absurd (rfl) c_164) (fun c_164 => ?_)
        refine lv_aload_n hx hb dL_law_167 rfl (lv_at hl 8 rfl) ?_
        refine lv_iload hx hb dL_law_168 (lv_at hl 2 rfl) ?_
        refine lv_iload hx hb dL_law_170 (lv_at hl 0 rfl) ?_
        refine lv_iconst (v := 0) hx hb dL_law_172 (by decide) ?_
        have hFc := va_free (wc := wW h (a 0) (z 0) l0 m0 ++ sW cI a σ) hD hS hA [18, 19, 20, 21, 22, 23, 24] rfl
        refine vx_calli (vx_runV (As := [.int (nI jb), .int (nI k5), .int 0]) (rest := []) ⟨hx, hb, hml, hown, hts⟩ (c_X4_effect l hst D cI _ h (z 0) l0 m0 a σ (nI jb) (nI k5) 0) (cwV 3 hts gL_law_X4_effect rfl rfl rfl (by decide +kernel) ⟨Nat.le_of_ble_eq_true rfl, Nat.le_of_ble_eq_true rfl⟩) ⟨preX_blind, va_recv hK hP (ci := 4) (q0 := 18) rfl rfl, preX_of (hP.sub (ws' := wW h (a 0) (z 0) l0 m0 ++ sW cI a σ) [18, 19, 20, 21, 22, 23, 24] rfl) hK1 hXV (hD.sub (ws' := wW h (a 0) (z 0) l0 m0 ++ sW cI a σ) [18, 19, 20, 21, 22, 23, 24] (by decide) rfl) hTX hS hFc [.ref h, .int (nI jb), .int (nI k5), .int 0]⟩ rfl rfl hl.1 rfl (lv_room (Nat.le_of_ble_eq_true rfl)) dL_law_173 ⟨room_c hce5 (Nat.le_of_ble_eq_true rfl) (k := 3), room_s hsl5 (Nat.le_of_ble_eq_true rfl) (k := 18)⟩) hS (fun q _ h => hFc q h) hFc (fun q _ h => hFc q h) (fun E ce9 q9 u9 t9 H1 locs ht hvm hpx hBX9 hz1 hk1 hS hq9 hce9 hcl9 => absurd (F_effT hbe (by omega)) hpx) (fun r9 u9 t9 H1 locs ht hvm hw hB hz1 hk1 hS => ?_)
        obtain ⟨hP1, -, hD1⟩ := hB
        rw [ht] at hP1
        obtain ⟨hT9, hR9, hU9⟩ := hw
        rw [hU9] at hP1 hD1
        obtain ⟨hP, hD⟩ := va_joinQ (wr := dW cI cZ cG cY o rr h b dr δ Y9 ++ sW cI z τ ++ wL l0 mc q9 g ++ mW cI m0 (y 0) w0 f ++ yW cI y ψ) (w1 := wW h (a 0) (z 0) l0 m0 ++ sW cI a σ) hP hD [18, 19, 20, 21, 22, 23, 24] [0, 1, 2, 3, 4, 5, 6, 7, 8, 9, 10, 11, 12, 13, 14, 15, 16, 17] rfl rfl (by decide) (by decide) hk1 hFc hP1 hD1
        generalize H1 = H at hP hS ⊢
        clear ht hvm hz1 hk1 hFc hP1 hD1 hT9 hU9
        have hP : va_P D vwCl (dW cI cZ cG cY o rr h b dr δ Y9 ++ sW cI z τ ++ wL l0 mc q9 g ++ mW cI m0 (y 0) w0 f ++ yW cI y ψ ++ wW h (a 0) (z 0) l0 m0 ++ sW cI a σ ++ (bW cI rr (d_n δ) (d_R δ) ++ xp)) H := hP
        have hD : va_D (lA s) (dW cI cZ cG cY o rr h b dr δ Y9 ++ sW cI z τ ++ wL l0 mc q9 g ++ mW cI m0 (y 0) w0 f ++ yW cI y ψ ++ wW h (a 0) (z 0) l0 m0 ++ sW cI a σ ++ (bW cI rr (d_n δ) (d_R δ) ++ xp)) := hD
        rw [hR9]
        clear hR9
        rw [F_eff0, esE]
        refine lv_bipush (v := 9) hx hb dL_law_176 (by decide) ?_
        refine lv_icmp_le (tgt := 183) hx hb dL_law_178 (by decide) (fun c_178 => ?_) (fun c_178 => absurd ((nI_le hsE (by decide))) c_178)
        refine lv_iinc (v := (nI (k5 + 1))) (lv' := [(12, .int (nI (k5 + 1))), (11, .int x1), (10, .int (nI jb)), (9, .int (nI na)), (8, .int (nI (d_n δ))), (7, .int (turnF σ)), (5, .long dg), (4, .int (nI k4)), (3, .ref h), (2, .ref (o 0)), (1, .int (nI k1)), (0, .ref b)]) hx hb dL_law_183 hl (k := 0) rfl (nI_1 k5) (by decide) rfl (fun ls hl => ?_)
        refine lv_goto (tgt := 124) hx hb dL_law_186 (by decide) ?_
        have hP := hP.part (cx := wW h (a 0) (z 0) l0 m0 ++ sW cI a σ ++ dW cI cZ cG cY o rr h b dr δ Y9 ++ sW cI z τ ++ wL l0 mc q9 g ++ mW cI m0 (y 0) w0 f ++ yW cI y ψ) [18, 19, 20, 21, 22, 23, 24, 0, 1, 2, 3, 4, 5, 6, 7, 8, 9, 10, 11, 12, 13, 14, 15, 16, 17] rfl
        have hD := hD.part (cx := wW h (a 0) (z 0) l0 m0 ++ sW cI a σ ++ dW cI cZ cG cY o rr h b dr δ Y9 ++ sW cI z τ ++ wL l0 mc q9 g ++ mW cI m0 (y 0) w0 f ++ yW cI y ψ) [18, 19, 20, 21, 22, 23, 24, 0, 1, 2, 3, 4, 5, 6, 7, 8, 9, 10, 11, 12, 13, 14, 15, 16, 17] (by decide) rfl
        have hP : va_P D vwCl (wW h (a 0) (z 0) l0 m0 ++ sW cI a σ ++ dW cI cZ cG cY o rr h b dr δ Y9 ++ sW cI z τ ++ wL l0 mc q9 g ++ mW cI m0 (y 0) w0 f ++ yW cI y ψ ++ (bW cI rr (d_n δ) (d_R δ) ++ xp)) H := hP
        have hD : va_D (lA s) (wW h (a 0) (z 0) l0 m0 ++ sW cI a σ ++ dW cI cZ cG cY o rr h b dr δ Y9 ++ sW cI z τ ++ wL l0 mc q9 g ++ mW cI m0 (y 0) w0 f ++ yW cI y ψ ++ (bW cI rr (d_n δ) (d_R δ) ++ xp)) := hD
        exact ih124 (k5 + 1) (ce5 + 3) (sl5 + 18) (by omega) (by omega) (by omega) _ _ ls (lv_sub hl [0, 1, 2, 3, 4, 5, 6, 7, 8, 9, 10, 11] rfl) hP hD hS
  exact L124 5 0 (ce + 1) (sl + 6) (by omega) (by omega) (by omega) _ _ ls (lv_sub hl [0, 1, 2, 3, 4, 5, 6, 7, 8, 9, 10, 11] rfl) hP hD hS
end LAW28
