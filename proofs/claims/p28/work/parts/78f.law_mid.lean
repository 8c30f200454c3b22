-- ===== the law: law_mid =====
section LAW28
variable {p : Program} {l : Launch} {e : Env} {s : State} {m : MethodId} {below : List Frame} {meth : Method} {c : Code} {b L : Nat} {xs : Nat → Int32} {D : va_G} {cI cZ cG cY : ClassId} {t e0 : Nat}
set_option maxHeartbeats 4000000 in
set_option maxRecDepth 100000 in
/-- the counts, the way ahead, the checksum -/
theorem law_mid {h l0 m0 w0 q9 g : Nat} {a z y o rr : Nat → Nat} {mc : Int32} {f : Nat → Int32} {σ τ : SS} {δ : DD} {ψ : YS} {Y9 : RW} {dr : Nat} {xp : va_W} {ce sl : Nat} {H : Heap} {locs : List Loc} {ls : Array Slot} {k1 k4 K : Nat} (E0 : lawE p s m meth c b L xs D cI cZ cG cY t e0) (hst : l.stackTraces = false) (hI : IR K σ δ) (hn6 : d_n δ ≤ 6) (hce0 : ce ≤ 400000) (hsl0 : sl ≤ 4000000) (hl : lv_has ls 19 [(9, .int (nI (cntP (aliveQ σ) (d_n δ)))), (7, .int (turnF σ)), (5, .long (digestF σ g)), (4, .int (nI k4)), (3, .ref h), (2, .ref (o 0)), (1, .int (nI k1)), (0, .ref b)]) (hP : va_P D vwCl (wW h (a 0) (z 0) l0 m0 ++ sW cI a σ ++ dW cI cZ cG cY o rr h b dr δ Y9 ++ sW cI z τ ++ wL l0 mc q9 g ++ mW cI m0 (y 0) w0 f ++ yW cI y ψ ++ (bW cI rr (d_n δ) (d_R δ) ++ xp)) H) (hD : va_D (lA s) (wW h (a 0) (z 0) l0 m0 ++ sW cI a σ ++ dW cI cZ cG cY o rr h b dr δ Y9 ++ sW cI z τ ++ wL l0 mc q9 g ++ mW cI m0 (y 0) w0 f ++ yW cI y ψ ++ (bW cI rr (d_n δ) (d_R δ) ++ xp))) (hS : va_S (lA s) s.heap H locs)
    (kk889 : ∀ (f1 : Nat → Int32) (ψ1 : YS) (τ1 : SS) (ce1 sl1 : Nat) (hc1 : ce1 ≤ ce + 20) (hs1 : sl1 ≤ sl + 120) (H : Heap) (locs : List Loc) (ls : Array Slot), lv_has ls 19 [(9, .int (nI (cntP (aliveQ σ) (d_n δ)))), (7, .int (turnF σ)), (5, .long (digestF σ g)), (4, .int (nI k4)), (3, .ref h), (2, .ref (o 0)), (1, .int (nI k1)), (0, .ref b)] → va_P D vwCl (wW h (a 0) (z 0) l0 m0 ++ sW cI a σ ++ dW cI cZ cG cY o rr h b dr δ Y9 ++ sW cI z τ1 ++ wL l0 mc q9 g ++ mW cI m0 (y 0) w0 f1 ++ yW cI y ψ1 ++ (bW cI rr (d_n δ) (d_R δ) ++ xp)) H → va_D (lA s) (wW h (a 0) (z 0) l0 m0 ++ sW cI a σ ++ dW cI cZ cG cY o rr h b dr δ Y9 ++ sW cI z τ1 ++ wL l0 mc q9 g ++ mW cI m0 (y 0) w0 f1 ++ yW cI y ψ1 ++ (bW cI rr (d_n δ) (d_R δ) ++ xp)) → va_S (lA s) s.heap H locs → W p l e room_1 s m #[Value.ref b] below meth c H locs ce1 sl1 (lw_Z below #[Value.ref b] s) (F0 m 889 ls [])) : W p l e room_1 s m #[Value.ref b] below meth c H locs ce sl (lw_Z below #[Value.ref b] s) (F0 m 768 ls []) := by
  obtain ⟨C0, hK, hGX, hEX, hNX⟩ := id E0
  obtain ⟨hx, hb, hr, hml, hown, hts, hX, hbl, hlocks, hgv⟩ := id C0
  obtain ⟨hXV, hTX, hN, hSX, hG, hBX, hnc, hnb, hov⟩ := id hGX
  have hK1 := K_D hK
  have hE := hXV.1
  have hA : ∀ q : Nat, s.heap.size ≤ q → lA s q := fun _ h => h
  have hce : ce ≤ 500000 := by omega
  have hsl : sl ≤ 5000000 := by omega
  have hn10 : d_n δ ≤ 10 := by omega
  have hnσ : s_n σ ≤ 10 := by rw [hI.1.1]; exact hn10
  refine lv_iload hx hb dL_law_768 (lv_at hl 0 rfl) ?_
  refine lv_aload_n hx hb dL_law_770 rfl (lv_at hl 4 rfl) ?_
  refine lv_iconst (v := 1) hx hb dL_law_771 (by decide) ?_
  have hFc := va_free (wc := wW h (a 0) (z 0) l0 m0 ++ sW cI a σ ++ wL l0 mc q9 g) hD hS hA [0, 1, 2, 3, 4, 5, 6, 19] rfl
  refine vx_calli (vx_runV (As := [.int 1]) (rest := [.int (nI (cntP (aliveQ σ) (d_n δ)))]) ⟨hx, hb, hml, hown, hts⟩ (c_X4_many l hst D cI _ h (z 0) l0 m0 a σ mc q9 g 1 hnσ) (cwV 1 hts gL_law_X4_many rfl rfl rfl (by decide +kernel) ⟨Nat.le_of_ble_eq_true rfl, Nat.le_of_ble_eq_true rfl⟩) ⟨preX_blind, va_recv hK hP (ci := 4) (q0 := 0) rfl rfl, preX_of (hP.sub (ws' := wW h (a 0) (z 0) l0 m0 ++ sW cI a σ ++ wL l0 mc q9 g) [0, 1, 2, 3, 4, 5, 6, 19] rfl) hK1 hXV (hD.sub (ws' := wW h (a 0) (z 0) l0 m0 ++ sW cI a σ ++ wL l0 mc q9 g) [0, 1, 2, 3, 4, 5, 6, 19] (by decide) rfl) hTX hS hFc [.ref h, .int 1]⟩ rfl rfl hl.1 rfl (lv_room (Nat.le_of_ble_eq_true rfl)) dL_law_772 ⟨room_c hce (Nat.le_of_ble_eq_true rfl) (k := 1), room_s hsl (Nat.le_of_ble_eq_true rfl) (k := 6)⟩) hS (fun q _ h => hFc q h) hFc (fun q _ h => hFc q h) (fun E ce9 q9 u9 t9 H1 locs ht hvm hpx hBX9 hz1 hk1 hS hq9 hce9 hcl9 => absurd (by decide) hpx) (fun r9 u9 t9 H1 locs ht hvm hw hB hz1 hk1 hS => ?_)
  obtain ⟨hP1, -, hD1⟩ := hB
  rw [ht] at hP1
  obtain ⟨hT9, hR9, hU9⟩ := hw
  rw [hU9] at hP1 hD1
  obtain ⟨hP, hD⟩ := va_joinQ (wr := dW cI cZ cG cY o rr h b dr δ Y9 ++ sW cI z τ ++ mW cI m0 (y 0) w0 f ++ yW cI y ψ) (w1 := wW h (a 0) (z 0) l0 m0 ++ sW cI a σ ++ wL l0 mc q9 g) hP hD [0, 1, 2, 3, 4, 5, 6, 19] [7, 8, 9, 10, 11, 12, 13, 14, 15, 16, 17, 18, 20, 21, 22, 23, 24] rfl rfl (by decide) (by decide) hk1 hFc hP1 hD1
  generalize H1 = H at hP hS ⊢
  clear ht hvm hz1 hk1 hFc hP1 hD1 hT9 hU9
  have hP : va_P D vwCl (dW cI cZ cG cY o rr h b dr δ Y9 ++ sW cI z τ ++ mW cI m0 (y 0) w0 f ++ yW cI y ψ ++ wW h (a 0) (z 0) l0 m0 ++ sW cI a σ ++ wL l0 mc q9 g ++ (bW cI rr (d_n δ) (d_R δ) ++ xp)) H := hP
  have hD : va_D (lA s) (dW cI cZ cG cY o rr h b dr δ Y9 ++ sW cI z τ ++ mW cI m0 (y 0) w0 f ++ yW cI y ψ ++ wW h (a 0) (z 0) l0 m0 ++ sW cI a σ ++ wL l0 mc q9 g ++ (bW cI rr (d_n δ) (d_R δ) ++ xp)) := hD
  rw [hR9]
  clear hR9
  rw [F_c1]
  refine lv_aload_n hx hb dL_law_775 rfl (lv_at hl 4 rfl) ?_
  refine lv_iconst (v := 2) hx hb dL_law_776 (by decide) ?_
  have hFc := va_free (wc := wW h (a 0) (z 0) l0 m0 ++ sW cI a σ ++ wL l0 mc q9 g) hD hS hA [17, 18, 19, 20, 21, 22, 23, 24] rfl
  refine vx_calli (vx_runV (As := [.int 2]) (rest := [.int (livingF σ 0), .int (nI (cntP (aliveQ σ) (d_n δ)))]) ⟨hx, hb, hml, hown, hts⟩ (c_X4_many l hst D cI _ h (z 0) l0 m0 a σ mc q9 g 2 hnσ) (cwV 1 hts gL_law_X4_many rfl rfl rfl (by decide +kernel) ⟨Nat.le_of_ble_eq_true rfl, Nat.le_of_ble_eq_true rfl⟩) ⟨preX_blind, va_recv hK hP (ci := 4) (q0 := 17) rfl rfl, preX_of (hP.sub (ws' := wW h (a 0) (z 0) l0 m0 ++ sW cI a σ ++ wL l0 mc q9 g) [17, 18, 19, 20, 21, 22, 23, 24] rfl) hK1 hXV (hD.sub (ws' := wW h (a 0) (z 0) l0 m0 ++ sW cI a σ ++ wL l0 mc q9 g) [17, 18, 19, 20, 21, 22, 23, 24] (by decide) rfl) hTX hS hFc [.ref h, .int 2]⟩ rfl rfl hl.1 rfl (lv_room (Nat.le_of_ble_eq_true rfl)) dL_law_777 ⟨room_c hce (Nat.le_of_ble_eq_true rfl) (k := 2), room_s hsl (Nat.le_of_ble_eq_true rfl) (k := 12)⟩) hS (fun q _ h => hFc q h) hFc (fun q _ h => hFc q h) (fun E ce9 q9 u9 t9 H1 locs ht hvm hpx hBX9 hz1 hk1 hS hq9 hce9 hcl9 => absurd (by decide) hpx) (fun r9 u9 t9 H1 locs ht hvm hw hB hz1 hk1 hS => ?_)
  obtain ⟨hP1, -, hD1⟩ := hB
  rw [ht] at hP1
  obtain ⟨hT9, hR9, hU9⟩ := hw
  rw [hU9] at hP1 hD1
  obtain ⟨hP, hD⟩ := va_joinQ (wr := dW cI cZ cG cY o rr h b dr δ Y9 ++ sW cI z τ ++ mW cI m0 (y 0) w0 f ++ yW cI y ψ) (w1 := wW h (a 0) (z 0) l0 m0 ++ sW cI a σ ++ wL l0 mc q9 g) hP hD [17, 18, 19, 20, 21, 22, 23, 24] [0, 1, 2, 3, 4, 5, 6, 7, 8, 9, 10, 11, 12, 13, 14, 15, 16] rfl rfl (by decide) (by decide) hk1 hFc hP1 hD1
  generalize H1 = H at hP hS ⊢
  clear ht hvm hz1 hk1 hFc hP1 hD1 hT9 hU9
  have hP : va_P D vwCl (dW cI cZ cG cY o rr h b dr δ Y9 ++ sW cI z τ ++ mW cI m0 (y 0) w0 f ++ yW cI y ψ ++ wW h (a 0) (z 0) l0 m0 ++ sW cI a σ ++ wL l0 mc q9 g ++ (bW cI rr (d_n δ) (d_R δ) ++ xp)) H := hP
  have hD : va_D (lA s) (dW cI cZ cG cY o rr h b dr δ Y9 ++ sW cI z τ ++ mW cI m0 (y 0) w0 f ++ yW cI y ψ ++ wW h (a 0) (z 0) l0 m0 ++ sW cI a σ ++ wL l0 mc q9 g ++ (bW cI rr (d_n δ) (d_R δ) ++ xp)) := hD
  rw [hR9]
  clear hR9
  rw [F_c2]
  refine lv_iadd hx hb dL_law_780 ?_
  rw [F_alive hI]
  refine lv_icmp_ne (tgt := 820) hx hb dL_law_781 (by decide) (fun c_781 => absurd (rfl) c_781) (fun c_781 => ?_)
  refine lv_iload hx hb dL_law_784 (lv_at hl 1 rfl) ?_
  have hP := hP.part (cx := wW h (a 0) (z 0) l0 m0 ++ sW cI a σ ++ dW cI cZ cG cY o rr h b dr δ Y9 ++ sW cI z τ ++ wL l0 mc q9 g ++ mW cI m0 (y 0) w0 f ++ yW cI y ψ) [17, 18, 19, 20, 21, 22, 23, 0, 1, 2, 3, 4, 5, 6, 7, 8, 9, 10, 11, 24, 12, 13, 14, 15, 16] rfl
  have hD := hD.part (cx := wW h (a 0) (z 0) l0 m0 ++ sW cI a σ ++ dW cI cZ cG cY o rr h b dr δ Y9 ++ sW cI z τ ++ wL l0 mc q9 g ++ mW cI m0 (y 0) w0 f ++ yW cI y ψ) [17, 18, 19, 20, 21, 22, 23, 0, 1, 2, 3, 4, 5, 6, 7, 8, 9, 10, 11, 24, 12, 13, 14, 15, 16] (by decide) rfl
  have hP : va_P D vwCl (wW h (a 0) (z 0) l0 m0 ++ sW cI a σ ++ dW cI cZ cG cY o rr h b dr δ Y9 ++ sW cI z τ ++ wL l0 mc q9 g ++ mW cI m0 (y 0) w0 f ++ yW cI y ψ ++ (bW cI rr (d_n δ) (d_R δ) ++ xp)) H := hP
  have hD : va_D (lA s) (wW h (a 0) (z 0) l0 m0 ++ sW cI a σ ++ dW cI cZ cG cY o rr h b dr δ Y9 ++ sW cI z τ ++ wL l0 mc q9 g ++ mW cI m0 (y 0) w0 f ++ yW cI y ψ ++ (bW cI rr (d_n δ) (d_R δ) ++ xp)) := hD
  have L807 : ∀  (H : Heap) (locs : List Loc) (ls : Array Slot), lv_has ls 19 [(9, .int (nI (cntP (aliveQ σ) (d_n δ)))), (7, .int (turnF σ)), (5, .long (digestF σ g)), (4, .int (nI k4)), (3, .ref h), (2, .ref (o 0)), (1, .int (nI k1)), (0, .ref b)] → va_P D vwCl (wW h (a 0) (z 0) l0 m0 ++ sW cI a σ ++ dW cI cZ cG cY o rr h b dr δ Y9 ++ sW cI z τ ++ wL l0 mc q9 g ++ mW cI m0 (y 0) w0 f ++ yW cI y ψ ++ (bW cI rr (d_n δ) (d_R δ) ++ xp)) H → va_D (lA s) (wW h (a 0) (z 0) l0 m0 ++ sW cI a σ ++ dW cI cZ cG cY o rr h b dr δ Y9 ++ sW cI z τ ++ wL l0 mc q9 g ++ mW cI m0 (y 0) w0 f ++ yW cI y ψ ++ (bW cI rr (d_n δ) (d_R δ) ++ xp)) → va_S (lA s) s.heap H locs → W p l e room_1 s m #[Value.ref b] below meth c H locs (ce + 2) (sl + 12) (lw_Z below #[Value.ref b] s) (F0 m 807 ls []) := by
    intro  H locs ls hl hP hD hS
    refine lv_aload_n hx hb dL_law_807 rfl (lv_at hl 4 rfl) ?_
    refine lv_iconst (v := 5) hx hb dL_law_808 (by decide) ?_
    have hFc := va_free (wc := wW h (a 0) (z 0) l0 m0 ++ sW cI a σ ++ wL l0 mc q9 g) hD hS hA [0, 1, 2, 3, 4, 5, 6, 19] rfl
    refine vx_calli (vx_runV (As := [.int 5]) (rest := []) ⟨hx, hb, hml, hown, hts⟩ (c_X4_many l hst D cI _ h (z 0) l0 m0 a σ mc q9 g 5 hnσ) (cwV 1 hts gL_law_X4_many rfl rfl rfl (by decide +kernel) ⟨Nat.le_of_ble_eq_true rfl, Nat.le_of_ble_eq_true rfl⟩) ⟨preX_blind, va_recv hK hP (ci := 4) (q0 := 0) rfl rfl, preX_of (hP.sub (ws' := wW h (a 0) (z 0) l0 m0 ++ sW cI a σ ++ wL l0 mc q9 g) [0, 1, 2, 3, 4, 5, 6, 19] rfl) hK1 hXV (hD.sub (ws' := wW h (a 0) (z 0) l0 m0 ++ sW cI a σ ++ wL l0 mc q9 g) [0, 1, 2, 3, 4, 5, 6, 19] (by decide) rfl) hTX hS hFc [.ref h, .int 5]⟩ rfl rfl hl.1 rfl (lv_room (Nat.le_of_ble_eq_true rfl)) dL_law_809 ⟨room_c hce (Nat.le_of_ble_eq_true rfl) (k := 3), room_s hsl (Nat.le_of_ble_eq_true rfl) (k := 18)⟩) hS (fun q _ h => hFc q h) hFc (fun q _ h => hFc q h) (fun E ce9 q9 u9 t9 H1 locs ht hvm hpx hBX9 hz1 hk1 hS hq9 hce9 hcl9 => absurd (by decide) hpx) (fun r9 u9 t9 H1 locs ht hvm hw hB hz1 hk1 hS => ?_)
    obtain ⟨hP1, -, hD1⟩ := hB
    rw [ht] at hP1
    obtain ⟨hT9, hR9, hU9⟩ := hw
    rw [hU9] at hP1 hD1
    obtain ⟨hP, hD⟩ := va_joinQ (wr := dW cI cZ cG cY o rr h b dr δ Y9 ++ sW cI z τ ++ mW cI m0 (y 0) w0 f ++ yW cI y ψ) (w1 := wW h (a 0) (z 0) l0 m0 ++ sW cI a σ ++ wL l0 mc q9 g) hP hD [0, 1, 2, 3, 4, 5, 6, 19] [7, 8, 9, 10, 11, 12, 13, 14, 15, 16, 17, 18, 20, 21, 22, 23, 24] rfl rfl (by decide) (by decide) hk1 hFc hP1 hD1
    generalize H1 = H at hP hS ⊢
    clear ht hvm hz1 hk1 hFc hP1 hD1 hT9 hU9
    have hP : va_P D vwCl (dW cI cZ cG cY o rr h b dr δ Y9 ++ sW cI z τ ++ mW cI m0 (y 0) w0 f ++ yW cI y ψ ++ wW h (a 0) (z 0) l0 m0 ++ sW cI a σ ++ wL l0 mc q9 g ++ (bW cI rr (d_n δ) (d_R δ) ++ xp)) H := hP
    have hD : va_D (lA s) (dW cI cZ cG cY o rr h b dr δ Y9 ++ sW cI z τ ++ mW cI m0 (y 0) w0 f ++ yW cI y ψ ++ wW h (a 0) (z 0) l0 m0 ++ sW cI a σ ++ wL l0 mc q9 g ++ (bW cI rr (d_n δ) (d_R δ) ++ xp)) := hD
    rw [hR9]
    clear hR9
    rw [F_c5]
    refine lv_aload_n hx hb dL_law_812 rfl (lv_at hl 4 rfl) ?_
    refine lv_iconst (v := 4) hx hb dL_law_813 (by decide) ?_
    have hFc := va_free (wc := wW h (a 0) (z 0) l0 m0 ++ sW cI a σ ++ wL l0 mc q9 g) hD hS hA [17, 18, 19, 20, 21, 22, 23, 24] rfl
    refine vx_calli (vx_runV (As := [.int 4]) (rest := [.int (s_hi σ)]) ⟨hx, hb, hml, hown, hts⟩ (c_X4_many l hst D cI _ h (z 0) l0 m0 a σ mc q9 g 4 hnσ) (cwV 1 hts gL_law_X4_many rfl rfl rfl (by decide +kernel) ⟨Nat.le_of_ble_eq_true rfl, Nat.le_of_ble_eq_true rfl⟩) ⟨preX_blind, va_recv hK hP (ci := 4) (q0 := 17) rfl rfl, preX_of (hP.sub (ws' := wW h (a 0) (z 0) l0 m0 ++ sW cI a σ ++ wL l0 mc q9 g) [17, 18, 19, 20, 21, 22, 23, 24] rfl) hK1 hXV (hD.sub (ws' := wW h (a 0) (z 0) l0 m0 ++ sW cI a σ ++ wL l0 mc q9 g) [17, 18, 19, 20, 21, 22, 23, 24] (by decide) rfl) hTX hS hFc [.ref h, .int 4]⟩ rfl rfl hl.1 rfl (lv_room (Nat.le_of_ble_eq_true rfl)) dL_law_814 ⟨room_c hce (Nat.le_of_ble_eq_true rfl) (k := 4), room_s hsl (Nat.le_of_ble_eq_true rfl) (k := 24)⟩) hS (fun q _ h => hFc q h) hFc (fun q _ h => hFc q h) (fun E ce9 q9 u9 t9 H1 locs ht hvm hpx hBX9 hz1 hk1 hS hq9 hce9 hcl9 => absurd (by decide) hpx) (fun r9 u9 t9 H1 locs ht hvm hw hB hz1 hk1 hS => ?_)
    obtain ⟨hP1, -, hD1⟩ := hB
    rw [ht] at hP1
    obtain ⟨hT9, hR9, hU9⟩ := hw
    rw [hU9] at hP1 hD1
    obtain ⟨hP, hD⟩ := va_joinQ (wr := dW cI cZ cG cY o rr h b dr δ Y9 ++ sW cI z τ ++ mW cI m0 (y 0) w0 f ++ yW cI y ψ) (w1 := wW h (a 0) (z 0) l0 m0 ++ sW cI a σ ++ wL l0 mc q9 g) hP hD [17, 18, 19, 20, 21, 22, 23, 24] [0, 1, 2, 3, 4, 5, 6, 7, 8, 9, 10, 11, 12, 13, 14, 15, 16] rfl rfl (by decide) (by decide) hk1 hFc hP1 hD1
    generalize H1 = H at hP hS ⊢
    clear ht hvm hz1 hk1 hFc hP1 hD1 hT9 hU9
    have hP : va_P D vwCl (dW cI cZ cG cY o rr h b dr δ Y9 ++ sW cI z τ ++ mW cI m0 (y 0) w0 f ++ yW cI y ψ ++ wW h (a 0) (z 0) l0 m0 ++ sW cI a σ ++ wL l0 mc q9 g ++ (bW cI rr (d_n δ) (d_R δ) ++ xp)) H := hP
    have hD : va_D (lA s) (dW cI cZ cG cY o rr h b dr δ Y9 ++ sW cI z τ ++ mW cI m0 (y 0) w0 f ++ yW cI y ψ ++ wW h (a 0) (z 0) l0 m0 ++ sW cI a σ ++ wL l0 mc q9 g ++ (bW cI rr (d_n δ) (d_R δ) ++ xp)) := hD
    rw [hR9]
    clear hR9
    rw [F_c4]
    refine lv_icmp_le (tgt := 822) hx hb dL_law_817 (by decide) (fun c_817 => ?_) (fun c_817 => absurd ((F_hits hI)) c_817)
    refine lv_aload_n hx hb dL_law_822 rfl (lv_at hl 4 rfl) ?_
    refine lv_iconst (v := 3) hx hb dL_law_823 (by decide) ?_
    have hFc := va_free (wc := wW h (a 0) (z 0) l0 m0 ++ sW cI a σ ++ sW cI z τ ++ mW cI m0 (y 0) w0 f ++ yW cI y ψ) hD hS hA [17, 18, 19, 20, 21, 22, 23, 6, 7, 8, 9, 10, 11, 12, 13, 14, 15, 16] rfl
    refine vx_calli (vx_runV (As := [.int 3]) (rest := []) ⟨hx, hb, hml, hown, hts⟩ (c_X4_ahead l hst D cI _ h l0 m0 w0 a z y σ τ f ψ 3 t hnσ (by decide) (by decide)) (cwV 1 hts gL_law_X4_ahead rfl rfl rfl (by decide +kernel) ⟨Nat.le_of_ble_eq_true rfl, Nat.le_of_ble_eq_true rfl⟩) ⟨preXS_blind, va_recv hK hP (ci := 4) (q0 := 17) rfl rfl, preXS_of (hP.sub (ws' := wW h (a 0) (z 0) l0 m0 ++ sW cI a σ ++ sW cI z τ ++ mW cI m0 (y 0) w0 f ++ yW cI y ψ) [17, 18, 19, 20, 21, 22, 23, 6, 7, 8, 9, 10, 11, 12, 13, 14, 15, 16] rfl) hK1 hXV (hD.sub (ws' := wW h (a 0) (z 0) l0 m0 ++ sW cI a σ ++ sW cI z τ ++ mW cI m0 (y 0) w0 f ++ yW cI y ψ) [17, 18, 19, 20, 21, 22, 23, 6, 7, 8, 9, 10, 11, 12, 13, 14, 15, 16] (by decide) rfl) hTX hSX hS hFc [.ref h, .int 3]⟩ rfl rfl hl.1 rfl (lv_room (Nat.le_of_ble_eq_true rfl)) dL_law_824 ⟨room_c hce (Nat.le_of_ble_eq_true rfl) (k := 5), room_s hsl (Nat.le_of_ble_eq_true rfl) (k := 30)⟩) hS (fun q _ h => hFc q h) hFc (fun q _ h => hFc q h) (fun E ce9 q9 u9 t9 H1 locs ht hvm hpx hBX9 hz1 hk1 hS hq9 hce9 hcl9 => absurd rfl hpx) (fun r9 u9 t9 H1 locs ht hvm hw hB hz1 hk1 hS => ?_)
    obtain ⟨hP1, -, hD1⟩ := hB
    rw [ht] at hP1
    obtain ⟨s824, f824, φ824⟩ := u9
    dsimp only at hw hP1 hD1
    obtain ⟨hT9, hR9, hU9⟩ := hw
    rw [hU9] at hP1 hD1
    obtain ⟨hP, hD⟩ := va_joinQ (wr := dW cI cZ cG cY o rr h b dr δ Y9 ++ wL l0 mc q9 g) (w1 := wW h (a 0) (z 0) l0 m0 ++ sW cI a σ ++ sW cI z (playS 3 σ) ++ mW cI m0 (y 0) w0 f824 ++ yW cI y φ824) hP hD [17, 18, 19, 20, 21, 22, 23, 6, 7, 8, 9, 10, 11, 12, 13, 14, 15, 16] [0, 1, 2, 3, 4, 5, 24] rfl rfl (by decide) (by decide) hk1 hFc hP1 hD1
    generalize H1 = H at hP hS ⊢
    clear ht hvm hz1 hk1 hFc hP1 hD1 hT9 hU9
    have hP : va_P D vwCl (dW cI cZ cG cY o rr h b dr δ Y9 ++ wL l0 mc q9 g ++ wW h (a 0) (z 0) l0 m0 ++ sW cI a σ ++ sW cI z (playS 3 σ) ++ mW cI m0 (y 0) w0 f824 ++ yW cI y φ824 ++ (bW cI rr (d_n δ) (d_R δ) ++ xp)) H := hP
    have hD : va_D (lA s) (dW cI cZ cG cY o rr h b dr δ Y9 ++ wL l0 mc q9 g ++ wW h (a 0) (z 0) l0 m0 ++ sW cI a σ ++ sW cI z (playS 3 σ) ++ mW cI m0 (y 0) w0 f824 ++ yW cI y φ824 ++ (bW cI rr (d_n δ) (d_R δ) ++ xp)) := hD
    rw [hR9]
    clear hR9
    refine lv_istore (lv' := [(10, .int (lifeF (playS 3 σ) 0 - lifeF (playS 3 σ) 1)), (9, .int (nI (cntP (aliveQ σ) (d_n δ)))), (7, .int (turnF σ)), (5, .long (digestF σ g)), (4, .int (nI k4)), (3, .ref h), (2, .ref (o 0)), (1, .int (nI k1)), (0, .ref b)]) hx hb dL_law_827 hl (by decide) rfl (fun ls hl => ?_)
    refine lv_aload_n hx hb dL_law_829 rfl (lv_at hl 5 rfl) ?_
    refine lv_iconst (v := 1) hx hb dL_law_830 (by decide) ?_
    have hFc := va_free (wc := wW h (a 0) (z 0) l0 m0 ++ sW cI a σ ++ wL l0 mc q9 g) hD hS hA [7, 8, 9, 10, 11, 12, 13, 6] rfl
    refine vx_calli (vx_runV (As := [.int 1]) (rest := []) ⟨hx, hb, hml, hown, hts⟩ (c_X4_many l hst D cI _ h (z 0) l0 m0 a σ mc q9 g 1 hnσ) (cwV 1 hts gL_law_X4_many rfl rfl rfl (by decide +kernel) ⟨Nat.le_of_ble_eq_true rfl, Nat.le_of_ble_eq_true rfl⟩) ⟨preX_blind, va_recv hK hP (ci := 4) (q0 := 7) rfl rfl, preX_of (hP.sub (ws' := wW h (a 0) (z 0) l0 m0 ++ sW cI a σ ++ wL l0 mc q9 g) [7, 8, 9, 10, 11, 12, 13, 6] rfl) hK1 hXV (hD.sub (ws' := wW h (a 0) (z 0) l0 m0 ++ sW cI a σ ++ wL l0 mc q9 g) [7, 8, 9, 10, 11, 12, 13, 6] (by decide) rfl) hTX hS hFc [.ref h, .int 1]⟩ rfl rfl hl.1 rfl (lv_room (Nat.le_of_ble_eq_true rfl)) dL_law_831 ⟨room_c hce (Nat.le_of_ble_eq_true rfl) (k := 6), room_s hsl (Nat.le_of_ble_eq_true rfl) (k := 36)⟩) hS (fun q _ h => hFc q h) hFc (fun q _ h => hFc q h) (fun E ce9 q9 u9 t9 H1 locs ht hvm hpx hBX9 hz1 hk1 hS hq9 hce9 hcl9 => absurd (by decide) hpx) (fun r9 u9 t9 H1 locs ht hvm hw hB hz1 hk1 hS => ?_)
    obtain ⟨hP1, -, hD1⟩ := hB
    rw [ht] at hP1
    obtain ⟨hT9, hR9, hU9⟩ := hw
    rw [hU9] at hP1 hD1
    obtain ⟨hP, hD⟩ := va_joinQ (wr := dW cI cZ cG cY o rr h b dr δ Y9 ++ sW cI z (playS 3 σ) ++ mW cI m0 (y 0) w0 f824 ++ yW cI y φ824) (w1 := wW h (a 0) (z 0) l0 m0 ++ sW cI a σ ++ wL l0 mc q9 g) hP hD [7, 8, 9, 10, 11, 12, 13, 6] [0, 1, 2, 3, 4, 5, 14, 15, 16, 17, 18, 19, 20, 21, 22, 23, 24] rfl rfl (by decide) (by decide) hk1 hFc hP1 hD1
    generalize H1 = H at hP hS ⊢
    clear ht hvm hz1 hk1 hFc hP1 hD1 hT9 hU9
    have hP : va_P D vwCl (dW cI cZ cG cY o rr h b dr δ Y9 ++ sW cI z (playS 3 σ) ++ mW cI m0 (y 0) w0 f824 ++ yW cI y φ824 ++ wW h (a 0) (z 0) l0 m0 ++ sW cI a σ ++ wL l0 mc q9 g ++ (bW cI rr (d_n δ) (d_R δ) ++ xp)) H := hP
    have hD : va_D (lA s) (dW cI cZ cG cY o rr h b dr δ Y9 ++ sW cI z (playS 3 σ) ++ mW cI m0 (y 0) w0 f824 ++ yW cI y φ824 ++ wW h (a 0) (z 0) l0 m0 ++ sW cI a σ ++ wL l0 mc q9 g ++ (bW cI rr (d_n δ) (d_R δ) ++ xp)) := hD
    rw [hR9]
    clear hR9
    rw [F_c1]
    refine lv_aload_n hx hb dL_law_834 rfl (lv_at hl 5 rfl) ?_
    refine lv_iconst (v := 2) hx hb dL_law_835 (by decide) ?_
    have hFc := va_free (wc := wW h (a 0) (z 0) l0 m0 ++ sW cI a σ ++ wL l0 mc q9 g) hD hS hA [17, 18, 19, 20, 21, 22, 23, 24] rfl
    refine vx_calli (vx_runV (As := [.int 2]) (rest := [.int (livingF σ 0)]) ⟨hx, hb, hml, hown, hts⟩ (c_X4_many l hst D cI _ h (z 0) l0 m0 a σ mc q9 g 2 hnσ) (cwV 1 hts gL_law_X4_many rfl rfl rfl (by decide +kernel) ⟨Nat.le_of_ble_eq_true rfl, Nat.le_of_ble_eq_true rfl⟩) ⟨preX_blind, va_recv hK hP (ci := 4) (q0 := 17) rfl rfl, preX_of (hP.sub (ws' := wW h (a 0) (z 0) l0 m0 ++ sW cI a σ ++ wL l0 mc q9 g) [17, 18, 19, 20, 21, 22, 23, 24] rfl) hK1 hXV (hD.sub (ws' := wW h (a 0) (z 0) l0 m0 ++ sW cI a σ ++ wL l0 mc q9 g) [17, 18, 19, 20, 21, 22, 23, 24] (by decide) rfl) hTX hS hFc [.ref h, .int 2]⟩ rfl rfl hl.1 rfl (lv_room (Nat.le_of_ble_eq_true rfl)) dL_law_836 ⟨room_c hce (Nat.le_of_ble_eq_true rfl) (k := 7), room_s hsl (Nat.le_of_ble_eq_true rfl) (k := 42)⟩) hS (fun q _ h => hFc q h) hFc (fun q _ h => hFc q h) (fun E ce9 q9 u9 t9 H1 locs ht hvm hpx hBX9 hz1 hk1 hS hq9 hce9 hcl9 => absurd (by decide) hpx) (fun r9 u9 t9 H1 locs ht hvm hw hB hz1 hk1 hS => ?_)
    obtain ⟨hP1, -, hD1⟩ := hB
    rw [ht] at hP1
    obtain ⟨hT9, hR9, hU9⟩ := hw
    rw [hU9] at hP1 hD1
    obtain ⟨hP, hD⟩ := va_joinQ (wr := dW cI cZ cG cY o rr h b dr δ Y9 ++ sW cI z (playS 3 σ) ++ mW cI m0 (y 0) w0 f824 ++ yW cI y φ824) (w1 := wW h (a 0) (z 0) l0 m0 ++ sW cI a σ ++ wL l0 mc q9 g) hP hD [17, 18, 19, 20, 21, 22, 23, 24] [0, 1, 2, 3, 4, 5, 6, 7, 8, 9, 10, 11, 12, 13, 14, 15, 16] rfl rfl (by decide) (by decide) hk1 hFc hP1 hD1
    generalize H1 = H at hP hS ⊢
    clear ht hvm hz1 hk1 hFc hP1 hD1 hT9 hU9
    have hP : va_P D vwCl (dW cI cZ cG cY o rr h b dr δ Y9 ++ sW cI z (playS 3 σ) ++ mW cI m0 (y 0) w0 f824 ++ yW cI y φ824 ++ wW h (a 0) (z 0) l0 m0 ++ sW cI a σ ++ wL l0 mc q9 g ++ (bW cI rr (d_n δ) (d_R δ) ++ xp)) H := hP
    have hD : va_D (lA s) (dW cI cZ cG cY o rr h b dr δ Y9 ++ sW cI z (playS 3 σ) ++ mW cI m0 (y 0) w0 f824 ++ yW cI y φ824 ++ wW h (a 0) (z 0) l0 m0 ++ sW cI a σ ++ wL l0 mc q9 g ++ (bW cI rr (d_n δ) (d_R δ) ++ xp)) := hD
    rw [hR9]
    clear hR9
    rw [F_c2]
    refine lv_imul hx hb dL_law_839 ?_
    have hP := hP.part (cx := wW h (a 0) (z 0) l0 m0 ++ sW cI a σ ++ dW cI cZ cG cY o rr h b dr δ Y9 ++ sW cI z (playS 3 σ) ++ wL l0 mc q9 g ++ mW cI m0 (y 0) w0 f824 ++ yW cI y φ824) [17, 18, 19, 20, 21, 22, 23, 0, 1, 2, 3, 4, 5, 6, 7, 8, 9, 10, 11, 24, 12, 13, 14, 15, 16] rfl
    have hD := hD.part (cx := wW h (a 0) (z 0) l0 m0 ++ sW cI a σ ++ dW cI cZ cG cY o rr h b dr δ Y9 ++ sW cI z (playS 3 σ) ++ wL l0 mc q9 g ++ mW cI m0 (y 0) w0 f824 ++ yW cI y φ824) [17, 18, 19, 20, 21, 22, 23, 0, 1, 2, 3, 4, 5, 6, 7, 8, 9, 10, 11, 24, 12, 13, 14, 15, 16] (by decide) rfl
    have hP : va_P D vwCl (wW h (a 0) (z 0) l0 m0 ++ sW cI a σ ++ dW cI cZ cG cY o rr h b dr δ Y9 ++ sW cI z (playS 3 σ) ++ wL l0 mc q9 g ++ mW cI m0 (y 0) w0 f824 ++ yW cI y φ824 ++ (bW cI rr (d_n δ) (d_R δ) ++ xp)) H := hP
    have hD : va_D (lA s) (wW h (a 0) (z 0) l0 m0 ++ sW cI a σ ++ dW cI cZ cG cY o rr h b dr δ Y9 ++ sW cI z (playS 3 σ) ++ wL l0 mc q9 g ++ mW cI m0 (y 0) w0 f824 ++ yW cI y φ824 ++ (bW cI rr (d_n δ) (d_R δ) ++ xp)) := hD
    have L877 : ∀ (ce7 sl7 : Nat) (hcb7 : ce7 ≤ ce + 12) (hsb7 : sl7 ≤ sl + 72) (H : Heap) (locs : List Loc) (ls : Array Slot), lv_has ls 19 [(9, .int (nI (cntP (aliveQ σ) (d_n δ)))), (7, .int (turnF σ)), (5, .long (digestF σ g)), (4, .int (nI k4)), (3, .ref h), (2, .ref (o 0)), (1, .int (nI k1)), (0, .ref b)] → va_P D vwCl (wW h (a 0) (z 0) l0 m0 ++ sW cI a σ ++ dW cI cZ cG cY o rr h b dr δ Y9 ++ sW cI z (playS 3 σ) ++ wL l0 mc q9 g ++ mW cI m0 (y 0) w0 f824 ++ yW cI y φ824 ++ (bW cI rr (d_n δ) (d_R δ) ++ xp)) H → va_D (lA s) (wW h (a 0) (z 0) l0 m0 ++ sW cI a σ ++ dW cI cZ cG cY o rr h b dr δ Y9 ++ sW cI z (playS 3 σ) ++ wL l0 mc q9 g ++ mW cI m0 (y 0) w0 f824 ++ yW cI y φ824 ++ (bW cI rr (d_n δ) (d_R δ) ++ xp)) → va_S (lA s) s.heap H locs → W p l e room_1 s m #[Value.ref b] below meth c H locs ce7 sl7 (lw_Z below #[Value.ref b] s) (F0 m 877 ls []) := by
      intro ce7 sl7 hcb7 hsb7 H locs ls hl hP hD hS
      have hce7 : ce7 ≤ 500000 := by omega
      have hsl7 : sl7 ≤ 5000000 := by omega
      refine lv_aload_n hx hb dL_law_877 rfl (lv_at hl 4 rfl) ?_
      have hFc := va_free (wc := wW h (a 0) (z 0) l0 m0 ++ sW cI a σ ++ mW cI m0 (y 0) w0 f824 ++ yW cI y φ824 ++ wL l0 mc q9 g) hD hS hA [0, 1, 2, 3, 4, 5, 6, 20, 21, 22, 23, 24, 19] rfl
      refine vx_calll (vx_runV (As := []) (rest := []) ⟨hx, hb, hml, hown, hts⟩ (c_X4_digest l hst D cI _ h (z 0) l0 m0 w0 a y σ f824 φ824 mc q9 g t hnσ) (cwV 0 hts gL_law_X4_digest rfl rfl rfl (by decide +kernel) ⟨Nat.le_of_ble_eq_true rfl, Nat.le_of_ble_eq_true rfl⟩) ⟨preXS_blind, va_recv hK hP (ci := 4) (q0 := 0) rfl rfl, preXS_of (hP.sub (ws' := wW h (a 0) (z 0) l0 m0 ++ sW cI a σ ++ mW cI m0 (y 0) w0 f824 ++ yW cI y φ824 ++ wL l0 mc q9 g) [0, 1, 2, 3, 4, 5, 6, 20, 21, 22, 23, 24, 19] rfl) hK1 hXV (hD.sub (ws' := wW h (a 0) (z 0) l0 m0 ++ sW cI a σ ++ mW cI m0 (y 0) w0 f824 ++ yW cI y φ824 ++ wL l0 mc q9 g) [0, 1, 2, 3, 4, 5, 6, 20, 21, 22, 23, 24, 19] (by decide) rfl) hTX hSX hS hFc [.ref h]⟩ rfl rfl hl.1 rfl (lv_room (Nat.le_of_ble_eq_true rfl)) dL_law_878 ⟨room_c hce7 (Nat.le_of_ble_eq_true rfl) (k := 1), room_s hsl7 (Nat.le_of_ble_eq_true rfl) (k := 6)⟩) hS (fun q _ h => hFc q h) hFc (fun q _ h => hFc q h) (fun E ce9 q9 u9 t9 H1 locs ht hvm hpx hBX9 hz1 hk1 hS hq9 hce9 hcl9 => absurd rfl hpx) (fun r9 u9 t9 H1 locs ht hvm hw hB hz1 hk1 hS => ?_)
      obtain ⟨hP1, -, hD1⟩ := hB
      rw [ht] at hP1
      obtain ⟨s878, f878, φ878⟩ := u9
      dsimp only at hw hP1 hD1
      obtain ⟨hT9, hR9, hU9⟩ := hw
      rw [hU9] at hP1 hD1
      obtain ⟨hP, hD⟩ := va_joinQ (wr := dW cI cZ cG cY o rr h b dr δ Y9 ++ sW cI z (playS 3 σ)) (w1 := wW h (a 0) (z 0) l0 m0 ++ sW cI a σ ++ mW cI m0 (y 0) w0 f878 ++ yW cI y φ878 ++ wL l0 mc q9 g) hP hD [0, 1, 2, 3, 4, 5, 6, 20, 21, 22, 23, 24, 19] [7, 8, 9, 10, 11, 12, 13, 14, 15, 16, 17, 18] rfl rfl (by decide) (by decide) hk1 hFc hP1 hD1
      generalize H1 = H at hP hS ⊢
      clear ht hvm hz1 hk1 hFc hP1 hD1 hT9 hU9
      have hP : va_P D vwCl (dW cI cZ cG cY o rr h b dr δ Y9 ++ sW cI z (playS 3 σ) ++ wW h (a 0) (z 0) l0 m0 ++ sW cI a σ ++ mW cI m0 (y 0) w0 f878 ++ yW cI y φ878 ++ wL l0 mc q9 g ++ (bW cI rr (d_n δ) (d_R δ) ++ xp)) H := hP
      have hD : va_D (lA s) (dW cI cZ cG cY o rr h b dr δ Y9 ++ sW cI z (playS 3 σ) ++ wW h (a 0) (z 0) l0 m0 ++ sW cI a σ ++ mW cI m0 (y 0) w0 f878 ++ yW cI y φ878 ++ wL l0 mc q9 g ++ (bW cI rr (d_n δ) (d_R δ) ++ xp)) := hD
      rw [hR9]
      clear hR9
      refine lv_lload hx hb dL_law_881 (lv_at hl 2 rfl) ?_
      refine W.lcmp hx hb dL_law_883 ?_
      refine lv_if_eq (tgt := 889) hx hb dL_law_884 (by decide) (fun c_884 => ?_) (fun c_884 => absurd ((cmp_self _)) c_884)
      have hP := hP.part (cx := wW h (a 0) (z 0) l0 m0 ++ sW cI a σ ++ dW cI cZ cG cY o rr h b dr δ Y9 ++ sW cI z (playS 3 σ) ++ wL l0 mc q9 g ++ mW cI m0 (y 0) w0 f878 ++ yW cI y φ878) [12, 13, 14, 15, 16, 17, 18, 0, 1, 2, 3, 4, 5, 6, 7, 8, 9, 10, 11, 24, 19, 20, 21, 22, 23] rfl
      have hD := hD.part (cx := wW h (a 0) (z 0) l0 m0 ++ sW cI a σ ++ dW cI cZ cG cY o rr h b dr δ Y9 ++ sW cI z (playS 3 σ) ++ wL l0 mc q9 g ++ mW cI m0 (y 0) w0 f878 ++ yW cI y φ878) [12, 13, 14, 15, 16, 17, 18, 0, 1, 2, 3, 4, 5, 6, 7, 8, 9, 10, 11, 24, 19, 20, 21, 22, 23] (by decide) rfl
      have hP : va_P D vwCl (wW h (a 0) (z 0) l0 m0 ++ sW cI a σ ++ dW cI cZ cG cY o rr h b dr δ Y9 ++ sW cI z (playS 3 σ) ++ wL l0 mc q9 g ++ mW cI m0 (y 0) w0 f878 ++ yW cI y φ878 ++ (bW cI rr (d_n δ) (d_R δ) ++ xp)) H := hP
      have hD : va_D (lA s) (wW h (a 0) (z 0) l0 m0 ++ sW cI a σ ++ dW cI cZ cG cY o rr h b dr δ Y9 ++ sW cI z (playS 3 σ) ++ wL l0 mc q9 g ++ mW cI m0 (y 0) w0 f878 ++ yW cI y φ878 ++ (bW cI rr (d_n δ) (d_R δ) ++ xp)) := hD
      exact kk889 f878 φ878 (playS 3 σ) (ce7 + 1) (sl7 + 6) (by omega) (by omega) _ _ ls (lv_sub hl [0, 1, 2, 3, 4, 5, 6, 7] rfl) hP hD hS
    refine lv_if_ne (tgt := 877) hx hb dL_law_840 (by decide) (fun c_840 => ?_) (fun c_840 => ?_)
    · exact L877 (ce + 7) (sl + 42) (by omega) (by omega) _ _ ls (lv_sub hl [1, 2, 3, 4, 5, 6, 7, 8] rfl) hP hD hS
    · refine lv_iload hx hb dL_law_843 (lv_at hl 0 rfl) ?_
      refine lv_aload_n hx hb dL_law_845 rfl (lv_at hl 5 rfl) ?_
      refine lv_iconst (v := 1) hx hb dL_law_846 (by decide) ?_
      have hFc := va_free (wc := wW h (a 0) (z 0) l0 m0 ++ sW cI a σ ++ wL l0 mc q9 g) hD hS hA [0, 1, 2, 3, 4, 5, 6, 19] rfl
      refine vx_calli (vx_runV (As := [.int 1]) (rest := [.int (lifeF (playS 3 σ) 0 - lifeF (playS 3 σ) 1)]) ⟨hx, hb, hml, hown, hts⟩ (c_X4_many l hst D cI _ h (z 0) l0 m0 a σ mc q9 g 1 hnσ) (cwV 1 hts gL_law_X4_many rfl rfl rfl (by decide +kernel) ⟨Nat.le_of_ble_eq_true rfl, Nat.le_of_ble_eq_true rfl⟩) ⟨preX_blind, va_recv hK hP (ci := 4) (q0 := 0) rfl rfl, preX_of (hP.sub (ws' := wW h (a 0) (z 0) l0 m0 ++ sW cI a σ ++ wL l0 mc q9 g) [0, 1, 2, 3, 4, 5, 6, 19] rfl) hK1 hXV (hD.sub (ws' := wW h (a 0) (z 0) l0 m0 ++ sW cI a σ ++ wL l0 mc q9 g) [0, 1, 2, 3, 4, 5, 6, 19] (by decide) rfl) hTX hS hFc [.ref h, .int 1]⟩ rfl rfl hl.1 rfl (lv_room (Nat.le_of_ble_eq_true rfl)) dL_law_847 ⟨room_c hce (Nat.le_of_ble_eq_true rfl) (k := 8), room_s hsl (Nat.le_of_ble_eq_true rfl) (k := 48)⟩) hS (fun q _ h => hFc q h) hFc (fun q _ h => hFc q h) (fun E ce9 q9 u9 t9 H1 locs ht hvm hpx hBX9 hz1 hk1 hS hq9 hce9 hcl9 => absurd (by decide) hpx) (fun r9 u9 t9 H1 locs ht hvm hw hB hz1 hk1 hS => ?_)
      obtain ⟨hP1, -, hD1⟩ := hB
      rw [ht] at hP1
      obtain ⟨hT9, hR9, hU9⟩ := hw
      rw [hU9] at hP1 hD1
      obtain ⟨hP, hD⟩ := va_joinQ (wr := dW cI cZ cG cY o rr h b dr δ Y9 ++ sW cI z (playS 3 σ) ++ mW cI m0 (y 0) w0 f824 ++ yW cI y φ824) (w1 := wW h (a 0) (z 0) l0 m0 ++ sW cI a σ ++ wL l0 mc q9 g) hP hD [0, 1, 2, 3, 4, 5, 6, 19] [7, 8, 9, 10, 11, 12, 13, 14, 15, 16, 17, 18, 20, 21, 22, 23, 24] rfl rfl (by decide) (by decide) hk1 hFc hP1 hD1
      generalize H1 = H at hP hS ⊢
      clear ht hvm hz1 hk1 hFc hP1 hD1 hT9 hU9
      have hP : va_P D vwCl (dW cI cZ cG cY o rr h b dr δ Y9 ++ sW cI z (playS 3 σ) ++ mW cI m0 (y 0) w0 f824 ++ yW cI y φ824 ++ wW h (a 0) (z 0) l0 m0 ++ sW cI a σ ++ wL l0 mc q9 g ++ (bW cI rr (d_n δ) (d_R δ) ++ xp)) H := hP
      have hD : va_D (lA s) (dW cI cZ cG cY o rr h b dr δ Y9 ++ sW cI z (playS 3 σ) ++ mW cI m0 (y 0) w0 f824 ++ yW cI y φ824 ++ wW h (a 0) (z 0) l0 m0 ++ sW cI a σ ++ wL l0 mc q9 g ++ (bW cI rr (d_n δ) (d_R δ) ++ xp)) := hD
      rw [hR9]
      clear hR9
      rw [F_c1]
      refine lv_if_le (tgt := 857) hx hb dL_law_850 (by decide) (fun c_850 => ?_) (fun c_850 => ?_)
      · refine lv_iconst (v := (-1)) hx hb dL_law_857 (by decide) ?_
        refine lv_aload_n hx hb dL_law_858 rfl (lv_at hl 5 rfl) ?_
        refine vp_callSd (va_Run.run (va_runV (As := []) (rest := [.int (-1), .int (lifeF (playS 3 σ) 0 - lifeF (playS 3 σ) 1)]) ⟨hx, hb, hml, hown, hts⟩ (c_X4_meanLife l D cI h (z 0) l0 m0 a σ hnσ (F_meanN hI hn6)) (cwV 0 hts gL_law_X4_meanLife rfl rfl rfl (by decide +kernel) ⟨Nat.le_of_ble_eq_true rfl, Nat.le_of_ble_eq_true rfl⟩) ⟨preR_blind, va_recv hK hP (ci := 4) (q0 := 17) rfl rfl, preR_of (hP.sub (ws' := wW h (a 0) (z 0) l0 m0 ++ sW cI a σ) [17, 18, 19, 20, 21, 22, 23] rfl) hK1 hE [.ref h]⟩ rfl rfl hl.1 rfl (lv_room (Nat.le_of_ble_eq_true rfl)) dL_law_859 ⟨room_c hce (Nat.le_of_ble_eq_true rfl) (k := 8), room_s hsl (Nat.le_of_ble_eq_true rfl) (k := 48)⟩)) (fun r9 hr9 => ?_)
        subst hr9
        refine lv_iload hx hb dL_law_862 (lv_at hl 1 rfl) ?_
        refine lv_i2d hx hb dL_law_864 ?_
        refine lv_dmul hx hb dL_law_865 (F_mean hI hn6).1 ?_
        refine lv_ldc2d (v := halfD) hx hb hown (hts (.constantDouble RL 95 (4602678819172646912)) w9_10) dL_law_866 ?_
        refine lv_dadd hx hb dL_law_869 (F_mean hI hn6).2.1 ?_
        refine lv_d2i hx hb dL_law_870 ?_
        rw [(F_mean hI hn6).2.2]
        refine lv_imul hx hb dL_law_871 ?_
        refine lv_icmp_eq (tgt := 877) hx hb dL_law_872 (by decide) (fun c_872 => ?_) (fun c_872 => absurd (((F_ahead hI c_840).1 c_850)) c_872)
        have hP := hP.part (cx := wW h (a 0) (z 0) l0 m0 ++ sW cI a σ ++ dW cI cZ cG cY o rr h b dr δ Y9 ++ sW cI z (playS 3 σ) ++ wL l0 mc q9 g ++ mW cI m0 (y 0) w0 f824 ++ yW cI y φ824) [17, 18, 19, 20, 21, 22, 23, 0, 1, 2, 3, 4, 5, 6, 7, 8, 9, 10, 11, 24, 12, 13, 14, 15, 16] rfl
        have hD := hD.part (cx := wW h (a 0) (z 0) l0 m0 ++ sW cI a σ ++ dW cI cZ cG cY o rr h b dr δ Y9 ++ sW cI z (playS 3 σ) ++ wL l0 mc q9 g ++ mW cI m0 (y 0) w0 f824 ++ yW cI y φ824) [17, 18, 19, 20, 21, 22, 23, 0, 1, 2, 3, 4, 5, 6, 7, 8, 9, 10, 11, 24, 12, 13, 14, 15, 16] (by decide) rfl
        have hP : va_P D vwCl (wW h (a 0) (z 0) l0 m0 ++ sW cI a σ ++ dW cI cZ cG cY o rr h b dr δ Y9 ++ sW cI z (playS 3 σ) ++ wL l0 mc q9 g ++ mW cI m0 (y 0) w0 f824 ++ yW cI y φ824 ++ (bW cI rr (d_n δ) (d_R δ) ++ xp)) H := hP
        have hD : va_D (lA s) (wW h (a 0) (z 0) l0 m0 ++ sW cI a σ ++ dW cI cZ cG cY o rr h b dr δ Y9 ++ sW cI z (playS 3 σ) ++ wL l0 mc q9 g ++ mW cI m0 (y 0) w0 f824 ++ yW cI y φ824 ++ (bW cI rr (d_n δ) (d_R δ) ++ xp)) := hD
        exact L877 (ce + 8) (sl + 48) (by omega) (by omega) _ _ ls (lv_sub hl [1, 2, 3, 4, 5, 6, 7, 8] rfl) hP hD hS
      · refine lv_iconst (v := 1) hx hb dL_law_853 (by decide) ?_
        refine lv_goto (tgt := 858) hx hb dL_law_854 (by decide) ?_
        refine lv_aload_n hx hb dL_law_858 rfl (lv_at hl 5 rfl) ?_
        refine vp_callSd (va_Run.run (va_runV (As := []) (rest := [.int 1, .int (lifeF (playS 3 σ) 0 - lifeF (playS 3 σ) 1)]) ⟨hx, hb, hml, hown, hts⟩ (c_X4_meanLife l D cI h (z 0) l0 m0 a σ hnσ (F_meanN hI hn6)) (cwV 0 hts gL_law_X4_meanLife rfl rfl rfl (by decide +kernel) ⟨Nat.le_of_ble_eq_true rfl, Nat.le_of_ble_eq_true rfl⟩) ⟨preR_blind, va_recv hK hP (ci := 4) (q0 := 17) rfl rfl, preR_of (hP.sub (ws' := wW h (a 0) (z 0) l0 m0 ++ sW cI a σ) [17, 18, 19, 20, 21, 22, 23] rfl) hK1 hE [.ref h]⟩ rfl rfl hl.1 rfl (lv_room (Nat.le_of_ble_eq_true rfl)) dL_law_859 ⟨room_c hce (Nat.le_of_ble_eq_true rfl) (k := 8), room_s hsl (Nat.le_of_ble_eq_true rfl) (k := 48)⟩)) (fun r9 hr9 => ?_)
        subst hr9
        refine lv_iload hx hb dL_law_862 (lv_at hl 1 rfl) ?_
        refine lv_i2d hx hb dL_law_864 ?_
        refine lv_dmul hx hb dL_law_865 (F_mean hI hn6).1 ?_
        refine lv_ldc2d (v := halfD) hx hb hown (hts (.constantDouble RL 95 (4602678819172646912)) w9_10) dL_law_866 ?_
        refine lv_dadd hx hb dL_law_869 (F_mean hI hn6).2.1 ?_
        refine lv_d2i hx hb dL_law_870 ?_
        rw [(F_mean hI hn6).2.2]
        refine lv_imul hx hb dL_law_871 ?_
        refine lv_icmp_eq (tgt := 877) hx hb dL_law_872 (by decide) (fun c_872 => ?_) (fun c_872 => absurd (((F_ahead hI c_840).2 c_850)) c_872)
        have hP := hP.part (cx := wW h (a 0) (z 0) l0 m0 ++ sW cI a σ ++ dW cI cZ cG cY o rr h b dr δ Y9 ++ sW cI z (playS 3 σ) ++ wL l0 mc q9 g ++ mW cI m0 (y 0) w0 f824 ++ yW cI y φ824) [17, 18, 19, 20, 21, 22, 23, 0, 1, 2, 3, 4, 5, 6, 7, 8, 9, 10, 11, 24, 12, 13, 14, 15, 16] rfl
        have hD := hD.part (cx := wW h (a 0) (z 0) l0 m0 ++ sW cI a σ ++ dW cI cZ cG cY o rr h b dr δ Y9 ++ sW cI z (playS 3 σ) ++ wL l0 mc q9 g ++ mW cI m0 (y 0) w0 f824 ++ yW cI y φ824) [17, 18, 19, 20, 21, 22, 23, 0, 1, 2, 3, 4, 5, 6, 7, 8, 9, 10, 11, 24, 12, 13, 14, 15, 16] (by decide) rfl
        have hP : va_P D vwCl (wW h (a 0) (z 0) l0 m0 ++ sW cI a σ ++ dW cI cZ cG cY o rr h b dr δ Y9 ++ sW cI z (playS 3 σ) ++ wL l0 mc q9 g ++ mW cI m0 (y 0) w0 f824 ++ yW cI y φ824 ++ (bW cI rr (d_n δ) (d_R δ) ++ xp)) H := hP
        have hD : va_D (lA s) (wW h (a 0) (z 0) l0 m0 ++ sW cI a σ ++ dW cI cZ cG cY o rr h b dr δ Y9 ++ sW cI z (playS 3 σ) ++ wL l0 mc q9 g ++ mW cI m0 (y 0) w0 f824 ++ yW cI y φ824 ++ (bW cI rr (d_n δ) (d_R δ) ++ xp)) := hD
        exact L877 (ce + 8) (sl + 48) (by omega) (by omega) _ _ ls (lv_sub hl [1, 2, 3, 4, 5, 6, 7, 8] rfl) hP hD hS
  refine lv_if_ge (tgt := 793) hx hb dL_law_786 (by decide) (fun c_786 => ?_) (fun c_786 => ?_)
  · refine lv_iconst (v := 0) hx hb dL_law_793 (by decide) ?_
    refine lv_iload hx hb dL_law_794 (lv_at hl 0 rfl) ?_
    refine lv_if_ne (tgt := 803) hx hb dL_law_796 (by decide) (fun c_796 => ?_) (fun c_796 => absurd c_796 ((nI_ne0 (Nat.pos_of_ne_zero (fun z => Int32.not_lt.mpr c_786 ((F_turn0 hI).mpr z))) (Nat.lt_of_le_of_lt (F_cnt hI hn6) (by decide)))))
    refine lv_iconst (v := 0) hx hb dL_law_803 (by decide) ?_
    refine lv_icmp_ne (tgt := 820) hx hb dL_law_804 (by decide) (fun c_804 => absurd (rfl) c_804) (fun c_804 => ?_)
    exact L807  _ _ ls (lv_sub hl [0, 1, 2, 3, 4, 5, 6, 7] rfl) hP hD hS
  · refine lv_iconst (v := 1) hx hb dL_law_789 (by decide) ?_
    refine lv_goto (tgt := 794) hx hb dL_law_790 (by decide) ?_
    refine lv_iload hx hb dL_law_794 (lv_at hl 0 rfl) ?_
    refine lv_if_ne (tgt := 803) hx hb dL_law_796 (by decide) (fun c_796 => absurd (((congrArg nI ((F_turn0 hI).mp (Int32.not_le.mp c_786))).trans nI_0)) c_796) (fun c_796 => ?_)
    refine lv_iconst (v := 1) hx hb dL_law_799 (by decide) ?_
    refine lv_goto (tgt := 804) hx hb dL_law_800 (by decide) ?_
    refine lv_icmp_ne (tgt := 820) hx hb dL_law_804 (by decide) (fun c_804 => absurd (rfl) c_804) (fun c_804 => ?_)
    exact L807  _ _ ls (lv_sub hl [0, 1, 2, 3, 4, 5, 6, 7] rfl) hP hD hS
end LAW28
