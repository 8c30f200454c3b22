-- ===== the law: law_head =====
section LAW28
variable {p : Program} {l : Launch} {e : Env} {s : State} {m : MethodId} {below : List Frame} {meth : Method} {c : Code} {b L : Nat} {xs : Nat → Int32} {D : va_G} {cI cZ cG cY : ClassId} {t e0 : Nat}
set_option maxHeartbeats 4000000 in
set_option maxRecDepth 100000 in
/-- one step of the dungeon -/
theorem law_head {h l0 m0 w0 q9 g : Nat} {a z y o rr : Nat → Nat} {mc : Int32} {f : Nat → Int32} {σ τ : SS} {δ : DD} {ψ : YS} {Y9 : RW} {dr : Nat} {xp : va_W} {ce sl : Nat} {H : Heap} {locs : List Loc} {ls : Array Slot} {k1 k4 K : Nat} (E0 : lawE p s m meth c b L xs D cI cZ cG cY t e0) (hst : l.stackTraces = false) (hI : IR K σ δ) (hn6 : d_n δ ≤ 6) (hK9 : K + 2 < 1000) (hdr : dr ≤ 800000) (hce0 : ce ≤ 400000) (hsl0 : sl ≤ 4000000) (hl : lv_has ls 19 [(4, .int (nI k4)), (3, .ref h), (2, .ref (o 0)), (1, .int (nI k1)), (0, .ref b)]) (hP : va_P D vwCl (wW h (a 0) (z 0) l0 m0 ++ sW cI a σ ++ dW cI cZ cG cY o rr h b dr δ Y9 ++ sW cI z τ ++ wL l0 mc q9 g ++ mW cI m0 (y 0) w0 f ++ yW cI y ψ ++ (bW cI rr (d_n δ) (d_R δ) ++ xp)) H) (hD : va_D (lA s) (wW h (a 0) (z 0) l0 m0 ++ sW cI a σ ++ dW cI cZ cG cY o rr h b dr δ Y9 ++ sW cI z τ ++ wL l0 mc q9 g ++ mW cI m0 (y 0) w0 f ++ yW cI y ψ ++ (bW cI rr (d_n δ) (d_R δ) ++ xp))) (hS : va_S (lA s) s.heap H locs)
    (kk105 : ∀ (σ1 : SS) (δ1 : DD) (dr1 : Nat) (Y1 : RW) (o1 rr1 : Nat → Nat) (f1 : Nat → Int32) (ψ1 : YS) (ce1 sl1 : Nat) (hc1 : ce1 ≤ ce + 10) (hs1 : sl1 ≤ sl + 60) (hI1 : IR (K + 1 + 1) σ1 δ1) (hn1 : d_n δ1 ≤ 6) (hd1 : dr1 ≤ dr + 800) (H : Heap) (locs : List Loc) (ls : Array Slot), lv_has ls 19 [(10, .int (nI 0)), (9, .int (nI (cntP (aliveQ σ1) 0))), (8, .int (nI (d_n δ1))), (7, .int (turnF σ1)), (5, .long (digestF σ1 g)), (4, .int (nI k4)), (3, .ref h), (2, .ref (o1 0)), (1, .int (nI k1)), (0, .ref b)] → va_P D vwCl (wW h (a 0) (z 0) l0 m0 ++ sW cI a σ1 ++ dW cI cZ cG cY o1 rr1 h b dr1 δ1 Y1 ++ sW cI z τ ++ wL l0 mc q9 g ++ mW cI m0 (y 0) w0 f1 ++ yW cI y ψ1 ++ (bW cI rr1 (d_n δ1) (d_R δ1) ++ xp)) H → va_D (lA s) (wW h (a 0) (z 0) l0 m0 ++ sW cI a σ1 ++ dW cI cZ cG cY o1 rr1 h b dr1 δ1 Y1 ++ sW cI z τ ++ wL l0 mc q9 g ++ mW cI m0 (y 0) w0 f1 ++ yW cI y ψ1 ++ (bW cI rr1 (d_n δ1) (d_R δ1) ++ xp)) → va_S (lA s) s.heap H locs → W p l e room_1 s m #[Value.ref b] below meth c H locs ce1 sl1 (lw_Z below #[Value.ref b] s) (F0 m 105 ls [])) : W p l e room_1 s m #[Value.ref b] below meth c H locs ce sl (lw_Z below #[Value.ref b] s) (F0 m 49 ls []) := by
  obtain ⟨C0, hK, hGX, hEX, hNX⟩ := id E0
  obtain ⟨hx, hb, hr, hml, hown, hts, hX, hbl, hlocks, hgv⟩ := id C0
  obtain ⟨hXV, hTX, hN, hSX, hG, hBX, hnc, hnb, hov⟩ := id hGX
  have hK1 := K_D hK
  have hE := hXV.1
  have hA : ∀ q : Nat, s.heap.size ≤ q → lA s q := fun _ h => h
  have hce : ce ≤ 500000 := by omega
  have hsl : sl ≤ 5000000 := by omega
  have hn10 : d_n δ ≤ 10 := by omega
  have hnσ : s_n σ ≤ 10 := by rw [hI.1.1]; exact hn10
  refine lv_aload_n hx hb dL_law_49 rfl (lv_at hl 2 rfl) ?_
  have hP : va_P D vwCl ((wW h (a 0) (z 0) l0 m0 ++ sW cI a σ ++ dW cI cZ cG cY o rr h b dr δ Y9) ++ (sW cI z τ ++ wL l0 mc q9 g ++ mW cI m0 (y 0) w0 f ++ yW cI y ψ) ++ (bW cI rr (d_n δ) (d_R δ) ++ xp)) H := hP.part (cx := (wW h (a 0) (z 0) l0 m0 ++ sW cI a σ ++ dW cI cZ cG cY o rr h b dr δ Y9) ++ (sW cI z τ ++ wL l0 mc q9 g ++ mW cI m0 (y 0) w0 f ++ yW cI y ψ)) [0, 1, 2, 3, 4, 5, 6, 7, 8, 9, 10, 11, 12, 13, 14, 15, 16, 17, 18, 19, 20, 21, 22, 23, 24] rfl
  have hD : va_D (lA s) ((wW h (a 0) (z 0) l0 m0 ++ sW cI a σ ++ dW cI cZ cG cY o rr h b dr δ Y9) ++ (sW cI z τ ++ wL l0 mc q9 g ++ mW cI m0 (y 0) w0 f ++ yW cI y ψ) ++ (bW cI rr (d_n δ) (d_R δ) ++ xp)) := hD.part (cx := (wW h (a 0) (z 0) l0 m0 ++ sW cI a σ ++ dW cI cZ cG cY o rr h b dr δ Y9) ++ (sW cI z τ ++ wL l0 mc q9 g ++ mW cI m0 (y 0) w0 f ++ yW cI y ψ)) [0, 1, 2, 3, 4, 5, 6, 7, 8, 9, 10, 11, 12, 13, 14, 15, 16, 17, 18, 19, 20, 21, 22, 23, 24] (by decide) rfl
  have hFc := freeM hD hS hA
  refine va_calli (vx_runVW (As := []) (rest := []) ⟨hx, hb, hml, hown, hts⟩ (c_X5_lay l hst D cI _ cZ cG cY (z 0) l0 m0 a o rr h b dr K σ δ Y9 t L xs hI (by omega)) (vx_cwVW 0 hts gL_law_X5_lay rfl rfl rfl (by decide +kernel) ⟨Nat.le_of_ble_eq_true rfl, Nat.le_of_ble_eq_true rfl⟩) ⟨preD_blind, va_recv hK hP (ci := 5) (q0 := 7) rfl rfl, preD_of (P_pre (toM hP)) hK (D_pre (toMD hD)) hGX hS hFc [.ref (o 0)]⟩ rfl rfl hl.1 rfl (lv_room (Nat.le_of_ble_eq_true rfl)) dL_law_50 ⟨room_c hce (Nat.le_of_ble_eq_true rfl) (k := 1), room_s hsl (Nat.le_of_ble_eq_true rfl) (k := 6)⟩) hS (fun q _ h => hFc q h) hFc (fun r9 u9 t9 H1 locs ht hvm hw hB hz1 hk1 hS => ?_)
  obtain ⟨hP1, -, hD1⟩ := hB
  rw [ht] at hP1
  obtain ⟨s50, d50, n50, Y50, o50, rr50⟩ := u9
  dsimp only at hw hP1 hD1
  obtain ⟨hr9, hI50, hd50, hn50, ho50⟩ := hw
  rw [hr9]
  obtain ⟨f50, rfl⟩ : ∃ f, o50 = oz o f := ⟨o50, (oz_eq ho50).symm⟩
  obtain ⟨hP, hD⟩ := joinM hP hD hk1 hFc hP1 hD1
  generalize H1 = H at hP hS ⊢
  clear ht hvm hz1 hk1 hFc hP1 hD1 hr9
  have hP : va_P D vwCl (wW h (a 0) (z 0) l0 m0 ++ sW cI a s50 ++ dW cI cZ cG cY (oz o f50) rr50 h b n50 d50 Y50 ++ sW cI z τ ++ wL l0 mc q9 g ++ mW cI m0 (y 0) w0 f ++ yW cI y ψ ++ (bW cI rr50 (d_n d50) (d_R d50) ++ xp)) H := hP
  have hD : va_D (lA s) (wW h (a 0) (z 0) l0 m0 ++ sW cI a s50 ++ dW cI cZ cG cY (oz o f50) rr50 h b n50 d50 Y50 ++ sW cI z τ ++ wL l0 mc q9 g ++ mW cI m0 (y 0) w0 f ++ yW cI y ψ ++ (bW cI rr50 (d_n d50) (d_R d50) ++ xp)) := hD
  refine lv_if_eq (tgt := 77) hx hb dL_law_53 (by decide) (fun z9 => absurd z9 (by decide)) (fun _ => ?_)
  refine lv_aload_n hx hb dL_law_56 rfl (lv_at hl 2 rfl) ?_
  have hP : va_P D vwCl ((wW h (a 0) (z 0) l0 m0 ++ sW cI a s50 ++ dW cI cZ cG cY (oz o f50) rr50 h b n50 d50 Y50) ++ (sW cI z τ ++ wL l0 mc q9 g ++ mW cI m0 (y 0) w0 f ++ yW cI y ψ) ++ (bW cI rr50 (d_n d50) (d_R d50) ++ xp)) H := hP.part (cx := (wW h (a 0) (z 0) l0 m0 ++ sW cI a s50 ++ dW cI cZ cG cY (oz o f50) rr50 h b n50 d50 Y50) ++ (sW cI z τ ++ wL l0 mc q9 g ++ mW cI m0 (y 0) w0 f ++ yW cI y ψ)) [0, 1, 2, 3, 4, 5, 6, 7, 8, 9, 10, 11, 12, 13, 14, 15, 16, 17, 18, 19, 20, 21, 22, 23, 24] rfl
  have hD : va_D (lA s) ((wW h (a 0) (z 0) l0 m0 ++ sW cI a s50 ++ dW cI cZ cG cY (oz o f50) rr50 h b n50 d50 Y50) ++ (sW cI z τ ++ wL l0 mc q9 g ++ mW cI m0 (y 0) w0 f ++ yW cI y ψ) ++ (bW cI rr50 (d_n d50) (d_R d50) ++ xp)) := hD.part (cx := (wW h (a 0) (z 0) l0 m0 ++ sW cI a s50 ++ dW cI cZ cG cY (oz o f50) rr50 h b n50 d50 Y50) ++ (sW cI z τ ++ wL l0 mc q9 g ++ mW cI m0 (y 0) w0 f ++ yW cI y ψ)) [0, 1, 2, 3, 4, 5, 6, 7, 8, 9, 10, 11, 12, 13, 14, 15, 16, 17, 18, 19, 20, 21, 22, 23, 24] (by decide) rfl
  have hFc := freeM hD hS hA
  refine va_calli (va_runV (As := []) (rest := []) ⟨hx, hb, hml, hown, hts⟩ (c_X5_step_ l hst D cI _ cZ cG cY (z 0) l0 m0 a (oz o f50) rr50 h b n50 K s50 d50 Y50 t L xs hI50 (by omega) (by omega)) (cwV 0 hts gL_law_X5_step_ rfl rfl rfl (by decide +kernel) ⟨Nat.le_of_ble_eq_true rfl, Nat.le_of_ble_eq_true rfl⟩) ⟨preD_blind, va_recv hK hP (ci := 5) (q0 := 7) rfl rfl, preD_of (P_pre (toM hP)) hK (D_pre (toMD hD)) hGX hS hFc [.ref (o 0)]⟩ rfl rfl hl.1 rfl (lv_room (Nat.le_of_ble_eq_true rfl)) dL_law_57 ⟨room_c hce (Nat.le_of_ble_eq_true rfl) (k := 2), room_s hsl (Nat.le_of_ble_eq_true rfl) (k := 12)⟩) hS (fun q _ h => hFc q h) hFc (fun r9 u9 t9 H1 locs ht hvm hw hB hz1 hk1 hS => ?_)
  obtain ⟨hP1, -, hD1⟩ := hB
  rw [ht] at hP1
  obtain ⟨s57, d57, n57, Y57, o57, rr57⟩ := u9
  dsimp only at hw hP1 hD1
  obtain ⟨hr9, hI57, hd57, hn57, ho57⟩ := hw
  rw [hr9]
  obtain ⟨f57, rfl⟩ : ∃ f, o57 = oz o f := ⟨o57, (oz_eq ho57).symm⟩
  obtain ⟨hP, hD⟩ := joinM hP hD hk1 hFc hP1 hD1
  generalize H1 = H at hP hS ⊢
  clear ht hvm hz1 hk1 hFc hP1 hD1 hr9
  have hP : va_P D vwCl (wW h (a 0) (z 0) l0 m0 ++ sW cI a s57 ++ dW cI cZ cG cY (oz o f57) rr57 h b n57 d57 Y57 ++ sW cI z τ ++ wL l0 mc q9 g ++ mW cI m0 (y 0) w0 f ++ yW cI y ψ ++ (bW cI rr57 (d_n d57) (d_R d57) ++ xp)) H := hP
  have hD : va_D (lA s) (wW h (a 0) (z 0) l0 m0 ++ sW cI a s57 ++ dW cI cZ cG cY (oz o f57) rr57 h b n57 d57 Y57 ++ sW cI z τ ++ wL l0 mc q9 g ++ mW cI m0 (y 0) w0 f ++ yW cI y ψ ++ (bW cI rr57 (d_n d57) (d_R d57) ++ xp)) := hD
  refine lv_if_eq (tgt := 77) hx hb dL_law_60 (by decide) (fun z9 => absurd z9 (by decide)) (fun _ => ?_)
  refine lv_aload_n hx hb dL_law_63 rfl (lv_at hl 2 rfl) ?_
  have hP : va_P D vwCl ((wW h (a 0) (z 0) l0 m0 ++ sW cI a s57 ++ dW cI cZ cG cY (oz o f57) rr57 h b n57 d57 Y57) ++ (sW cI z τ ++ wL l0 mc q9 g ++ mW cI m0 (y 0) w0 f ++ yW cI y ψ) ++ (bW cI rr57 (d_n d57) (d_R d57) ++ xp)) H := hP.part (cx := (wW h (a 0) (z 0) l0 m0 ++ sW cI a s57 ++ dW cI cZ cG cY (oz o f57) rr57 h b n57 d57 Y57) ++ (sW cI z τ ++ wL l0 mc q9 g ++ mW cI m0 (y 0) w0 f ++ yW cI y ψ)) [0, 1, 2, 3, 4, 5, 6, 7, 8, 9, 10, 11, 12, 13, 14, 15, 16, 17, 18, 19, 20, 21, 22, 23, 24] rfl
  have hD : va_D (lA s) ((wW h (a 0) (z 0) l0 m0 ++ sW cI a s57 ++ dW cI cZ cG cY (oz o f57) rr57 h b n57 d57 Y57) ++ (sW cI z τ ++ wL l0 mc q9 g ++ mW cI m0 (y 0) w0 f ++ yW cI y ψ) ++ (bW cI rr57 (d_n d57) (d_R d57) ++ xp)) := hD.part (cx := (wW h (a 0) (z 0) l0 m0 ++ sW cI a s57 ++ dW cI cZ cG cY (oz o f57) rr57 h b n57 d57 Y57) ++ (sW cI z τ ++ wL l0 mc q9 g ++ mW cI m0 (y 0) w0 f ++ yW cI y ψ)) [0, 1, 2, 3, 4, 5, 6, 7, 8, 9, 10, 11, 12, 13, 14, 15, 16, 17, 18, 19, 20, 21, 22, 23, 24] (by decide) rfl
  have hFc := freeM hD hS hA
  refine va_calli (va_runV (As := []) (rest := []) ⟨hx, hb, hml, hown, hts⟩ (c_X5_step_ l hst D cI _ cZ cG cY (z 0) l0 m0 a (oz o f57) rr57 h b n57 (K + 1) s57 d57 Y57 t L xs hI57 (by omega) (by omega)) (cwV 0 hts gL_law_X5_step_ rfl rfl rfl (by decide +kernel) ⟨Nat.le_of_ble_eq_true rfl, Nat.le_of_ble_eq_true rfl⟩) ⟨preD_blind, va_recv hK hP (ci := 5) (q0 := 7) rfl rfl, preD_of (P_pre (toM hP)) hK (D_pre (toMD hD)) hGX hS hFc [.ref (o 0)]⟩ rfl rfl hl.1 rfl (lv_room (Nat.le_of_ble_eq_true rfl)) dL_law_64 ⟨room_c hce (Nat.le_of_ble_eq_true rfl) (k := 3), room_s hsl (Nat.le_of_ble_eq_true rfl) (k := 18)⟩) hS (fun q _ h => hFc q h) hFc (fun r9 u9 t9 H1 locs ht hvm hw hB hz1 hk1 hS => ?_)
  obtain ⟨hP1, -, hD1⟩ := hB
  rw [ht] at hP1
  obtain ⟨s64, d64, n64, Y64, o64, rr64⟩ := u9
  dsimp only at hw hP1 hD1
  obtain ⟨hr9, hI64, hd64, hn64, ho64⟩ := hw
  rw [hr9]
  obtain ⟨f64, rfl⟩ : ∃ f, o64 = oz o f := ⟨o64, (oz_eq ho64).symm⟩
  obtain ⟨hP, hD⟩ := joinM hP hD hk1 hFc hP1 hD1
  generalize H1 = H at hP hS ⊢
  clear ht hvm hz1 hk1 hFc hP1 hD1 hr9
  have hP : va_P D vwCl (wW h (a 0) (z 0) l0 m0 ++ sW cI a s64 ++ dW cI cZ cG cY (oz o f64) rr64 h b n64 d64 Y64 ++ sW cI z τ ++ wL l0 mc q9 g ++ mW cI m0 (y 0) w0 f ++ yW cI y ψ ++ (bW cI rr64 (d_n d64) (d_R d64) ++ xp)) H := hP
  have hD : va_D (lA s) (wW h (a 0) (z 0) l0 m0 ++ sW cI a s64 ++ dW cI cZ cG cY (oz o f64) rr64 h b n64 d64 Y64 ++ sW cI z τ ++ wL l0 mc q9 g ++ mW cI m0 (y 0) w0 f ++ yW cI y ψ ++ (bW cI rr64 (d_n d64) (d_R d64) ++ xp)) := hD
  refine lv_if_eq (tgt := 77) hx hb dL_law_67 (by decide) (fun z9 => absurd z9 (by decide)) (fun _ => ?_)
  refine lv_aload_n hx hb dL_law_70 rfl (lv_at hl 2 rfl) ?_
  have hP : va_P D vwCl ((wW h (a 0) (z 0) l0 m0 ++ sW cI a s64 ++ dW cI cZ cG cY (oz o f64) rr64 h b n64 d64 Y64) ++ (sW cI z τ ++ wL l0 mc q9 g ++ mW cI m0 (y 0) w0 f ++ yW cI y ψ) ++ (bW cI rr64 (d_n d64) (d_R d64) ++ xp)) H := hP.part (cx := (wW h (a 0) (z 0) l0 m0 ++ sW cI a s64 ++ dW cI cZ cG cY (oz o f64) rr64 h b n64 d64 Y64) ++ (sW cI z τ ++ wL l0 mc q9 g ++ mW cI m0 (y 0) w0 f ++ yW cI y ψ)) [0, 1, 2, 3, 4, 5, 6, 7, 8, 9, 10, 11, 12, 13, 14, 15, 16, 17, 18, 19, 20, 21, 22, 23, 24] rfl
  have hD : va_D (lA s) ((wW h (a 0) (z 0) l0 m0 ++ sW cI a s64 ++ dW cI cZ cG cY (oz o f64) rr64 h b n64 d64 Y64) ++ (sW cI z τ ++ wL l0 mc q9 g ++ mW cI m0 (y 0) w0 f ++ yW cI y ψ) ++ (bW cI rr64 (d_n d64) (d_R d64) ++ xp)) := hD.part (cx := (wW h (a 0) (z 0) l0 m0 ++ sW cI a s64 ++ dW cI cZ cG cY (oz o f64) rr64 h b n64 d64 Y64) ++ (sW cI z τ ++ wL l0 mc q9 g ++ mW cI m0 (y 0) w0 f ++ yW cI y ψ)) [0, 1, 2, 3, 4, 5, 6, 7, 8, 9, 10, 11, 12, 13, 14, 15, 16, 17, 18, 19, 20, 21, 22, 23, 24] (by decide) rfl
  have hFc := freeM hD hS hA
  refine va_calli (vx_runVW (As := []) (rest := []) ⟨hx, hb, hml, hown, hts⟩ (c_X5_set l hst D cI _ cZ cG cY (z 0) l0 m0 a (oz o f64) rr64 h b n64 (K + 1 + 1) s64 d64 Y64 t L xs hI64 (by omega)) (vx_cwVW 0 hts gL_law_X5_set rfl rfl rfl (by decide +kernel) ⟨Nat.le_of_ble_eq_true rfl, Nat.le_of_ble_eq_true rfl⟩) ⟨preD_blind, va_recv hK hP (ci := 5) (q0 := 7) rfl rfl, preD_of (P_pre (toM hP)) hK (D_pre (toMD hD)) hGX hS hFc [.ref (o 0)]⟩ rfl rfl hl.1 rfl (lv_room (Nat.le_of_ble_eq_true rfl)) dL_law_71 ⟨room_c hce (Nat.le_of_ble_eq_true rfl) (k := 4), room_s hsl (Nat.le_of_ble_eq_true rfl) (k := 24)⟩) hS (fun q _ h => hFc q h) hFc (fun r9 u9 t9 H1 locs ht hvm hw hB hz1 hk1 hS => ?_)
  obtain ⟨hP1, -, hD1⟩ := hB
  rw [ht] at hP1
  obtain ⟨s71, d71, n71, Y71, o71, rr71⟩ := u9
  dsimp only at hw hP1 hD1
  obtain ⟨hr9, hI71, hd71, hn71, ho71⟩ := hw
  rw [hr9]
  obtain ⟨f71, rfl⟩ : ∃ f, o71 = oz o f := ⟨o71, (oz_eq ho71).symm⟩
  obtain ⟨hP, hD⟩ := joinM hP hD hk1 hFc hP1 hD1
  generalize H1 = H at hP hS ⊢
  clear ht hvm hz1 hk1 hFc hP1 hD1 hr9
  have hP : va_P D vwCl (wW h (a 0) (z 0) l0 m0 ++ sW cI a s71 ++ dW cI cZ cG cY (oz o f71) rr71 h b n71 d71 Y71 ++ sW cI z τ ++ wL l0 mc q9 g ++ mW cI m0 (y 0) w0 f ++ yW cI y ψ ++ (bW cI rr71 (d_n d71) (d_R d71) ++ xp)) H := hP
  have hD : va_D (lA s) (wW h (a 0) (z 0) l0 m0 ++ sW cI a s71 ++ dW cI cZ cG cY (oz o f71) rr71 h b n71 d71 Y71 ++ sW cI z τ ++ wL l0 mc q9 g ++ mW cI m0 (y 0) w0 f ++ yW cI y ψ ++ (bW cI rr71 (d_n d71) (d_R d71) ++ xp)) := hD
  refine lv_if_ne (tgt := 79) hx hb dL_law_74 (by decide) (fun _ => ?_) (fun z9 => absurd z9 (by decide))
  have hn9 : d_n d71 ≤ 6 := by omega
  have hnσ9 : s_n s71 ≤ 10 := by rw [hI71.1.1]; omega
  refine lv_aload_n hx hb dL_law_79 rfl (lv_at hl 1 rfl) ?_
  have hFc := va_free (wc := wW h (a 0) (z 0) l0 m0 ++ sW cI a s71 ++ mW cI m0 (y 0) w0 f ++ yW cI y ψ ++ wL l0 mc q9 g) hD hS hA [0, 1, 2, 3, 4, 5, 6, 20, 21, 22, 23, 24, 19] rfl
  refine vx_calll (vx_runV (As := []) (rest := []) ⟨hx, hb, hml, hown, hts⟩ (c_X4_digest l hst D cI _ h (z 0) l0 m0 w0 a y s71 f ψ mc q9 g t hnσ9) (cwV 0 hts gL_law_X4_digest rfl rfl rfl (by decide +kernel) ⟨Nat.le_of_ble_eq_true rfl, Nat.le_of_ble_eq_true rfl⟩) ⟨preXS_blind, va_recv hK hP (ci := 4) (q0 := 0) rfl rfl, preXS_of (hP.sub (ws' := wW h (a 0) (z 0) l0 m0 ++ sW cI a s71 ++ mW cI m0 (y 0) w0 f ++ yW cI y ψ ++ wL l0 mc q9 g) [0, 1, 2, 3, 4, 5, 6, 20, 21, 22, 23, 24, 19] rfl) hK1 hXV (hD.sub (ws' := wW h (a 0) (z 0) l0 m0 ++ sW cI a s71 ++ mW cI m0 (y 0) w0 f ++ yW cI y ψ ++ wL l0 mc q9 g) [0, 1, 2, 3, 4, 5, 6, 20, 21, 22, 23, 24, 19] (by decide) rfl) hTX hSX hS hFc [.ref h]⟩ rfl rfl hl.1 rfl (lv_room (Nat.le_of_ble_eq_true rfl)) dL_law_80 ⟨room_c hce (Nat.le_of_ble_eq_true rfl) (k := 5), room_s hsl (Nat.le_of_ble_eq_true rfl) (k := 30)⟩) hS (fun q _ h => hFc q h) hFc (fun q _ h => hFc q h) (fun E ce9 q9 u9 t9 H1 locs ht hvm hpx hBX9 hz1 hk1 hS hq9 hce9 hcl9 => absurd rfl hpx) (fun r9 u9 t9 H1 locs ht hvm hw hB hz1 hk1 hS => ?_)
  obtain ⟨hP1, -, hD1⟩ := hB
  rw [ht] at hP1
  obtain ⟨s80, f80, φ80⟩ := u9
  dsimp only at hw hP1 hD1
  obtain ⟨hT9, hR9, hU9⟩ := hw
  rw [hU9] at hP1 hD1
  obtain ⟨hP, hD⟩ := va_joinQ (wr := dW cI cZ cG cY (oz o f71) rr71 h b n71 d71 Y71 ++ sW cI z τ) (w1 := wW h (a 0) (z 0) l0 m0 ++ sW cI a s71 ++ mW cI m0 (y 0) w0 f80 ++ yW cI y φ80 ++ wL l0 mc q9 g) hP hD [0, 1, 2, 3, 4, 5, 6, 20, 21, 22, 23, 24, 19] [7, 8, 9, 10, 11, 12, 13, 14, 15, 16, 17, 18] rfl rfl (by decide) (by decide) hk1 hFc hP1 hD1
  generalize H1 = H at hP hS ⊢
  clear ht hvm hz1 hk1 hFc hP1 hD1 hT9 hU9
  have hP : va_P D vwCl (dW cI cZ cG cY (oz o f71) rr71 h b n71 d71 Y71 ++ sW cI z τ ++ wW h (a 0) (z 0) l0 m0 ++ sW cI a s71 ++ mW cI m0 (y 0) w0 f80 ++ yW cI y φ80 ++ wL l0 mc q9 g ++ (bW cI rr71 (d_n d71) (d_R d71) ++ xp)) H := hP
  have hD : va_D (lA s) (dW cI cZ cG cY (oz o f71) rr71 h b n71 d71 Y71 ++ sW cI z τ ++ wW h (a 0) (z 0) l0 m0 ++ sW cI a s71 ++ mW cI m0 (y 0) w0 f80 ++ yW cI y φ80 ++ wL l0 mc q9 g ++ (bW cI rr71 (d_n d71) (d_R d71) ++ xp)) := hD
  rw [hR9]
  clear hR9
  refine lv_lstore (lv' := [(5, .long (digestF s71 g)), (4, .int (nI k4)), (3, .ref h), (2, .ref (o 0)), (1, .int (nI k1)), (0, .ref b)]) hx hb dL_law_83 hl (by decide) rfl (fun ls hl => ?_)
  refine lv_aload_n hx hb dL_law_85 rfl (lv_at hl 2 rfl) ?_
  refine lv_iconst (v := 3) hx hb dL_law_86 (by decide) ?_
  have hFc := va_free (wc := wW h (a 0) (z 0) l0 m0 ++ sW cI a s71 ++ wL l0 mc q9 g) hD hS hA [12, 13, 14, 15, 16, 17, 18, 24] rfl
  refine vx_calli (vx_runV (As := [.int 3]) (rest := []) ⟨hx, hb, hml, hown, hts⟩ (c_X4_many l hst D cI _ h (z 0) l0 m0 a s71 mc q9 g 3 hnσ9) (cwV 1 hts gL_law_X4_many rfl rfl rfl (by decide +kernel) ⟨Nat.le_of_ble_eq_true rfl, Nat.le_of_ble_eq_true rfl⟩) ⟨preX_blind, va_recv hK hP (ci := 4) (q0 := 12) rfl rfl, preX_of (hP.sub (ws' := wW h (a 0) (z 0) l0 m0 ++ sW cI a s71 ++ wL l0 mc q9 g) [12, 13, 14, 15, 16, 17, 18, 24] rfl) hK1 hXV (hD.sub (ws' := wW h (a 0) (z 0) l0 m0 ++ sW cI a s71 ++ wL l0 mc q9 g) [12, 13, 14, 15, 16, 17, 18, 24] (by decide) rfl) hTX hS hFc [.ref h, .int 3]⟩ rfl rfl hl.1 rfl (lv_room (Nat.le_of_ble_eq_true rfl)) dL_law_87 ⟨room_c hce (Nat.le_of_ble_eq_true rfl) (k := 6), room_s hsl (Nat.le_of_ble_eq_true rfl) (k := 36)⟩) hS (fun q _ h => hFc q h) hFc (fun q _ h => hFc q h) (fun E ce9 q9 u9 t9 H1 locs ht hvm hpx hBX9 hz1 hk1 hS hq9 hce9 hcl9 => absurd (by decide) hpx) (fun r9 u9 t9 H1 locs ht hvm hw hB hz1 hk1 hS => ?_)
  obtain ⟨hP1, -, hD1⟩ := hB
  rw [ht] at hP1
  obtain ⟨hT9, hR9, hU9⟩ := hw
  rw [hU9] at hP1 hD1
  obtain ⟨hP, hD⟩ := va_joinQ (wr := dW cI cZ cG cY (oz o f71) rr71 h b n71 d71 Y71 ++ sW cI z τ ++ mW cI m0 (y 0) w0 f80 ++ yW cI y φ80) (w1 := wW h (a 0) (z 0) l0 m0 ++ sW cI a s71 ++ wL l0 mc q9 g) hP hD [12, 13, 14, 15, 16, 17, 18, 24] [0, 1, 2, 3, 4, 5, 6, 7, 8, 9, 10, 11, 19, 20, 21, 22, 23] rfl rfl (by decide) (by decide) hk1 hFc hP1 hD1
  generalize H1 = H at hP hS ⊢
  clear ht hvm hz1 hk1 hFc hP1 hD1 hT9 hU9
  have hP : va_P D vwCl (dW cI cZ cG cY (oz o f71) rr71 h b n71 d71 Y71 ++ sW cI z τ ++ mW cI m0 (y 0) w0 f80 ++ yW cI y φ80 ++ wW h (a 0) (z 0) l0 m0 ++ sW cI a s71 ++ wL l0 mc q9 g ++ (bW cI rr71 (d_n d71) (d_R d71) ++ xp)) H := hP
  have hD : va_D (lA s) (dW cI cZ cG cY (oz o f71) rr71 h b n71 d71 Y71 ++ sW cI z τ ++ mW cI m0 (y 0) w0 f80 ++ yW cI y φ80 ++ wW h (a 0) (z 0) l0 m0 ++ sW cI a s71 ++ wL l0 mc q9 g ++ (bW cI rr71 (d_n d71) (d_R d71) ++ xp)) := hD
  rw [hR9]
  clear hR9
  rw [F_c3]
  refine lv_istore (lv' := [(7, .int (turnF s71)), (5, .long (digestF s71 g)), (4, .int (nI k4)), (3, .ref h), (2, .ref (o 0)), (1, .int (nI k1)), (0, .ref b)]) hx hb dL_law_90 hl (by decide) rfl (fun ls hl => ?_)
  refine lv_aload_n hx hb dL_law_92 rfl (lv_at hl 3 rfl) ?_
  refine lv_iconst (v := 0) hx hb dL_law_93 (by decide) ?_
  have hFc := va_free (wc := wW h (a 0) (z 0) l0 m0 ++ sW cI a s71 ++ wL l0 mc q9 g) hD hS hA [17, 18, 19, 20, 21, 22, 23, 24] rfl
  refine vx_calli (vx_runV (As := [.int 0]) (rest := []) ⟨hx, hb, hml, hown, hts⟩ (c_X4_many l hst D cI _ h (z 0) l0 m0 a s71 mc q9 g 0 hnσ9) (cwV 1 hts gL_law_X4_many rfl rfl rfl (by decide +kernel) ⟨Nat.le_of_ble_eq_true rfl, Nat.le_of_ble_eq_true rfl⟩) ⟨preX_blind, va_recv hK hP (ci := 4) (q0 := 17) rfl rfl, preX_of (hP.sub (ws' := wW h (a 0) (z 0) l0 m0 ++ sW cI a s71 ++ wL l0 mc q9 g) [17, 18, 19, 20, 21, 22, 23, 24] rfl) hK1 hXV (hD.sub (ws' := wW h (a 0) (z 0) l0 m0 ++ sW cI a s71 ++ wL l0 mc q9 g) [17, 18, 19, 20, 21, 22, 23, 24] (by decide) rfl) hTX hS hFc [.ref h, .int 0]⟩ rfl rfl hl.1 rfl (lv_room (Nat.le_of_ble_eq_true rfl)) dL_law_94 ⟨room_c hce (Nat.le_of_ble_eq_true rfl) (k := 7), room_s hsl (Nat.le_of_ble_eq_true rfl) (k := 42)⟩) hS (fun q _ h => hFc q h) hFc (fun q _ h => hFc q h) (fun E ce9 q9 u9 t9 H1 locs ht hvm hpx hBX9 hz1 hk1 hS hq9 hce9 hcl9 => absurd (by decide) hpx) (fun r9 u9 t9 H1 locs ht hvm hw hB hz1 hk1 hS => ?_)
  obtain ⟨hP1, -, hD1⟩ := hB
  rw [ht] at hP1
  obtain ⟨hT9, hR9, hU9⟩ := hw
  rw [hU9] at hP1 hD1
  obtain ⟨hP, hD⟩ := va_joinQ (wr := dW cI cZ cG cY (oz o f71) rr71 h b n71 d71 Y71 ++ sW cI z τ ++ mW cI m0 (y 0) w0 f80 ++ yW cI y φ80) (w1 := wW h (a 0) (z 0) l0 m0 ++ sW cI a s71 ++ wL l0 mc q9 g) hP hD [17, 18, 19, 20, 21, 22, 23, 24] [0, 1, 2, 3, 4, 5, 6, 7, 8, 9, 10, 11, 12, 13, 14, 15, 16] rfl rfl (by decide) (by decide) hk1 hFc hP1 hD1
  generalize H1 = H at hP hS ⊢
  clear ht hvm hz1 hk1 hFc hP1 hD1 hT9 hU9
  have hP : va_P D vwCl (dW cI cZ cG cY (oz o f71) rr71 h b n71 d71 Y71 ++ sW cI z τ ++ mW cI m0 (y 0) w0 f80 ++ yW cI y φ80 ++ wW h (a 0) (z 0) l0 m0 ++ sW cI a s71 ++ wL l0 mc q9 g ++ (bW cI rr71 (d_n d71) (d_R d71) ++ xp)) H := hP
  have hD : va_D (lA s) (dW cI cZ cG cY (oz o f71) rr71 h b n71 d71 Y71 ++ sW cI z τ ++ mW cI m0 (y 0) w0 f80 ++ yW cI y φ80 ++ wW h (a 0) (z 0) l0 m0 ++ sW cI a s71 ++ wL l0 mc q9 g ++ (bW cI rr71 (d_n d71) (d_R d71) ++ xp)) := hD
  rw [hR9]
  clear hR9
  rw [F_c0, hI71.1.1]
  refine lv_istore (lv' := [(8, .int (nI (d_n d71))), (7, .int (turnF s71)), (5, .long (digestF s71 g)), (4, .int (nI k4)), (3, .ref h), (2, .ref (o 0)), (1, .int (nI k1)), (0, .ref b)]) hx hb dL_law_97 hl (by decide) rfl (fun ls hl => ?_)
  refine lv_iconst (v := 0) hx hb dL_law_99 (by decide) ?_
  refine lv_istore (lv' := [(9, .int 0), (8, .int (nI (d_n d71))), (7, .int (turnF s71)), (5, .long (digestF s71 g)), (4, .int (nI k4)), (3, .ref h), (2, .ref (o 0)), (1, .int (nI k1)), (0, .ref b)]) hx hb dL_law_100 hl (by decide) rfl (fun ls hl => ?_)
  refine lv_iconst (v := 0) hx hb dL_law_102 (by decide) ?_
  refine lv_istore (lv' := [(10, .int 0), (9, .int 0), (8, .int (nI (d_n d71))), (7, .int (turnF s71)), (5, .long (digestF s71 g)), (4, .int (nI k4)), (3, .ref h), (2, .ref (o 0)), (1, .int (nI k1)), (0, .ref b)]) hx hb dL_law_103 hl (by decide) rfl (fun ls hl => ?_)
  have hP := hP.part (cx := wW h (a 0) (z 0) l0 m0 ++ sW cI a s71 ++ dW cI cZ cG cY (oz o f71) rr71 h b n71 d71 Y71 ++ sW cI z τ ++ wL l0 mc q9 g ++ mW cI m0 (y 0) w0 f80 ++ yW cI y φ80) [17, 18, 19, 20, 21, 22, 23, 0, 1, 2, 3, 4, 5, 6, 7, 8, 9, 10, 11, 24, 12, 13, 14, 15, 16] rfl
  have hD := hD.part (cx := wW h (a 0) (z 0) l0 m0 ++ sW cI a s71 ++ dW cI cZ cG cY (oz o f71) rr71 h b n71 d71 Y71 ++ sW cI z τ ++ wL l0 mc q9 g ++ mW cI m0 (y 0) w0 f80 ++ yW cI y φ80) [17, 18, 19, 20, 21, 22, 23, 0, 1, 2, 3, 4, 5, 6, 7, 8, 9, 10, 11, 24, 12, 13, 14, 15, 16] (by decide) rfl
  have hP : va_P D vwCl (wW h (a 0) (z 0) l0 m0 ++ sW cI a s71 ++ dW cI cZ cG cY (oz o f71) rr71 h b n71 d71 Y71 ++ sW cI z τ ++ wL l0 mc q9 g ++ mW cI m0 (y 0) w0 f80 ++ yW cI y φ80 ++ (bW cI rr71 (d_n d71) (d_R d71) ++ xp)) H := hP
  have hD : va_D (lA s) (wW h (a 0) (z 0) l0 m0 ++ sW cI a s71 ++ dW cI cZ cG cY (oz o f71) rr71 h b n71 d71 Y71 ++ sW cI z τ ++ wL l0 mc q9 g ++ mW cI m0 (y 0) w0 f80 ++ yW cI y φ80 ++ (bW cI rr71 (d_n d71) (d_R d71) ++ xp)) := hD
  exact kk105 s71 d71 n71 Y71 (oz o f71) rr71 f80 φ80 (ce + 7) (sl + 42) (by omega) (by omega) hI71 hn9 (by omega) _ _ ls (lv_sub hl [0, 1, 2, 3, 4, 5, 6, 7, 8, 9] rfl) hP hD hS
end LAW28
