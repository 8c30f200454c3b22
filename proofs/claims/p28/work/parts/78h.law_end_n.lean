-- ===== the law: law_end_n =====
section LAW28
variable {p : Program} {l : Launch} {e : Env} {s : State} {m : MethodId} {below : List Frame} {meth : Method} {c : Code} {b L : Nat} {xs : Nat → Int32} {D : va_G} {cI cZ cG cY : ClassId} {t e0 : Nat}
set_option maxHeartbeats 4000000 in
set_option maxRecDepth 100000 in
/-- a game is saved, played on, and loaded -/
theorem law_end_n {h l0 m0 w0 q9 g : Nat} {a z y o rr : Nat → Nat} {mc : Int32} {f : Nat → Int32} {σ τ : SS} {δ : DD} {ψ : YS} {Y9 : RW} {dr : Nat} {xp : va_W} {ce sl : Nat} {H : Heap} {locs : List Loc} {ls : Array Slot} {k1 k4 K : Nat} {cP : ClassId} {pf : Nat → Option Nat} (E0 : lawE p s m meth c b L xs D cI cZ cG cY t e0) (hst : l.stackTraces = false) (hI : IR K σ δ) (hn6 : d_n δ ≤ 6) (hg1 : 1 ≤ g) (hg9 : g ≤ 5) (hK2 : va_K D vwCl [(cI, .int), (cP, .object "java/lang/Object")] s) (hce0 : ce ≤ 400000) (hsl0 : sl ≤ 4000000) (hl : lv_has ls 19 [(9, .int (nI (cntP (aliveQ σ) (d_n δ)))), (4, .int (nI k4)), (3, .ref h), (2, .ref (o 0)), (1, .int (nI k1)), (0, .ref b)]) (hP : va_P D vwCl (wW h (a 0) (z 0) l0 m0 ++ sW cI a σ ++ dW cI cZ cG cY o rr h b dr δ Y9 ++ sW cI z τ ++ wL l0 mc q9 g ++ mW cI m0 (y 0) w0 f ++ yW cI y ψ ++ (bW cI rr (d_n δ) (d_R δ) ++ pW cP q9 pf)) H) (hD : va_D (lA s) (wW h (a 0) (z 0) l0 m0 ++ sW cI a σ ++ dW cI cZ cG cY o rr h b dr δ Y9 ++ sW cI z τ ++ wL l0 mc q9 g ++ mW cI m0 (y 0) w0 f ++ yW cI y ψ ++ (bW cI rr (d_n δ) (d_R δ) ++ pW cP q9 pf))) (hS : va_S (lA s) s.heap H locs)
    (kk975 : ∀ (cP1 : ClassId) (mc1 : Int32) (q1 g1 : Nat) (pf1 : Nat → Option Nat) (f1 : Nat → Int32) (ψ1 : YS) (ce1 sl1 : Nat) (hc1 : ce1 ≤ ce + 30) (hs1 : sl1 ≤ sl + 700) (hK1 : va_K D vwCl [(cI, .int), (cP1, .object "java/lang/Object")] s) (hg1 : 1 ≤ g1) (hg9 : g1 ≤ 5) (H : Heap) (locs : List Loc) (ls : Array Slot), lv_has ls 19 [(4, .int (nI k4)), (3, .ref h), (2, .ref (o 0)), (1, .int (nI k1)), (0, .ref b)] → va_P D vwCl (wW h (a 0) (z 0) l0 m0 ++ sW cI a σ ++ dW cI cZ cG cY o rr h b dr δ Y9 ++ sW cI z τ ++ wL l0 mc1 q1 g1 ++ mW cI m0 (y 0) w0 f1 ++ yW cI y ψ1 ++ (bW cI rr (d_n δ) (d_R δ) ++ pW cP1 q1 pf1)) H → va_D (lA s) (wW h (a 0) (z 0) l0 m0 ++ sW cI a σ ++ dW cI cZ cG cY o rr h b dr δ Y9 ++ sW cI z τ ++ wL l0 mc1 q1 g1 ++ mW cI m0 (y 0) w0 f1 ++ yW cI y ψ1 ++ (bW cI rr (d_n δ) (d_R δ) ++ pW cP1 q1 pf1)) → va_S (lA s) s.heap H locs → W p l e room_1 s m #[Value.ref b] below meth c H locs ce1 sl1 (lw_Z below #[Value.ref b] s) (F0 m 975 ls [])) : W p l e room_1 s m #[Value.ref b] below meth c H locs ce sl (lw_Z below #[Value.ref b] s) (F0 m 889 ls []) := by
  obtain ⟨C0, hK, hGX, hEX, hNX⟩ := id E0
  obtain ⟨hx, hb, hr, hml, hown, hts, hX, hbl, hlocks, hgv⟩ := id C0
  obtain ⟨hXV, hTX, hN, hSX, hG, hBX, hnc, hnb, hov⟩ := id hGX
  have hK1 := K_D hK
  have hE := hXV.1
  have hA : ∀ q : Nat, s.heap.size ≤ q → lA s q := fun _ h => h
  have hce : ce ≤ 500000 := by omega
  have hsl : sl ≤ 5000000 := by omega
  have hn10 : d_n δ ≤ 10 := by omega
  have hnσ : s_n σ ≤ 10 := by rw [hI.1.1]; exact hn10
  have hP : va_P D vwCl (wW h (a 0) (z 0) l0 m0 ++ sW cI a σ ++ dW cI cZ cG cY o rr h b dr δ Y9 ++ sW cI z τ ++ wL l0 mc q9 g ++ mW cI m0 (y 0) w0 f ++ yW cI y ψ ++ pW cP q9 pf ++ bW cI rr (d_n δ) (d_R δ)) H := toP hP
  have hD : va_D (lA s) (wW h (a 0) (z 0) l0 m0 ++ sW cI a σ ++ dW cI cZ cG cY o rr h b dr δ Y9 ++ sW cI z τ ++ wL l0 mc q9 g ++ mW cI m0 (y 0) w0 f ++ yW cI y ψ ++ pW cP q9 pf ++ bW cI rr (d_n δ) (d_R δ)) := toPD hD
  refine lv_aload_n hx hb dL_law_889 rfl (lv_at hl 2 rfl) ?_
  refine lv_bipush (v := 8) hx hb dL_law_890 (by decide) ?_
  have hFc := va_free (wc := wW h (a 0) (z 0) l0 m0 ++ sW cI a σ ++ wL l0 mc q9 g) hD hS hA [0, 1, 2, 3, 4, 5, 6, 19] rfl
  refine vx_calli (vx_runV (As := [.int 8]) (rest := []) ⟨hx, hb, hml, hown, hts⟩ (c_X4_many l hst D cI _ h (z 0) l0 m0 a σ mc q9 g 8 hnσ) (cwV 1 hts gL_law_X4_many rfl rfl rfl (by decide +kernel) ⟨Nat.le_of_ble_eq_true rfl, Nat.le_of_ble_eq_true rfl⟩) ⟨preX_blind, va_recv hK hP (ci := 4) (q0 := 0) rfl rfl, preX_of (hP.sub (ws' := wW h (a 0) (z 0) l0 m0 ++ sW cI a σ ++ wL l0 mc q9 g) [0, 1, 2, 3, 4, 5, 6, 19] rfl) hK1 hXV (hD.sub (ws' := wW h (a 0) (z 0) l0 m0 ++ sW cI a σ ++ wL l0 mc q9 g) [0, 1, 2, 3, 4, 5, 6, 19] (by decide) rfl) hTX hS hFc [.ref h, .int 8]⟩ rfl rfl hl.1 rfl (lv_room (Nat.le_of_ble_eq_true rfl)) dL_law_892 ⟨room_c hce (Nat.le_of_ble_eq_true rfl) (k := 1), room_s hsl (Nat.le_of_ble_eq_true rfl) (k := 6)⟩) hS (fun q _ h => hFc q h) hFc (fun q _ h => hFc q h) (fun E ce9 q9 u9 t9 H1 locs ht hvm hpx hBX9 hz1 hk1 hS hq9 hce9 hcl9 => absurd (by decide) hpx) (fun r9 u9 t9 H1 locs ht hvm hw hB hz1 hk1 hS => ?_)
  obtain ⟨hP1, -, hD1⟩ := hB
  rw [ht] at hP1
  obtain ⟨hT9, hR9, hU9⟩ := hw
  rw [hU9] at hP1 hD1
  obtain ⟨hP, hD⟩ := va_joinQ (wr := dW cI cZ cG cY o rr h b dr δ Y9 ++ sW cI z τ ++ mW cI m0 (y 0) w0 f ++ yW cI y ψ ++ pW cP q9 pf) (w1 := wW h (a 0) (z 0) l0 m0 ++ sW cI a σ ++ wL l0 mc q9 g) hP hD [0, 1, 2, 3, 4, 5, 6, 19] [7, 8, 9, 10, 11, 12, 13, 14, 15, 16, 17, 18, 20, 21, 22, 23, 24, 25] rfl rfl (by decide) (by decide) hk1 hFc hP1 hD1
  generalize H1 = H at hP hS ⊢
  clear ht hvm hz1 hk1 hFc hP1 hD1 hT9 hU9
  have hP : va_P D vwCl (dW cI cZ cG cY o rr h b dr δ Y9 ++ sW cI z τ ++ mW cI m0 (y 0) w0 f ++ yW cI y ψ ++ pW cP q9 pf ++ wW h (a 0) (z 0) l0 m0 ++ sW cI a σ ++ wL l0 mc q9 g ++ bW cI rr (d_n δ) (d_R δ)) H := hP
  have hD : va_D (lA s) (dW cI cZ cG cY o rr h b dr δ Y9 ++ sW cI z τ ++ mW cI m0 (y 0) w0 f ++ yW cI y ψ ++ pW cP q9 pf ++ wW h (a 0) (z 0) l0 m0 ++ sW cI a σ ++ wL l0 mc q9 g ++ bW cI rr (d_n δ) (d_R δ)) := hD
  rw [hR9]
  clear hR9
  rw [F_c8]
  refine lv_istore (lv' := [(11, .int (nI g)), (9, .int (nI (cntP (aliveQ σ) (d_n δ)))), (4, .int (nI k4)), (3, .ref h), (2, .ref (o 0)), (1, .int (nI k1)), (0, .ref b)]) hx hb dL_law_895 hl (by decide) rfl (fun ls hl => ?_)
  refine lv_iload hx hb dL_law_897 (lv_at hl 0 rfl) ?_
  refine lv_if_le (tgt := 912) hx hb dL_law_899 (by decide) (fun c_899 => absurd c_899 ((nI_nle hg1 (by omega)))) (fun c_899 => ?_)
  refine lv_iload hx hb dL_law_902 (lv_at hl 2 rfl) ?_
  refine lv_iconst (v := 2) hx hb dL_law_904 (by decide) ?_
  refine lv_irem hx hb dL_law_905 (by decide) ?_
  refine lv_if_ne (tgt := 912) hx hb dL_law_906 (by decide) (fun c_906 => ?_) (fun c_906 => ?_)
  · refine lv_iload hx hb dL_law_912 (lv_at hl 0 rfl) ?_
    refine lv_iconst (v := 5) hx hb dL_law_914 (by decide) ?_
    refine lv_icmp_ge (tgt := 975) hx hb dL_law_915 (by decide) (fun c_915 => ?_) (fun c_915 => ?_)
    · have hP := hP.part (cx := wW h (a 0) (z 0) l0 m0 ++ sW cI a σ ++ dW cI cZ cG cY o rr h b dr δ Y9 ++ sW cI z τ ++ wL l0 mc q9 g ++ mW cI m0 (y 0) w0 f ++ yW cI y ψ ++ pW cP q9 pf) [18, 19, 20, 21, 22, 23, 24, 0, 1, 2, 3, 4, 5, 6, 7, 8, 9, 10, 11, 25, 12, 13, 14, 15, 16, 17] rfl
      have hD := hD.part (cx := wW h (a 0) (z 0) l0 m0 ++ sW cI a σ ++ dW cI cZ cG cY o rr h b dr δ Y9 ++ sW cI z τ ++ wL l0 mc q9 g ++ mW cI m0 (y 0) w0 f ++ yW cI y ψ ++ pW cP q9 pf) [18, 19, 20, 21, 22, 23, 24, 0, 1, 2, 3, 4, 5, 6, 7, 8, 9, 10, 11, 25, 12, 13, 14, 15, 16, 17] (by decide) rfl
      have hP : va_P D vwCl (wW h (a 0) (z 0) l0 m0 ++ sW cI a σ ++ dW cI cZ cG cY o rr h b dr δ Y9 ++ sW cI z τ ++ wL l0 mc q9 g ++ mW cI m0 (y 0) w0 f ++ yW cI y ψ ++ pW cP q9 pf ++ bW cI rr (d_n δ) (d_R δ)) H := hP
      have hD : va_D (lA s) (wW h (a 0) (z 0) l0 m0 ++ sW cI a σ ++ dW cI cZ cG cY o rr h b dr δ Y9 ++ sW cI z τ ++ wL l0 mc q9 g ++ mW cI m0 (y 0) w0 f ++ yW cI y ψ ++ pW cP q9 pf ++ bW cI rr (d_n δ) (d_R δ)) := hD
      have hP := ofP (F := wW h (a 0) (z 0) l0 m0 ++ sW cI a σ ++ dW cI cZ cG cY o rr h b dr δ Y9 ++ sW cI z τ ++ wL l0 mc q9 g ++ mW cI m0 (y 0) w0 f ++ yW cI y ψ) (X := pW cP q9 pf) (B := bW cI rr (d_n δ) (d_R δ)) hP
      have hD := ofPD (F := wW h (a 0) (z 0) l0 m0 ++ sW cI a σ ++ dW cI cZ cG cY o rr h b dr δ Y9 ++ sW cI z τ ++ wL l0 mc q9 g ++ mW cI m0 (y 0) w0 f ++ yW cI y ψ) (X := pW cP q9 pf) (B := bW cI rr (d_n δ) (d_R δ)) hD
      exact kk975 cP mc q9 g pf f ψ (ce + 1) (sl + 6) (by omega) (by omega) hK2 (by omega) (by omega) _ _ ls (lv_sub hl [2, 3, 4, 5, 6] rfl) hP hD hS
    · have hg5 : g < 5 := by (have := Int32.not_le.mp c_915; exact (nI_ltI (by omega) (by decide)).mp this)
      refine lv_aload_n hx hb dL_law_918 rfl (lv_at hl 3 rfl) ?_
      have hFc := va_free (wc := wW h (a 0) (z 0) l0 m0 ++ sW cI a σ ++ wL l0 mc q9 g ++ pW cP q9 pf) hD hS hA [18, 19, 20, 21, 22, 23, 24, 25, 17] rfl
      refine vx_calli (vx_runV (As := []) (rest := []) ⟨hx, hb, hml, hown, hts⟩ (c_X4_save_n l hst D cI cP _ h (z 0) l0 m0 q9 g a σ mc pf hg1 hg5) (cwV 0 hts gL_law_X4_save rfl rfl rfl (by decide +kernel) ⟨Nat.le_of_ble_eq_true rfl, Nat.le_of_ble_eq_true rfl⟩) ⟨preLP_blind, va_recv hK hP (ci := 4) (q0 := 18) rfl rfl, preLP_of (hP.sub (ws' := wW h (a 0) (z 0) l0 m0 ++ sW cI a σ ++ wL l0 mc q9 g ++ pW cP q9 pf) [18, 19, 20, 21, 22, 23, 24, 25, 17] rfl) hK2 hXV (hD.sub (ws' := wW h (a 0) (z 0) l0 m0 ++ sW cI a σ ++ wL l0 mc q9 g ++ pW cP q9 pf) [18, 19, 20, 21, 22, 23, 24, 25, 17] (by decide) rfl) hTX hEX.2.2.2 hS hFc [.ref h]⟩ rfl rfl hl.1 rfl (lv_room (Nat.le_of_ble_eq_true rfl)) dL_law_919 ⟨room_c hce (Nat.le_of_ble_eq_true rfl) (k := 9), room_s hsl (Nat.le_of_ble_eq_true rfl) (k := 536)⟩) hS (fun q _ h => hFc q h) hFc (fun q _ h => hFc q h) (fun E ce9 q9 u9 t9 H1 locs ht hvm hpx hBX9 hz1 hk1 hS hq9 hce9 hcl9 => absurd rfl hpx) (fun r9 u9 t9 H1 locs ht hvm hw hB hz1 hk1 hS => ?_)
      obtain ⟨mc1, n1⟩ := u9
      obtain ⟨hP1, -, hD1⟩ := hB
      dsimp only at hw hP1 hD1
      rw [ht] at hP1
      obtain ⟨hT9, hR9⟩ := hw
      obtain ⟨hP, hD⟩ := va_joinQ (wr := dW cI cZ cG cY o rr h b dr δ Y9 ++ sW cI z τ ++ mW cI m0 (y 0) w0 f ++ yW cI y ψ) (w1 := wW h (a 0) (z 0) l0 m0 ++ sW cI a σ ++ wL l0 mc1 q9 (g + 1) ++ pW cP q9 (va_up pf g (some (n1 0))) ++ sW cI n1 σ) hP hD [18, 19, 20, 21, 22, 23, 24, 25, 17] [0, 1, 2, 3, 4, 5, 6, 7, 8, 9, 10, 11, 12, 13, 14, 15, 16] rfl rfl (by decide) (by decide) hk1 hFc hP1 hD1
      generalize H1 = H at hP hS ⊢
      have hP : va_P D vwCl (dW cI cZ cG cY o rr h b dr δ Y9 ++ sW cI z τ ++ mW cI m0 (y 0) w0 f ++ yW cI y ψ ++ wW h (a 0) (z 0) l0 m0 ++ sW cI a σ ++ wL l0 mc1 q9 (g + 1) ++ pW cP q9 (va_up pf g (some (n1 0))) ++ sW cI n1 σ ++ bW cI rr (d_n δ) (d_R δ)) H := hP
      have hD : va_D (lA s) (dW cI cZ cG cY o rr h b dr δ Y9 ++ sW cI z τ ++ mW cI m0 (y 0) w0 f ++ yW cI y ψ ++ wW h (a 0) (z 0) l0 m0 ++ sW cI a σ ++ wL l0 mc1 q9 (g + 1) ++ pW cP q9 (va_up pf g (some (n1 0))) ++ sW cI n1 σ ++ bW cI rr (d_n δ) (d_R δ)) := hD
      rw [hR9]
      refine lv_istore (lv' := [(12, .int (nI g)), (11, .int (nI g)), (9, .int (nI (cntP (aliveQ σ) (d_n δ)))), (4, .int (nI k4)), (3, .ref h), (2, .ref (o 0)), (1, .int (nI k1)), (0, .ref b)]) hx hb dL_law_922 hl (by decide) rfl (fun ls hl => ?_)
      refine lv_aload_n hx hb dL_law_924 rfl (lv_at hl 4 rfl) ?_
      have hFc := va_free (wc := wW h (a 0) (z 0) l0 m0 ++ sW cI a σ ++ mW cI m0 (y 0) w0 f ++ yW cI y ψ ++ wL l0 mc1 q9 (g + 1)) hD hS hA [17, 18, 19, 20, 21, 22, 23, 12, 13, 14, 15, 16, 24] rfl
      refine vx_calll (vx_runV (As := []) (rest := []) ⟨hx, hb, hml, hown, hts⟩ (c_X4_digest l hst D cI _ h (z 0) l0 m0 w0 a y σ f ψ mc1 q9 (g + 1) t hnσ) (cwV 0 hts gL_law_X4_digest rfl rfl rfl (by decide +kernel) ⟨Nat.le_of_ble_eq_true rfl, Nat.le_of_ble_eq_true rfl⟩) ⟨preXS_blind, va_recv hK hP (ci := 4) (q0 := 17) rfl rfl, preXS_of (hP.sub (ws' := wW h (a 0) (z 0) l0 m0 ++ sW cI a σ ++ mW cI m0 (y 0) w0 f ++ yW cI y ψ ++ wL l0 mc1 q9 (g + 1)) [17, 18, 19, 20, 21, 22, 23, 12, 13, 14, 15, 16, 24] rfl) hK1 hXV (hD.sub (ws' := wW h (a 0) (z 0) l0 m0 ++ sW cI a σ ++ mW cI m0 (y 0) w0 f ++ yW cI y ψ ++ wL l0 mc1 q9 (g + 1)) [17, 18, 19, 20, 21, 22, 23, 12, 13, 14, 15, 16, 24] (by decide) rfl) hTX hSX hS hFc [.ref h]⟩ rfl rfl hl.1 rfl (lv_room (Nat.le_of_ble_eq_true rfl)) dL_law_925 ⟨room_c hce (Nat.le_of_ble_eq_true rfl) (k := 10), room_s hsl (Nat.le_of_ble_eq_true rfl) (k := 542)⟩) hS (fun q _ h => hFc q h) hFc (fun q _ h => hFc q h) (fun E ce9 q9 u9 t9 H1 locs ht hvm hpx hBX9 hz1 hk1 hS hq9 hce9 hcl9 => absurd rfl hpx) (fun r9 u9 t9 H1 locs ht hvm hw hB hz1 hk1 hS => ?_)
      obtain ⟨hP1, -, hD1⟩ := hB
      rw [ht] at hP1
      obtain ⟨s925, f925, φ925⟩ := u9
      dsimp only at hw hP1 hD1
      obtain ⟨hT9, hR9, hU9⟩ := hw
      rw [hU9] at hP1 hD1
      obtain ⟨hP, hD⟩ := va_joinQ (wr := dW cI cZ cG cY o rr h b dr δ Y9 ++ sW cI z τ ++ pW cP q9 (va_up pf g (some (n1 0))) ++ sW cI n1 σ) (w1 := wW h (a 0) (z 0) l0 m0 ++ sW cI a σ ++ mW cI m0 (y 0) w0 f925 ++ yW cI y φ925 ++ wL l0 mc1 q9 (g + 1)) hP hD [17, 18, 19, 20, 21, 22, 23, 12, 13, 14, 15, 16, 24] [0, 1, 2, 3, 4, 5, 6, 7, 8, 9, 10, 11, 25, 26, 27, 28, 29, 30, 31] rfl rfl (by decide) (by decide) hk1 hFc hP1 hD1
      generalize H1 = H at hP hS ⊢
      clear ht hvm hz1 hk1 hFc hP1 hD1 hT9 hU9
      have hP : va_P D vwCl (dW cI cZ cG cY o rr h b dr δ Y9 ++ sW cI z τ ++ pW cP q9 (va_up pf g (some (n1 0))) ++ sW cI n1 σ ++ wW h (a 0) (z 0) l0 m0 ++ sW cI a σ ++ mW cI m0 (y 0) w0 f925 ++ yW cI y φ925 ++ wL l0 mc1 q9 (g + 1) ++ bW cI rr (d_n δ) (d_R δ)) H := hP
      have hD : va_D (lA s) (dW cI cZ cG cY o rr h b dr δ Y9 ++ sW cI z τ ++ pW cP q9 (va_up pf g (some (n1 0))) ++ sW cI n1 σ ++ wW h (a 0) (z 0) l0 m0 ++ sW cI a σ ++ mW cI m0 (y 0) w0 f925 ++ yW cI y φ925 ++ wL l0 mc1 q9 (g + 1) ++ bW cI rr (d_n δ) (d_R δ)) := hD
      rw [hR9]
      clear hR9
      refine lv_lstore (lv' := [(13, .long (digestF σ (g + 1))), (12, .int (nI g)), (11, .int (nI g)), (9, .int (nI (cntP (aliveQ σ) (d_n δ)))), (4, .int (nI k4)), (3, .ref h), (2, .ref (o 0)), (1, .int (nI k1)), (0, .ref b)]) hx hb dL_law_928 hl (by decide) rfl (fun ls hl => ?_)
      refine lv_aload_n hx hb dL_law_930 rfl (lv_at hl 5 rfl) ?_
      refine lv_iconst (v := 2) hx hb dL_law_931 (by decide) ?_
      have hFc := va_free (wc := wW h (a 0) (z 0) l0 m0 ++ sW cI a σ ++ mW cI m0 (y 0) w0 f925 ++ yW cI y φ925) hD hS hA [19, 20, 21, 22, 23, 24, 25, 26, 27, 28, 29, 30] rfl
      refine vx_calli (vx_runV (As := [.int 2]) (rest := []) ⟨hx, hb, hml, hown, hts⟩ (c_X4_follow l hst D cI _ h (z 0) l0 m0 w0 a y σ f925 φ925 2 t hnσ (by decide) (by decide)) (cwV 1 hts gL_law_X4_follow rfl rfl rfl (by decide +kernel) ⟨Nat.le_of_ble_eq_true rfl, Nat.le_of_ble_eq_true rfl⟩) ⟨preXS_blind, va_recv hK hP (ci := 4) (q0 := 19) rfl rfl, preXS_of (hP.sub (ws' := wW h (a 0) (z 0) l0 m0 ++ sW cI a σ ++ mW cI m0 (y 0) w0 f925 ++ yW cI y φ925) [19, 20, 21, 22, 23, 24, 25, 26, 27, 28, 29, 30] rfl) hK1 hXV (hD.sub (ws' := wW h (a 0) (z 0) l0 m0 ++ sW cI a σ ++ mW cI m0 (y 0) w0 f925 ++ yW cI y φ925) [19, 20, 21, 22, 23, 24, 25, 26, 27, 28, 29, 30] (by decide) rfl) hTX hSX hS hFc [.ref h, .int 2]⟩ rfl rfl hl.1 rfl (lv_room (Nat.le_of_ble_eq_true rfl)) dL_law_932 ⟨room_c hce (Nat.le_of_ble_eq_true rfl) (k := 11), room_s hsl (Nat.le_of_ble_eq_true rfl) (k := 548)⟩) hS (fun q _ h => hFc q h) hFc (fun q _ h => hFc q h) (fun E ce9 q9 u9 t9 H1 locs ht hvm hpx hBX9 hz1 hk1 hS hq9 hce9 hcl9 => absurd rfl hpx) (fun r9 u9 t9 H1 locs ht hvm hw hB hz1 hk1 hS => ?_)
      obtain ⟨hP1, -, hD1⟩ := hB
      rw [ht] at hP1
      obtain ⟨s932, f932, φ932⟩ := u9
      dsimp only at hw hP1 hD1
      obtain ⟨hT9, hR9, hU9⟩ := hw
      rw [hU9] at hP1 hD1
      obtain ⟨hP, hD⟩ := va_joinQ (wr := dW cI cZ cG cY o rr h b dr δ Y9 ++ sW cI z τ ++ pW cP q9 (va_up pf g (some (n1 0))) ++ sW cI n1 σ ++ wL l0 mc1 q9 (g + 1)) (w1 := wW h (a 0) (z 0) l0 m0 ++ sW cI a (playS 2 σ) ++ mW cI m0 (y 0) w0 f932 ++ yW cI y φ932) hP hD [19, 20, 21, 22, 23, 24, 25, 26, 27, 28, 29, 30] [0, 1, 2, 3, 4, 5, 6, 7, 8, 9, 10, 11, 12, 13, 14, 15, 16, 17, 18, 31] rfl rfl (by decide) (by decide) hk1 hFc hP1 hD1
      generalize H1 = H at hP hS ⊢
      clear ht hvm hz1 hk1 hFc hP1 hD1 hT9 hU9
      have hP : va_P D vwCl (dW cI cZ cG cY o rr h b dr δ Y9 ++ sW cI z τ ++ pW cP q9 (va_up pf g (some (n1 0))) ++ sW cI n1 σ ++ wL l0 mc1 q9 (g + 1) ++ wW h (a 0) (z 0) l0 m0 ++ sW cI a (playS 2 σ) ++ mW cI m0 (y 0) w0 f932 ++ yW cI y φ932 ++ bW cI rr (d_n δ) (d_R δ)) H := hP
      have hD : va_D (lA s) (dW cI cZ cG cY o rr h b dr δ Y9 ++ sW cI z τ ++ pW cP q9 (va_up pf g (some (n1 0))) ++ sW cI n1 σ ++ wL l0 mc1 q9 (g + 1) ++ wW h (a 0) (z 0) l0 m0 ++ sW cI a (playS 2 σ) ++ mW cI m0 (y 0) w0 f932 ++ yW cI y φ932 ++ bW cI rr (d_n δ) (d_R δ)) := hD
      rw [hR9]
      clear hR9
      refine lv_pop hx hb dL_law_935 rfl ?_
      refine lv_aload_n hx hb dL_law_936 rfl (lv_at hl 5 rfl) ?_
      refine lv_iconst (v := 1) hx hb dL_law_937 (by decide) ?_
      refine lv_iconst (v := 1) hx hb dL_law_938 (by decide) ?_
      refine lv_iconst (v := 3) hx hb dL_law_939 (by decide) ?_
      refine lv_iconst (v := 3) hx hb dL_law_940 (by decide) ?_
      have hFc := va_free (wc := wW h (a 0) (z 0) l0 m0 ++ sW cI a (playS 2 σ)) hD hS hA [20, 21, 22, 23, 24, 25, 26] rfl
      refine vx_calli (vx_runV (As := [.int 1, .int 1, .int 3, .int 3]) (rest := []) ⟨hx, hb, hml, hown, hts⟩ (c_X4_dig l hst D cI _ h (z 0) l0 m0 a (playS 2 σ) 1 1 3 3) (cwV 4 hts gL_law_X4_dig rfl rfl rfl (by decide +kernel) ⟨Nat.le_of_ble_eq_true rfl, Nat.le_of_ble_eq_true rfl⟩) ⟨preX_blind, va_recv hK hP (ci := 4) (q0 := 20) rfl rfl, preX_of (hP.sub (ws' := wW h (a 0) (z 0) l0 m0 ++ sW cI a (playS 2 σ)) [20, 21, 22, 23, 24, 25, 26] rfl) hK1 hXV (hD.sub (ws' := wW h (a 0) (z 0) l0 m0 ++ sW cI a (playS 2 σ)) [20, 21, 22, 23, 24, 25, 26] (by decide) rfl) hTX hS hFc [.ref h, .int 1, .int 1, .int 3, .int 3]⟩ rfl rfl hl.1 rfl (lv_room (Nat.le_of_ble_eq_true rfl)) dL_law_941 ⟨room_c hce (Nat.le_of_ble_eq_true rfl) (k := 12), room_s hsl (Nat.le_of_ble_eq_true rfl) (k := 554)⟩) hS (fun q _ h => hFc q h) hFc (fun q _ h => hFc q h) (fun E ce9 q9 u9 t9 H1 locs ht hvm hpx hBX9 hz1 hk1 hS hq9 hce9 hcl9 => absurd (by decide) hpx) (fun r9 u9 t9 H1 locs ht hvm hw hB hz1 hk1 hS => ?_)
      obtain ⟨hP1, -, hD1⟩ := hB
      rw [ht] at hP1
      obtain ⟨hT9, hR9, hU9⟩ := hw
      rw [hU9] at hP1 hD1
      obtain ⟨hP, hD⟩ := va_joinQ (wr := dW cI cZ cG cY o rr h b dr δ Y9 ++ sW cI z τ ++ pW cP q9 (va_up pf g (some (n1 0))) ++ sW cI n1 σ ++ wL l0 mc1 q9 (g + 1) ++ mW cI m0 (y 0) w0 f932 ++ yW cI y φ932) (w1 := wW h (a 0) (z 0) l0 m0 ++ sW cI a ((digA (playS 2 σ) 1 1 3 3).1)) hP hD [20, 21, 22, 23, 24, 25, 26] [0, 1, 2, 3, 4, 5, 6, 7, 8, 9, 10, 11, 12, 13, 14, 15, 16, 17, 18, 19, 27, 28, 29, 30, 31] rfl rfl (by decide) (by decide) hk1 hFc hP1 hD1
      generalize H1 = H at hP hS ⊢
      clear ht hvm hz1 hk1 hFc hP1 hD1 hT9 hU9
      have hP : va_P D vwCl (dW cI cZ cG cY o rr h b dr δ Y9 ++ sW cI z τ ++ pW cP q9 (va_up pf g (some (n1 0))) ++ sW cI n1 σ ++ wL l0 mc1 q9 (g + 1) ++ mW cI m0 (y 0) w0 f932 ++ yW cI y φ932 ++ wW h (a 0) (z 0) l0 m0 ++ sW cI a ((digA (playS 2 σ) 1 1 3 3).1) ++ bW cI rr (d_n δ) (d_R δ)) H := hP
      have hD : va_D (lA s) (dW cI cZ cG cY o rr h b dr δ Y9 ++ sW cI z τ ++ pW cP q9 (va_up pf g (some (n1 0))) ++ sW cI n1 σ ++ wL l0 mc1 q9 (g + 1) ++ mW cI m0 (y 0) w0 f932 ++ yW cI y φ932 ++ wW h (a 0) (z 0) l0 m0 ++ sW cI a ((digA (playS 2 σ) 1 1 3 3).1) ++ bW cI rr (d_n δ) (d_R δ)) := hD
      rw [hR9]
      clear hR9
      refine lv_pop hx hb dL_law_944 rfl ?_
      refine lv_iload hx hb dL_law_945 (lv_at hl 1 rfl) ?_
      refine lv_iload hx hb dL_law_947 (lv_at hl 2 rfl) ?_
      refine lv_icmp_ne (tgt := 973) hx hb dL_law_949 (by decide) (fun c_949 => absurd (rfl) c_949) (fun c_949 => ?_)
      refine lv_aload_n hx hb dL_law_952 rfl (lv_at hl 5 rfl) ?_
      refine lv_iload hx hb dL_law_953 (lv_at hl 1 rfl) ?_
      have hFc := va_free (wc := wW h (a 0) (z 0) l0 m0 ++ sW cI a ((digA (playS 2 σ) 1 1 3 3).1) ++ wL l0 mc1 q9 (g + 1) ++ pW cP q9 (va_up pf g (some (n1 0))) ++ sW cI n1 σ) hD hS hA [25, 26, 27, 28, 29, 30, 31, 19, 12, 13, 14, 15, 16, 17, 18] rfl
      refine vx_calli (vx_runV (As := [.int (nI g)]) (rest := []) ⟨hx, hb, hml, hown, hts⟩ (c_X4_load_n l hst D cI cP _ h (z 0) l0 m0 q9 (g + 1) g a n1 ((digA (playS 2 σ) 1 1 3 3).1) σ mc1 (va_up pf g (some (n1 0))) (by omega) (by omega) (if_pos rfl) hnσ) (cwV 1 hts gL_law_X4_load rfl rfl rfl (by decide +kernel) ⟨Nat.le_of_ble_eq_true rfl, Nat.le_of_ble_eq_true rfl⟩) ⟨preLP_blind, va_recv hK hP (ci := 4) (q0 := 25) rfl rfl, preLP_of (hP.sub (ws' := wW h (a 0) (z 0) l0 m0 ++ sW cI a ((digA (playS 2 σ) 1 1 3 3).1) ++ wL l0 mc1 q9 (g + 1) ++ pW cP q9 (va_up pf g (some (n1 0))) ++ sW cI n1 σ) [25, 26, 27, 28, 29, 30, 31, 19, 12, 13, 14, 15, 16, 17, 18] rfl) hK2 hXV (hD.sub (ws' := wW h (a 0) (z 0) l0 m0 ++ sW cI a ((digA (playS 2 σ) 1 1 3 3).1) ++ wL l0 mc1 q9 (g + 1) ++ pW cP q9 (va_up pf g (some (n1 0))) ++ sW cI n1 σ) [25, 26, 27, 28, 29, 30, 31, 19, 12, 13, 14, 15, 16, 17, 18] (by decide) rfl) hTX hEX.2.2.2 hS hFc [.ref h, .int (nI g)]⟩ rfl rfl hl.1 rfl (lv_room (Nat.le_of_ble_eq_true rfl)) dL_law_955 ⟨room_c hce (Nat.le_of_ble_eq_true rfl) (k := 13), room_s hsl (Nat.le_of_ble_eq_true rfl) (k := 560)⟩) hS (fun q _ h => hFc q h) hFc (fun q _ h => hFc q h) (fun E ce9 q9 u9 t9 H1 locs ht hvm hpx hBX9 hz1 hk1 hS hq9 hce9 hcl9 => absurd rfl hpx) (fun r9 u9 t9 H1 locs ht hvm hw hB hz1 hk1 hS => ?_)
      obtain ⟨hP1, -, hD1⟩ := hB
      rw [ht] at hP1
      obtain ⟨hT9, hR9⟩ := hw
      obtain ⟨hP, hD⟩ := va_joinQ (wr := dW cI cZ cG cY o rr h b dr δ Y9 ++ sW cI z τ ++ mW cI m0 (y 0) w0 f932 ++ yW cI y φ932) (w1 := wW h (a 0) (z 0) l0 m0 ++ sW cI a σ ++ wL l0 mc1 q9 (g + 1) ++ pW cP q9 (va_up pf g (some (n1 0))) ++ sW cI n1 σ) hP hD [25, 26, 27, 28, 29, 30, 31, 19, 12, 13, 14, 15, 16, 17, 18] [0, 1, 2, 3, 4, 5, 6, 7, 8, 9, 10, 11, 20, 21, 22, 23, 24] rfl rfl (by decide) (by decide) hk1 hFc hP1 hD1
      generalize H1 = H at hP hS ⊢
      have hP : va_P D vwCl (dW cI cZ cG cY o rr h b dr δ Y9 ++ sW cI z τ ++ mW cI m0 (y 0) w0 f932 ++ yW cI y φ932 ++ wW h (a 0) (z 0) l0 m0 ++ sW cI a σ ++ wL l0 mc1 q9 (g + 1) ++ pW cP q9 (va_up pf g (some (n1 0))) ++ sW cI n1 σ ++ bW cI rr (d_n δ) (d_R δ)) H := hP
      have hD : va_D (lA s) (dW cI cZ cG cY o rr h b dr δ Y9 ++ sW cI z τ ++ mW cI m0 (y 0) w0 f932 ++ yW cI y φ932 ++ wW h (a 0) (z 0) l0 m0 ++ sW cI a σ ++ wL l0 mc1 q9 (g + 1) ++ pW cP q9 (va_up pf g (some (n1 0))) ++ sW cI n1 σ ++ bW cI rr (d_n δ) (d_R δ)) := hD
      rw [hR9]
      rw [F_alive hI]
      refine lv_iload hx hb dL_law_958 (lv_at hl 3 rfl) ?_
      refine lv_icmp_ne (tgt := 973) hx hb dL_law_960 (by decide) (fun c_960 => absurd (rfl) c_960) (fun c_960 => ?_)
      refine lv_aload_n hx hb dL_law_963 rfl (lv_at hl 5 rfl) ?_
      have hFc := va_free (wc := wW h (a 0) (z 0) l0 m0 ++ sW cI a σ ++ mW cI m0 (y 0) w0 f932 ++ yW cI y φ932 ++ wL l0 mc1 q9 (g + 1)) hD hS hA [17, 18, 19, 20, 21, 22, 23, 12, 13, 14, 15, 16, 24] rfl
      refine vx_calll (vx_runV (As := []) (rest := []) ⟨hx, hb, hml, hown, hts⟩ (c_X4_digest l hst D cI _ h (z 0) l0 m0 w0 a y σ f932 φ932 mc1 q9 (g + 1) t hnσ) (cwV 0 hts gL_law_X4_digest rfl rfl rfl (by decide +kernel) ⟨Nat.le_of_ble_eq_true rfl, Nat.le_of_ble_eq_true rfl⟩) ⟨preXS_blind, va_recv hK hP (ci := 4) (q0 := 17) rfl rfl, preXS_of (hP.sub (ws' := wW h (a 0) (z 0) l0 m0 ++ sW cI a σ ++ mW cI m0 (y 0) w0 f932 ++ yW cI y φ932 ++ wL l0 mc1 q9 (g + 1)) [17, 18, 19, 20, 21, 22, 23, 12, 13, 14, 15, 16, 24] rfl) hK1 hXV (hD.sub (ws' := wW h (a 0) (z 0) l0 m0 ++ sW cI a σ ++ mW cI m0 (y 0) w0 f932 ++ yW cI y φ932 ++ wL l0 mc1 q9 (g + 1)) [17, 18, 19, 20, 21, 22, 23, 12, 13, 14, 15, 16, 24] (by decide) rfl) hTX hSX hS hFc [.ref h]⟩ rfl rfl hl.1 rfl (lv_room (Nat.le_of_ble_eq_true rfl)) dL_law_964 ⟨room_c hce (Nat.le_of_ble_eq_true rfl) (k := 14), room_s hsl (Nat.le_of_ble_eq_true rfl) (k := 566)⟩) hS (fun q _ h => hFc q h) hFc (fun q _ h => hFc q h) (fun E ce9 q9 u9 t9 H1 locs ht hvm hpx hBX9 hz1 hk1 hS hq9 hce9 hcl9 => absurd rfl hpx) (fun r9 u9 t9 H1 locs ht hvm hw hB hz1 hk1 hS => ?_)
      obtain ⟨hP1, -, hD1⟩ := hB
      rw [ht] at hP1
      obtain ⟨s964, f964, φ964⟩ := u9
      dsimp only at hw hP1 hD1
      obtain ⟨hT9, hR9, hU9⟩ := hw
      rw [hU9] at hP1 hD1
      obtain ⟨hP, hD⟩ := va_joinQ (wr := dW cI cZ cG cY o rr h b dr δ Y9 ++ sW cI z τ ++ pW cP q9 (va_up pf g (some (n1 0))) ++ sW cI n1 σ) (w1 := wW h (a 0) (z 0) l0 m0 ++ sW cI a σ ++ mW cI m0 (y 0) w0 f964 ++ yW cI y φ964 ++ wL l0 mc1 q9 (g + 1)) hP hD [17, 18, 19, 20, 21, 22, 23, 12, 13, 14, 15, 16, 24] [0, 1, 2, 3, 4, 5, 6, 7, 8, 9, 10, 11, 25, 26, 27, 28, 29, 30, 31] rfl rfl (by decide) (by decide) hk1 hFc hP1 hD1
      generalize H1 = H at hP hS ⊢
      clear ht hvm hz1 hk1 hFc hP1 hD1 hT9 hU9
      have hP : va_P D vwCl (dW cI cZ cG cY o rr h b dr δ Y9 ++ sW cI z τ ++ pW cP q9 (va_up pf g (some (n1 0))) ++ sW cI n1 σ ++ wW h (a 0) (z 0) l0 m0 ++ sW cI a σ ++ mW cI m0 (y 0) w0 f964 ++ yW cI y φ964 ++ wL l0 mc1 q9 (g + 1) ++ bW cI rr (d_n δ) (d_R δ)) H := hP
      have hD : va_D (lA s) (dW cI cZ cG cY o rr h b dr δ Y9 ++ sW cI z τ ++ pW cP q9 (va_up pf g (some (n1 0))) ++ sW cI n1 σ ++ wW h (a 0) (z 0) l0 m0 ++ sW cI a σ ++ mW cI m0 (y 0) w0 f964 ++ yW cI y φ964 ++ wL l0 mc1 q9 (g + 1) ++ bW cI rr (d_n δ) (d_R δ)) := hD
      rw [hR9]
      clear hR9
      refine lv_lload hx hb dL_law_967 (lv_at hl 0 rfl) ?_
      refine W.lcmp hx hb dL_law_969 ?_
      refine lv_if_eq (tgt := 975) hx hb dL_law_970 (by decide) (fun c_970 => ?_) (fun c_970 => absurd ((cmp_self _)) c_970)
      have hP := hP.part (cx := wW h (a 0) (z 0) l0 m0 ++ sW cI a σ ++ dW cI cZ cG cY o rr h b dr δ Y9 ++ sW cI z τ ++ wL l0 mc1 q9 (g + 1) ++ mW cI m0 (y 0) w0 f964 ++ yW cI y φ964 ++ pW cP q9 (va_up pf g (some (n1 0)))) [19, 20, 21, 22, 23, 24, 25, 0, 1, 2, 3, 4, 5, 6, 7, 8, 9, 10, 11, 31, 26, 27, 28, 29, 30, 12] rfl
      have hD := hD.part (cx := wW h (a 0) (z 0) l0 m0 ++ sW cI a σ ++ dW cI cZ cG cY o rr h b dr δ Y9 ++ sW cI z τ ++ wL l0 mc1 q9 (g + 1) ++ mW cI m0 (y 0) w0 f964 ++ yW cI y φ964 ++ pW cP q9 (va_up pf g (some (n1 0)))) [19, 20, 21, 22, 23, 24, 25, 0, 1, 2, 3, 4, 5, 6, 7, 8, 9, 10, 11, 31, 26, 27, 28, 29, 30, 12] (by decide) rfl
      have hP : va_P D vwCl (wW h (a 0) (z 0) l0 m0 ++ sW cI a σ ++ dW cI cZ cG cY o rr h b dr δ Y9 ++ sW cI z τ ++ wL l0 mc1 q9 (g + 1) ++ mW cI m0 (y 0) w0 f964 ++ yW cI y φ964 ++ pW cP q9 (va_up pf g (some (n1 0))) ++ bW cI rr (d_n δ) (d_R δ)) H := hP
      have hD : va_D (lA s) (wW h (a 0) (z 0) l0 m0 ++ sW cI a σ ++ dW cI cZ cG cY o rr h b dr δ Y9 ++ sW cI z τ ++ wL l0 mc1 q9 (g + 1) ++ mW cI m0 (y 0) w0 f964 ++ yW cI y φ964 ++ pW cP q9 (va_up pf g (some (n1 0))) ++ bW cI rr (d_n δ) (d_R δ)) := hD
      have hP := ofP (F := wW h (a 0) (z 0) l0 m0 ++ sW cI a σ ++ dW cI cZ cG cY o rr h b dr δ Y9 ++ sW cI z τ ++ wL l0 mc1 q9 (g + 1) ++ mW cI m0 (y 0) w0 f964 ++ yW cI y φ964) (X := pW cP q9 (va_up pf g (some (n1 0)))) (B := bW cI rr (d_n δ) (d_R δ)) hP
      have hD := ofPD (F := wW h (a 0) (z 0) l0 m0 ++ sW cI a σ ++ dW cI cZ cG cY o rr h b dr δ Y9 ++ sW cI z τ ++ wL l0 mc1 q9 (g + 1) ++ mW cI m0 (y 0) w0 f964 ++ yW cI y φ964) (X := pW cP q9 (va_up pf g (some (n1 0)))) (B := bW cI rr (d_n δ) (d_R δ)) hD
      exact kk975 cP mc1 q9 (g + 1) (va_up pf g (some (n1 0))) f964 φ964 (ce + 14) (sl + 566) (by omega) (by omega) hK2 (by omega) (by omega) _ _ ls (lv_sub hl [4, 5, 6, 7, 8] rfl) hP hD hS
  · refine lv_goto (tgt := 975) hx hb dL_law_909 (by decide) ?_
    have hP := hP.part (cx := wW h (a 0) (z 0) l0 m0 ++ sW cI a σ ++ dW cI cZ cG cY o rr h b dr δ Y9 ++ sW cI z τ ++ wL l0 mc q9 g ++ mW cI m0 (y 0) w0 f ++ yW cI y ψ ++ pW cP q9 pf) [18, 19, 20, 21, 22, 23, 24, 0, 1, 2, 3, 4, 5, 6, 7, 8, 9, 10, 11, 25, 12, 13, 14, 15, 16, 17] rfl
    have hD := hD.part (cx := wW h (a 0) (z 0) l0 m0 ++ sW cI a σ ++ dW cI cZ cG cY o rr h b dr δ Y9 ++ sW cI z τ ++ wL l0 mc q9 g ++ mW cI m0 (y 0) w0 f ++ yW cI y ψ ++ pW cP q9 pf) [18, 19, 20, 21, 22, 23, 24, 0, 1, 2, 3, 4, 5, 6, 7, 8, 9, 10, 11, 25, 12, 13, 14, 15, 16, 17] (by decide) rfl
    have hP : va_P D vwCl (wW h (a 0) (z 0) l0 m0 ++ sW cI a σ ++ dW cI cZ cG cY o rr h b dr δ Y9 ++ sW cI z τ ++ wL l0 mc q9 g ++ mW cI m0 (y 0) w0 f ++ yW cI y ψ ++ pW cP q9 pf ++ bW cI rr (d_n δ) (d_R δ)) H := hP
    have hD : va_D (lA s) (wW h (a 0) (z 0) l0 m0 ++ sW cI a σ ++ dW cI cZ cG cY o rr h b dr δ Y9 ++ sW cI z τ ++ wL l0 mc q9 g ++ mW cI m0 (y 0) w0 f ++ yW cI y ψ ++ pW cP q9 pf ++ bW cI rr (d_n δ) (d_R δ)) := hD
    have hP := ofP (F := wW h (a 0) (z 0) l0 m0 ++ sW cI a σ ++ dW cI cZ cG cY o rr h b dr δ Y9 ++ sW cI z τ ++ wL l0 mc q9 g ++ mW cI m0 (y 0) w0 f ++ yW cI y ψ) (X := pW cP q9 pf) (B := bW cI rr (d_n δ) (d_R δ)) hP
    have hD := ofPD (F := wW h (a 0) (z 0) l0 m0 ++ sW cI a σ ++ dW cI cZ cG cY o rr h b dr δ Y9 ++ sW cI z τ ++ wL l0 mc q9 g ++ mW cI m0 (y 0) w0 f ++ yW cI y ψ) (X := pW cP q9 pf) (B := bW cI rr (d_n δ) (d_R δ)) hD
    exact kk975 cP mc q9 g pf f ψ (ce + 1) (sl + 6) (by omega) (by omega) hK2 (by omega) (by omega) _ _ ls (lv_sub hl [2, 3, 4, 5, 6] rfl) hP hD hS
end LAW28
