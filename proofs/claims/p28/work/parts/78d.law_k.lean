-- ===== the law: law_k =====
section LAW28
variable {p : Program} {l : Launch} {e : Env} {s : State} {m : MethodId} {below : List Frame} {meth : Method} {c : Code} {b L : Nat} {xs : Nat → Int32} {D : va_G} {cI cZ cG cY : ClassId} {t e0 : Nat}
set_option maxHeartbeats 4000000 in
set_option maxRecDepth 100000 in
/-- ways, sight and hits of a living being -/
theorem law_k {h l0 m0 w0 q9 g : Nat} {a z y o rr : Nat → Nat} {mc : Int32} {f : Nat → Int32} {σ τ : SS} {δ : DD} {ψ : YS} {Y9 : RW} {dr : Nat} {xp : va_W} {ce sl : Nat} {H : Heap} {locs : List Loc} {ls : Array Slot} {jb na k1 k4 K : Nat} {dg : Int64} {c0 : Nat} (E0 : lawE p s m meth c b L xs D cI cZ cG cY t e0) (hst : l.stackTraces = false) (hI : IR K σ δ) (hn6 : d_n δ ≤ 6) (hjb : jb < d_n δ) (hal : aliveB σ (nI jb) = true) (hc0 : c0 < 160) (e1 : traitF σ (nI jb) 1 = nI c0) (hdr : dr ≤ 900000) (hce0 : ce ≤ 400000) (hsl0 : sl ≤ 4000000) (hl : lv_has ls 19 [(11, .int (nI c0)), (10, .int (nI jb)), (9, .int (nI na)), (8, .int (nI (d_n δ))), (7, .int (turnF σ)), (5, .long dg), (4, .int (nI k4)), (3, .ref h), (2, .ref (o 0)), (1, .int (nI k1)), (0, .ref b)]) (hP : va_P D vwCl (wW h (a 0) (z 0) l0 m0 ++ sW cI a σ ++ dW cI cZ cG cY o rr h b dr δ Y9 ++ sW cI z τ ++ wL l0 mc q9 g ++ mW cI m0 (y 0) w0 f ++ yW cI y ψ ++ (bW cI rr (d_n δ) (d_R δ) ++ xp)) H) (hD : va_D (lA s) (wW h (a 0) (z 0) l0 m0 ++ sW cI a σ ++ dW cI cZ cG cY o rr h b dr δ Y9 ++ sW cI z τ ++ wL l0 mc q9 g ++ mW cI m0 (y 0) w0 f ++ yW cI y ψ ++ (bW cI rr (d_n δ) (d_R δ) ++ xp))) (hS : va_S (lA s) s.heap H locs)
    (kk762 : ∀ (f1 : Nat → Int32) (ψ1 : YS) (dr1 : Nat) (ce1 sl1 : Nat) (hc1 : ce1 ≤ ce + 90) (hs1 : sl1 ≤ sl + 540) (hd1 : dr1 ≤ dr + 6) (H : Heap) (locs : List Loc) (ls : Array Slot), lv_has ls 19 [(10, .int (nI jb)), (9, .int (nI na)), (8, .int (nI (d_n δ))), (7, .int (turnF σ)), (5, .long dg), (4, .int (nI k4)), (3, .ref h), (2, .ref (o 0)), (1, .int (nI k1)), (0, .ref b)] → va_P D vwCl (wW h (a 0) (z 0) l0 m0 ++ sW cI a σ ++ dW cI cZ cG cY o rr h b dr1 δ Y9 ++ sW cI z τ ++ wL l0 mc q9 g ++ mW cI m0 (y 0) w0 f1 ++ yW cI y ψ1 ++ (bW cI rr (d_n δ) (d_R δ) ++ xp)) H → va_D (lA s) (wW h (a 0) (z 0) l0 m0 ++ sW cI a σ ++ dW cI cZ cG cY o rr h b dr1 δ Y9 ++ sW cI z τ ++ wL l0 mc q9 g ++ mW cI m0 (y 0) w0 f1 ++ yW cI y ψ1 ++ (bW cI rr (d_n δ) (d_R δ) ++ xp)) → va_S (lA s) s.heap H locs → W p l e room_1 s m #[Value.ref b] below meth c H locs ce1 sl1 (lw_Z below #[Value.ref b] s) (F0 m 762 ls [])) : W p l e room_1 s m #[Value.ref b] below meth c H locs ce sl (lw_Z below #[Value.ref b] s) (F0 m 552 ls []) := by
  obtain ⟨C0, hK, hGX, hEX, hNX⟩ := id E0
  obtain ⟨hx, hb, hr, hml, hown, hts, hX, hbl, hlocks, hgv⟩ := id C0
  obtain ⟨hXV, hTX, hN, hSX, hG, hBX, hnc, hnb, hov⟩ := id hGX
  have hK1 := K_D hK
  have hE := hXV.1
  have hA : ∀ q : Nat, s.heap.size ≤ q → lA s q := fun _ h => h
  have hce : ce ≤ 500000 := by omega
  have hsl : sl ≤ 5000000 := by omega
  have hn10 : d_n δ ≤ 10 := by omega
  have hnσ : s_n σ ≤ 10 := by rw [hI.1.1]; exact hn10
  have hbe : beingB σ (nI jb) = true := being_T hI hjb
  refine lv_iconst (v := 0) hx hb dL_law_552 (by decide) ?_
  refine lv_istore (lv' := [(13, .int 0), (11, .int (nI c0)), (10, .int (nI jb)), (9, .int (nI na)), (8, .int (nI (d_n δ))), (7, .int (turnF σ)), (5, .long dg), (4, .int (nI k4)), (3, .ref h), (2, .ref (o 0)), (1, .int (nI k1)), (0, .ref b)]) hx hb dL_law_553 hl (by decide) rfl (fun ls hl => ?_)
  have L555 : ∀ (n6 k6 : Nat) (f6 : Nat → Int32) (ψ6 : YS) (dr6 ce6 sl6 : Nat) (hk6 : k6 + n6 = 6) (hcb6 : ce6 ≤ ce + 13 * k6) (hsb6 : sl6 ≤ sl + 78 * k6) (hdb6 : dr6 ≤ dr + k6) (H : Heap) (locs : List Loc) (ls : Array Slot), lv_has ls 19 [(13, .int (nI k6)), (11, .int (nI c0)), (10, .int (nI jb)), (9, .int (nI na)), (8, .int (nI (d_n δ))), (7, .int (turnF σ)), (5, .long dg), (4, .int (nI k4)), (3, .ref h), (2, .ref (o 0)), (1, .int (nI k1)), (0, .ref b)] → va_P D vwCl (wW h (a 0) (z 0) l0 m0 ++ sW cI a σ ++ dW cI cZ cG cY o rr h b dr6 δ Y9 ++ sW cI z τ ++ wL l0 mc q9 g ++ mW cI m0 (y 0) w0 f6 ++ yW cI y ψ6 ++ (bW cI rr (d_n δ) (d_R δ) ++ xp)) H → va_D (lA s) (wW h (a 0) (z 0) l0 m0 ++ sW cI a σ ++ dW cI cZ cG cY o rr h b dr6 δ Y9 ++ sW cI z τ ++ wL l0 mc q9 g ++ mW cI m0 (y 0) w0 f6 ++ yW cI y ψ6 ++ (bW cI rr (d_n δ) (d_R δ) ++ xp)) → va_S (lA s) s.heap H locs → W p l e room_1 s m #[Value.ref b] below meth c H locs ce6 sl6 (lw_Z below #[Value.ref b] s) (F0 m 555 ls []) := by
    intro n6
    induction n6 with
    | zero =>
      intro k6 f6 ψ6 dr6 ce6 sl6 hk6 hcb6 hsb6 hdb6 H locs ls hl hP hD hS
      have hce6 : ce6 ≤ 500000 := by omega
      have hsl6 : sl6 ≤ 5000000 := by omega
      refine lv_iload hx hb dL_law_555 (lv_at hl 0 rfl) ?_
      refine lv_bipush (v := 6) hx hb dL_law_557 (by decide) ?_
      refine lv_icmp_ge (tgt := 762) hx hb dL_law_559 (by decide) (fun c_559 => ?_) (fun c_559 => absurd (nI_le (a := 6) (by omega) (by omega)) c_559)
      exact kk762 f6 ψ6 dr6 ce6 sl6 (by omega) (by omega) (by omega) _ _ ls (lv_sub hl [2, 3, 4, 5, 6, 7, 8, 9, 10, 11] rfl) hP hD hS
    | succ n6 ih555 =>
      intro k6 f6 ψ6 dr6 ce6 sl6 hk6 hcb6 hsb6 hdb6 H locs ls hl hP hD hS
      have hce6 : ce6 ≤ 500000 := by omega
      have hsl6 : sl6 ≤ 5000000 := by omega
      refine lv_iload hx hb dL_law_555 (lv_at hl 0 rfl) ?_
      refine lv_bipush (v := 6) hx hb dL_law_557 (by decide) ?_
      refine lv_icmp_ge (tgt := 762) hx hb dL_law_559 (by decide) (fun c_559 => absurd c_559 (nI_ge (b := 6) (by omega) (by omega))) (fun c_559 => ?_)
      refine lv_bipush (v := 17) hx hb dL_law_562 (by decide) ?_
      refine lv_aload_n hx hb dL_law_564 rfl (lv_at hl 9 rfl) ?_
      refine lv_bipush (v := 126) hx hb dL_law_565 (by decide) ?_
      have hP : va_P D vwCl ((dW cI cZ cG cY o rr h b dr6 δ Y9) ++ (wW h (a 0) (z 0) l0 m0 ++ sW cI a σ ++ sW cI z τ ++ wL l0 mc q9 g ++ mW cI m0 (y 0) w0 f6 ++ yW cI y ψ6) ++ (bW cI rr (d_n δ) (d_R δ) ++ xp)) H := hP.part (cx := (dW cI cZ cG cY o rr h b dr6 δ Y9) ++ (wW h (a 0) (z 0) l0 m0 ++ sW cI a σ ++ sW cI z τ ++ wL l0 mc q9 g ++ mW cI m0 (y 0) w0 f6 ++ yW cI y ψ6)) [7, 8, 9, 10, 11, 12, 0, 1, 2, 3, 4, 5, 6, 13, 14, 15, 16, 17, 18, 19, 20, 21, 22, 23, 24] rfl
      have hD : va_D (lA s) ((dW cI cZ cG cY o rr h b dr6 δ Y9) ++ (wW h (a 0) (z 0) l0 m0 ++ sW cI a σ ++ sW cI z τ ++ wL l0 mc q9 g ++ mW cI m0 (y 0) w0 f6 ++ yW cI y ψ6) ++ (bW cI rr (d_n δ) (d_R δ) ++ xp)) := hD.part (cx := (dW cI cZ cG cY o rr h b dr6 δ Y9) ++ (wW h (a 0) (z 0) l0 m0 ++ sW cI a σ ++ sW cI z τ ++ wL l0 mc q9 g ++ mW cI m0 (y 0) w0 f6 ++ yW cI y ψ6)) [7, 8, 9, 10, 11, 12, 0, 1, 2, 3, 4, 5, 6, 13, 14, 15, 16, 17, 18, 19, 20, 21, 22, 23, 24] (by decide) rfl
      have hFc := freeM hD hS hA
      refine va_calli (va_runV (As := [.int 126]) (rest := [.int 17]) ⟨hx, hb, hml, hown, hts⟩ (c_X5_draw l D cI _ cZ cG cY o rr h b dr6 δ Y9 t L xs 126 hn10 (by decide) (by decide) (by omega)) (cwV 1 hts gL_law_X5_draw rfl rfl rfl (by decide +kernel) ⟨Nat.le_of_ble_eq_true rfl, Nat.le_of_ble_eq_true rfl⟩) ⟨preD_blind, va_recv hK hP (ci := 5) (q0 := 0) rfl rfl, preD_of (P_pre (toM hP)) hK (D_pre (toMD hD)) hGX hS hFc [.ref (o 0), .int 126]⟩ rfl rfl hl.1 rfl (lv_room (Nat.le_of_ble_eq_true rfl)) dL_law_567 ⟨room_c hce6 (Nat.le_of_ble_eq_true rfl) (k := 0), room_s hsl6 (Nat.le_of_ble_eq_true rfl) (k := 0)⟩) hS (fun q _ h => hFc q h) hFc (fun r9 u9 t9 H1 locs ht hvm hw hB hz1 hk1 hS => ?_)
      obtain ⟨hP1, -, hD1⟩ := hB
      rw [ht] at hP1
      obtain ⟨j567, hj567, hr9⟩ := hw
      rw [hr9]
      obtain ⟨hP, hD⟩ := joinM hP hD hk1 hFc hP1 hD1
      generalize H1 = H at hP hS ⊢
      clear ht hvm hz1 hk1 hFc hP1 hD1 hr9
      have hP : va_P D vwCl (dW cI cZ cG cY o rr h b (dr6 + 1) δ Y9 ++ wW h (a 0) (z 0) l0 m0 ++ sW cI a σ ++ sW cI z τ ++ wL l0 mc q9 g ++ mW cI m0 (y 0) w0 f6 ++ yW cI y ψ6 ++ (bW cI rr (d_n δ) (d_R δ) ++ xp)) H := hP
      have hD : va_D (lA s) (dW cI cZ cG cY o rr h b (dr6 + 1) δ Y9 ++ wW h (a 0) (z 0) l0 m0 ++ sW cI a σ ++ sW cI z τ ++ wL l0 mc q9 g ++ mW cI m0 (y 0) w0 f6 ++ yW cI y ψ6 ++ (bW cI rr (d_n δ) (d_R δ) ++ xp)) := hD
      obtain ⟨C9, eC9, hC1, hC2⟩ : ∃ C : Nat, 17 + j567 = C ∧ 17 ≤ C ∧ C ≤ 142 := ⟨_, rfl, by omega, by omega⟩
      have hC9 : C9 < 160 := by omega
      refine lv_iadd hx hb dL_law_570 ?_
      rw [show (17 : Int32) + nI j567 = nI (17 + j567) from nI_add 17 j567, eC9]
      refine lv_istore (lv' := [(14, .int (nI C9)), (13, .int (nI k6)), (11, .int (nI c0)), (10, .int (nI jb)), (9, .int (nI na)), (8, .int (nI (d_n δ))), (7, .int (turnF σ)), (5, .long dg), (4, .int (nI k4)), (3, .ref h), (2, .ref (o 0)), (1, .int (nI k1)), (0, .ref b)]) hx hb dL_law_571 hl (by decide) rfl (fun ls hl => ?_)
      refine lv_aload_n hx hb dL_law_573 rfl (lv_at hl 9 rfl) ?_
      refine lv_iload hx hb dL_law_574 (lv_at hl 3 rfl) ?_
      refine lv_iload hx hb dL_law_576 (lv_at hl 0 rfl) ?_
      have hFc := va_free (wc := wW h (a 0) (z 0) l0 m0 ++ sW cI a σ ++ mW cI m0 (y 0) w0 f6 ++ yW cI y ψ6) hD hS hA [6, 7, 8, 9, 10, 11, 12, 20, 21, 22, 23, 24] rfl
      refine vx_calli (vx_runV (As := [.int (nI jb), .int (nI C9)]) (rest := []) ⟨hx, hb, hml, hown, hts⟩ (c_X4_way l hst D cI _ h (z 0) l0 m0 w0 a y σ f6 ψ6 (nI jb) (nI C9) t hnσ) (cwV 2 hts gL_law_X4_way rfl rfl rfl (by decide +kernel) ⟨Nat.le_of_ble_eq_true rfl, Nat.le_of_ble_eq_true rfl⟩) ⟨preXS_blind, va_recv hK hP (ci := 4) (q0 := 6) rfl rfl, preXS_of (hP.sub (ws' := wW h (a 0) (z 0) l0 m0 ++ sW cI a σ ++ mW cI m0 (y 0) w0 f6 ++ yW cI y ψ6) [6, 7, 8, 9, 10, 11, 12, 20, 21, 22, 23, 24] rfl) hK1 hXV (hD.sub (ws' := wW h (a 0) (z 0) l0 m0 ++ sW cI a σ ++ mW cI m0 (y 0) w0 f6 ++ yW cI y ψ6) [6, 7, 8, 9, 10, 11, 12, 20, 21, 22, 23, 24] (by decide) rfl) hTX hSX hS hFc [.ref h, .int (nI jb), .int (nI C9)]⟩ rfl rfl hl.1 rfl (lv_room (Nat.le_of_ble_eq_true rfl)) dL_law_578 ⟨room_c hce6 (Nat.le_of_ble_eq_true rfl) (k := 1), room_s hsl6 (Nat.le_of_ble_eq_true rfl) (k := 6)⟩) hS (fun q _ h => hFc q h) hFc (fun q _ h => hFc q h) (fun E ce9 q9 u9 t9 H1 locs ht hvm hpx hBX9 hz1 hk1 hS hq9 hce9 hcl9 => absurd (F_wayT hbe hC9) hpx) (fun r9 u9 t9 H1 locs ht hvm hw hB hz1 hk1 hS => ?_)
      obtain ⟨hP1, -, hD1⟩ := hB
      rw [ht] at hP1
      obtain ⟨s578, f578, φ578⟩ := u9
      dsimp only at hw hP1 hD1
      obtain ⟨hT9, hR9, hU9⟩ := hw
      rw [hU9] at hP1 hD1
      obtain ⟨hP, hD⟩ := va_joinQ (wr := dW cI cZ cG cY o rr h b (dr6 + 1) δ Y9 ++ sW cI z τ ++ wL l0 mc q9 g) (w1 := wW h (a 0) (z 0) l0 m0 ++ sW cI a σ ++ mW cI m0 (y 0) w0 f578 ++ yW cI y φ578) hP hD [6, 7, 8, 9, 10, 11, 12, 20, 21, 22, 23, 24] [0, 1, 2, 3, 4, 5, 13, 14, 15, 16, 17, 18, 19] rfl rfl (by decide) (by decide) hk1 hFc hP1 hD1
      generalize H1 = H at hP hS ⊢
      clear ht hvm hz1 hk1 hFc hP1 hD1 hT9 hU9
      have hP : va_P D vwCl (dW cI cZ cG cY o rr h b (dr6 + 1) δ Y9 ++ sW cI z τ ++ wL l0 mc q9 g ++ wW h (a 0) (z 0) l0 m0 ++ sW cI a σ ++ mW cI m0 (y 0) w0 f578 ++ yW cI y φ578 ++ (bW cI rr (d_n δ) (d_R δ) ++ xp)) H := hP
      have hD : va_D (lA s) (dW cI cZ cG cY o rr h b (dr6 + 1) δ Y9 ++ sW cI z τ ++ wL l0 mc q9 g ++ wW h (a 0) (z 0) l0 m0 ++ sW cI a σ ++ mW cI m0 (y 0) w0 f578 ++ yW cI y φ578 ++ (bW cI rr (d_n δ) (d_R δ) ++ xp)) := hD
      rw [hR9]
      clear hR9
      refine lv_istore (lv' := [(15, .int (wayF σ (nI jb) (nI C9))), (14, .int (nI C9)), (13, .int (nI k6)), (11, .int (nI c0)), (10, .int (nI jb)), (9, .int (nI na)), (8, .int (nI (d_n δ))), (7, .int (turnF σ)), (5, .long dg), (4, .int (nI k4)), (3, .ref h), (2, .ref (o 0)), (1, .int (nI k1)), (0, .ref b)]) hx hb dL_law_581 hl (by decide) rfl (fun ls hl => ?_)
      refine lv_iload hx hb dL_law_583 (lv_at hl 1 rfl) ?_
      refine lv_bipush (v := 16) hx hb dL_law_585 (by decide) ?_
      refine lv_idiv hx hb dL_law_587 (by decide) ?_
      refine lv_iload hx hb dL_law_588 (lv_at hl 3 rfl) ?_
      refine lv_bipush (v := 16) hx hb dL_law_590 (by decide) ?_
      refine lv_idiv hx hb dL_law_592 (by decide) ?_
      refine lv_isub hx hb dL_law_593 ?_
      refine va_mabs hx hb (hml.trans hl.1.symm) hown (hts (.methodLink RL 81 Lib.Math.abs.name) w9_6) (hts (.static Lib.Math.abs.name) w9_7) (hts (.initialized "java/lang/Math") w9_8) (hts (.code Lib.Math.abs.name Lib.Math.abs.code 1 (some .int)) w9_9) (Nat.le_of_ble_eq_true rfl) (Nat.le_of_ble_eq_true rfl) (room_c hce6 (Nat.le_of_ble_eq_true rfl) (k := 1)) (room_s hsl6 (Nat.le_of_ble_eq_true rfl) (k := 6)) dL_law_594 ?_
      refine lv_iload hx hb dL_law_597 (lv_at hl 1 rfl) ?_
      refine lv_bipush (v := 16) hx hb dL_law_599 (by decide) ?_
      refine lv_irem hx hb dL_law_601 (by decide) ?_
      refine lv_iload hx hb dL_law_602 (lv_at hl 3 rfl) ?_
      refine lv_bipush (v := 16) hx hb dL_law_604 (by decide) ?_
      refine lv_irem hx hb dL_law_606 (by decide) ?_
      refine lv_isub hx hb dL_law_607 ?_
      refine va_mabs hx hb (hml.trans hl.1.symm) hown (hts (.methodLink RL 81 Lib.Math.abs.name) w9_6) (hts (.static Lib.Math.abs.name) w9_7) (hts (.initialized "java/lang/Math") w9_8) (hts (.code Lib.Math.abs.name Lib.Math.abs.code 1 (some .int)) w9_9) (Nat.le_of_ble_eq_true rfl) (Nat.le_of_ble_eq_true rfl) (room_c hce6 (Nat.le_of_ble_eq_true rfl) (k := 1)) (room_s hsl6 (Nat.le_of_ble_eq_true rfl) (k := 6)) dL_law_608 ?_
      refine lv_iadd hx hb dL_law_611 ?_
      rw [show (if 0 ≤ nI C9 / 16 - nI c0 / 16 then nI C9 / 16 - nI c0 / 16 else 0 - (nI C9 / 16 - nI c0 / 16)) + (if 0 ≤ nI C9 - nI C9 / 16 * 16 - (nI c0 - nI c0 / 16 * 16) then nI C9 - nI C9 / 16 * 16 - (nI c0 - nI c0 / 16 * 16) else 0 - (nI C9 - nI C9 / 16 * 16 - (nI c0 - nI c0 / 16 * 16))) = nI (manN c0 C9) from F_apart hC9 hc0]
      refine lv_istore (lv' := [(16, .int (nI (manN c0 C9))), (15, .int (wayF σ (nI jb) (nI C9))), (14, .int (nI C9)), (13, .int (nI k6)), (11, .int (nI c0)), (10, .int (nI jb)), (9, .int (nI na)), (8, .int (nI (d_n δ))), (7, .int (turnF σ)), (5, .long dg), (4, .int (nI k4)), (3, .ref h), (2, .ref (o 0)), (1, .int (nI k1)), (0, .ref b)]) hx hb dL_law_612 hl (by decide) rfl (fun ls hl => ?_)
      rcases L_way hI hjb hal hc0 e1 (c := C9) hC9 with eW | ⟨v9, hv9, eW, hman, hkC, hnx⟩
      · rw [eW] at hl
        refine lv_iload hx hb dL_law_614 (lv_at hl 1 rfl) ?_
        refine lv_if_lt (tgt := 636) hx hb dL_law_616 (by decide) (fun c_616 => ?_) (fun c_616 => absurd ((by decide)) c_616)
        refine lv_aload_n hx hb dL_law_636 rfl (lv_at hl 11 rfl) ?_
        refine lv_iload hx hb dL_law_637 (lv_at hl 4 rfl) ?_
        refine lv_iload hx hb dL_law_639 (lv_at hl 2 rfl) ?_
        have hFc := va_free (wc := wW h (a 0) (z 0) l0 m0 ++ sW cI a σ) hD hS hA [13, 14, 15, 16, 17, 18, 19] rfl
        refine vx_calli (vx_runV (As := [.int (nI c0), .int (nI C9)]) (rest := []) ⟨hx, hb, hml, hown, hts⟩ (c_X4_sees l hst D cI _ h (z 0) l0 m0 a σ (nI c0) (nI C9)) (cwV 2 hts gL_law_X4_sees rfl rfl rfl (by decide +kernel) ⟨Nat.le_of_ble_eq_true rfl, Nat.le_of_ble_eq_true rfl⟩) ⟨preX_blind, va_recv hK hP (ci := 4) (q0 := 13) rfl rfl, preX_of (hP.sub (ws' := wW h (a 0) (z 0) l0 m0 ++ sW cI a σ) [13, 14, 15, 16, 17, 18, 19] rfl) hK1 hXV (hD.sub (ws' := wW h (a 0) (z 0) l0 m0 ++ sW cI a σ) [13, 14, 15, 16, 17, 18, 19] (by decide) rfl) hTX hS hFc [.ref h, .int (nI c0), .int (nI C9)]⟩ rfl rfl hl.1 rfl (lv_room (Nat.le_of_ble_eq_true rfl)) dL_law_641 ⟨room_c hce6 (Nat.le_of_ble_eq_true rfl) (k := 2), room_s hsl6 (Nat.le_of_ble_eq_true rfl) (k := 12)⟩) hS (fun q _ h => hFc q h) hFc (fun q _ h => hFc q h) (fun E ce9 q9 u9 t9 H1 locs ht hvm hpx hBX9 hz1 hk1 hS hq9 hce9 hcl9 => absurd (F_seeT hc0 hC9) hpx) (fun r9 u9 t9 H1 locs ht hvm hw hB hz1 hk1 hS => ?_)
        obtain ⟨hP1, -, hD1⟩ := hB
        rw [ht] at hP1
        obtain ⟨hT9, hR9, hU9⟩ := hw
        rw [hU9] at hP1 hD1
        obtain ⟨hP, hD⟩ := va_joinQ (wr := dW cI cZ cG cY o rr h b (dr6 + 1) δ Y9 ++ sW cI z τ ++ wL l0 mc q9 g ++ mW cI m0 (y 0) w0 f578 ++ yW cI y φ578) (w1 := wW h (a 0) (z 0) l0 m0 ++ sW cI a σ) hP hD [13, 14, 15, 16, 17, 18, 19] [0, 1, 2, 3, 4, 5, 6, 7, 8, 9, 10, 11, 12, 20, 21, 22, 23, 24] rfl rfl (by decide) (by decide) hk1 hFc hP1 hD1
        generalize H1 = H at hP hS ⊢
        clear ht hvm hz1 hk1 hFc hP1 hD1 hT9 hU9
        have hP : va_P D vwCl (dW cI cZ cG cY o rr h b (dr6 + 1) δ Y9 ++ sW cI z τ ++ wL l0 mc q9 g ++ mW cI m0 (y 0) w0 f578 ++ yW cI y φ578 ++ wW h (a 0) (z 0) l0 m0 ++ sW cI a σ ++ (bW cI rr (d_n δ) (d_R δ) ++ xp)) H := hP
        have hD : va_D (lA s) (dW cI cZ cG cY o rr h b (dr6 + 1) δ Y9 ++ sW cI z τ ++ wL l0 mc q9 g ++ mW cI m0 (y 0) w0 f578 ++ yW cI y φ578 ++ wW h (a 0) (z 0) l0 m0 ++ sW cI a σ ++ (bW cI rr (d_n δ) (d_R δ) ++ xp)) := hD
        rw [hR9]
        clear hR9
        refine lv_aload_n hx hb dL_law_644 rfl (lv_at hl 11 rfl) ?_
        refine lv_iload hx hb dL_law_645 (lv_at hl 2 rfl) ?_
        refine lv_iload hx hb dL_law_647 (lv_at hl 4 rfl) ?_
        have hFc := va_free (wc := wW h (a 0) (z 0) l0 m0 ++ sW cI a σ) hD hS hA [18, 19, 20, 21, 22, 23, 24] rfl
        refine vx_calli (vx_runV (As := [.int (nI C9), .int (nI c0)]) (rest := [.int (bi (seenB σ (nI c0) (nI C9)))]) ⟨hx, hb, hml, hown, hts⟩ (c_X4_sees l hst D cI _ h (z 0) l0 m0 a σ (nI C9) (nI c0)) (cwV 2 hts gL_law_X4_sees rfl rfl rfl (by decide +kernel) ⟨Nat.le_of_ble_eq_true rfl, Nat.le_of_ble_eq_true rfl⟩) ⟨preX_blind, va_recv hK hP (ci := 4) (q0 := 18) rfl rfl, preX_of (hP.sub (ws' := wW h (a 0) (z 0) l0 m0 ++ sW cI a σ) [18, 19, 20, 21, 22, 23, 24] rfl) hK1 hXV (hD.sub (ws' := wW h (a 0) (z 0) l0 m0 ++ sW cI a σ) [18, 19, 20, 21, 22, 23, 24] (by decide) rfl) hTX hS hFc [.ref h, .int (nI C9), .int (nI c0)]⟩ rfl rfl hl.1 rfl (lv_room (Nat.le_of_ble_eq_true rfl)) dL_law_649 ⟨room_c hce6 (Nat.le_of_ble_eq_true rfl) (k := 3), room_s hsl6 (Nat.le_of_ble_eq_true rfl) (k := 18)⟩) hS (fun q _ h => hFc q h) hFc (fun q _ h => hFc q h) (fun E ce9 q9 u9 t9 H1 locs ht hvm hpx hBX9 hz1 hk1 hS hq9 hce9 hcl9 => absurd (F_seeT hC9 hc0) hpx) (fun r9 u9 t9 H1 locs ht hvm hw hB hz1 hk1 hS => ?_)
        obtain ⟨hP1, -, hD1⟩ := hB
        rw [ht] at hP1
        obtain ⟨hT9, hR9, hU9⟩ := hw
        rw [hU9] at hP1 hD1
        obtain ⟨hP, hD⟩ := va_joinQ (wr := dW cI cZ cG cY o rr h b (dr6 + 1) δ Y9 ++ sW cI z τ ++ wL l0 mc q9 g ++ mW cI m0 (y 0) w0 f578 ++ yW cI y φ578) (w1 := wW h (a 0) (z 0) l0 m0 ++ sW cI a σ) hP hD [18, 19, 20, 21, 22, 23, 24] [0, 1, 2, 3, 4, 5, 6, 7, 8, 9, 10, 11, 12, 13, 14, 15, 16, 17] rfl rfl (by decide) (by decide) hk1 hFc hP1 hD1
        generalize H1 = H at hP hS ⊢
        clear ht hvm hz1 hk1 hFc hP1 hD1 hT9 hU9
        have hP : va_P D vwCl (dW cI cZ cG cY o rr h b (dr6 + 1) δ Y9 ++ sW cI z τ ++ wL l0 mc q9 g ++ mW cI m0 (y 0) w0 f578 ++ yW cI y φ578 ++ wW h (a 0) (z 0) l0 m0 ++ sW cI a σ ++ (bW cI rr (d_n δ) (d_R δ) ++ xp)) H := hP
        have hD : va_D (lA s) (dW cI cZ cG cY o rr h b (dr6 + 1) δ Y9 ++ sW cI z τ ++ wL l0 mc q9 g ++ mW cI m0 (y 0) w0 f578 ++ yW cI y φ578 ++ wW h (a 0) (z 0) l0 m0 ++ sW cI a σ ++ (bW cI rr (d_n δ) (d_R δ) ++ xp)) := hD
        rw [hR9]
        clear hR9
        refine lv_icmp_ne (tgt := 667) hx hb dL_law_652 (by decide) (fun c_652 => absurd ((by rw [seen_comm σ hc0 hC9])) c_652) (fun c_652 => ?_)
        refine lv_aload_n hx hb dL_law_655 rfl (lv_at hl 11 rfl) ?_
        refine lv_iload hx hb dL_law_656 (lv_at hl 5 rfl) ?_
        refine lv_iload hx hb dL_law_658 (lv_at hl 5 rfl) ?_
        have hFc := va_free (wc := wW h (a 0) (z 0) l0 m0 ++ sW cI a σ) hD hS hA [18, 19, 20, 21, 22, 23, 24] rfl
        refine vx_calli (vx_runV (As := [.int (nI jb), .int (nI jb)]) (rest := []) ⟨hx, hb, hml, hown, hts⟩ (c_X4_hit l hst D cI _ h (z 0) l0 m0 a σ (nI jb) (nI jb)) (cwV 2 hts gL_law_X4_hit rfl rfl rfl (by decide +kernel) ⟨Nat.le_of_ble_eq_true rfl, Nat.le_of_ble_eq_true rfl⟩) ⟨preX_blind, va_recv hK hP (ci := 4) (q0 := 18) rfl rfl, preX_of (hP.sub (ws' := wW h (a 0) (z 0) l0 m0 ++ sW cI a σ) [18, 19, 20, 21, 22, 23, 24] rfl) hK1 hXV (hD.sub (ws' := wW h (a 0) (z 0) l0 m0 ++ sW cI a σ) [18, 19, 20, 21, 22, 23, 24] (by decide) rfl) hTX hS hFc [.ref h, .int (nI jb), .int (nI jb)]⟩ rfl rfl hl.1 rfl (lv_room (Nat.le_of_ble_eq_true rfl)) dL_law_660 ⟨room_c hce6 (Nat.le_of_ble_eq_true rfl) (k := 4), room_s hsl6 (Nat.le_of_ble_eq_true rfl) (k := 24)⟩) hS (fun q _ h => hFc q h) hFc (fun q _ h => hFc q h) (fun E ce9 q9 u9 t9 H1 locs ht hvm hpx hBX9 hz1 hk1 hS hq9 hce9 hcl9 => absurd (F_hitT hbe hbe) hpx) (fun r9 u9 t9 H1 locs ht hvm hw hB hz1 hk1 hS => ?_)
        obtain ⟨hP1, -, hD1⟩ := hB
        rw [ht] at hP1
        obtain ⟨hT9, hR9, hU9⟩ := hw
        rw [hU9] at hP1 hD1
        obtain ⟨hP, hD⟩ := va_joinQ (wr := dW cI cZ cG cY o rr h b (dr6 + 1) δ Y9 ++ sW cI z τ ++ wL l0 mc q9 g ++ mW cI m0 (y 0) w0 f578 ++ yW cI y φ578) (w1 := wW h (a 0) (z 0) l0 m0 ++ sW cI a σ) hP hD [18, 19, 20, 21, 22, 23, 24] [0, 1, 2, 3, 4, 5, 6, 7, 8, 9, 10, 11, 12, 13, 14, 15, 16, 17] rfl rfl (by decide) (by decide) hk1 hFc hP1 hD1
        generalize H1 = H at hP hS ⊢
        clear ht hvm hz1 hk1 hFc hP1 hD1 hT9 hU9
        have hP : va_P D vwCl (dW cI cZ cG cY o rr h b (dr6 + 1) δ Y9 ++ sW cI z τ ++ wL l0 mc q9 g ++ mW cI m0 (y 0) w0 f578 ++ yW cI y φ578 ++ wW h (a 0) (z 0) l0 m0 ++ sW cI a σ ++ (bW cI rr (d_n δ) (d_R δ) ++ xp)) H := hP
        have hD : va_D (lA s) (dW cI cZ cG cY o rr h b (dr6 + 1) δ Y9 ++ sW cI z τ ++ wL l0 mc q9 g ++ mW cI m0 (y 0) w0 f578 ++ yW cI y φ578 ++ wW h (a 0) (z 0) l0 m0 ++ sW cI a σ ++ (bW cI rr (d_n δ) (d_R δ) ++ xp)) := hD
        rw [hR9]
        clear hR9
        refine lv_iconst (v := 1) hx hb dL_law_663 (by decide) ?_
        refine lv_icmp_ge (tgt := 669) hx hb dL_law_664 (by decide) (fun c_664 => ?_) (fun c_664 => absurd ((F_hit hal)) c_664)
        refine lv_iload hx hb dL_law_669 (lv_at hl 1 rfl) ?_
        refine lv_if_lt (tgt := 756) hx hb dL_law_671 (by decide) (fun c_671 => ?_) (fun c_671 => absurd ((by decide)) c_671)
        refine lv_iinc (v := (nI (k6 + 1))) (lv' := [(13, .int (nI (k6 + 1))), (16, .int (nI (manN c0 C9))), (15, .int (-1)), (14, .int (nI C9)), (11, .int (nI c0)), (10, .int (nI jb)), (9, .int (nI na)), (8, .int (nI (d_n δ))), (7, .int (turnF σ)), (5, .long dg), (4, .int (nI k4)), (3, .ref h), (2, .ref (o 0)), (1, .int (nI k1)), (0, .ref b)]) hx hb dL_law_756 hl (k := 3) rfl (nI_1 k6) (by decide) rfl (fun ls hl => ?_)
        refine lv_goto (tgt := 555) hx hb dL_law_759 (by decide) ?_
        have hP := hP.part (cx := wW h (a 0) (z 0) l0 m0 ++ sW cI a σ ++ dW cI cZ cG cY o rr h b (dr6 + 1) δ Y9 ++ sW cI z τ ++ wL l0 mc q9 g ++ mW cI m0 (y 0) w0 f578 ++ yW cI y φ578) [18, 19, 20, 21, 22, 23, 24, 0, 1, 2, 3, 4, 5, 6, 7, 8, 9, 10, 11, 12, 13, 14, 15, 16, 17] rfl
        have hD := hD.part (cx := wW h (a 0) (z 0) l0 m0 ++ sW cI a σ ++ dW cI cZ cG cY o rr h b (dr6 + 1) δ Y9 ++ sW cI z τ ++ wL l0 mc q9 g ++ mW cI m0 (y 0) w0 f578 ++ yW cI y φ578) [18, 19, 20, 21, 22, 23, 24, 0, 1, 2, 3, 4, 5, 6, 7, 8, 9, 10, 11, 12, 13, 14, 15, 16, 17] (by decide) rfl
        have hP : va_P D vwCl (wW h (a 0) (z 0) l0 m0 ++ sW cI a σ ++ dW cI cZ cG cY o rr h b (dr6 + 1) δ Y9 ++ sW cI z τ ++ wL l0 mc q9 g ++ mW cI m0 (y 0) w0 f578 ++ yW cI y φ578 ++ (bW cI rr (d_n δ) (d_R δ) ++ xp)) H := hP
        have hD : va_D (lA s) (wW h (a 0) (z 0) l0 m0 ++ sW cI a σ ++ dW cI cZ cG cY o rr h b (dr6 + 1) δ Y9 ++ sW cI z τ ++ wL l0 mc q9 g ++ mW cI m0 (y 0) w0 f578 ++ yW cI y φ578 ++ (bW cI rr (d_n δ) (d_R δ) ++ xp)) := hD
        exact ih555 (k6 + 1) f578 φ578 (dr6 + 1) (ce6 + 4) (sl6 + 24) (by omega) (by omega) (by omega) (by omega) _ _ ls (lv_sub hl [0, 4, 5, 6, 7, 8, 9, 10, 11, 12, 13, 14] rfl) hP hD hS
      · rw [eW] at hl
        refine lv_iload hx hb dL_law_614 (lv_at hl 1 rfl) ?_
        refine lv_if_lt (tgt := 636) hx hb dL_law_616 (by decide) (fun c_616 => absurd c_616 ((nI_pos (by omega)))) (fun c_616 => ?_)
        refine lv_iload hx hb dL_law_619 (lv_at hl 1 rfl) ?_
        refine lv_iload hx hb dL_law_621 (lv_at hl 0 rfl) ?_
        refine lv_icmp_lt (tgt := 667) hx hb dL_law_623 (by decide) (fun c_623 => absurd c_623 ((nI_nlt hman (by omega)))) (fun c_623 => ?_)
        refine lv_aload_n hx hb dL_law_626 rfl (lv_at hl 11 rfl) ?_
        refine lv_iload hx hb dL_law_627 (lv_at hl 2 rfl) ?_
        have hFc := va_free (wc := wW h (a 0) (z 0) l0 m0 ++ sW cI a σ) hD hS hA [13, 14, 15, 16, 17, 18, 19] rfl
        refine vx_calli (vx_runV (As := [.int (nI C9)]) (rest := []) ⟨hx, hb, hml, hown, hts⟩ (c_X4_cell l hst D cI _ h (z 0) l0 m0 a σ (nI C9)) (cwV 1 hts gL_law_X4_cell rfl rfl rfl (by decide +kernel) ⟨Nat.le_of_ble_eq_true rfl, Nat.le_of_ble_eq_true rfl⟩) ⟨preX_blind, va_recv hK hP (ci := 4) (q0 := 13) rfl rfl, preX_of (hP.sub (ws' := wW h (a 0) (z 0) l0 m0 ++ sW cI a σ) [13, 14, 15, 16, 17, 18, 19] rfl) hK1 hXV (hD.sub (ws' := wW h (a 0) (z 0) l0 m0 ++ sW cI a σ) [13, 14, 15, 16, 17, 18, 19] (by decide) rfl) hTX hS hFc [.ref h, .int (nI C9)]⟩ rfl rfl hl.1 rfl (lv_room (Nat.le_of_ble_eq_true rfl)) dL_law_629 ⟨room_c hce6 (Nat.le_of_ble_eq_true rfl) (k := 2), room_s hsl6 (Nat.le_of_ble_eq_true rfl) (k := 12)⟩) hS (fun q _ h => hFc q h) hFc (fun q _ h => hFc q h) (fun E ce9 q9 u9 t9 H1 locs ht hvm hpx hBX9 hz1 hk1 hS hq9 hce9 hcl9 => absurd (F_celT hC9) hpx) (fun r9 u9 t9 H1 locs ht hvm hw hB hz1 hk1 hS => ?_)
        obtain ⟨hP1, -, hD1⟩ := hB
        rw [ht] at hP1
        obtain ⟨hT9, hR9, hU9⟩ := hw
        rw [hU9] at hP1 hD1
        obtain ⟨hP, hD⟩ := va_joinQ (wr := dW cI cZ cG cY o rr h b (dr6 + 1) δ Y9 ++ sW cI z τ ++ wL l0 mc q9 g ++ mW cI m0 (y 0) w0 f578 ++ yW cI y φ578) (w1 := wW h (a 0) (z 0) l0 m0 ++ sW cI a σ) hP hD [13, 14, 15, 16, 17, 18, 19] [0, 1, 2, 3, 4, 5, 6, 7, 8, 9, 10, 11, 12, 20, 21, 22, 23, 24] rfl rfl (by decide) (by decide) hk1 hFc hP1 hD1
        generalize H1 = H at hP hS ⊢
        clear ht hvm hz1 hk1 hFc hP1 hD1 hT9 hU9
        have hP : va_P D vwCl (dW cI cZ cG cY o rr h b (dr6 + 1) δ Y9 ++ sW cI z τ ++ wL l0 mc q9 g ++ mW cI m0 (y 0) w0 f578 ++ yW cI y φ578 ++ wW h (a 0) (z 0) l0 m0 ++ sW cI a σ ++ (bW cI rr (d_n δ) (d_R δ) ++ xp)) H := hP
        have hD : va_D (lA s) (dW cI cZ cG cY o rr h b (dr6 + 1) δ Y9 ++ sW cI z τ ++ wL l0 mc q9 g ++ mW cI m0 (y 0) w0 f578 ++ yW cI y φ578 ++ wW h (a 0) (z 0) l0 m0 ++ sW cI a σ ++ (bW cI rr (d_n δ) (d_R δ) ++ xp)) := hD
        rw [hR9]
        clear hR9
        refine lv_iconst (v := 1) hx hb dL_law_632 (by decide) ?_
        refine lv_icmp_eq (tgt := 667) hx hb dL_law_633 (by decide) (fun c_633 => absurd c_633 (hkC)) (fun c_633 => ?_)
        refine lv_aload_n hx hb dL_law_636 rfl (lv_at hl 11 rfl) ?_
        refine lv_iload hx hb dL_law_637 (lv_at hl 4 rfl) ?_
        refine lv_iload hx hb dL_law_639 (lv_at hl 2 rfl) ?_
        have hFc := va_free (wc := wW h (a 0) (z 0) l0 m0 ++ sW cI a σ) hD hS hA [18, 19, 20, 21, 22, 23, 24] rfl
        refine vx_calli (vx_runV (As := [.int (nI c0), .int (nI C9)]) (rest := []) ⟨hx, hb, hml, hown, hts⟩ (c_X4_sees l hst D cI _ h (z 0) l0 m0 a σ (nI c0) (nI C9)) (cwV 2 hts gL_law_X4_sees rfl rfl rfl (by decide +kernel) ⟨Nat.le_of_ble_eq_true rfl, Nat.le_of_ble_eq_true rfl⟩) ⟨preX_blind, va_recv hK hP (ci := 4) (q0 := 18) rfl rfl, preX_of (hP.sub (ws' := wW h (a 0) (z 0) l0 m0 ++ sW cI a σ) [18, 19, 20, 21, 22, 23, 24] rfl) hK1 hXV (hD.sub (ws' := wW h (a 0) (z 0) l0 m0 ++ sW cI a σ) [18, 19, 20, 21, 22, 23, 24] (by decide) rfl) hTX hS hFc [.ref h, .int (nI c0), .int (nI C9)]⟩ rfl rfl hl.1 rfl (lv_room (Nat.le_of_ble_eq_true rfl)) dL_law_641 ⟨room_c hce6 (Nat.le_of_ble_eq_true rfl) (k := 3), room_s hsl6 (Nat.le_of_ble_eq_true rfl) (k := 18)⟩) hS (fun q _ h => hFc q h) hFc (fun q _ h => hFc q h) (fun E ce9 q9 u9 t9 H1 locs ht hvm hpx hBX9 hz1 hk1 hS hq9 hce9 hcl9 => absurd (F_seeT hc0 hC9) hpx) (fun r9 u9 t9 H1 locs ht hvm hw hB hz1 hk1 hS => ?_)
        obtain ⟨hP1, -, hD1⟩ := hB
        rw [ht] at hP1
        obtain ⟨hT9, hR9, hU9⟩ := hw
        rw [hU9] at hP1 hD1
        obtain ⟨hP, hD⟩ := va_joinQ (wr := dW cI cZ cG cY o rr h b (dr6 + 1) δ Y9 ++ sW cI z τ ++ wL l0 mc q9 g ++ mW cI m0 (y 0) w0 f578 ++ yW cI y φ578) (w1 := wW h (a 0) (z 0) l0 m0 ++ sW cI a σ) hP hD [18, 19, 20, 21, 22, 23, 24] [0, 1, 2, 3, 4, 5, 6, 7, 8, 9, 10, 11, 12, 13, 14, 15, 16, 17] rfl rfl (by decide) (by decide) hk1 hFc hP1 hD1
        generalize H1 = H at hP hS ⊢
        clear ht hvm hz1 hk1 hFc hP1 hD1 hT9 hU9
        have hP : va_P D vwCl (dW cI cZ cG cY o rr h b (dr6 + 1) δ Y9 ++ sW cI z τ ++ wL l0 mc q9 g ++ mW cI m0 (y 0) w0 f578 ++ yW cI y φ578 ++ wW h (a 0) (z 0) l0 m0 ++ sW cI a σ ++ (bW cI rr (d_n δ) (d_R δ) ++ xp)) H := hP
        have hD : va_D (lA s) (dW cI cZ cG cY o rr h b (dr6 + 1) δ Y9 ++ sW cI z τ ++ wL l0 mc q9 g ++ mW cI m0 (y 0) w0 f578 ++ yW cI y φ578 ++ wW h (a 0) (z 0) l0 m0 ++ sW cI a σ ++ (bW cI rr (d_n δ) (d_R δ) ++ xp)) := hD
        rw [hR9]
        clear hR9
        refine lv_aload_n hx hb dL_law_644 rfl (lv_at hl 11 rfl) ?_
        refine lv_iload hx hb dL_law_645 (lv_at hl 2 rfl) ?_
        refine lv_iload hx hb dL_law_647 (lv_at hl 4 rfl) ?_
        have hFc := va_free (wc := wW h (a 0) (z 0) l0 m0 ++ sW cI a σ) hD hS hA [18, 19, 20, 21, 22, 23, 24] rfl
        refine vx_calli (vx_runV (As := [.int (nI C9), .int (nI c0)]) (rest := [.int (bi (seenB σ (nI c0) (nI C9)))]) ⟨hx, hb, hml, hown, hts⟩ (c_X4_sees l hst D cI _ h (z 0) l0 m0 a σ (nI C9) (nI c0)) (cwV 2 hts gL_law_X4_sees rfl rfl rfl (by decide +kernel) ⟨Nat.le_of_ble_eq_true rfl, Nat.le_of_ble_eq_true rfl⟩) ⟨preX_blind, va_recv hK hP (ci := 4) (q0 := 18) rfl rfl, preX_of (hP.sub (ws' := wW h (a 0) (z 0) l0 m0 ++ sW cI a σ) [18, 19, 20, 21, 22, 23, 24] rfl) hK1 hXV (hD.sub (ws' := wW h (a 0) (z 0) l0 m0 ++ sW cI a σ) [18, 19, 20, 21, 22, 23, 24] (by decide) rfl) hTX hS hFc [.ref h, .int (nI C9), .int (nI c0)]⟩ rfl rfl hl.1 rfl (lv_room (Nat.le_of_ble_eq_true rfl)) dL_law_649 ⟨room_c hce6 (Nat.le_of_ble_eq_true rfl) (k := 4), room_s hsl6 (Nat.le_of_ble_eq_true rfl) (k := 24)⟩) hS (fun q _ h => hFc q h) hFc (fun q _ h => hFc q h) (fun E ce9 q9 u9 t9 H1 locs ht hvm hpx hBX9 hz1 hk1 hS hq9 hce9 hcl9 => absurd (F_seeT hC9 hc0) hpx) (fun r9 u9 t9 H1 locs ht hvm hw hB hz1 hk1 hS => ?_)
        obtain ⟨hP1, -, hD1⟩ := hB
        rw [ht] at hP1
        obtain ⟨hT9, hR9, hU9⟩ := hw
        rw [hU9] at hP1 hD1
        obtain ⟨hP, hD⟩ := va_joinQ (wr := dW cI cZ cG cY o rr h b (dr6 + 1) δ Y9 ++ sW cI z τ ++ wL l0 mc q9 g ++ mW cI m0 (y 0) w0 f578 ++ yW cI y φ578) (w1 := wW h (a 0) (z 0) l0 m0 ++ sW cI a σ) hP hD [18, 19, 20, 21, 22, 23, 24] [0, 1, 2, 3, 4, 5, 6, 7, 8, 9, 10, 11, 12, 13, 14, 15, 16, 17] rfl rfl (by decide) (by decide) hk1 hFc hP1 hD1
        generalize H1 = H at hP hS ⊢
        clear ht hvm hz1 hk1 hFc hP1 hD1 hT9 hU9
        have hP : va_P D vwCl (dW cI cZ cG cY o rr h b (dr6 + 1) δ Y9 ++ sW cI z τ ++ wL l0 mc q9 g ++ mW cI m0 (y 0) w0 f578 ++ yW cI y φ578 ++ wW h (a 0) (z 0) l0 m0 ++ sW cI a σ ++ (bW cI rr (d_n δ) (d_R δ) ++ xp)) H := hP
        have hD : va_D (lA s) (dW cI cZ cG cY o rr h b (dr6 + 1) δ Y9 ++ sW cI z τ ++ wL l0 mc q9 g ++ mW cI m0 (y 0) w0 f578 ++ yW cI y φ578 ++ wW h (a 0) (z 0) l0 m0 ++ sW cI a σ ++ (bW cI rr (d_n δ) (d_R δ) ++ xp)) := hD
        rw [hR9]
        clear hR9
        refine lv_icmp_ne (tgt := 667) hx hb dL_law_652 (by decide) (fun c_652 => absurd ((by rw [seen_comm σ hc0 hC9])) c_652) (fun c_652 => ?_)
        refine lv_aload_n hx hb dL_law_655 rfl (lv_at hl 11 rfl) ?_
        refine lv_iload hx hb dL_law_656 (lv_at hl 5 rfl) ?_
        refine lv_iload hx hb dL_law_658 (lv_at hl 5 rfl) ?_
        have hFc := va_free (wc := wW h (a 0) (z 0) l0 m0 ++ sW cI a σ) hD hS hA [18, 19, 20, 21, 22, 23, 24] rfl
        refine vx_calli (vx_runV (As := [.int (nI jb), .int (nI jb)]) (rest := []) ⟨hx, hb, hml, hown, hts⟩ (c_X4_hit l hst D cI _ h (z 0) l0 m0 a σ (nI jb) (nI jb)) (cwV 2 hts gL_law_X4_hit rfl rfl rfl (by decide +kernel) ⟨Nat.le_of_ble_eq_true rfl, Nat.le_of_ble_eq_true rfl⟩) ⟨preX_blind, va_recv hK hP (ci := 4) (q0 := 18) rfl rfl, preX_of (hP.sub (ws' := wW h (a 0) (z 0) l0 m0 ++ sW cI a σ) [18, 19, 20, 21, 22, 23, 24] rfl) hK1 hXV (hD.sub (ws' := wW h (a 0) (z 0) l0 m0 ++ sW cI a σ) [18, 19, 20, 21, 22, 23, 24] (by decide) rfl) hTX hS hFc [.ref h, .int (nI jb), .int (nI jb)]⟩ rfl rfl hl.1 rfl (lv_room (Nat.le_of_ble_eq_true rfl)) dL_law_660 ⟨room_c hce6 (Nat.le_of_ble_eq_true rfl) (k := 5), room_s hsl6 (Nat.le_of_ble_eq_true rfl) (k := 30)⟩) hS (fun q _ h => hFc q h) hFc (fun q _ h => hFc q h) (fun E ce9 q9 u9 t9 H1 locs ht hvm hpx hBX9 hz1 hk1 hS hq9 hce9 hcl9 => absurd (F_hitT hbe hbe) hpx) (fun r9 u9 t9 H1 locs ht hvm hw hB hz1 hk1 hS => ?_)
        obtain ⟨hP1, -, hD1⟩ := hB
        rw [ht] at hP1
        obtain ⟨hT9, hR9, hU9⟩ := hw
        rw [hU9] at hP1 hD1
        obtain ⟨hP, hD⟩ := va_joinQ (wr := dW cI cZ cG cY o rr h b (dr6 + 1) δ Y9 ++ sW cI z τ ++ wL l0 mc q9 g ++ mW cI m0 (y 0) w0 f578 ++ yW cI y φ578) (w1 := wW h (a 0) (z 0) l0 m0 ++ sW cI a σ) hP hD [18, 19, 20, 21, 22, 23, 24] [0, 1, 2, 3, 4, 5, 6, 7, 8, 9, 10, 11, 12, 13, 14, 15, 16, 17] rfl rfl (by decide) (by decide) hk1 hFc hP1 hD1
        generalize H1 = H at hP hS ⊢
        clear ht hvm hz1 hk1 hFc hP1 hD1 hT9 hU9
        have hP : va_P D vwCl (dW cI cZ cG cY o rr h b (dr6 + 1) δ Y9 ++ sW cI z τ ++ wL l0 mc q9 g ++ mW cI m0 (y 0) w0 f578 ++ yW cI y φ578 ++ wW h (a 0) (z 0) l0 m0 ++ sW cI a σ ++ (bW cI rr (d_n δ) (d_R δ) ++ xp)) H := hP
        have hD : va_D (lA s) (dW cI cZ cG cY o rr h b (dr6 + 1) δ Y9 ++ sW cI z τ ++ wL l0 mc q9 g ++ mW cI m0 (y 0) w0 f578 ++ yW cI y φ578 ++ wW h (a 0) (z 0) l0 m0 ++ sW cI a σ ++ (bW cI rr (d_n δ) (d_R δ) ++ xp)) := hD
        rw [hR9]
        clear hR9
        refine lv_iconst (v := 1) hx hb dL_law_663 (by decide) ?_
        refine lv_icmp_ge (tgt := 669) hx hb dL_law_664 (by decide) (fun c_664 => ?_) (fun c_664 => absurd ((F_hit hal)) c_664)
        refine lv_iload hx hb dL_law_669 (lv_at hl 1 rfl) ?_
        refine lv_if_lt (tgt := 756) hx hb dL_law_671 (by decide) (fun c_671 => absurd c_671 ((nI_pos (by omega)))) (fun c_671 => ?_)
        refine lv_aload_n hx hb dL_law_674 rfl (lv_at hl 11 rfl) ?_
        refine lv_iload hx hb dL_law_675 (lv_at hl 2 rfl) ?_
        have hFc := va_free (wc := wW h (a 0) (z 0) l0 m0 ++ sW cI a σ) hD hS hA [18, 19, 20, 21, 22, 23, 24] rfl
        refine vx_calli (vx_runV (As := [.int (nI C9)]) (rest := []) ⟨hx, hb, hml, hown, hts⟩ (c_X4_on l hst D cI _ h (z 0) l0 m0 a σ (nI C9) hnσ) (cwV 1 hts gL_law_X4_on rfl rfl rfl (by decide +kernel) ⟨Nat.le_of_ble_eq_true rfl, Nat.le_of_ble_eq_true rfl⟩) ⟨preX_blind, va_recv hK hP (ci := 4) (q0 := 18) rfl rfl, preX_of (hP.sub (ws' := wW h (a 0) (z 0) l0 m0 ++ sW cI a σ) [18, 19, 20, 21, 22, 23, 24] rfl) hK1 hXV (hD.sub (ws' := wW h (a 0) (z 0) l0 m0 ++ sW cI a σ) [18, 19, 20, 21, 22, 23, 24] (by decide) rfl) hTX hS hFc [.ref h, .int (nI C9)]⟩ rfl rfl hl.1 rfl (lv_room (Nat.le_of_ble_eq_true rfl)) dL_law_677 ⟨room_c hce6 (Nat.le_of_ble_eq_true rfl) (k := 6), room_s hsl6 (Nat.le_of_ble_eq_true rfl) (k := 36)⟩) hS (fun q _ h => hFc q h) hFc (fun q _ h => hFc q h) (fun E ce9 q9 u9 t9 H1 locs ht hvm hpx hBX9 hz1 hk1 hS hq9 hce9 hcl9 => absurd (F_celT hC9) hpx) (fun r9 u9 t9 H1 locs ht hvm hw hB hz1 hk1 hS => ?_)
        obtain ⟨hP1, -, hD1⟩ := hB
        rw [ht] at hP1
        obtain ⟨hT9, hR9, hU9⟩ := hw
        rw [hU9] at hP1 hD1
        obtain ⟨hP, hD⟩ := va_joinQ (wr := dW cI cZ cG cY o rr h b (dr6 + 1) δ Y9 ++ sW cI z τ ++ wL l0 mc q9 g ++ mW cI m0 (y 0) w0 f578 ++ yW cI y φ578) (w1 := wW h (a 0) (z 0) l0 m0 ++ sW cI a σ) hP hD [18, 19, 20, 21, 22, 23, 24] [0, 1, 2, 3, 4, 5, 6, 7, 8, 9, 10, 11, 12, 13, 14, 15, 16, 17] rfl rfl (by decide) (by decide) hk1 hFc hP1 hD1
        generalize H1 = H at hP hS ⊢
        clear ht hvm hz1 hk1 hFc hP1 hD1 hT9 hU9
        have hP : va_P D vwCl (dW cI cZ cG cY o rr h b (dr6 + 1) δ Y9 ++ sW cI z τ ++ wL l0 mc q9 g ++ mW cI m0 (y 0) w0 f578 ++ yW cI y φ578 ++ wW h (a 0) (z 0) l0 m0 ++ sW cI a σ ++ (bW cI rr (d_n δ) (d_R δ) ++ xp)) H := hP
        have hD : va_D (lA s) (dW cI cZ cG cY o rr h b (dr6 + 1) δ Y9 ++ sW cI z τ ++ wL l0 mc q9 g ++ mW cI m0 (y 0) w0 f578 ++ yW cI y φ578 ++ wW h (a 0) (z 0) l0 m0 ++ sW cI a σ ++ (bW cI rr (d_n δ) (d_R δ) ++ xp)) := hD
        rw [hR9]
        clear hR9
        refine lv_if_lt (tgt := 686) hx hb dL_law_680 (by decide) (fun c_680 => ?_) (fun c_680 => ?_)
        · refine lv_iload hx hb dL_law_686 (lv_at hl 2 rfl) ?_
          refine lv_iload hx hb dL_law_688 (lv_at hl 3 rfl) ?_
          refine lv_iconst (v := 4) hx hb dL_law_690 (by decide) ?_
          refine lv_irem hx hb dL_law_691 (by decide) ?_
          rw [show nI k6 - nI k6 / 4 * 4 = nI (k6 % 4) from F_rem4 (by omega)]
          refine vp_callSi (va_Run.run (va_runS (As := [.int (nI (k6 % 4))]) (rest := [.int (nI C9)]) ⟨hx, hb, hml, hown, hts⟩ (c_X5_step l (nI (k6 % 4))) (va_cwS 1 hts gL_law_X5_step rfl rfl rfl (by decide +kernel) ⟨Nat.le_of_ble_eq_true rfl, Nat.le_of_ble_eq_true rfl⟩) ⟨fun _ _ _ _ q => q, fun _ _ _ => ⟨rfl, trivial⟩⟩ rfl rfl hl.1 rfl (lv_room (Nat.le_of_ble_eq_true rfl)) dL_law_692 ⟨room_c hce6 (Nat.le_of_ble_eq_true rfl) (k := 6), room_s hsl6 (Nat.le_of_ble_eq_true rfl) (k := 36)⟩)) (fun r9 hr9 => ?_)
          subst hr9
          refine lv_iadd hx hb dL_law_695 ?_
          rw [F_step (F_norim hI hC9 hkC)]; obtain ⟨N9, eN9⟩ : ∃ N, nbN C9 (k6 % 4) = N := ⟨_, rfl⟩; have hN9 : N9 < 160 := (by rw [← eN9]; exact nb_in (F_norim hI hC9 hkC)); rw [eN9]
          refine lv_istore (lv' := [(17, .int (nI N9)), (16, .int (nI (manN c0 C9))), (15, .int (nI v9)), (14, .int (nI C9)), (13, .int (nI k6)), (11, .int (nI c0)), (10, .int (nI jb)), (9, .int (nI na)), (8, .int (nI (d_n δ))), (7, .int (turnF σ)), (5, .long dg), (4, .int (nI k4)), (3, .ref h), (2, .ref (o 0)), (1, .int (nI k1)), (0, .ref b)]) hx hb dL_law_696 hl (by decide) rfl (fun ls hl => ?_)
          refine lv_aload_n hx hb dL_law_698 rfl (lv_at hl 12 rfl) ?_
          refine lv_iload hx hb dL_law_699 (lv_at hl 0 rfl) ?_
          have hFc := va_free (wc := wW h (a 0) (z 0) l0 m0 ++ sW cI a σ) hD hS hA [18, 19, 20, 21, 22, 23, 24] rfl
          refine vx_calli (vx_runV (As := [.int (nI N9)]) (rest := []) ⟨hx, hb, hml, hown, hts⟩ (c_X4_cell l hst D cI _ h (z 0) l0 m0 a σ (nI N9)) (cwV 1 hts gL_law_X4_cell rfl rfl rfl (by decide +kernel) ⟨Nat.le_of_ble_eq_true rfl, Nat.le_of_ble_eq_true rfl⟩) ⟨preX_blind, va_recv hK hP (ci := 4) (q0 := 18) rfl rfl, preX_of (hP.sub (ws' := wW h (a 0) (z 0) l0 m0 ++ sW cI a σ) [18, 19, 20, 21, 22, 23, 24] rfl) hK1 hXV (hD.sub (ws' := wW h (a 0) (z 0) l0 m0 ++ sW cI a σ) [18, 19, 20, 21, 22, 23, 24] (by decide) rfl) hTX hS hFc [.ref h, .int (nI N9)]⟩ rfl rfl hl.1 rfl (lv_room (Nat.le_of_ble_eq_true rfl)) dL_law_701 ⟨room_c hce6 (Nat.le_of_ble_eq_true rfl) (k := 7), room_s hsl6 (Nat.le_of_ble_eq_true rfl) (k := 42)⟩) hS (fun q _ h => hFc q h) hFc (fun q _ h => hFc q h) (fun E ce9 q9 u9 t9 H1 locs ht hvm hpx hBX9 hz1 hk1 hS hq9 hce9 hcl9 => absurd (F_celT hN9) hpx) (fun r9 u9 t9 H1 locs ht hvm hw hB hz1 hk1 hS => ?_)
          obtain ⟨hP1, -, hD1⟩ := hB
          rw [ht] at hP1
          obtain ⟨hT9, hR9, hU9⟩ := hw
          rw [hU9] at hP1 hD1
          obtain ⟨hP, hD⟩ := va_joinQ (wr := dW cI cZ cG cY o rr h b (dr6 + 1) δ Y9 ++ sW cI z τ ++ wL l0 mc q9 g ++ mW cI m0 (y 0) w0 f578 ++ yW cI y φ578) (w1 := wW h (a 0) (z 0) l0 m0 ++ sW cI a σ) hP hD [18, 19, 20, 21, 22, 23, 24] [0, 1, 2, 3, 4, 5, 6, 7, 8, 9, 10, 11, 12, 13, 14, 15, 16, 17] rfl rfl (by decide) (by decide) hk1 hFc hP1 hD1
          generalize H1 = H at hP hS ⊢
          clear ht hvm hz1 hk1 hFc hP1 hD1 hT9 hU9
          have hP : va_P D vwCl (dW cI cZ cG cY o rr h b (dr6 + 1) δ Y9 ++ sW cI z τ ++ wL l0 mc q9 g ++ mW cI m0 (y 0) w0 f578 ++ yW cI y φ578 ++ wW h (a 0) (z 0) l0 m0 ++ sW cI a σ ++ (bW cI rr (d_n δ) (d_R δ) ++ xp)) H := hP
          have hD : va_D (lA s) (dW cI cZ cG cY o rr h b (dr6 + 1) δ Y9 ++ sW cI z τ ++ wL l0 mc q9 g ++ mW cI m0 (y 0) w0 f578 ++ yW cI y φ578 ++ wW h (a 0) (z 0) l0 m0 ++ sW cI a σ ++ (bW cI rr (d_n δ) (d_R δ) ++ xp)) := hD
          rw [hR9]
          clear hR9
          refine lv_iconst (v := 1) hx hb dL_law_704 (by decide) ?_
          refine lv_icmp_ne (tgt := 711) hx hb dL_law_705 (by decide) (fun c_705 => ?_) (fun c_705 => ?_)
          · refine lv_aload_n hx hb dL_law_711 rfl (lv_at hl 12 rfl) ?_
            refine lv_iload hx hb dL_law_712 (lv_at hl 0 rfl) ?_
            have hFc := va_free (wc := wW h (a 0) (z 0) l0 m0 ++ sW cI a σ) hD hS hA [18, 19, 20, 21, 22, 23, 24] rfl
            refine vx_calli (vx_runV (As := [.int (nI N9)]) (rest := []) ⟨hx, hb, hml, hown, hts⟩ (c_X4_cell l hst D cI _ h (z 0) l0 m0 a σ (nI N9)) (cwV 1 hts gL_law_X4_cell rfl rfl rfl (by decide +kernel) ⟨Nat.le_of_ble_eq_true rfl, Nat.le_of_ble_eq_true rfl⟩) ⟨preX_blind, va_recv hK hP (ci := 4) (q0 := 18) rfl rfl, preX_of (hP.sub (ws' := wW h (a 0) (z 0) l0 m0 ++ sW cI a σ) [18, 19, 20, 21, 22, 23, 24] rfl) hK1 hXV (hD.sub (ws' := wW h (a 0) (z 0) l0 m0 ++ sW cI a σ) [18, 19, 20, 21, 22, 23, 24] (by decide) rfl) hTX hS hFc [.ref h, .int (nI N9)]⟩ rfl rfl hl.1 rfl (lv_room (Nat.le_of_ble_eq_true rfl)) dL_law_714 ⟨room_c hce6 (Nat.le_of_ble_eq_true rfl) (k := 8), room_s hsl6 (Nat.le_of_ble_eq_true rfl) (k := 48)⟩) hS (fun q _ h => hFc q h) hFc (fun q _ h => hFc q h) (fun E ce9 q9 u9 t9 H1 locs ht hvm hpx hBX9 hz1 hk1 hS hq9 hce9 hcl9 => absurd (F_celT hN9) hpx) (fun r9 u9 t9 H1 locs ht hvm hw hB hz1 hk1 hS => ?_)
            obtain ⟨hP1, -, hD1⟩ := hB
            rw [ht] at hP1
            obtain ⟨hT9, hR9, hU9⟩ := hw
            rw [hU9] at hP1 hD1
            obtain ⟨hP, hD⟩ := va_joinQ (wr := dW cI cZ cG cY o rr h b (dr6 + 1) δ Y9 ++ sW cI z τ ++ wL l0 mc q9 g ++ mW cI m0 (y 0) w0 f578 ++ yW cI y φ578) (w1 := wW h (a 0) (z 0) l0 m0 ++ sW cI a σ) hP hD [18, 19, 20, 21, 22, 23, 24] [0, 1, 2, 3, 4, 5, 6, 7, 8, 9, 10, 11, 12, 13, 14, 15, 16, 17] rfl rfl (by decide) (by decide) hk1 hFc hP1 hD1
            generalize H1 = H at hP hS ⊢
            clear ht hvm hz1 hk1 hFc hP1 hD1 hT9 hU9
            have hP : va_P D vwCl (dW cI cZ cG cY o rr h b (dr6 + 1) δ Y9 ++ sW cI z τ ++ wL l0 mc q9 g ++ mW cI m0 (y 0) w0 f578 ++ yW cI y φ578 ++ wW h (a 0) (z 0) l0 m0 ++ sW cI a σ ++ (bW cI rr (d_n δ) (d_R δ) ++ xp)) H := hP
            have hD : va_D (lA s) (dW cI cZ cG cY o rr h b (dr6 + 1) δ Y9 ++ sW cI z τ ++ wL l0 mc q9 g ++ mW cI m0 (y 0) w0 f578 ++ yW cI y φ578 ++ wW h (a 0) (z 0) l0 m0 ++ sW cI a σ ++ (bW cI rr (d_n δ) (d_R δ) ++ xp)) := hD
            rw [hR9]
            clear hR9
            have hP := hP.part (cx := wW h (a 0) (z 0) l0 m0 ++ sW cI a σ ++ dW cI cZ cG cY o rr h b (dr6 + 1) δ Y9 ++ sW cI z τ ++ wL l0 mc q9 g ++ mW cI m0 (y 0) w0 f578 ++ yW cI y φ578) [18, 19, 20, 21, 22, 23, 24, 0, 1, 2, 3, 4, 5, 6, 7, 8, 9, 10, 11, 12, 13, 14, 15, 16, 17] rfl
            have hD := hD.part (cx := wW h (a 0) (z 0) l0 m0 ++ sW cI a σ ++ dW cI cZ cG cY o rr h b (dr6 + 1) δ Y9 ++ sW cI z τ ++ wL l0 mc q9 g ++ mW cI m0 (y 0) w0 f578 ++ yW cI y φ578) [18, 19, 20, 21, 22, 23, 24, 0, 1, 2, 3, 4, 5, 6, 7, 8, 9, 10, 11, 12, 13, 14, 15, 16, 17] (by decide) rfl
            have hP : va_P D vwCl (wW h (a 0) (z 0) l0 m0 ++ sW cI a σ ++ dW cI cZ cG cY o rr h b (dr6 + 1) δ Y9 ++ sW cI z τ ++ wL l0 mc q9 g ++ mW cI m0 (y 0) w0 f578 ++ yW cI y φ578 ++ (bW cI rr (d_n δ) (d_R δ) ++ xp)) H := hP
            have hD : va_D (lA s) (wW h (a 0) (z 0) l0 m0 ++ sW cI a σ ++ dW cI cZ cG cY o rr h b (dr6 + 1) δ Y9 ++ sW cI z τ ++ wL l0 mc q9 g ++ mW cI m0 (y 0) w0 f578 ++ yW cI y φ578 ++ (bW cI rr (d_n δ) (d_R δ) ++ xp)) := hD
            have L725 : ∀ (t18 : Int32) (ht18 : t18 = nI (costN σ N9)) (H : Heap) (locs : List Loc) (ls : Array Slot), lv_has ls 19 [(17, .int (nI N9)), (16, .int (nI (manN c0 C9))), (15, .int (nI v9)), (14, .int (nI C9)), (13, .int (nI k6)), (11, .int (nI c0)), (10, .int (nI jb)), (9, .int (nI na)), (8, .int (nI (d_n δ))), (7, .int (turnF σ)), (5, .long dg), (4, .int (nI k4)), (3, .ref h), (2, .ref (o 0)), (1, .int (nI k1)), (0, .ref b)] → va_P D vwCl (wW h (a 0) (z 0) l0 m0 ++ sW cI a σ ++ dW cI cZ cG cY o rr h b (dr6 + 1) δ Y9 ++ sW cI z τ ++ wL l0 mc q9 g ++ mW cI m0 (y 0) w0 f578 ++ yW cI y φ578 ++ (bW cI rr (d_n δ) (d_R δ) ++ xp)) H → va_D (lA s) (wW h (a 0) (z 0) l0 m0 ++ sW cI a σ ++ dW cI cZ cG cY o rr h b (dr6 + 1) δ Y9 ++ sW cI z τ ++ wL l0 mc q9 g ++ mW cI m0 (y 0) w0 f578 ++ yW cI y φ578 ++ (bW cI rr (d_n δ) (d_R δ) ++ xp)) → va_S (lA s) s.heap H locs → W p l e room_1 s m #[Value.ref b] below meth c H locs (ce6 + 8) (sl6 + 48) (lw_Z below #[Value.ref b] s) (F0 m 725 ls [.int t18]) := by
              intro t18 ht18 H locs ls hl hP hD hS
              refine lv_istore (lv' := [(18, .int t18), (17, .int (nI N9)), (16, .int (nI (manN c0 C9))), (15, .int (nI v9)), (14, .int (nI C9)), (13, .int (nI k6)), (11, .int (nI c0)), (10, .int (nI jb)), (9, .int (nI na)), (8, .int (nI (d_n δ))), (7, .int (turnF σ)), (5, .long dg), (4, .int (nI k4)), (3, .ref h), (2, .ref (o 0)), (1, .int (nI k1)), (0, .ref b)]) hx hb dL_law_725 hl (by decide) rfl (fun ls hl => ?_)
              obtain ⟨v2, hv2, hv3, eW2⟩ := hnx c_680 N9 (k6 % 4) (by omega) hN9 c_705 eN9.symm
              have hc2 : costN σ N9 ≤ 2 := by unfold costN; split <;> omega
              refine lv_aload_n hx hb dL_law_727 rfl (lv_at hl 13 rfl) ?_
              refine lv_iload hx hb dL_law_728 (lv_at hl 7 rfl) ?_
              refine lv_iload hx hb dL_law_730 (lv_at hl 1 rfl) ?_
              have hFc := va_free (wc := wW h (a 0) (z 0) l0 m0 ++ sW cI a σ ++ mW cI m0 (y 0) w0 f578 ++ yW cI y φ578) hD hS hA [0, 1, 2, 3, 4, 5, 6, 20, 21, 22, 23, 24] rfl
              refine vx_calli (vx_runV (As := [.int (nI jb), .int (nI N9)]) (rest := []) ⟨hx, hb, hml, hown, hts⟩ (c_X4_way l hst D cI _ h (z 0) l0 m0 w0 a y σ f578 φ578 (nI jb) (nI N9) t hnσ) (cwV 2 hts gL_law_X4_way rfl rfl rfl (by decide +kernel) ⟨Nat.le_of_ble_eq_true rfl, Nat.le_of_ble_eq_true rfl⟩) ⟨preXS_blind, va_recv hK hP (ci := 4) (q0 := 0) rfl rfl, preXS_of (hP.sub (ws' := wW h (a 0) (z 0) l0 m0 ++ sW cI a σ ++ mW cI m0 (y 0) w0 f578 ++ yW cI y φ578) [0, 1, 2, 3, 4, 5, 6, 20, 21, 22, 23, 24] rfl) hK1 hXV (hD.sub (ws' := wW h (a 0) (z 0) l0 m0 ++ sW cI a σ ++ mW cI m0 (y 0) w0 f578 ++ yW cI y φ578) [0, 1, 2, 3, 4, 5, 6, 20, 21, 22, 23, 24] (by decide) rfl) hTX hSX hS hFc [.ref h, .int (nI jb), .int (nI N9)]⟩ rfl rfl hl.1 rfl (lv_room (Nat.le_of_ble_eq_true rfl)) dL_law_732 ⟨room_c hce6 (Nat.le_of_ble_eq_true rfl) (k := 9), room_s hsl6 (Nat.le_of_ble_eq_true rfl) (k := 54)⟩) hS (fun q _ h => hFc q h) hFc (fun q _ h => hFc q h) (fun E ce9 q9 u9 t9 H1 locs ht hvm hpx hBX9 hz1 hk1 hS hq9 hce9 hcl9 => absurd (F_wayT hbe hN9) hpx) (fun r9 u9 t9 H1 locs ht hvm hw hB hz1 hk1 hS => ?_)
              obtain ⟨hP1, -, hD1⟩ := hB
              rw [ht] at hP1
              obtain ⟨s732, f732, φ732⟩ := u9
              dsimp only at hw hP1 hD1
              obtain ⟨hT9, hR9, hU9⟩ := hw
              rw [hU9] at hP1 hD1
              obtain ⟨hP, hD⟩ := va_joinQ (wr := dW cI cZ cG cY o rr h b (dr6 + 1) δ Y9 ++ sW cI z τ ++ wL l0 mc q9 g) (w1 := wW h (a 0) (z 0) l0 m0 ++ sW cI a σ ++ mW cI m0 (y 0) w0 f732 ++ yW cI y φ732) hP hD [0, 1, 2, 3, 4, 5, 6, 20, 21, 22, 23, 24] [7, 8, 9, 10, 11, 12, 13, 14, 15, 16, 17, 18, 19] rfl rfl (by decide) (by decide) hk1 hFc hP1 hD1
              generalize H1 = H at hP hS ⊢
              clear ht hvm hz1 hk1 hFc hP1 hD1 hT9 hU9
              have hP : va_P D vwCl (dW cI cZ cG cY o rr h b (dr6 + 1) δ Y9 ++ sW cI z τ ++ wL l0 mc q9 g ++ wW h (a 0) (z 0) l0 m0 ++ sW cI a σ ++ mW cI m0 (y 0) w0 f732 ++ yW cI y φ732 ++ (bW cI rr (d_n δ) (d_R δ) ++ xp)) H := hP
              have hD : va_D (lA s) (dW cI cZ cG cY o rr h b (dr6 + 1) δ Y9 ++ sW cI z τ ++ wL l0 mc q9 g ++ wW h (a 0) (z 0) l0 m0 ++ sW cI a σ ++ mW cI m0 (y 0) w0 f732 ++ yW cI y φ732 ++ (bW cI rr (d_n δ) (d_R δ) ++ xp)) := hD
              rw [hR9]
              clear hR9
              rw [eW2]
              refine lv_if_lt (tgt := 754) hx hb dL_law_735 (by decide) (fun c_735 => absurd c_735 ((nI_pos (by omega)))) (fun c_735 => ?_)
              refine lv_aload_n hx hb dL_law_738 rfl (lv_at hl 13 rfl) ?_
              refine lv_iload hx hb dL_law_739 (lv_at hl 7 rfl) ?_
              refine lv_iload hx hb dL_law_741 (lv_at hl 1 rfl) ?_
              have hFc := va_free (wc := wW h (a 0) (z 0) l0 m0 ++ sW cI a σ ++ mW cI m0 (y 0) w0 f732 ++ yW cI y φ732) hD hS hA [13, 14, 15, 16, 17, 18, 19, 20, 21, 22, 23, 24] rfl
              refine vx_calli (vx_runV (As := [.int (nI jb), .int (nI N9)]) (rest := []) ⟨hx, hb, hml, hown, hts⟩ (c_X4_way l hst D cI _ h (z 0) l0 m0 w0 a y σ f732 φ732 (nI jb) (nI N9) t hnσ) (cwV 2 hts gL_law_X4_way rfl rfl rfl (by decide +kernel) ⟨Nat.le_of_ble_eq_true rfl, Nat.le_of_ble_eq_true rfl⟩) ⟨preXS_blind, va_recv hK hP (ci := 4) (q0 := 13) rfl rfl, preXS_of (hP.sub (ws' := wW h (a 0) (z 0) l0 m0 ++ sW cI a σ ++ mW cI m0 (y 0) w0 f732 ++ yW cI y φ732) [13, 14, 15, 16, 17, 18, 19, 20, 21, 22, 23, 24] rfl) hK1 hXV (hD.sub (ws' := wW h (a 0) (z 0) l0 m0 ++ sW cI a σ ++ mW cI m0 (y 0) w0 f732 ++ yW cI y φ732) [13, 14, 15, 16, 17, 18, 19, 20, 21, 22, 23, 24] (by decide) rfl) hTX hSX hS hFc [.ref h, .int (nI jb), .int (nI N9)]⟩ rfl rfl hl.1 rfl (lv_room (Nat.le_of_ble_eq_true rfl)) dL_law_743 ⟨room_c hce6 (Nat.le_of_ble_eq_true rfl) (k := 10), room_s hsl6 (Nat.le_of_ble_eq_true rfl) (k := 60)⟩) hS (fun q _ h => hFc q h) hFc (fun q _ h => hFc q h) (fun E ce9 q9 u9 t9 H1 locs ht hvm hpx hBX9 hz1 hk1 hS hq9 hce9 hcl9 => absurd (F_wayT hbe hN9) hpx) (fun r9 u9 t9 H1 locs ht hvm hw hB hz1 hk1 hS => ?_)
              obtain ⟨hP1, -, hD1⟩ := hB
              rw [ht] at hP1
              obtain ⟨s743, f743, φ743⟩ := u9
              dsimp only at hw hP1 hD1
              obtain ⟨hT9, hR9, hU9⟩ := hw
              rw [hU9] at hP1 hD1
              obtain ⟨hP, hD⟩ := va_joinQ (wr := dW cI cZ cG cY o rr h b (dr6 + 1) δ Y9 ++ sW cI z τ ++ wL l0 mc q9 g) (w1 := wW h (a 0) (z 0) l0 m0 ++ sW cI a σ ++ mW cI m0 (y 0) w0 f743 ++ yW cI y φ743) hP hD [13, 14, 15, 16, 17, 18, 19, 20, 21, 22, 23, 24] [0, 1, 2, 3, 4, 5, 6, 7, 8, 9, 10, 11, 12] rfl rfl (by decide) (by decide) hk1 hFc hP1 hD1
              generalize H1 = H at hP hS ⊢
              clear ht hvm hz1 hk1 hFc hP1 hD1 hT9 hU9
              have hP : va_P D vwCl (dW cI cZ cG cY o rr h b (dr6 + 1) δ Y9 ++ sW cI z τ ++ wL l0 mc q9 g ++ wW h (a 0) (z 0) l0 m0 ++ sW cI a σ ++ mW cI m0 (y 0) w0 f743 ++ yW cI y φ743 ++ (bW cI rr (d_n δ) (d_R δ) ++ xp)) H := hP
              have hD : va_D (lA s) (dW cI cZ cG cY o rr h b (dr6 + 1) δ Y9 ++ sW cI z τ ++ wL l0 mc q9 g ++ wW h (a 0) (z 0) l0 m0 ++ sW cI a σ ++ mW cI m0 (y 0) w0 f743 ++ yW cI y φ743 ++ (bW cI rr (d_n δ) (d_R δ) ++ xp)) := hD
              rw [hR9]
              clear hR9
              rw [eW2]
              refine lv_iload hx hb dL_law_746 (lv_at hl 3 rfl) ?_
              refine lv_iload hx hb dL_law_748 (lv_at hl 0 rfl) ?_
              refine lv_iadd hx hb dL_law_750 ?_
              rw [ht18, nI_add]
              refine lv_icmp_le (tgt := 756) hx hb dL_law_751 (by decide) (fun c_751 => ?_) (fun c_751 => absurd ((nI_le hv2 (by omega))) c_751)
              refine lv_iinc (v := (nI (k6 + 1))) (lv' := [(13, .int (nI (k6 + 1))), (18, .int t18), (17, .int (nI N9)), (16, .int (nI (manN c0 C9))), (15, .int (nI v9)), (14, .int (nI C9)), (11, .int (nI c0)), (10, .int (nI jb)), (9, .int (nI na)), (8, .int (nI (d_n δ))), (7, .int (turnF σ)), (5, .long dg), (4, .int (nI k4)), (3, .ref h), (2, .ref (o 0)), (1, .int (nI k1)), (0, .ref b)]) hx hb dL_law_756 hl (k := 5) rfl (nI_1 k6) (by decide) rfl (fun ls hl => ?_)
              refine lv_goto (tgt := 555) hx hb dL_law_759 (by decide) ?_
              have hP := hP.part (cx := wW h (a 0) (z 0) l0 m0 ++ sW cI a σ ++ dW cI cZ cG cY o rr h b (dr6 + 1) δ Y9 ++ sW cI z τ ++ wL l0 mc q9 g ++ mW cI m0 (y 0) w0 f743 ++ yW cI y φ743) [13, 14, 15, 16, 17, 18, 19, 0, 1, 2, 3, 4, 5, 6, 7, 8, 9, 10, 11, 12, 20, 21, 22, 23, 24] rfl
              have hD := hD.part (cx := wW h (a 0) (z 0) l0 m0 ++ sW cI a σ ++ dW cI cZ cG cY o rr h b (dr6 + 1) δ Y9 ++ sW cI z τ ++ wL l0 mc q9 g ++ mW cI m0 (y 0) w0 f743 ++ yW cI y φ743) [13, 14, 15, 16, 17, 18, 19, 0, 1, 2, 3, 4, 5, 6, 7, 8, 9, 10, 11, 12, 20, 21, 22, 23, 24] (by decide) rfl
              have hP : va_P D vwCl (wW h (a 0) (z 0) l0 m0 ++ sW cI a σ ++ dW cI cZ cG cY o rr h b (dr6 + 1) δ Y9 ++ sW cI z τ ++ wL l0 mc q9 g ++ mW cI m0 (y 0) w0 f743 ++ yW cI y φ743 ++ (bW cI rr (d_n δ) (d_R δ) ++ xp)) H := hP
              have hD : va_D (lA s) (wW h (a 0) (z 0) l0 m0 ++ sW cI a σ ++ dW cI cZ cG cY o rr h b (dr6 + 1) δ Y9 ++ sW cI z τ ++ wL l0 mc q9 g ++ mW cI m0 (y 0) w0 f743 ++ yW cI y φ743 ++ (bW cI rr (d_n δ) (d_R δ) ++ xp)) := hD
              exact ih555 (k6 + 1) f743 φ743 (dr6 + 1) (ce6 + 10) (sl6 + 60) (by omega) (by omega) (by omega) (by omega) _ _ ls (lv_sub hl [0, 6, 7, 8, 9, 10, 11, 12, 13, 14, 15, 16] rfl) hP hD hS
            refine lv_if_ne (tgt := 724) hx hb dL_law_717 (by decide) (fun c_717 => ?_) (fun c_717 => ?_)
            · refine lv_iconst (v := 2) hx hb dL_law_724 (by decide) ?_
              exact L725 2 (by unfold costN; rw [if_neg c_717]; rfl) _ _ ls (lv_sub hl [0, 1, 2, 3, 4, 5, 6, 7, 8, 9, 10, 11, 12, 13, 14, 15] rfl) hP hD hS
            · refine lv_iconst (v := 1) hx hb dL_law_720 (by decide) ?_
              refine lv_goto (tgt := 725) hx hb dL_law_721 (by decide) ?_
              exact L725 1 (by unfold costN; rw [if_pos c_717]; rfl) _ _ ls (lv_sub hl [0, 1, 2, 3, 4, 5, 6, 7, 8, 9, 10, 11, 12, 13, 14, 15] rfl) hP hD hS
          · refine lv_goto (tgt := 756) hx hb dL_law_708 (by decide) ?_
            refine lv_iinc (v := (nI (k6 + 1))) (lv' := [(13, .int (nI (k6 + 1))), (17, .int (nI N9)), (16, .int (nI (manN c0 C9))), (15, .int (nI v9)), (14, .int (nI C9)), (11, .int (nI c0)), (10, .int (nI jb)), (9, .int (nI na)), (8, .int (nI (d_n δ))), (7, .int (turnF σ)), (5, .long dg), (4, .int (nI k4)), (3, .ref h), (2, .ref (o 0)), (1, .int (nI k1)), (0, .ref b)]) hx hb dL_law_756 hl (k := 4) rfl (nI_1 k6) (by decide) rfl (fun ls hl => ?_)
            refine lv_goto (tgt := 555) hx hb dL_law_759 (by decide) ?_
            have hP := hP.part (cx := wW h (a 0) (z 0) l0 m0 ++ sW cI a σ ++ dW cI cZ cG cY o rr h b (dr6 + 1) δ Y9 ++ sW cI z τ ++ wL l0 mc q9 g ++ mW cI m0 (y 0) w0 f578 ++ yW cI y φ578) [18, 19, 20, 21, 22, 23, 24, 0, 1, 2, 3, 4, 5, 6, 7, 8, 9, 10, 11, 12, 13, 14, 15, 16, 17] rfl
            have hD := hD.part (cx := wW h (a 0) (z 0) l0 m0 ++ sW cI a σ ++ dW cI cZ cG cY o rr h b (dr6 + 1) δ Y9 ++ sW cI z τ ++ wL l0 mc q9 g ++ mW cI m0 (y 0) w0 f578 ++ yW cI y φ578) [18, 19, 20, 21, 22, 23, 24, 0, 1, 2, 3, 4, 5, 6, 7, 8, 9, 10, 11, 12, 13, 14, 15, 16, 17] (by decide) rfl
            have hP : va_P D vwCl (wW h (a 0) (z 0) l0 m0 ++ sW cI a σ ++ dW cI cZ cG cY o rr h b (dr6 + 1) δ Y9 ++ sW cI z τ ++ wL l0 mc q9 g ++ mW cI m0 (y 0) w0 f578 ++ yW cI y φ578 ++ (bW cI rr (d_n δ) (d_R δ) ++ xp)) H := hP
            have hD : va_D (lA s) (wW h (a 0) (z 0) l0 m0 ++ sW cI a σ ++ dW cI cZ cG cY o rr h b (dr6 + 1) δ Y9 ++ sW cI z τ ++ wL l0 mc q9 g ++ mW cI m0 (y 0) w0 f578 ++ yW cI y φ578 ++ (bW cI rr (d_n δ) (d_R δ) ++ xp)) := hD
            exact ih555 (k6 + 1) f578 φ578 (dr6 + 1) (ce6 + 7) (sl6 + 42) (by omega) (by omega) (by omega) (by omega) _ _ ls (lv_sub hl [0, 5, 6, 7, 8, 9, 10, 11, 12, 13, 14, 15] rfl) hP hD hS
        · refine lv_goto (tgt := 756) hx hb dL_law_683 (by decide) ?_
          refine lv_iinc (v := (nI (k6 + 1))) (lv' := [(13, .int (nI (k6 + 1))), (16, .int (nI (manN c0 C9))), (15, .int (nI v9)), (14, .int (nI C9)), (11, .int (nI c0)), (10, .int (nI jb)), (9, .int (nI na)), (8, .int (nI (d_n δ))), (7, .int (turnF σ)), (5, .long dg), (4, .int (nI k4)), (3, .ref h), (2, .ref (o 0)), (1, .int (nI k1)), (0, .ref b)]) hx hb dL_law_756 hl (k := 3) rfl (nI_1 k6) (by decide) rfl (fun ls hl => ?_)
          refine lv_goto (tgt := 555) hx hb dL_law_759 (by decide) ?_
          have hP := hP.part (cx := wW h (a 0) (z 0) l0 m0 ++ sW cI a σ ++ dW cI cZ cG cY o rr h b (dr6 + 1) δ Y9 ++ sW cI z τ ++ wL l0 mc q9 g ++ mW cI m0 (y 0) w0 f578 ++ yW cI y φ578) [18, 19, 20, 21, 22, 23, 24, 0, 1, 2, 3, 4, 5, 6, 7, 8, 9, 10, 11, 12, 13, 14, 15, 16, 17] rfl
          have hD := hD.part (cx := wW h (a 0) (z 0) l0 m0 ++ sW cI a σ ++ dW cI cZ cG cY o rr h b (dr6 + 1) δ Y9 ++ sW cI z τ ++ wL l0 mc q9 g ++ mW cI m0 (y 0) w0 f578 ++ yW cI y φ578) [18, 19, 20, 21, 22, 23, 24, 0, 1, 2, 3, 4, 5, 6, 7, 8, 9, 10, 11, 12, 13, 14, 15, 16, 17] (by decide) rfl
          have hP : va_P D vwCl (wW h (a 0) (z 0) l0 m0 ++ sW cI a σ ++ dW cI cZ cG cY o rr h b (dr6 + 1) δ Y9 ++ sW cI z τ ++ wL l0 mc q9 g ++ mW cI m0 (y 0) w0 f578 ++ yW cI y φ578 ++ (bW cI rr (d_n δ) (d_R δ) ++ xp)) H := hP
          have hD : va_D (lA s) (wW h (a 0) (z 0) l0 m0 ++ sW cI a σ ++ dW cI cZ cG cY o rr h b (dr6 + 1) δ Y9 ++ sW cI z τ ++ wL l0 mc q9 g ++ mW cI m0 (y 0) w0 f578 ++ yW cI y φ578 ++ (bW cI rr (d_n δ) (d_R δ) ++ xp)) := hD
          exact ih555 (k6 + 1) f578 φ578 (dr6 + 1) (ce6 + 6) (sl6 + 36) (by omega) (by omega) (by omega) (by omega) _ _ ls (lv_sub hl [0, 4, 5, 6, 7, 8, 9, 10, 11, 12, 13, 14] rfl) hP hD hS
  exact L555 6 0 f ψ dr ce sl (by omega) (by omega) (by omega) (by omega) _ _ ls (lv_sub hl [0, 1, 2, 3, 4, 5, 6, 7, 8, 9, 10, 11] rfl) hP hD hS
end LAW28
