-- ===== the law: law_beings =====
section LAW28
variable {p : Program} {l : Launch} {e : Env} {s : State} {m : MethodId} {below : List Frame} {meth : Method} {c : Code} {b L : Nat} {xs : Nat → Int32} {D : va_G} {cI cZ cG cY : ClassId} {t e0 : Nat}
set_option maxHeartbeats 4000000 in
set_option maxRecDepth 100000 in
/-- every being -/
theorem law_beings {h l0 m0 w0 q9 g : Nat} {a z y o rr : Nat → Nat} {mc : Int32} {f : Nat → Int32} {σ τ : SS} {δ : DD} {ψ : YS} {Y9 : RW} {dr : Nat} {xp : va_W} {ce sl : Nat} {H : Heap} {locs : List Loc} {ls : Array Slot} {k1 k4 K : Nat} {dg : Int64} (E0 : lawE p s m meth c b L xs D cI cZ cG cY t e0) (hst : l.stackTraces = false) (hI : IR K σ δ) (hn6 : d_n δ ≤ 6) (hdr : dr ≤ 850000) (hceB : ce ≤ 300000) (hslB : sl ≤ 3000000) (hce0 : ce ≤ 400000) (hsl0 : sl ≤ 4000000) (hl : lv_has ls 19 [(10, .int (nI 0)), (9, .int (nI (cntP (aliveQ σ) 0))), (8, .int (nI (d_n δ))), (7, .int (turnF σ)), (5, .long dg), (4, .int (nI k4)), (3, .ref h), (2, .ref (o 0)), (1, .int (nI k1)), (0, .ref b)]) (hP : va_P D vwCl (wW h (a 0) (z 0) l0 m0 ++ sW cI a σ ++ dW cI cZ cG cY o rr h b dr δ Y9 ++ sW cI z τ ++ wL l0 mc q9 g ++ mW cI m0 (y 0) w0 f ++ yW cI y ψ ++ (bW cI rr (d_n δ) (d_R δ) ++ xp)) H) (hD : va_D (lA s) (wW h (a 0) (z 0) l0 m0 ++ sW cI a σ ++ dW cI cZ cG cY o rr h b dr δ Y9 ++ sW cI z τ ++ wL l0 mc q9 g ++ mW cI m0 (y 0) w0 f ++ yW cI y ψ ++ (bW cI rr (d_n δ) (d_R δ) ++ xp))) (hS : va_S (lA s) s.heap H locs)
    (kk768 : ∀ (f1 : Nat → Int32) (ψ1 : YS) (dr1 : Nat) (ce1 sl1 : Nat) (hc1 : ce1 ≤ ce + 1200) (hs1 : sl1 ≤ sl + 7200) (hd1 : dr1 ≤ dr + 36) (H : Heap) (locs : List Loc) (ls : Array Slot), lv_has ls 19 [(9, .int (nI (cntP (aliveQ σ) (d_n δ)))), (7, .int (turnF σ)), (5, .long dg), (4, .int (nI k4)), (3, .ref h), (2, .ref (o 0)), (1, .int (nI k1)), (0, .ref b)] → va_P D vwCl (wW h (a 0) (z 0) l0 m0 ++ sW cI a σ ++ dW cI cZ cG cY o rr h b dr1 δ Y9 ++ sW cI z τ ++ wL l0 mc q9 g ++ mW cI m0 (y 0) w0 f1 ++ yW cI y ψ1 ++ (bW cI rr (d_n δ) (d_R δ) ++ xp)) H → va_D (lA s) (wW h (a 0) (z 0) l0 m0 ++ sW cI a σ ++ dW cI cZ cG cY o rr h b dr1 δ Y9 ++ sW cI z τ ++ wL l0 mc q9 g ++ mW cI m0 (y 0) w0 f1 ++ yW cI y ψ1 ++ (bW cI rr (d_n δ) (d_R δ) ++ xp)) → va_S (lA s) s.heap H locs → W p l e room_1 s m #[Value.ref b] below meth c H locs ce1 sl1 (lw_Z below #[Value.ref b] s) (F0 m 768 ls [])) : W p l e room_1 s m #[Value.ref b] below meth c H locs ce sl (lw_Z below #[Value.ref b] s) (F0 m 105 ls []) := by
  obtain ⟨C0, hK, hGX, hEX, hNX⟩ := id E0
  obtain ⟨hx, hb, hr, hml, hown, hts, hX, hbl, hlocks, hgv⟩ := id C0
  obtain ⟨hXV, hTX, hN, hSX, hG, hBX, hnc, hnb, hov⟩ := id hGX
  have hK1 := K_D hK
  have hE := hXV.1
  have hA : ∀ q : Nat, s.heap.size ≤ q → lA s q := fun _ h => h
  have hce : ce ≤ 500000 := by omega
  have hsl : sl ≤ 5000000 := by omega
  have hn10 : d_n δ ≤ 10 := by omega
  have hnσ : s_n σ ≤ 10 := by rw [hI.1.1]; exact hn10
  have L105 : ∀ (nb jb : Nat) (f7 : Nat → Int32) (ψ7 : YS) (dr7 ce7 sl7 : Nat) (hkb : jb + nb = d_n δ) (hcb7 : ce7 ≤ ce + 200 * jb) (hsb7 : sl7 ≤ sl + 1200 * jb) (hdb7 : dr7 ≤ dr + 6 * jb) (H : Heap) (locs : List Loc) (ls : Array Slot), lv_has ls 19 [(10, .int (nI jb)), (9, .int (nI (cntP (aliveQ σ) jb))), (8, .int (nI (d_n δ))), (7, .int (turnF σ)), (5, .long dg), (4, .int (nI k4)), (3, .ref h), (2, .ref (o 0)), (1, .int (nI k1)), (0, .ref b)] → va_P D vwCl (wW h (a 0) (z 0) l0 m0 ++ sW cI a σ ++ dW cI cZ cG cY o rr h b dr7 δ Y9 ++ sW cI z τ ++ wL l0 mc q9 g ++ mW cI m0 (y 0) w0 f7 ++ yW cI y ψ7 ++ (bW cI rr (d_n δ) (d_R δ) ++ xp)) H → va_D (lA s) (wW h (a 0) (z 0) l0 m0 ++ sW cI a σ ++ dW cI cZ cG cY o rr h b dr7 δ Y9 ++ sW cI z τ ++ wL l0 mc q9 g ++ mW cI m0 (y 0) w0 f7 ++ yW cI y ψ7 ++ (bW cI rr (d_n δ) (d_R δ) ++ xp)) → va_S (lA s) s.heap H locs → W p l e room_1 s m #[Value.ref b] below meth c H locs ce7 sl7 (lw_Z below #[Value.ref b] s) (F0 m 105 ls []) := by
    intro nb
    induction nb with
    | zero =>
      intro jb f7 ψ7 dr7 ce7 sl7 hkb hcb7 hsb7 hdb7 H locs ls hl hP hD hS
      rw [show jb = d_n δ by omega] at hl
      have hce7 : ce7 ≤ 500000 := by omega
      have hsl7 : sl7 ≤ 5000000 := by omega
      have hl : lv_has ls 19 [(10, .int (nI (d_n δ))), (9, .int (nI (cntP (aliveQ σ) (d_n δ)))), (8, .int (nI (d_n δ))), (7, .int (turnF σ)), (5, .long dg), (4, .int (nI k4)), (3, .ref h), (2, .ref (o 0)), (1, .int (nI k1)), (0, .ref b)] := hl
      refine lv_iload hx hb dL_law_105 (lv_at hl 0 rfl) ?_
      refine lv_iload hx hb dL_law_107 (lv_at hl 2 rfl) ?_
      refine lv_icmp_ge (tgt := 768) hx hb dL_law_109 (by decide) (fun c_109 => ?_) (fun c_109 => absurd ((Int32.le_refl _)) c_109)
      exact kk768 f7 ψ7 dr7 ce7 sl7 (by omega) (by omega) (by omega) _ _ ls (lv_sub hl [1, 3, 4, 5, 6, 7, 8, 9] rfl) hP hD hS
    | succ nb ih105 =>
      intro jb f7 ψ7 dr7 ce7 sl7 hkb hcb7 hsb7 hdb7 H locs ls hl hP hD hS
      have hce7 : ce7 ≤ 500000 := by omega
      have hsl7 : sl7 ≤ 5000000 := by omega
      refine lv_iload hx hb dL_law_105 (lv_at hl 0 rfl) ?_
      refine lv_iload hx hb dL_law_107 (lv_at hl 2 rfl) ?_
      refine lv_icmp_ge (tgt := 768) hx hb dL_law_109 (by decide) (fun c_109 => absurd c_109 ((nI_ge (by omega) (by omega)))) (fun c_109 => ?_)
      have hjb : jb < d_n δ := by omega
      obtain ⟨lf, mo, mm, e2, e3, e7, hlm, hmo, hmm, h3⟩ := L_row hI hjb
      have hcl : traitF σ (nI jb) 1 < 0 ↔ lf = 0 := by
        rcases h3 with ⟨q1, q2, -⟩ | ⟨q1, -, c9, q2, q3, -⟩
        · rw [q2]; exact ⟨fun _ => q1, fun _ => by decide⟩
        · rw [q3]; exact ⟨fun z => absurd z (nI_pos (by omega)), fun z => by omega⟩
      refine law_pre (x1 := traitF σ (nI jb) 1) E0 hst hI hn6 hjb rfl e2 e3 e7 hlm hmo hmm hcl (by omega) (by omega) (lv_sub hl [0, 1, 2, 3, 4, 5, 6, 7, 8, 9] rfl) hP hD hS (fun ce8 sl8 hc8 hs8 H locs ls hl hP hD hS => ?_)
      rcases h3 with ⟨-, e1, hal⟩ | ⟨-, hal, c0, hc0, e1, hk03⟩
      · rw [e1] at hl
        refine law_dead E0 hst hI hn6 hjb hal (by omega) (by omega) hl hP hD hS (fun f8 ψ8 ce9 sl9 hc9 hs9 H locs ls hl hP hD hS => ?_)
        rw [← cnt_n (q := aliveQ σ) (b := jb) hal] at hl
        refine lv_iinc (v := (nI (jb + 1))) (lv' := [(10, .int (nI (jb + 1))), (9, .int (nI (cntP (aliveQ σ) (jb + 1)))), (8, .int (nI (d_n δ))), (7, .int (turnF σ)), (5, .long dg), (4, .int (nI k4)), (3, .ref h), (2, .ref (o 0)), (1, .int (nI k1)), (0, .ref b)]) hx hb dL_law_762 hl (k := 0) rfl (nI_1 jb) (by decide) rfl (fun ls hl => ?_)
        refine lv_goto (tgt := 105) hx hb dL_law_765 (by decide) ?_
        exact ih105 (jb + 1) f8 ψ8 dr7 ce9 sl9 (by omega) (by omega) (by omega) (by omega) _ _ ls (lv_sub hl [0, 1, 2, 3, 4, 5, 6, 7, 8, 9] rfl) hP hD hS
      · rw [e1] at hl
        refine law_live E0 hst hI hn6 hjb hal hc0 e1 hk03 (by omega) (by omega) hl hP hD hS (fun f8 ψ8 ce9 sl9 hc9 hs9 H locs ls hl hP hD hS => ?_)
        refine law_k E0 hst hI hn6 hjb hal hc0 e1 (by omega) (by omega) (by omega) hl hP hD hS (fun f9 ψ9 dr9 ceA slA hcA hsA hdA H locs ls hl hP hD hS => ?_)
        rw [← cnt_y (q := aliveQ σ) (b := jb) hal] at hl
        refine lv_iinc (v := (nI (jb + 1))) (lv' := [(10, .int (nI (jb + 1))), (9, .int (nI (cntP (aliveQ σ) (jb + 1)))), (8, .int (nI (d_n δ))), (7, .int (turnF σ)), (5, .long dg), (4, .int (nI k4)), (3, .ref h), (2, .ref (o 0)), (1, .int (nI k1)), (0, .ref b)]) hx hb dL_law_762 hl (k := 0) rfl (nI_1 jb) (by decide) rfl (fun ls hl => ?_)
        refine lv_goto (tgt := 105) hx hb dL_law_765 (by decide) ?_
        exact ih105 (jb + 1) f9 ψ9 dr9 ceA slA (by omega) (by omega) (by omega) (by omega) _ _ ls (lv_sub hl [0, 1, 2, 3, 4, 5, 6, 7, 8, 9] rfl) hP hD hS
  exact L105 (d_n δ) 0 f ψ dr ce sl (by omega) (by omega) (by omega) (by omega) _ _ ls (lv_sub hl [0, 1, 2, 3, 4, 5, 6, 7, 8, 9] rfl) hP hD hS
end LAW28
