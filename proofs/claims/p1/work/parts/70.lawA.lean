-- ===== the law's cases =====
theorem thr_nz3 {T : Nat} {k : Int32} (hT : k = nI T) (hle : T ≤ 3) (h : k = 0) : T = 0 := thr_nz hle (hT.symm.trans h)
theorem law_an {T : Nat} {k r ans : Int32} {w : Int64} (hle : T ≤ 3) (hT : k = nI T) (hA : T = 0 → w = ans.toInt64) (hR : T = 0 → r = ans) : k = 0 → w = r.toInt64 := fun h => by
  have h0 := thr_nz3 hT hle h
  rw [hA h0, hR h0]
theorem cellT_cell {x : Int32} (h : cellT x = 0) : cellB x = true := by
  unfold cellT at h
  by_cases q : cellB x = true
  · exact q
  · rw [if_neg q] at h; cases h
theorem setTf_cell {x y : Int32} (h : setTf x y = 0) : cellB x = true := by
  unfold setTf at h
  by_cases q : cellB x = true
  · exact q
  · rw [if_neg q] at h; cases h
theorem manyT_in {x : Int32} (h : manyT x = 0) : withinB x 0 8 = true := by
  unfold manyT at h
  by_cases q : withinB x 0 8 = true
  · exact q
  · rw [if_neg q] at h; cases h
theorem seesT_cells {x y : Int32} (h : seesT x y = 0) : cellB x = true ∧ cellB y = true := by
  unfold seesT at h
  by_cases q : cellB x = true
  · rw [if_pos q] at h
    by_cases r : cellB y = true
    · exact ⟨q, r⟩
    · rw [if_neg r] at h; cases h
  · rw [if_neg q] at h; cases h
set_option maxHeartbeats 4000000 in
/-- both truths are compared -/
theorem law_cmpB {p : Program} {l : Launch} {e : Env} {s : State} {m : MethodId} {below : List Frame} {meth : Method} {c : Code} {b : Nat} {xs : Nat → Int32} {D : va_G} {cI cO : ClassId} {e0 : Nat} {cG : ClassId} {H : Heap} {locs : List Loc} {ls : Array Slot} {cells slots : Nat} {pc : Nat} {off : Int} {q g0 v0 o0 : Nat} {th k r : Int32} {g : Nat → Int32} {gm : Int32} {u : Nat → Int64} (E : lawE p s m meth c b xs D cI cO e0 cG) (hcs : cells ≤ 600002 ∧ slots ≤ 7302232)
    (hP : va_P D vwCl (oW cO o0 u ++ qW cI q g0 v0 th g gm) H) (hS : va_S (fun q : Nat => s.heap.size ≤ q) s.heap H locs) (hl : lv_has ls 9 [(0, .ref b), (2, .ref q), (3, .ref o0), (4, .int 0), (5, .int k), (6, .int r)]) (hk : th = k) (hv : k = 0 → ∃ B : Bool, r = bi B ∧ u 0 = if B = true then (1 : Int64) else 0)
    (d0 : decode code pc = .ok (.aload_n 2, 1)) (d1 : decode code (pc + 1) = .ok (.invokevirtual 101, 3)) (d2 : decode code (pc + 4) = .ok (.iload 5, 2)) (d3 : decode code (pc + 6) = .ok (.if_icmp .eq 5, 3)) (d4 : decode code (pc + 11) = .ok (.iload 5, 2)) (d5 : decode code (pc + 13) = .ok (.ifCond .ne 22, 3)) (d6 : decode code (pc + 16) = .ok (.aload_n 3, 1)) (d7 : decode code (pc + 17) = .ok (.iconst 0, 1)) (d8 : decode code (pc + 18) = .ok (.laload, 1)) (d9 : decode code (pc + 19) = .ok (.iload 6, 2)) (d10 : decode code (pc + 21) = .ok (.ifCond .eq 7, 3)) (d11 : decode code (pc + 24) = .ok (.lconst 1, 1)) (d12 : decode code (pc + 25) = .ok (.goto 4, 3)) (d13 : decode code (pc + 28) = .ok (.lconst 0, 1)) (d14 : decode code (pc + 29) = .ok (.lcmp, 1)) (d15 : decode code (pc + 30) = .ok (.ifCond .eq 5, 3)) (d16 : decode code (pc + 35) = .ok (.goto off, 3)) (ht : ((pc + 35 : Nat) : Int) + off = (1765 : Nat)) :
    W p l e room_1 s m #[Value.ref b] below meth c H locs cells slots (lw_Z below #[Value.ref b] s) (F0 m pc ls []) := by
  obtain ⟨C0, hK2, hXV, hN, hTX, hEX, hG⟩ := E
  obtain ⟨hx, hb, hr, hml, hown, hts, hX, hbl, hlocks, hgv⟩ := id C0
  have hK := K_1 hK2
  have hE := hXV.1
  subst hk
  refine lv_aload_n hx hb d0 rfl (lv_at hl 1 rfl) ?_
  refine vp_callSi (va_Run.run (va_runV (As := []) (rest := []) ⟨hx, hb, hml, hown, hts⟩ (c_X5_thrown l D cI q g0 v0 th g gm) (cwV 0 hts gL_law_X5_thrown rfl rfl rfl (by decide +kernel) ⟨Nat.le_of_ble_eq_true rfl, Nat.le_of_ble_eq_true rfl⟩) ⟨preR_blind, va_recv hK hP (ci := 5) (q0 := 1) rfl rfl, preR_of (hP.sub (ws' := qW cI q g0 v0 th g gm) [1, 2] rfl) hK hE [.ref q]⟩ rfl rfl hl.1 rfl (lv_room (Nat.le_of_ble_eq_true rfl)) d1 ⟨Nat.le_trans (Nat.le_of_eq (Nat.add_zero _)) (Nat.le_trans hcs.1 (Nat.le_of_ble_eq_true rfl)), Nat.le_trans (Nat.le_of_eq (Nat.add_zero _)) (Nat.le_trans hcs.2 (Nat.le_of_ble_eq_true rfl))⟩)) (fun r9 hr9 => ?_)
  subst hr9
  refine lv_iload hx hb d2 (lv_at hl 4 rfl) ?_
  refine lv_icmp_eq (tgt := pc + 11) hx hb d3 (by omega) (fun _ => ?_) (fun z9 => absurd rfl z9)
  refine lv_iload hx hb d4 (lv_at hl 4 rfl) ?_
  refine lv_if_ne (tgt := pc + 35) hx hb d5 (by omega) (fun _ => ?_) (fun hz => ?_)
  · refine lv_goto (tgt := 1765) hx hb d16 ht ?_
    exact law_tail C0 hcs hS (lv_sub hl [0, 3] rfl)
  · obtain ⟨B, rfl, hu⟩ := hv hz
    refine lv_aload_n hx hb d6 rfl (lv_at hl 2 rfl) ?_
    refine lv_iconst (v := 0) hx hb d7 (by decide) ?_
    refine va_lald hx hb hK2 hP 0 1 rfl rfl (show vp_in 0 1 from vp_in_nI (n := 0) (by decide) (by decide)) d8 ?_
    rw [show (0 : Int32).toNatClampNeg = 0 from rfl, hu]
    refine lv_iload hx hb d9 (lv_at hl 5 rfl) ?_
    refine w_bz (tgt := pc + 28) hx hb d10 (by omega) (fun hB => ?_) (fun hB => ?_)
    · refine lv_lconst (v := 0) hx hb d13 (by decide) ?_
      refine W.lcmp hx hb d14 ?_
      refine lv_if_eq (tgt := pc + 35) hx hb d15 (by omega) (fun _ => ?_) (fun z9 => absurd (by rw [hB]; exact cmp_self _) z9)
      refine lv_goto (tgt := 1765) hx hb d16 ht ?_
      exact law_tail C0 hcs hS (lv_sub hl [0, 3] rfl)
    · refine lv_lconst (v := 1) hx hb d11 (by decide) ?_
      refine lv_goto (tgt := pc + 29) hx hb d12 (by omega) ?_
      refine W.lcmp hx hb d14 ?_
      refine lv_if_eq (tgt := pc + 35) hx hb d15 (by omega) (fun _ => ?_) (fun z9 => absurd (by rw [hB]; exact cmp_self _) z9)
      refine lv_goto (tgt := 1765) hx hb d16 ht ?_
      exact law_tail C0 hcs hS (lv_sub hl [0, 3] rfl)
set_option maxHeartbeats 4000000 in
set_option maxRecDepth 100000 in
theorem law_c0 {p : Program} {l : Launch} {e : Env} {s : State} {m : MethodId} {below : List Frame} {meth : Method} {c : Code} {b : Nat} {xs : Nat → Int32} {D : va_G} {cI cO : ClassId} {e0 : Nat} {cG : ClassId} {H : Heap} {locs : List Loc} {ls : Array Slot} {h l0 m0 w0 q g0 v0 o0 : Nat} {a t y : Nat → Nat} {g : Nat → Int32} {fo : Nat → Int64} (hst : l.stackTraces = false) (E : lawE p s m meth c b xs D cI cO e0 cG) (hF : fresh g) (hl : lv_has ls 9 [(4, .int 0), (3, .ref o0), (2, .ref q), (1, .ref h), (0, .ref b)])
    (hP : va_P D vwCl (wW h (a 0) (t 0) l0 m0 ++ sW cI a s0 ++ sW cI t s0 ++ wL l0 0 e0 0 ++ mW cI m0 (y 0) w0 z0 ++ yW cI y y0s ++ qW cI q g0 v0 0 g 0 ++ gW v0 cG (fun _ => none) ++ oW cO o0 fo) H) (hD : va_D (fun q : Nat => s.heap.size ≤ q) (wW h (a 0) (t 0) l0 m0 ++ sW cI a s0 ++ sW cI t s0 ++ wL l0 0 e0 0 ++ mW cI m0 (y 0) w0 z0 ++ yW cI y y0s ++ qW cI q g0 v0 0 g 0 ++ gW v0 cG (fun _ => none) ++ oW cO o0 fo)) (hS : va_S (fun q : Nat => s.heap.size ≤ q) s.heap H locs) : W p l e room_1 s m #[Value.ref b] below meth c H locs 30 3000 (lw_Z below #[Value.ref b] s) (F0 m 152 ls []) := by
  obtain ⟨C0, hK2, hXV, hN, hTX, hEX, hG⟩ := id E
  obtain ⟨hx, hb, hr, hml, hown, hts, hX, hbl, hlocks, hgv⟩ := id C0
  have hK := K_1 hK2
  have hE := hXV.1
  have hA : ∀ q : Nat, s.heap.size ≤ q → (fun q : Nat => s.heap.size ≤ q) q := fun _ h => h
  have hg0 : g (680 : Int32).toNatClampNeg = 0 := hF.2 _ (by decide)
  have hP := hP.sub (ws' := wW h (a 0) (t 0) l0 m0 ++ sW cI a s0 ++ qW cI q g0 v0 0 g 0 ++ gW v0 cG (fun _ => none) ++ oW cO o0 fo) [0, 1, 2, 3, 4, 5, 6, 19, 20, 21, 22] rfl
  have hD := hD.sub (ws' := wW h (a 0) (t 0) l0 m0 ++ sW cI a s0 ++ qW cI q g0 v0 0 g 0 ++ gW v0 cG (fun _ => none) ++ oW cO o0 fo) [0, 1, 2, 3, 4, 5, 6, 19, 20, 21, 22] (by decide) rfl
  refine lv_aload_n hx hb dL_law_152 rfl (lv_at hl 3 rfl) ?_
  refine law_ld (n := 1) C0 hS (lv_at hl 4 rfl) (lv_at hl 0 rfl) (by decide) (by decide) dL_law_153 dL_law_154 dL_law_156 dL_law_157 dL_law_158 rfl rfl rfl rfl rfl ?_
  refine law_ld (n := 2) C0 hS (lv_at hl 4 rfl) (lv_at hl 0 rfl) (by decide) (by decide) dL_law_159 dL_law_160 dL_law_162 dL_law_163 dL_law_164 rfl rfl rfl rfl rfl ?_
  refine law_ld (n := 3) C0 hS (lv_at hl 4 rfl) (lv_at hl 0 rfl) (by decide) (by decide) dL_law_165 dL_law_166 dL_law_168 dL_law_169 dL_law_170 rfl rfl rfl rfl rfl ?_
  refine law_ld (n := 4) C0 hS (lv_at hl 4 rfl) (lv_at hl 0 rfl) (by decide) (by decide) dL_law_171 dL_law_172 dL_law_174 dL_law_175 dL_law_176 rfl rfl rfl rfl rfl ?_
  refine lv_aload_n hx hb dL_law_177 rfl (lv_at hl 1 rfl) ?_
  have hFc := va_free (wc := wW h (a 0) (t 0) l0 m0 ++ sW cI a s0 ++ oW cO o0 fo) hD hS hA [0, 1, 2, 3, 4, 5, 6, 10] rfl
  refine va_calli (vx_runSW (As := [.ref h, .int (xs 1), .int (xs 2), .int (xs 3), .int (xs 4), .ref o0]) (rest := []) ⟨hx, hb, hml, hown, hts⟩ (c_L_dig l hst D cI cO _ h (t 0) l0 m0 a s0 (xs 1) (xs 2) (xs 3) (xs 4) o0 fo) (vx_cwSW 6 hts gL_law_L_dig rfl rfl rfl (by decide +kernel) ⟨Nat.le_of_ble_eq_true rfl, Nat.le_of_ble_eq_true rfl⟩) ⟨preL_blind, preL_of (hP.sub (ws' := wW h (a 0) (t 0) l0 m0 ++ sW cI a s0 ++ oW cO o0 fo) [0, 1, 2, 3, 4, 5, 6, 10] rfl) hK2 hXV (hD.sub (ws' := wW h (a 0) (t 0) l0 m0 ++ sW cI a s0 ++ oW cO o0 fo) [0, 1, 2, 3, 4, 5, 6, 10] (by decide) rfl) hTX hN hS hFc [.ref h, .int (xs 1), .int (xs 2), .int (xs 3), .int (xs 4), .ref o0]⟩ rfl rfl hl.1 rfl (lv_room (Nat.le_of_ble_eq_true rfl)) dL_law_178 ⟨Nat.le_of_ble_eq_true rfl, Nat.le_of_ble_eq_true rfl⟩) hS (fun q _ h => hFc q h) hFc (fun k5 u5 t9 H1 locs ht hvm hw5 hB hz1 hk1 hS => ?_)
  obtain ⟨hP1, hD1⟩ := hB
  rw [ht] at hP1
  obtain ⟨hP, hD⟩ := va_join (wr := qW cI q g0 v0 0 g 0 ++ gW v0 cG (fun _ => none)) (w1 := oW cO o0 u5) hP hD [0, 1, 2, 3, 4, 5, 6, 10] [7, 8, 9] rfl rfl (by decide) (by decide) hk1 hFc hP1 hD1
  generalize H1 = H at hP hS ⊢
  have hP : va_P D vwCl (qW cI q g0 v0 0 g 0 ++ gW v0 cG (fun _ => none) ++ oW cO o0 u5) H := hP
  have hD : va_D (fun q : Nat => s.heap.size ≤ q) (qW cI q g0 v0 0 g 0 ++ gW v0 cG (fun _ => none) ++ oW cO o0 u5) := hD
  obtain ⟨hT5, hA5⟩ := hw5
  refine lv_istore (lv' := [(5, .int k5), (4, .int 0), (3, .ref o0), (2, .ref q), (1, .ref h), (0, .ref b)]) hx hb dL_law_181 hl (by decide) rfl (fun ls hl => ?_)
  refine lv_aload_n hx hb dL_law_183 rfl (lv_at hl 3 rfl) ?_
  refine law_ld (n := 1) C0 hS (lv_at hl 5 rfl) (lv_at hl 1 rfl) (by decide) (by decide) dL_law_184 dL_law_185 dL_law_187 dL_law_188 dL_law_189 rfl rfl rfl rfl rfl ?_
  refine law_ld (n := 2) C0 hS (lv_at hl 5 rfl) (lv_at hl 1 rfl) (by decide) (by decide) dL_law_190 dL_law_191 dL_law_193 dL_law_194 dL_law_195 rfl rfl rfl rfl rfl ?_
  refine law_ld (n := 3) C0 hS (lv_at hl 5 rfl) (lv_at hl 1 rfl) (by decide) (by decide) dL_law_196 dL_law_197 dL_law_199 dL_law_200 dL_law_201 rfl rfl rfl rfl rfl ?_
  refine law_ld (n := 4) C0 hS (lv_at hl 5 rfl) (lv_at hl 1 rfl) (by decide) (by decide) dL_law_202 dL_law_203 dL_law_205 dL_law_206 dL_law_207 rfl rfl rfl rfl rfl ?_
  have hFc := va_free (wc := qW cI q g0 v0 0 g 0) hD hS hA [0, 1] rfl
  refine va_calli (va_runV (As := [.int (xs 1), .int (xs 2), .int (xs 3), .int (xs 4)]) (rest := []) ⟨hx, hb, hml, hown, hts⟩ (c_X5_dig_0 l D cI _ q g0 v0 0 g 0 (xs 1) (xs 2) (xs 3) (xs 4) hF.1) (cwV 4 hts gL_law_X5_dig rfl rfl rfl (by decide +kernel) ⟨Nat.le_of_ble_eq_true rfl, Nat.le_of_ble_eq_true rfl⟩) ⟨preM_blind, va_recv hK hP (ci := 5) (q0 := 0) rfl rfl, preM_of (hP.sub (ws' := qW cI q g0 v0 0 g 0) [0, 1] rfl) hK hE (hD.sub (ws' := qW cI q g0 v0 0 g 0) [0, 1] (by decide) rfl) [.ref q, .int (xs 1), .int (xs 2), .int (xs 3), .int (xs 4)]⟩ rfl rfl hl.1 rfl (lv_room (Nat.le_of_ble_eq_true rfl)) dL_law_208 ⟨Nat.le_of_ble_eq_true rfl, Nat.le_of_ble_eq_true rfl⟩) hS (fun q _ h => hFc q h) hFc (fun r6 u6 t9 H1 locs ht hvm hw6 hB hz1 hk1 hS => ?_)
  obtain ⟨hP1, -, hD1⟩ := hB
  rw [ht] at hP1
  obtain ⟨hP, hD⟩ := va_join (wr := oW cO o0 u5) (w1 := qW cI q g0 v0 u6.1 u6.2.1 u6.2.2) hP hD [0, 1] [3] rfl rfl (by decide) (by decide) hk1 hFc hP1 hD1
  generalize H1 = H at hP hS ⊢
  refine lv_istore (lv' := [(6, .int r6), (5, .int k5), (4, .int 0), (3, .ref o0), (2, .ref q), (1, .ref h), (0, .ref b)]) hx hb dL_law_211 hl (by decide) rfl (fun ls hl => ?_)
  exact law_cmp (pc := 213) E ⟨Nat.le_of_ble_eq_true rfl, Nat.le_of_ble_eq_true rfl⟩ (hP.sub (ws' := oW cO o0 u5 ++ qW cI q g0 v0 u6.1 u6.2.1 u6.2.2) [0, 1, 2] rfl) hS (lv_sub hl [6, 4, 3, 2, 1, 0] rfl) (hw6.1.trans hT5.symm) (law_an (by unfold digT; (repeat' split) <;> omega) hT5 hA5 (fun h => (hw6.2 h).trans (s0_dig h).symm)) dL_law_213 dL_law_214 dL_law_217 dL_law_219 dL_law_224 dL_law_226 dL_law_229 dL_law_230 dL_law_231 dL_law_232 dL_law_234 dL_law_235 dL_law_236 dL_law_241 (by decide)
set_option maxHeartbeats 4000000 in
set_option maxRecDepth 100000 in
theorem law_c1 {p : Program} {l : Launch} {e : Env} {s : State} {m : MethodId} {below : List Frame} {meth : Method} {c : Code} {b : Nat} {xs : Nat → Int32} {D : va_G} {cI cO : ClassId} {e0 : Nat} {cG : ClassId} {H : Heap} {locs : List Loc} {ls : Array Slot} {h l0 m0 w0 q g0 v0 o0 : Nat} {a t y : Nat → Nat} {g : Nat → Int32} {fo : Nat → Int64} (hst : l.stackTraces = false) (E : lawE p s m meth c b xs D cI cO e0 cG) (hF : fresh g) (hl : lv_has ls 9 [(4, .int 0), (3, .ref o0), (2, .ref q), (1, .ref h), (0, .ref b)])
    (hP : va_P D vwCl (wW h (a 0) (t 0) l0 m0 ++ sW cI a s0 ++ sW cI t s0 ++ wL l0 0 e0 0 ++ mW cI m0 (y 0) w0 z0 ++ yW cI y y0s ++ qW cI q g0 v0 0 g 0 ++ gW v0 cG (fun _ => none) ++ oW cO o0 fo) H) (hD : va_D (fun q : Nat => s.heap.size ≤ q) (wW h (a 0) (t 0) l0 m0 ++ sW cI a s0 ++ sW cI t s0 ++ wL l0 0 e0 0 ++ mW cI m0 (y 0) w0 z0 ++ yW cI y y0s ++ qW cI q g0 v0 0 g 0 ++ gW v0 cG (fun _ => none) ++ oW cO o0 fo)) (hS : va_S (fun q : Nat => s.heap.size ≤ q) s.heap H locs) : W p l e room_1 s m #[Value.ref b] below meth c H locs 30 3000 (lw_Z below #[Value.ref b] s) (F0 m 244 ls []) := by
  obtain ⟨C0, hK2, hXV, hN, hTX, hEX, hG⟩ := id E
  obtain ⟨hx, hb, hr, hml, hown, hts, hX, hbl, hlocks, hgv⟩ := id C0
  have hK := K_1 hK2
  have hE := hXV.1
  have hA : ∀ q : Nat, s.heap.size ≤ q → (fun q : Nat => s.heap.size ≤ q) q := fun _ h => h
  have hg0 : g (680 : Int32).toNatClampNeg = 0 := hF.2 _ (by decide)
  have hP := hP.sub (ws' := wW h (a 0) (t 0) l0 m0 ++ sW cI a s0 ++ qW cI q g0 v0 0 g 0 ++ gW v0 cG (fun _ => none) ++ oW cO o0 fo) [0, 1, 2, 3, 4, 5, 6, 19, 20, 21, 22] rfl
  have hD := hD.sub (ws' := wW h (a 0) (t 0) l0 m0 ++ sW cI a s0 ++ qW cI q g0 v0 0 g 0 ++ gW v0 cG (fun _ => none) ++ oW cO o0 fo) [0, 1, 2, 3, 4, 5, 6, 19, 20, 21, 22] (by decide) rfl
  refine lv_aload_n hx hb dL_law_244 rfl (lv_at hl 3 rfl) ?_
  refine law_ld (n := 1) C0 hS (lv_at hl 4 rfl) (lv_at hl 0 rfl) (by decide) (by decide) dL_law_245 dL_law_246 dL_law_248 dL_law_249 dL_law_250 rfl rfl rfl rfl rfl ?_
  refine law_ld (n := 2) C0 hS (lv_at hl 4 rfl) (lv_at hl 0 rfl) (by decide) (by decide) dL_law_251 dL_law_252 dL_law_254 dL_law_255 dL_law_256 rfl rfl rfl rfl rfl ?_
  refine lv_aload_n hx hb dL_law_257 rfl (lv_at hl 1 rfl) ?_
  have hFc := va_free (wc := wW h (a 0) (t 0) l0 m0 ++ sW cI a s0 ++ oW cO o0 fo) hD hS hA [0, 1, 2, 3, 4, 5, 6, 10] rfl
  refine va_calli (vx_runSW (As := [.ref h, .int (xs 1), .int (xs 2), .ref o0]) (rest := []) ⟨hx, hb, hml, hown, hts⟩ (c_L_set l hst D cI cO _ h (t 0) l0 m0 a s0 (xs 1) (xs 2) o0 fo (by decide)) (vx_cwSW 4 hts gL_law_L_set rfl rfl rfl (by decide +kernel) ⟨Nat.le_of_ble_eq_true rfl, Nat.le_of_ble_eq_true rfl⟩) ⟨preL_blind, preL_of (hP.sub (ws' := wW h (a 0) (t 0) l0 m0 ++ sW cI a s0 ++ oW cO o0 fo) [0, 1, 2, 3, 4, 5, 6, 10] rfl) hK2 hXV (hD.sub (ws' := wW h (a 0) (t 0) l0 m0 ++ sW cI a s0 ++ oW cO o0 fo) [0, 1, 2, 3, 4, 5, 6, 10] (by decide) rfl) hTX hN hS hFc [.ref h, .int (xs 1), .int (xs 2), .ref o0]⟩ rfl rfl hl.1 rfl (lv_room (Nat.le_of_ble_eq_true rfl)) dL_law_258 ⟨Nat.le_of_ble_eq_true rfl, Nat.le_of_ble_eq_true rfl⟩) hS (fun q _ h => hFc q h) hFc (fun k5 u5 t9 H1 locs ht hvm hw5 hB hz1 hk1 hS => ?_)
  obtain ⟨hP1, hD1⟩ := hB
  rw [ht] at hP1
  obtain ⟨hP, hD⟩ := va_join (wr := qW cI q g0 v0 0 g 0 ++ gW v0 cG (fun _ => none)) (w1 := oW cO o0 u5) hP hD [0, 1, 2, 3, 4, 5, 6, 10] [7, 8, 9] rfl rfl (by decide) (by decide) hk1 hFc hP1 hD1
  generalize H1 = H at hP hS ⊢
  have hP : va_P D vwCl (qW cI q g0 v0 0 g 0 ++ gW v0 cG (fun _ => none) ++ oW cO o0 u5) H := hP
  have hD : va_D (fun q : Nat => s.heap.size ≤ q) (qW cI q g0 v0 0 g 0 ++ gW v0 cG (fun _ => none) ++ oW cO o0 u5) := hD
  obtain ⟨hT5, hA5⟩ := hw5
  refine lv_istore (lv' := [(5, .int k5), (4, .int 0), (3, .ref o0), (2, .ref q), (1, .ref h), (0, .ref b)]) hx hb dL_law_261 hl (by decide) rfl (fun ls hl => ?_)
  refine lv_aload_n hx hb dL_law_263 rfl (lv_at hl 3 rfl) ?_
  refine law_ld (n := 1) C0 hS (lv_at hl 5 rfl) (lv_at hl 1 rfl) (by decide) (by decide) dL_law_264 dL_law_265 dL_law_267 dL_law_268 dL_law_269 rfl rfl rfl rfl rfl ?_
  refine law_ld (n := 2) C0 hS (lv_at hl 5 rfl) (lv_at hl 1 rfl) (by decide) (by decide) dL_law_270 dL_law_271 dL_law_273 dL_law_274 dL_law_275 rfl rfl rfl rfl rfl ?_
  have hFc := va_free (wc := qW cI q g0 v0 0 g 0) hD hS hA [0, 1] rfl
  refine va_calli (va_runV (As := [.int (xs 1), .int (xs 2)]) (rest := []) ⟨hx, hb, hml, hown, hts⟩ (c_X5_set_0 l D cI _ q g0 v0 0 g 0 (xs 1) (xs 2) hg0) (cwV 2 hts gL_law_X5_set rfl rfl rfl (by decide +kernel) ⟨Nat.le_of_ble_eq_true rfl, Nat.le_of_ble_eq_true rfl⟩) ⟨preM_blind, va_recv hK hP (ci := 5) (q0 := 0) rfl rfl, preM_of (hP.sub (ws' := qW cI q g0 v0 0 g 0) [0, 1] rfl) hK hE (hD.sub (ws' := qW cI q g0 v0 0 g 0) [0, 1] (by decide) rfl) [.ref q, .int (xs 1), .int (xs 2)]⟩ rfl rfl hl.1 rfl (lv_room (Nat.le_of_ble_eq_true rfl)) dL_law_276 ⟨Nat.le_of_ble_eq_true rfl, Nat.le_of_ble_eq_true rfl⟩) hS (fun q _ h => hFc q h) hFc (fun r6 u6 t9 H1 locs ht hvm hw6 hB hz1 hk1 hS => ?_)
  obtain ⟨hP1, -, hD1⟩ := hB
  rw [ht] at hP1
  obtain ⟨hP, hD⟩ := va_join (wr := oW cO o0 u5) (w1 := qW cI q g0 v0 u6.1 u6.2.1 u6.2.2) hP hD [0, 1] [3] rfl rfl (by decide) (by decide) hk1 hFc hP1 hD1
  generalize H1 = H at hP hS ⊢
  refine lv_istore (lv' := [(6, .int r6), (5, .int k5), (4, .int 0), (3, .ref o0), (2, .ref q), (1, .ref h), (0, .ref b)]) hx hb dL_law_279 hl (by decide) rfl (fun ls hl => ?_)
  exact law_cmp (pc := 281) E ⟨Nat.le_of_ble_eq_true rfl, Nat.le_of_ble_eq_true rfl⟩ (hP.sub (ws' := oW cO o0 u5 ++ qW cI q g0 v0 u6.1 u6.2.1 u6.2.2) [0, 1, 2] rfl) hS (lv_sub hl [6, 4, 3, 2, 1, 0] rfl) (hw6.1.trans (by rw [hT5, s0_set])) (law_an (by unfold setT setT2; (repeat' split) <;> omega) hT5 hA5 (fun h => by rw [s0_set] at h; rw [hw6.2 h, s0_kind, kind_1 hF.1 (setTf_cell h)])) dL_law_281 dL_law_282 dL_law_285 dL_law_287 dL_law_292 dL_law_294 dL_law_297 dL_law_298 dL_law_299 dL_law_300 dL_law_302 dL_law_303 dL_law_304 dL_law_309 (by decide)
set_option maxHeartbeats 4000000 in
set_option maxRecDepth 100000 in
theorem law_c2 {p : Program} {l : Launch} {e : Env} {s : State} {m : MethodId} {below : List Frame} {meth : Method} {c : Code} {b : Nat} {xs : Nat → Int32} {D : va_G} {cI cO : ClassId} {e0 : Nat} {cG : ClassId} {H : Heap} {locs : List Loc} {ls : Array Slot} {h l0 m0 w0 q g0 v0 o0 : Nat} {a t y : Nat → Nat} {g : Nat → Int32} {fo : Nat → Int64} (hst : l.stackTraces = false) (E : lawE p s m meth c b xs D cI cO e0 cG) (hF : fresh g) (hl : lv_has ls 9 [(4, .int 0), (3, .ref o0), (2, .ref q), (1, .ref h), (0, .ref b)])
    (hP : va_P D vwCl (wW h (a 0) (t 0) l0 m0 ++ sW cI a s0 ++ sW cI t s0 ++ wL l0 0 e0 0 ++ mW cI m0 (y 0) w0 z0 ++ yW cI y y0s ++ qW cI q g0 v0 0 g 0 ++ gW v0 cG (fun _ => none) ++ oW cO o0 fo) H) (hD : va_D (fun q : Nat => s.heap.size ≤ q) (wW h (a 0) (t 0) l0 m0 ++ sW cI a s0 ++ sW cI t s0 ++ wL l0 0 e0 0 ++ mW cI m0 (y 0) w0 z0 ++ yW cI y y0s ++ qW cI q g0 v0 0 g 0 ++ gW v0 cG (fun _ => none) ++ oW cO o0 fo)) (hS : va_S (fun q : Nat => s.heap.size ≤ q) s.heap H locs) : W p l e room_1 s m #[Value.ref b] below meth c H locs 30 3000 (lw_Z below #[Value.ref b] s) (F0 m 312 ls []) := by
  obtain ⟨C0, hK2, hXV, hN, hTX, hEX, hG⟩ := id E
  obtain ⟨hx, hb, hr, hml, hown, hts, hX, hbl, hlocks, hgv⟩ := id C0
  have hK := K_1 hK2
  have hE := hXV.1
  have hA : ∀ q : Nat, s.heap.size ≤ q → (fun q : Nat => s.heap.size ≤ q) q := fun _ h => h
  have hg0 : g (680 : Int32).toNatClampNeg = 0 := hF.2 _ (by decide)
  have hP := hP.sub (ws' := wW h (a 0) (t 0) l0 m0 ++ sW cI a s0 ++ qW cI q g0 v0 0 g 0 ++ gW v0 cG (fun _ => none) ++ oW cO o0 fo) [0, 1, 2, 3, 4, 5, 6, 19, 20, 21, 22] rfl
  have hD := hD.sub (ws' := wW h (a 0) (t 0) l0 m0 ++ sW cI a s0 ++ qW cI q g0 v0 0 g 0 ++ gW v0 cG (fun _ => none) ++ oW cO o0 fo) [0, 1, 2, 3, 4, 5, 6, 19, 20, 21, 22] (by decide) rfl
  refine lv_aload_n hx hb dL_law_312 rfl (lv_at hl 3 rfl) ?_
  refine law_ld (n := 1) C0 hS (lv_at hl 4 rfl) (lv_at hl 0 rfl) (by decide) (by decide) dL_law_313 dL_law_314 dL_law_316 dL_law_317 dL_law_318 rfl rfl rfl rfl rfl ?_
  refine lv_aload_n hx hb dL_law_319 rfl (lv_at hl 1 rfl) ?_
  have hFc := va_free (wc := wW h (a 0) (t 0) l0 m0 ++ sW cI a s0 ++ oW cO o0 fo) hD hS hA [0, 1, 2, 3, 4, 5, 6, 10] rfl
  refine va_calli (vx_runSW (As := [.ref h, .int (xs 1), .ref o0]) (rest := []) ⟨hx, hb, hml, hown, hts⟩ (c_L_cell l hst D cI cO _ h (t 0) l0 m0 a s0 (xs 1) o0 fo) (vx_cwSW 3 hts gL_law_L_cell rfl rfl rfl (by decide +kernel) ⟨Nat.le_of_ble_eq_true rfl, Nat.le_of_ble_eq_true rfl⟩) ⟨preL_blind, preL_of (hP.sub (ws' := wW h (a 0) (t 0) l0 m0 ++ sW cI a s0 ++ oW cO o0 fo) [0, 1, 2, 3, 4, 5, 6, 10] rfl) hK2 hXV (hD.sub (ws' := wW h (a 0) (t 0) l0 m0 ++ sW cI a s0 ++ oW cO o0 fo) [0, 1, 2, 3, 4, 5, 6, 10] (by decide) rfl) hTX hN hS hFc [.ref h, .int (xs 1), .ref o0]⟩ rfl rfl hl.1 rfl (lv_room (Nat.le_of_ble_eq_true rfl)) dL_law_320 ⟨Nat.le_of_ble_eq_true rfl, Nat.le_of_ble_eq_true rfl⟩) hS (fun q _ h => hFc q h) hFc (fun k5 u5 t9 H1 locs ht hvm hw5 hB hz1 hk1 hS => ?_)
  obtain ⟨hP1, hD1⟩ := hB
  rw [ht] at hP1
  obtain ⟨hP, hD⟩ := va_join (wr := qW cI q g0 v0 0 g 0 ++ gW v0 cG (fun _ => none)) (w1 := oW cO o0 u5) hP hD [0, 1, 2, 3, 4, 5, 6, 10] [7, 8, 9] rfl rfl (by decide) (by decide) hk1 hFc hP1 hD1
  generalize H1 = H at hP hS ⊢
  have hP : va_P D vwCl (qW cI q g0 v0 0 g 0 ++ gW v0 cG (fun _ => none) ++ oW cO o0 u5) H := hP
  have hD : va_D (fun q : Nat => s.heap.size ≤ q) (qW cI q g0 v0 0 g 0 ++ gW v0 cG (fun _ => none) ++ oW cO o0 u5) := hD
  obtain ⟨hT5, hA5⟩ := hw5
  refine lv_istore (lv' := [(5, .int k5), (4, .int 0), (3, .ref o0), (2, .ref q), (1, .ref h), (0, .ref b)]) hx hb dL_law_323 hl (by decide) rfl (fun ls hl => ?_)
  refine lv_aload_n hx hb dL_law_325 rfl (lv_at hl 3 rfl) ?_
  refine law_ld (n := 1) C0 hS (lv_at hl 5 rfl) (lv_at hl 1 rfl) (by decide) (by decide) dL_law_326 dL_law_327 dL_law_329 dL_law_330 dL_law_331 rfl rfl rfl rfl rfl ?_
  have hFc := va_free (wc := qW cI q g0 v0 0 g 0) hD hS hA [0, 1] rfl
  refine va_calli (va_runV (As := [.int (xs 1)]) (rest := []) ⟨hx, hb, hml, hown, hts⟩ (c_X5_cell_0 l D cI _ q g0 v0 0 g 0 (xs 1) ) (cwV 1 hts gL_law_X5_cell rfl rfl rfl (by decide +kernel) ⟨Nat.le_of_ble_eq_true rfl, Nat.le_of_ble_eq_true rfl⟩) ⟨preM_blind, va_recv hK hP (ci := 5) (q0 := 0) rfl rfl, preM_of (hP.sub (ws' := qW cI q g0 v0 0 g 0) [0, 1] rfl) hK hE (hD.sub (ws' := qW cI q g0 v0 0 g 0) [0, 1] (by decide) rfl) [.ref q, .int (xs 1)]⟩ rfl rfl hl.1 rfl (lv_room (Nat.le_of_ble_eq_true rfl)) dL_law_332 ⟨Nat.le_of_ble_eq_true rfl, Nat.le_of_ble_eq_true rfl⟩) hS (fun q _ h => hFc q h) hFc (fun r6 u6 t9 H1 locs ht hvm hw6 hB hz1 hk1 hS => ?_)
  obtain ⟨hP1, -, hD1⟩ := hB
  rw [ht] at hP1
  obtain ⟨hP, hD⟩ := va_join (wr := oW cO o0 u5) (w1 := qW cI q g0 v0 u6.1 u6.2.1 u6.2.2) hP hD [0, 1] [3] rfl rfl (by decide) (by decide) hk1 hFc hP1 hD1
  generalize H1 = H at hP hS ⊢
  refine lv_istore (lv' := [(6, .int r6), (5, .int k5), (4, .int 0), (3, .ref o0), (2, .ref q), (1, .ref h), (0, .ref b)]) hx hb dL_law_335 hl (by decide) rfl (fun ls hl => ?_)
  exact law_cmp (pc := 337) E ⟨Nat.le_of_ble_eq_true rfl, Nat.le_of_ble_eq_true rfl⟩ (hP.sub (ws' := oW cO o0 u5 ++ qW cI q g0 v0 u6.1 u6.2.1 u6.2.2) [0, 1, 2] rfl) hS (lv_sub hl [6, 4, 3, 2, 1, 0] rfl) (hw6.1.trans hT5.symm) (law_an (by unfold cellT; (repeat' split) <;> omega) hT5 hA5 (fun h => by rw [hw6.2 h, s0_kind, kind_1 hF.1 (cellT_cell h)])) dL_law_337 dL_law_338 dL_law_341 dL_law_343 dL_law_348 dL_law_350 dL_law_353 dL_law_354 dL_law_355 dL_law_356 dL_law_358 dL_law_359 dL_law_360 dL_law_365 (by decide)
set_option maxHeartbeats 4000000 in
set_option maxRecDepth 100000 in
theorem law_c3 {p : Program} {l : Launch} {e : Env} {s : State} {m : MethodId} {below : List Frame} {meth : Method} {c : Code} {b : Nat} {xs : Nat → Int32} {D : va_G} {cI cO : ClassId} {e0 : Nat} {cG : ClassId} {H : Heap} {locs : List Loc} {ls : Array Slot} {h l0 m0 w0 q g0 v0 o0 : Nat} {a t y : Nat → Nat} {g : Nat → Int32} {fo : Nat → Int64} (hst : l.stackTraces = false) (E : lawE p s m meth c b xs D cI cO e0 cG) (hF : fresh g) (hl : lv_has ls 9 [(4, .int 0), (3, .ref o0), (2, .ref q), (1, .ref h), (0, .ref b)])
    (hP : va_P D vwCl (wW h (a 0) (t 0) l0 m0 ++ sW cI a s0 ++ sW cI t s0 ++ wL l0 0 e0 0 ++ mW cI m0 (y 0) w0 z0 ++ yW cI y y0s ++ qW cI q g0 v0 0 g 0 ++ gW v0 cG (fun _ => none) ++ oW cO o0 fo) H) (hD : va_D (fun q : Nat => s.heap.size ≤ q) (wW h (a 0) (t 0) l0 m0 ++ sW cI a s0 ++ sW cI t s0 ++ wL l0 0 e0 0 ++ mW cI m0 (y 0) w0 z0 ++ yW cI y y0s ++ qW cI q g0 v0 0 g 0 ++ gW v0 cG (fun _ => none) ++ oW cO o0 fo)) (hS : va_S (fun q : Nat => s.heap.size ≤ q) s.heap H locs) : W p l e room_1 s m #[Value.ref b] below meth c H locs 30 3000 (lw_Z below #[Value.ref b] s) (F0 m 368 ls []) := by
  obtain ⟨C0, hK2, hXV, hN, hTX, hEX, hG⟩ := id E
  obtain ⟨hx, hb, hr, hml, hown, hts, hX, hbl, hlocks, hgv⟩ := id C0
  have hK := K_1 hK2
  have hE := hXV.1
  have hA : ∀ q : Nat, s.heap.size ≤ q → (fun q : Nat => s.heap.size ≤ q) q := fun _ h => h
  have hg0 : g (680 : Int32).toNatClampNeg = 0 := hF.2 _ (by decide)
  have hP := hP.sub (ws' := wW h (a 0) (t 0) l0 m0 ++ sW cI a s0 ++ qW cI q g0 v0 0 g 0 ++ gW v0 cG (fun _ => none) ++ oW cO o0 fo) [0, 1, 2, 3, 4, 5, 6, 19, 20, 21, 22] rfl
  have hD := hD.sub (ws' := wW h (a 0) (t 0) l0 m0 ++ sW cI a s0 ++ qW cI q g0 v0 0 g 0 ++ gW v0 cG (fun _ => none) ++ oW cO o0 fo) [0, 1, 2, 3, 4, 5, 6, 19, 20, 21, 22] (by decide) rfl
  refine lv_aload_n hx hb dL_law_368 rfl (lv_at hl 3 rfl) ?_
  refine law_ld (n := 1) C0 hS (lv_at hl 4 rfl) (lv_at hl 0 rfl) (by decide) (by decide) dL_law_369 dL_law_370 dL_law_372 dL_law_373 dL_law_374 rfl rfl rfl rfl rfl ?_
  refine lv_aload_n hx hb dL_law_375 rfl (lv_at hl 1 rfl) ?_
  have hFc := va_free (wc := wW h (a 0) (t 0) l0 m0 ++ sW cI a s0 ++ oW cO o0 fo) hD hS hA [0, 1, 2, 3, 4, 5, 6, 10] rfl
  refine va_calli (vx_runSW (As := [.ref h, .int (xs 1), .ref o0]) (rest := []) ⟨hx, hb, hml, hown, hts⟩ (c_L_on l hst D cI cO _ h (t 0) l0 m0 a s0 (xs 1) o0 fo (by decide)) (vx_cwSW 3 hts gL_law_L_on rfl rfl rfl (by decide +kernel) ⟨Nat.le_of_ble_eq_true rfl, Nat.le_of_ble_eq_true rfl⟩) ⟨preL_blind, preL_of (hP.sub (ws' := wW h (a 0) (t 0) l0 m0 ++ sW cI a s0 ++ oW cO o0 fo) [0, 1, 2, 3, 4, 5, 6, 10] rfl) hK2 hXV (hD.sub (ws' := wW h (a 0) (t 0) l0 m0 ++ sW cI a s0 ++ oW cO o0 fo) [0, 1, 2, 3, 4, 5, 6, 10] (by decide) rfl) hTX hN hS hFc [.ref h, .int (xs 1), .ref o0]⟩ rfl rfl hl.1 rfl (lv_room (Nat.le_of_ble_eq_true rfl)) dL_law_376 ⟨Nat.le_of_ble_eq_true rfl, Nat.le_of_ble_eq_true rfl⟩) hS (fun q _ h => hFc q h) hFc (fun k5 u5 t9 H1 locs ht hvm hw5 hB hz1 hk1 hS => ?_)
  obtain ⟨hP1, hD1⟩ := hB
  rw [ht] at hP1
  obtain ⟨hP, hD⟩ := va_join (wr := qW cI q g0 v0 0 g 0 ++ gW v0 cG (fun _ => none)) (w1 := oW cO o0 u5) hP hD [0, 1, 2, 3, 4, 5, 6, 10] [7, 8, 9] rfl rfl (by decide) (by decide) hk1 hFc hP1 hD1
  generalize H1 = H at hP hS ⊢
  have hP : va_P D vwCl (qW cI q g0 v0 0 g 0 ++ gW v0 cG (fun _ => none) ++ oW cO o0 u5) H := hP
  have hD : va_D (fun q : Nat => s.heap.size ≤ q) (qW cI q g0 v0 0 g 0 ++ gW v0 cG (fun _ => none) ++ oW cO o0 u5) := hD
  obtain ⟨hT5, hA5⟩ := hw5
  refine lv_istore (lv' := [(5, .int k5), (4, .int 0), (3, .ref o0), (2, .ref q), (1, .ref h), (0, .ref b)]) hx hb dL_law_379 hl (by decide) rfl (fun ls hl => ?_)
  refine lv_aload_n hx hb dL_law_381 rfl (lv_at hl 3 rfl) ?_
  refine law_ld (n := 1) C0 hS (lv_at hl 5 rfl) (lv_at hl 1 rfl) (by decide) (by decide) dL_law_382 dL_law_383 dL_law_385 dL_law_386 dL_law_387 rfl rfl rfl rfl rfl ?_
  have hFc := va_free (wc := qW cI q g0 v0 0 g 0) hD hS hA [0, 1] rfl
  refine va_calli (va_runV (As := [.int (xs 1)]) (rest := []) ⟨hx, hb, hml, hown, hts⟩ (c_X5_on_0 l D cI _ q g0 v0 0 g 0 (xs 1) hg0) (cwV 1 hts gL_law_X5_on rfl rfl rfl (by decide +kernel) ⟨Nat.le_of_ble_eq_true rfl, Nat.le_of_ble_eq_true rfl⟩) ⟨preM_blind, va_recv hK hP (ci := 5) (q0 := 0) rfl rfl, preM_of (hP.sub (ws' := qW cI q g0 v0 0 g 0) [0, 1] rfl) hK hE (hD.sub (ws' := qW cI q g0 v0 0 g 0) [0, 1] (by decide) rfl) [.ref q, .int (xs 1)]⟩ rfl rfl hl.1 rfl (lv_room (Nat.le_of_ble_eq_true rfl)) dL_law_388 ⟨Nat.le_of_ble_eq_true rfl, Nat.le_of_ble_eq_true rfl⟩) hS (fun q _ h => hFc q h) hFc (fun r6 u6 t9 H1 locs ht hvm hw6 hB hz1 hk1 hS => ?_)
  obtain ⟨hP1, -, hD1⟩ := hB
  rw [ht] at hP1
  obtain ⟨hP, hD⟩ := va_join (wr := oW cO o0 u5) (w1 := qW cI q g0 v0 u6.1 u6.2.1 u6.2.2) hP hD [0, 1] [3] rfl rfl (by decide) (by decide) hk1 hFc hP1 hD1
  generalize H1 = H at hP hS ⊢
  refine lv_istore (lv' := [(6, .int r6), (5, .int k5), (4, .int 0), (3, .ref o0), (2, .ref q), (1, .ref h), (0, .ref b)]) hx hb dL_law_391 hl (by decide) rfl (fun ls hl => ?_)
  exact law_cmp (pc := 393) E ⟨Nat.le_of_ble_eq_true rfl, Nat.le_of_ble_eq_true rfl⟩ (hP.sub (ws' := oW cO o0 u5 ++ qW cI q g0 v0 u6.1 u6.2.1 u6.2.2) [0, 1, 2] rfl) hS (lv_sub hl [6, 4, 3, 2, 1, 0] rfl) (hw6.1.trans hT5.symm) (law_an (by unfold cellT; (repeat' split) <;> omega) hT5 hA5 (fun h => by rw [hw6.2 h, s0_on])) dL_law_393 dL_law_394 dL_law_397 dL_law_399 dL_law_404 dL_law_406 dL_law_409 dL_law_410 dL_law_411 dL_law_412 dL_law_414 dL_law_415 dL_law_416 dL_law_421 (by decide)
set_option maxHeartbeats 4000000 in
set_option maxRecDepth 100000 in
theorem law_c4 {p : Program} {l : Launch} {e : Env} {s : State} {m : MethodId} {below : List Frame} {meth : Method} {c : Code} {b : Nat} {xs : Nat → Int32} {D : va_G} {cI cO : ClassId} {e0 : Nat} {cG : ClassId} {H : Heap} {locs : List Loc} {ls : Array Slot} {h l0 m0 w0 q g0 v0 o0 : Nat} {a t y : Nat → Nat} {g : Nat → Int32} {fo : Nat → Int64} (hst : l.stackTraces = false) (E : lawE p s m meth c b xs D cI cO e0 cG) (hF : fresh g) (hl : lv_has ls 9 [(4, .int 0), (3, .ref o0), (2, .ref q), (1, .ref h), (0, .ref b)])
    (hP : va_P D vwCl (wW h (a 0) (t 0) l0 m0 ++ sW cI a s0 ++ sW cI t s0 ++ wL l0 0 e0 0 ++ mW cI m0 (y 0) w0 z0 ++ yW cI y y0s ++ qW cI q g0 v0 0 g 0 ++ gW v0 cG (fun _ => none) ++ oW cO o0 fo) H) (hD : va_D (fun q : Nat => s.heap.size ≤ q) (wW h (a 0) (t 0) l0 m0 ++ sW cI a s0 ++ sW cI t s0 ++ wL l0 0 e0 0 ++ mW cI m0 (y 0) w0 z0 ++ yW cI y y0s ++ qW cI q g0 v0 0 g 0 ++ gW v0 cG (fun _ => none) ++ oW cO o0 fo)) (hS : va_S (fun q : Nat => s.heap.size ≤ q) s.heap H locs) : W p l e room_1 s m #[Value.ref b] below meth c H locs 30 3000 (lw_Z below #[Value.ref b] s) (F0 m 424 ls []) := by
  obtain ⟨C0, hK2, hXV, hN, hTX, hEX, hG⟩ := id E
  obtain ⟨hx, hb, hr, hml, hown, hts, hX, hbl, hlocks, hgv⟩ := id C0
  have hK := K_1 hK2
  have hE := hXV.1
  have hA : ∀ q : Nat, s.heap.size ≤ q → (fun q : Nat => s.heap.size ≤ q) q := fun _ h => h
  have hg0 : g (680 : Int32).toNatClampNeg = 0 := hF.2 _ (by decide)
  have hP := hP.sub (ws' := wW h (a 0) (t 0) l0 m0 ++ sW cI a s0 ++ qW cI q g0 v0 0 g 0 ++ gW v0 cG (fun _ => none) ++ oW cO o0 fo) [0, 1, 2, 3, 4, 5, 6, 19, 20, 21, 22] rfl
  have hD := hD.sub (ws' := wW h (a 0) (t 0) l0 m0 ++ sW cI a s0 ++ qW cI q g0 v0 0 g 0 ++ gW v0 cG (fun _ => none) ++ oW cO o0 fo) [0, 1, 2, 3, 4, 5, 6, 19, 20, 21, 22] (by decide) rfl
  refine lv_aload_n hx hb dL_law_424 rfl (lv_at hl 3 rfl) ?_
  refine law_ld (n := 1) C0 hS (lv_at hl 4 rfl) (lv_at hl 0 rfl) (by decide) (by decide) dL_law_425 dL_law_426 dL_law_428 dL_law_429 dL_law_430 rfl rfl rfl rfl rfl ?_
  refine law_ld (n := 2) C0 hS (lv_at hl 4 rfl) (lv_at hl 0 rfl) (by decide) (by decide) dL_law_431 dL_law_432 dL_law_434 dL_law_435 dL_law_436 rfl rfl rfl rfl rfl ?_
  refine lv_aload_n hx hb dL_law_437 rfl (lv_at hl 1 rfl) ?_
  have hFc := va_free (wc := wW h (a 0) (t 0) l0 m0 ++ sW cI a s0 ++ oW cO o0 fo) hD hS hA [0, 1, 2, 3, 4, 5, 6, 10] rfl
  refine va_calli (vx_runSW (As := [.ref h, .int (xs 1), .int (xs 2), .ref o0]) (rest := []) ⟨hx, hb, hml, hown, hts⟩ (c_L_sees l hst D cI cO _ h (t 0) l0 m0 a s0 (xs 1) (xs 2) o0 fo) (vx_cwSW 4 hts gL_law_L_sees rfl rfl rfl (by decide +kernel) ⟨Nat.le_of_ble_eq_true rfl, Nat.le_of_ble_eq_true rfl⟩) ⟨preL_blind, preL_of (hP.sub (ws' := wW h (a 0) (t 0) l0 m0 ++ sW cI a s0 ++ oW cO o0 fo) [0, 1, 2, 3, 4, 5, 6, 10] rfl) hK2 hXV (hD.sub (ws' := wW h (a 0) (t 0) l0 m0 ++ sW cI a s0 ++ oW cO o0 fo) [0, 1, 2, 3, 4, 5, 6, 10] (by decide) rfl) hTX hN hS hFc [.ref h, .int (xs 1), .int (xs 2), .ref o0]⟩ rfl rfl hl.1 rfl (lv_room (Nat.le_of_ble_eq_true rfl)) dL_law_438 ⟨Nat.le_of_ble_eq_true rfl, Nat.le_of_ble_eq_true rfl⟩) hS (fun q _ h => hFc q h) hFc (fun k5 u5 t9 H1 locs ht hvm hw5 hB hz1 hk1 hS => ?_)
  obtain ⟨hP1, hD1⟩ := hB
  rw [ht] at hP1
  obtain ⟨hP, hD⟩ := va_join (wr := qW cI q g0 v0 0 g 0 ++ gW v0 cG (fun _ => none)) (w1 := oW cO o0 u5) hP hD [0, 1, 2, 3, 4, 5, 6, 10] [7, 8, 9] rfl rfl (by decide) (by decide) hk1 hFc hP1 hD1
  generalize H1 = H at hP hS ⊢
  have hP : va_P D vwCl (qW cI q g0 v0 0 g 0 ++ gW v0 cG (fun _ => none) ++ oW cO o0 u5) H := hP
  have hD : va_D (fun q : Nat => s.heap.size ≤ q) (qW cI q g0 v0 0 g 0 ++ gW v0 cG (fun _ => none) ++ oW cO o0 u5) := hD
  obtain ⟨hT5, hA5⟩ := hw5
  refine lv_istore (lv' := [(5, .int k5), (4, .int 0), (3, .ref o0), (2, .ref q), (1, .ref h), (0, .ref b)]) hx hb dL_law_441 hl (by decide) rfl (fun ls hl => ?_)
  refine lv_aload_n hx hb dL_law_443 rfl (lv_at hl 3 rfl) ?_
  refine law_ld (n := 1) C0 hS (lv_at hl 5 rfl) (lv_at hl 1 rfl) (by decide) (by decide) dL_law_444 dL_law_445 dL_law_447 dL_law_448 dL_law_449 rfl rfl rfl rfl rfl ?_
  refine law_ld (n := 2) C0 hS (lv_at hl 5 rfl) (lv_at hl 1 rfl) (by decide) (by decide) dL_law_450 dL_law_451 dL_law_453 dL_law_454 dL_law_455 rfl rfl rfl rfl rfl ?_
  have hFc := va_free (wc := qW cI q g0 v0 0 g 0) hD hS hA [0, 1] rfl
  refine va_calli (va_runV (As := [.int (xs 1), .int (xs 2)]) (rest := []) ⟨hx, hb, hml, hown, hts⟩ (c_X5_sees_0 l D cI _ q g0 v0 0 g 0 (xs 1) (xs 2) hF.1) (cwV 2 hts gL_law_X5_sees rfl rfl rfl (by decide +kernel) ⟨Nat.le_of_ble_eq_true rfl, Nat.le_of_ble_eq_true rfl⟩) ⟨preM_blind, va_recv hK hP (ci := 5) (q0 := 0) rfl rfl, preM_of (hP.sub (ws' := qW cI q g0 v0 0 g 0) [0, 1] rfl) hK hE (hD.sub (ws' := qW cI q g0 v0 0 g 0) [0, 1] (by decide) rfl) [.ref q, .int (xs 1), .int (xs 2)]⟩ rfl rfl hl.1 rfl (lv_room (Nat.le_of_ble_eq_true rfl)) dL_law_456 ⟨Nat.le_of_ble_eq_true rfl, Nat.le_of_ble_eq_true rfl⟩) hS (fun q _ h => hFc q h) hFc (fun r6 u6 t9 H1 locs ht hvm hw6 hB hz1 hk1 hS => ?_)
  obtain ⟨hP1, -, hD1⟩ := hB
  rw [ht] at hP1
  obtain ⟨hP, hD⟩ := va_join (wr := oW cO o0 u5) (w1 := qW cI q g0 v0 u6.1 u6.2.1 u6.2.2) hP hD [0, 1] [3] rfl rfl (by decide) (by decide) hk1 hFc hP1 hD1
  generalize H1 = H at hP hS ⊢
  refine lv_istore (lv' := [(6, .int r6), (5, .int k5), (4, .int 0), (3, .ref o0), (2, .ref q), (1, .ref h), (0, .ref b)]) hx hb dL_law_459 hl (by decide) rfl (fun ls hl => ?_)
  exact law_cmpB (pc := 461) E ⟨Nat.le_of_ble_eq_true rfl, Nat.le_of_ble_eq_true rfl⟩ (hP.sub (ws' := oW cO o0 u5 ++ qW cI q g0 v0 u6.1 u6.2.1 u6.2.2) [0, 1, 2] rfl) hS (lv_sub hl [6, 4, 3, 2, 1, 0] rfl) (hw6.1.trans hT5.symm) (fun h => ⟨_, hw6.2 (thr_nz3 (T := seesT (xs 1) (xs 2)) hT5 (by unfold seesT; (repeat' split) <;> omega) h), by rw [hA5 (thr_nz3 (T := seesT (xs 1) (xs 2)) hT5 (by unfold seesT; (repeat' split) <;> omega) h), s0_seen, apartM_F (seesT_cells (thr_nz3 (T := seesT (xs 1) (xs 2)) hT5 (by unfold seesT; (repeat' split) <;> omega) h)).1 (seesT_cells (thr_nz3 (T := seesT (xs 1) (xs 2)) hT5 (by unfold seesT; (repeat' split) <;> omega) h)).2]⟩) dL_law_461 dL_law_462 dL_law_465 dL_law_467 dL_law_472 dL_law_474 dL_law_477 dL_law_478 dL_law_479 dL_law_480 dL_law_482 dL_law_485 dL_law_486 dL_law_489 dL_law_490 dL_law_491 dL_law_496 (by decide)
set_option maxHeartbeats 4000000 in
set_option maxRecDepth 100000 in
theorem law_c5 {p : Program} {l : Launch} {e : Env} {s : State} {m : MethodId} {below : List Frame} {meth : Method} {c : Code} {b : Nat} {xs : Nat → Int32} {D : va_G} {cI cO : ClassId} {e0 : Nat} {cG : ClassId} {H : Heap} {locs : List Loc} {ls : Array Slot} {h l0 m0 w0 q g0 v0 o0 : Nat} {a t y : Nat → Nat} {g : Nat → Int32} {fo : Nat → Int64} (hst : l.stackTraces = false) (E : lawE p s m meth c b xs D cI cO e0 cG) (hF : fresh g) (hl : lv_has ls 9 [(4, .int 0), (3, .ref o0), (2, .ref q), (1, .ref h), (0, .ref b)])
    (hP : va_P D vwCl (wW h (a 0) (t 0) l0 m0 ++ sW cI a s0 ++ sW cI t s0 ++ wL l0 0 e0 0 ++ mW cI m0 (y 0) w0 z0 ++ yW cI y y0s ++ qW cI q g0 v0 0 g 0 ++ gW v0 cG (fun _ => none) ++ oW cO o0 fo) H) (hD : va_D (fun q : Nat => s.heap.size ≤ q) (wW h (a 0) (t 0) l0 m0 ++ sW cI a s0 ++ sW cI t s0 ++ wL l0 0 e0 0 ++ mW cI m0 (y 0) w0 z0 ++ yW cI y y0s ++ qW cI q g0 v0 0 g 0 ++ gW v0 cG (fun _ => none) ++ oW cO o0 fo)) (hS : va_S (fun q : Nat => s.heap.size ≤ q) s.heap H locs) : W p l e room_1 s m #[Value.ref b] below meth c H locs 30 3000 (lw_Z below #[Value.ref b] s) (F0 m 499 ls []) := by
  obtain ⟨C0, hK2, hXV, hN, hTX, hEX, hG⟩ := id E
  obtain ⟨hx, hb, hr, hml, hown, hts, hX, hbl, hlocks, hgv⟩ := id C0
  have hK := K_1 hK2
  have hE := hXV.1
  have hA : ∀ q : Nat, s.heap.size ≤ q → (fun q : Nat => s.heap.size ≤ q) q := fun _ h => h
  have hg0 : g (680 : Int32).toNatClampNeg = 0 := hF.2 _ (by decide)
  have hP := hP.sub (ws' := wW h (a 0) (t 0) l0 m0 ++ sW cI a s0 ++ qW cI q g0 v0 0 g 0 ++ gW v0 cG (fun _ => none) ++ oW cO o0 fo) [0, 1, 2, 3, 4, 5, 6, 19, 20, 21, 22] rfl
  have hD := hD.sub (ws' := wW h (a 0) (t 0) l0 m0 ++ sW cI a s0 ++ qW cI q g0 v0 0 g 0 ++ gW v0 cG (fun _ => none) ++ oW cO o0 fo) [0, 1, 2, 3, 4, 5, 6, 19, 20, 21, 22] (by decide) rfl
  refine lv_aload_n hx hb dL_law_499 rfl (lv_at hl 3 rfl) ?_
  refine law_ld (n := 1) C0 hS (lv_at hl 4 rfl) (lv_at hl 0 rfl) (by decide) (by decide) dL_law_500 dL_law_501 dL_law_503 dL_law_504 dL_law_505 rfl rfl rfl rfl rfl ?_
  refine law_ld (n := 2) C0 hS (lv_at hl 4 rfl) (lv_at hl 0 rfl) (by decide) (by decide) dL_law_506 dL_law_507 dL_law_509 dL_law_510 dL_law_511 rfl rfl rfl rfl rfl ?_
  refine lv_aload_n hx hb dL_law_512 rfl (lv_at hl 1 rfl) ?_
  have hFc := va_free (wc := wW h (a 0) (t 0) l0 m0 ++ sW cI a s0 ++ oW cO o0 fo) hD hS hA [0, 1, 2, 3, 4, 5, 6, 10] rfl
  refine va_calli (vx_runSW (As := [.ref h, .int (xs 1), .int (xs 2), .ref o0]) (rest := []) ⟨hx, hb, hml, hown, hts⟩ (c_L_knows l hst D cI cO _ h (t 0) l0 m0 a s0 (xs 1) (xs 2) o0 fo) (vx_cwSW 4 hts gL_law_L_knows rfl rfl rfl (by decide +kernel) ⟨Nat.le_of_ble_eq_true rfl, Nat.le_of_ble_eq_true rfl⟩) ⟨preL_blind, preL_of (hP.sub (ws' := wW h (a 0) (t 0) l0 m0 ++ sW cI a s0 ++ oW cO o0 fo) [0, 1, 2, 3, 4, 5, 6, 10] rfl) hK2 hXV (hD.sub (ws' := wW h (a 0) (t 0) l0 m0 ++ sW cI a s0 ++ oW cO o0 fo) [0, 1, 2, 3, 4, 5, 6, 10] (by decide) rfl) hTX hN hS hFc [.ref h, .int (xs 1), .int (xs 2), .ref o0]⟩ rfl rfl hl.1 rfl (lv_room (Nat.le_of_ble_eq_true rfl)) dL_law_513 ⟨Nat.le_of_ble_eq_true rfl, Nat.le_of_ble_eq_true rfl⟩) hS (fun q _ h => hFc q h) hFc (fun k5 u5 t9 H1 locs ht hvm hw5 hB hz1 hk1 hS => ?_)
  obtain ⟨hP1, hD1⟩ := hB
  rw [ht] at hP1
  obtain ⟨hP, hD⟩ := va_join (wr := qW cI q g0 v0 0 g 0 ++ gW v0 cG (fun _ => none)) (w1 := oW cO o0 u5) hP hD [0, 1, 2, 3, 4, 5, 6, 10] [7, 8, 9] rfl rfl (by decide) (by decide) hk1 hFc hP1 hD1
  generalize H1 = H at hP hS ⊢
  have hP : va_P D vwCl (qW cI q g0 v0 0 g 0 ++ gW v0 cG (fun _ => none) ++ oW cO o0 u5) H := hP
  have hD : va_D (fun q : Nat => s.heap.size ≤ q) (qW cI q g0 v0 0 g 0 ++ gW v0 cG (fun _ => none) ++ oW cO o0 u5) := hD
  obtain ⟨hT5, hA5⟩ := hw5
  refine lv_istore (lv' := [(5, .int k5), (4, .int 0), (3, .ref o0), (2, .ref q), (1, .ref h), (0, .ref b)]) hx hb dL_law_516 hl (by decide) rfl (fun ls hl => ?_)
  refine lv_aload_n hx hb dL_law_518 rfl (lv_at hl 3 rfl) ?_
  refine law_ld (n := 1) C0 hS (lv_at hl 5 rfl) (lv_at hl 1 rfl) (by decide) (by decide) dL_law_519 dL_law_520 dL_law_522 dL_law_523 dL_law_524 rfl rfl rfl rfl rfl ?_
  refine law_ld (n := 2) C0 hS (lv_at hl 5 rfl) (lv_at hl 1 rfl) (by decide) (by decide) dL_law_525 dL_law_526 dL_law_528 dL_law_529 dL_law_530 rfl rfl rfl rfl rfl ?_
  have hFc := va_free (wc := qW cI q g0 v0 0 g 0) hD hS hA [0, 1] rfl
  refine va_calli (va_runV (As := [.int (xs 1), .int (xs 2)]) (rest := []) ⟨hx, hb, hml, hown, hts⟩ (c_X5_knows_0 l D cI _ q g0 v0 0 g 0 (xs 1) (xs 2) (fun j h _ => hF.2 j h)) (cwV 2 hts gL_law_X5_knows rfl rfl rfl (by decide +kernel) ⟨Nat.le_of_ble_eq_true rfl, Nat.le_of_ble_eq_true rfl⟩) ⟨preM_blind, va_recv hK hP (ci := 5) (q0 := 0) rfl rfl, preM_of (hP.sub (ws' := qW cI q g0 v0 0 g 0) [0, 1] rfl) hK hE (hD.sub (ws' := qW cI q g0 v0 0 g 0) [0, 1] (by decide) rfl) [.ref q, .int (xs 1), .int (xs 2)]⟩ rfl rfl hl.1 rfl (lv_room (Nat.le_of_ble_eq_true rfl)) dL_law_531 ⟨Nat.le_of_ble_eq_true rfl, Nat.le_of_ble_eq_true rfl⟩) hS (fun q _ h => hFc q h) hFc (fun r6 u6 t9 H1 locs ht hvm hw6 hB hz1 hk1 hS => ?_)
  obtain ⟨hP1, -, hD1⟩ := hB
  rw [ht] at hP1
  obtain ⟨hP, hD⟩ := va_join (wr := oW cO o0 u5) (w1 := qW cI q g0 v0 u6.1 u6.2.1 u6.2.2) hP hD [0, 1] [3] rfl rfl (by decide) (by decide) hk1 hFc hP1 hD1
  generalize H1 = H at hP hS ⊢
  refine lv_istore (lv' := [(6, .int r6), (5, .int k5), (4, .int 0), (3, .ref o0), (2, .ref q), (1, .ref h), (0, .ref b)]) hx hb dL_law_534 hl (by decide) rfl (fun ls hl => ?_)
  exact law_cmpB (pc := 536) E ⟨Nat.le_of_ble_eq_true rfl, Nat.le_of_ble_eq_true rfl⟩ (hP.sub (ws' := oW cO o0 u5 ++ qW cI q g0 v0 u6.1 u6.2.1 u6.2.2) [0, 1, 2] rfl) hS (lv_sub hl [6, 4, 3, 2, 1, 0] rfl) (hw6.1.trans (by rw [hT5, s0_knows])) (fun h => ⟨_, hw6.2 (by rw [← s0_knows]; exact (thr_nz3 (T := knowsT (xs 1) (xs 2)) hT5 (by unfold knowsT; (repeat' split) <;> omega) h)), by rw [hA5 (thr_nz3 (T := knowsT (xs 1) (xs 2)) hT5 (by unfold knowsT; (repeat' split) <;> omega) h), s0_known]⟩) dL_law_536 dL_law_537 dL_law_540 dL_law_542 dL_law_547 dL_law_549 dL_law_552 dL_law_553 dL_law_554 dL_law_555 dL_law_557 dL_law_560 dL_law_561 dL_law_564 dL_law_565 dL_law_566 dL_law_571 (by decide)
set_option maxHeartbeats 4000000 in
set_option maxRecDepth 100000 in
theorem law_c6 {p : Program} {l : Launch} {e : Env} {s : State} {m : MethodId} {below : List Frame} {meth : Method} {c : Code} {b : Nat} {xs : Nat → Int32} {D : va_G} {cI cO : ClassId} {e0 : Nat} {cG : ClassId} {H : Heap} {locs : List Loc} {ls : Array Slot} {h l0 m0 w0 q g0 v0 o0 : Nat} {a t y : Nat → Nat} {g : Nat → Int32} {fo : Nat → Int64} (hst : l.stackTraces = false) (E : lawE p s m meth c b xs D cI cO e0 cG) (hF : fresh g) (hl : lv_has ls 9 [(4, .int 0), (3, .ref o0), (2, .ref q), (1, .ref h), (0, .ref b)])
    (hP : va_P D vwCl (wW h (a 0) (t 0) l0 m0 ++ sW cI a s0 ++ sW cI t s0 ++ wL l0 0 e0 0 ++ mW cI m0 (y 0) w0 z0 ++ yW cI y y0s ++ qW cI q g0 v0 0 g 0 ++ gW v0 cG (fun _ => none) ++ oW cO o0 fo) H) (hD : va_D (fun q : Nat => s.heap.size ≤ q) (wW h (a 0) (t 0) l0 m0 ++ sW cI a s0 ++ sW cI t s0 ++ wL l0 0 e0 0 ++ mW cI m0 (y 0) w0 z0 ++ yW cI y y0s ++ qW cI q g0 v0 0 g 0 ++ gW v0 cG (fun _ => none) ++ oW cO o0 fo)) (hS : va_S (fun q : Nat => s.heap.size ≤ q) s.heap H locs) : W p l e room_1 s m #[Value.ref b] below meth c H locs 30 3000 (lw_Z below #[Value.ref b] s) (F0 m 574 ls []) := by
  obtain ⟨C0, hK2, hXV, hN, hTX, hEX, hG⟩ := id E
  obtain ⟨hx, hb, hr, hml, hown, hts, hX, hbl, hlocks, hgv⟩ := id C0
  have hK := K_1 hK2
  have hE := hXV.1
  have hA : ∀ q : Nat, s.heap.size ≤ q → (fun q : Nat => s.heap.size ≤ q) q := fun _ h => h
  have hg0 : g (680 : Int32).toNatClampNeg = 0 := hF.2 _ (by decide)
  have hP := hP.sub (ws' := wW h (a 0) (t 0) l0 m0 ++ sW cI a s0 ++ qW cI q g0 v0 0 g 0 ++ gW v0 cG (fun _ => none) ++ oW cO o0 fo) [0, 1, 2, 3, 4, 5, 6, 19, 20, 21, 22] rfl
  have hD := hD.sub (ws' := wW h (a 0) (t 0) l0 m0 ++ sW cI a s0 ++ qW cI q g0 v0 0 g 0 ++ gW v0 cG (fun _ => none) ++ oW cO o0 fo) [0, 1, 2, 3, 4, 5, 6, 19, 20, 21, 22] (by decide) rfl
  refine lv_aload_n hx hb dL_law_574 rfl (lv_at hl 3 rfl) ?_
  refine law_ld (n := 1) C0 hS (lv_at hl 4 rfl) (lv_at hl 0 rfl) (by decide) (by decide) dL_law_575 dL_law_576 dL_law_578 dL_law_579 dL_law_580 rfl rfl rfl rfl rfl ?_
  refine law_ld (n := 2) C0 hS (lv_at hl 4 rfl) (lv_at hl 0 rfl) (by decide) (by decide) dL_law_581 dL_law_582 dL_law_584 dL_law_585 dL_law_586 rfl rfl rfl rfl rfl ?_
  refine law_ld (n := 3) C0 hS (lv_at hl 4 rfl) (lv_at hl 0 rfl) (by decide) (by decide) dL_law_587 dL_law_588 dL_law_590 dL_law_591 dL_law_592 rfl rfl rfl rfl rfl ?_
  refine lv_aload_n hx hb dL_law_593 rfl (lv_at hl 1 rfl) ?_
  have hFc := va_free (wc := wW h (a 0) (t 0) l0 m0 ++ sW cI a s0 ++ oW cO o0 fo) hD hS hA [0, 1, 2, 3, 4, 5, 6, 10] rfl
  refine va_calli (vx_runSW (As := [.ref h, .int (xs 1), .int (xs 2), .int (xs 3), .ref o0]) (rest := []) ⟨hx, hb, hml, hown, hts⟩ (c_L_come l hst D cI cO _ h (t 0) l0 m0 a s0 (xs 1) (xs 2) (xs 3) o0 fo (by decide)) (vx_cwSW 5 hts gL_law_L_come rfl rfl rfl (by decide +kernel) ⟨Nat.le_of_ble_eq_true rfl, Nat.le_of_ble_eq_true rfl⟩) ⟨preL_blind, preL_of (hP.sub (ws' := wW h (a 0) (t 0) l0 m0 ++ sW cI a s0 ++ oW cO o0 fo) [0, 1, 2, 3, 4, 5, 6, 10] rfl) hK2 hXV (hD.sub (ws' := wW h (a 0) (t 0) l0 m0 ++ sW cI a s0 ++ oW cO o0 fo) [0, 1, 2, 3, 4, 5, 6, 10] (by decide) rfl) hTX hN hS hFc [.ref h, .int (xs 1), .int (xs 2), .int (xs 3), .ref o0]⟩ rfl rfl hl.1 rfl (lv_room (Nat.le_of_ble_eq_true rfl)) dL_law_594 ⟨Nat.le_of_ble_eq_true rfl, Nat.le_of_ble_eq_true rfl⟩) hS (fun q _ h => hFc q h) hFc (fun k5 u5 t9 H1 locs ht hvm hw5 hB hz1 hk1 hS => ?_)
  obtain ⟨hP1, hD1⟩ := hB
  rw [ht] at hP1
  obtain ⟨hP, hD⟩ := va_join (wr := qW cI q g0 v0 0 g 0 ++ gW v0 cG (fun _ => none)) (w1 := oW cO o0 u5) hP hD [0, 1, 2, 3, 4, 5, 6, 10] [7, 8, 9] rfl rfl (by decide) (by decide) hk1 hFc hP1 hD1
  generalize H1 = H at hP hS ⊢
  have hP : va_P D vwCl (qW cI q g0 v0 0 g 0 ++ gW v0 cG (fun _ => none) ++ oW cO o0 u5) H := hP
  have hD : va_D (fun q : Nat => s.heap.size ≤ q) (qW cI q g0 v0 0 g 0 ++ gW v0 cG (fun _ => none) ++ oW cO o0 u5) := hD
  obtain ⟨hT5, hA5⟩ := hw5
  refine lv_istore (lv' := [(5, .int k5), (4, .int 0), (3, .ref o0), (2, .ref q), (1, .ref h), (0, .ref b)]) hx hb dL_law_597 hl (by decide) rfl (fun ls hl => ?_)
  refine lv_aload_n hx hb dL_law_599 rfl (lv_at hl 3 rfl) ?_
  refine law_ld (n := 1) C0 hS (lv_at hl 5 rfl) (lv_at hl 1 rfl) (by decide) (by decide) dL_law_600 dL_law_601 dL_law_603 dL_law_604 dL_law_605 rfl rfl rfl rfl rfl ?_
  refine law_ld (n := 2) C0 hS (lv_at hl 5 rfl) (lv_at hl 1 rfl) (by decide) (by decide) dL_law_606 dL_law_607 dL_law_609 dL_law_610 dL_law_611 rfl rfl rfl rfl rfl ?_
  refine law_ld (n := 3) C0 hS (lv_at hl 5 rfl) (lv_at hl 1 rfl) (by decide) (by decide) dL_law_612 dL_law_613 dL_law_615 dL_law_616 dL_law_617 rfl rfl rfl rfl rfl ?_
  have hFc := va_free (wc := qW cI q g0 v0 0 g 0) hD hS hA [0, 1] rfl
  refine va_calli (va_runV (As := [.int (xs 1), .int (xs 2), .int (xs 3)]) (rest := []) ⟨hx, hb, hml, hown, hts⟩ (c_X5_come_0 l D cI _ q g0 v0 0 g 0 (xs 1) (xs 2) (xs 3) hg0 hF.1) (cwV 3 hts gL_law_X5_come rfl rfl rfl (by decide +kernel) ⟨Nat.le_of_ble_eq_true rfl, Nat.le_of_ble_eq_true rfl⟩) ⟨preM_blind, va_recv hK hP (ci := 5) (q0 := 0) rfl rfl, preM_of (hP.sub (ws' := qW cI q g0 v0 0 g 0) [0, 1] rfl) hK hE (hD.sub (ws' := qW cI q g0 v0 0 g 0) [0, 1] (by decide) rfl) [.ref q, .int (xs 1), .int (xs 2), .int (xs 3)]⟩ rfl rfl hl.1 rfl (lv_room (Nat.le_of_ble_eq_true rfl)) dL_law_618 ⟨Nat.le_of_ble_eq_true rfl, Nat.le_of_ble_eq_true rfl⟩) hS (fun q _ h => hFc q h) hFc (fun r6 u6 t9 H1 locs ht hvm hw6 hB hz1 hk1 hS => ?_)
  obtain ⟨hP1, -, hD1⟩ := hB
  rw [ht] at hP1
  obtain ⟨hP, hD⟩ := va_join (wr := oW cO o0 u5) (w1 := qW cI q g0 v0 u6.1 u6.2.1 u6.2.2) hP hD [0, 1] [3] rfl rfl (by decide) (by decide) hk1 hFc hP1 hD1
  generalize H1 = H at hP hS ⊢
  refine lv_istore (lv' := [(6, .int r6), (5, .int k5), (4, .int 0), (3, .ref o0), (2, .ref q), (1, .ref h), (0, .ref b)]) hx hb dL_law_621 hl (by decide) rfl (fun ls hl => ?_)
  exact law_cmp (pc := 623) E ⟨Nat.le_of_ble_eq_true rfl, Nat.le_of_ble_eq_true rfl⟩ (hP.sub (ws' := oW cO o0 u5 ++ qW cI q g0 v0 u6.1 u6.2.1 u6.2.2) [0, 1, 2] rfl) hS (lv_sub hl [6, 4, 3, 2, 1, 0] rfl) (hw6.1.trans (by rw [hT5, s0_come])) (law_an (by unfold comeT comeT2; (repeat' split) <;> omega) hT5 hA5 (fun h => by rw [s0_come] at h; exact hw6.2 h)) dL_law_623 dL_law_624 dL_law_627 dL_law_629 dL_law_634 dL_law_636 dL_law_639 dL_law_640 dL_law_641 dL_law_642 dL_law_644 dL_law_645 dL_law_646 dL_law_651 (by decide)
set_option maxHeartbeats 4000000 in
set_option maxRecDepth 100000 in
theorem law_c7 {p : Program} {l : Launch} {e : Env} {s : State} {m : MethodId} {below : List Frame} {meth : Method} {c : Code} {b : Nat} {xs : Nat → Int32} {D : va_G} {cI cO : ClassId} {e0 : Nat} {cG : ClassId} {H : Heap} {locs : List Loc} {ls : Array Slot} {h l0 m0 w0 q g0 v0 o0 : Nat} {a t y : Nat → Nat} {g : Nat → Int32} {fo : Nat → Int64} (hst : l.stackTraces = false) (E : lawE p s m meth c b xs D cI cO e0 cG) (hF : fresh g) (hl : lv_has ls 9 [(4, .int 0), (3, .ref o0), (2, .ref q), (1, .ref h), (0, .ref b)])
    (hP : va_P D vwCl (wW h (a 0) (t 0) l0 m0 ++ sW cI a s0 ++ sW cI t s0 ++ wL l0 0 e0 0 ++ mW cI m0 (y 0) w0 z0 ++ yW cI y y0s ++ qW cI q g0 v0 0 g 0 ++ gW v0 cG (fun _ => none) ++ oW cO o0 fo) H) (hD : va_D (fun q : Nat => s.heap.size ≤ q) (wW h (a 0) (t 0) l0 m0 ++ sW cI a s0 ++ sW cI t s0 ++ wL l0 0 e0 0 ++ mW cI m0 (y 0) w0 z0 ++ yW cI y y0s ++ qW cI q g0 v0 0 g 0 ++ gW v0 cG (fun _ => none) ++ oW cO o0 fo)) (hS : va_S (fun q : Nat => s.heap.size ≤ q) s.heap H locs) : W p l e room_1 s m #[Value.ref b] below meth c H locs 30 3000 (lw_Z below #[Value.ref b] s) (F0 m 654 ls []) := by
  obtain ⟨C0, hK2, hXV, hN, hTX, hEX, hG⟩ := id E
  obtain ⟨hx, hb, hr, hml, hown, hts, hX, hbl, hlocks, hgv⟩ := id C0
  have hK := K_1 hK2
  have hE := hXV.1
  have hA : ∀ q : Nat, s.heap.size ≤ q → (fun q : Nat => s.heap.size ≤ q) q := fun _ h => h
  have hg0 : g (680 : Int32).toNatClampNeg = 0 := hF.2 _ (by decide)
  have hP := hP.sub (ws' := wW h (a 0) (t 0) l0 m0 ++ sW cI a s0 ++ qW cI q g0 v0 0 g 0 ++ gW v0 cG (fun _ => none) ++ oW cO o0 fo) [0, 1, 2, 3, 4, 5, 6, 19, 20, 21, 22] rfl
  have hD := hD.sub (ws' := wW h (a 0) (t 0) l0 m0 ++ sW cI a s0 ++ qW cI q g0 v0 0 g 0 ++ gW v0 cG (fun _ => none) ++ oW cO o0 fo) [0, 1, 2, 3, 4, 5, 6, 19, 20, 21, 22] (by decide) rfl
  refine lv_aload_n hx hb dL_law_654 rfl (lv_at hl 3 rfl) ?_
  refine law_ld (n := 1) C0 hS (lv_at hl 4 rfl) (lv_at hl 0 rfl) (by decide) (by decide) dL_law_655 dL_law_656 dL_law_658 dL_law_659 dL_law_660 rfl rfl rfl rfl rfl ?_
  refine law_ld (n := 2) C0 hS (lv_at hl 4 rfl) (lv_at hl 0 rfl) (by decide) (by decide) dL_law_661 dL_law_662 dL_law_664 dL_law_665 dL_law_666 rfl rfl rfl rfl rfl ?_
  refine law_ld (n := 3) C0 hS (lv_at hl 4 rfl) (lv_at hl 0 rfl) (by decide) (by decide) dL_law_667 dL_law_668 dL_law_670 dL_law_671 dL_law_672 rfl rfl rfl rfl rfl ?_
  refine law_ld (n := 4) C0 hS (lv_at hl 4 rfl) (lv_at hl 0 rfl) (by decide) (by decide) dL_law_673 dL_law_674 dL_law_676 dL_law_677 dL_law_678 rfl rfl rfl rfl rfl ?_
  refine lv_aload_n hx hb dL_law_679 rfl (lv_at hl 1 rfl) ?_
  have hFc := va_free (wc := wW h (a 0) (t 0) l0 m0 ++ sW cI a s0 ++ oW cO o0 fo) hD hS hA [0, 1, 2, 3, 4, 5, 6, 10] rfl
  refine va_calli (vx_runSW (As := [.ref h, .int (xs 1), .int (xs 2), .int (xs 3), .int (xs 4), .ref o0]) (rest := []) ⟨hx, hb, hml, hown, hts⟩ (c_L_become l hst D cI cO _ h (t 0) l0 m0 a s0 (xs 1) (xs 2) (xs 3) (xs 4) o0 fo) (vx_cwSW 6 hts gL_law_L_become rfl rfl rfl (by decide +kernel) ⟨Nat.le_of_ble_eq_true rfl, Nat.le_of_ble_eq_true rfl⟩) ⟨preL_blind, preL_of (hP.sub (ws' := wW h (a 0) (t 0) l0 m0 ++ sW cI a s0 ++ oW cO o0 fo) [0, 1, 2, 3, 4, 5, 6, 10] rfl) hK2 hXV (hD.sub (ws' := wW h (a 0) (t 0) l0 m0 ++ sW cI a s0 ++ oW cO o0 fo) [0, 1, 2, 3, 4, 5, 6, 10] (by decide) rfl) hTX hN hS hFc [.ref h, .int (xs 1), .int (xs 2), .int (xs 3), .int (xs 4), .ref o0]⟩ rfl rfl hl.1 rfl (lv_room (Nat.le_of_ble_eq_true rfl)) dL_law_680 ⟨Nat.le_of_ble_eq_true rfl, Nat.le_of_ble_eq_true rfl⟩) hS (fun q _ h => hFc q h) hFc (fun k5 u5 t9 H1 locs ht hvm hw5 hB hz1 hk1 hS => ?_)
  obtain ⟨hP1, hD1⟩ := hB
  rw [ht] at hP1
  obtain ⟨hP, hD⟩ := va_join (wr := qW cI q g0 v0 0 g 0 ++ gW v0 cG (fun _ => none)) (w1 := oW cO o0 u5) hP hD [0, 1, 2, 3, 4, 5, 6, 10] [7, 8, 9] rfl rfl (by decide) (by decide) hk1 hFc hP1 hD1
  generalize H1 = H at hP hS ⊢
  have hP : va_P D vwCl (qW cI q g0 v0 0 g 0 ++ gW v0 cG (fun _ => none) ++ oW cO o0 u5) H := hP
  have hD : va_D (fun q : Nat => s.heap.size ≤ q) (qW cI q g0 v0 0 g 0 ++ gW v0 cG (fun _ => none) ++ oW cO o0 u5) := hD
  obtain ⟨hT5, hA5⟩ := hw5
  refine lv_istore (lv' := [(5, .int k5), (4, .int 0), (3, .ref o0), (2, .ref q), (1, .ref h), (0, .ref b)]) hx hb dL_law_683 hl (by decide) rfl (fun ls hl => ?_)
  refine lv_aload_n hx hb dL_law_685 rfl (lv_at hl 3 rfl) ?_
  refine law_ld (n := 1) C0 hS (lv_at hl 5 rfl) (lv_at hl 1 rfl) (by decide) (by decide) dL_law_686 dL_law_687 dL_law_689 dL_law_690 dL_law_691 rfl rfl rfl rfl rfl ?_
  refine law_ld (n := 2) C0 hS (lv_at hl 5 rfl) (lv_at hl 1 rfl) (by decide) (by decide) dL_law_692 dL_law_693 dL_law_695 dL_law_696 dL_law_697 rfl rfl rfl rfl rfl ?_
  refine law_ld (n := 3) C0 hS (lv_at hl 5 rfl) (lv_at hl 1 rfl) (by decide) (by decide) dL_law_698 dL_law_699 dL_law_701 dL_law_702 dL_law_703 rfl rfl rfl rfl rfl ?_
  refine law_ld (n := 4) C0 hS (lv_at hl 5 rfl) (lv_at hl 1 rfl) (by decide) (by decide) dL_law_704 dL_law_705 dL_law_707 dL_law_708 dL_law_709 rfl rfl rfl rfl rfl ?_
  have hFc := va_free (wc := qW cI q g0 v0 0 g 0) hD hS hA [0, 1] rfl
  refine va_calli (va_runV (As := [.int (xs 1), .int (xs 2), .int (xs 3), .int (xs 4)]) (rest := []) ⟨hx, hb, hml, hown, hts⟩ (c_X5_become_0 l D cI _ q g0 v0 0 g 0 (xs 1) (xs 2) (xs 3) (xs 4) hg0) (cwV 4 hts gL_law_X5_become rfl rfl rfl (by decide +kernel) ⟨Nat.le_of_ble_eq_true rfl, Nat.le_of_ble_eq_true rfl⟩) ⟨preM_blind, va_recv hK hP (ci := 5) (q0 := 0) rfl rfl, preM_of (hP.sub (ws' := qW cI q g0 v0 0 g 0) [0, 1] rfl) hK hE (hD.sub (ws' := qW cI q g0 v0 0 g 0) [0, 1] (by decide) rfl) [.ref q, .int (xs 1), .int (xs 2), .int (xs 3), .int (xs 4)]⟩ rfl rfl hl.1 rfl (lv_room (Nat.le_of_ble_eq_true rfl)) dL_law_710 ⟨Nat.le_of_ble_eq_true rfl, Nat.le_of_ble_eq_true rfl⟩) hS (fun q _ h => hFc q h) hFc (fun r6 u6 t9 H1 locs ht hvm hw6 hB hz1 hk1 hS => ?_)
  obtain ⟨hP1, -, hD1⟩ := hB
  rw [ht] at hP1
  obtain ⟨hP, hD⟩ := va_join (wr := oW cO o0 u5) (w1 := qW cI q g0 v0 u6.1 u6.2.1 u6.2.2) hP hD [0, 1] [3] rfl rfl (by decide) (by decide) hk1 hFc hP1 hD1
  generalize H1 = H at hP hS ⊢
  refine lv_istore (lv' := [(6, .int r6), (5, .int k5), (4, .int 0), (3, .ref o0), (2, .ref q), (1, .ref h), (0, .ref b)]) hx hb dL_law_713 hl (by decide) rfl (fun ls hl => ?_)
  exact law_cmp (pc := 715) E ⟨Nat.le_of_ble_eq_true rfl, Nat.le_of_ble_eq_true rfl⟩ (hP.sub (ws' := oW cO o0 u5 ++ qW cI q g0 v0 u6.1 u6.2.1 u6.2.2) [0, 1, 2] rfl) hS (lv_sub hl [6, 4, 3, 2, 1, 0] rfl) (hw6.1.trans (by rw [hT5, s0_become])) (law_an (by unfold becomeT; (repeat' split) <;> omega) hT5 hA5 (fun h => absurd h (by rw [s0_become]; decide))) dL_law_715 dL_law_716 dL_law_719 dL_law_721 dL_law_726 dL_law_728 dL_law_731 dL_law_732 dL_law_733 dL_law_734 dL_law_736 dL_law_737 dL_law_738 dL_law_743 (by decide)
set_option maxHeartbeats 4000000 in
set_option maxRecDepth 100000 in
theorem law_c8 {p : Program} {l : Launch} {e : Env} {s : State} {m : MethodId} {below : List Frame} {meth : Method} {c : Code} {b : Nat} {xs : Nat → Int32} {D : va_G} {cI cO : ClassId} {e0 : Nat} {cG : ClassId} {H : Heap} {locs : List Loc} {ls : Array Slot} {h l0 m0 w0 q g0 v0 o0 : Nat} {a t y : Nat → Nat} {g : Nat → Int32} {fo : Nat → Int64} (hst : l.stackTraces = false) (E : lawE p s m meth c b xs D cI cO e0 cG) (hF : fresh g) (hl : lv_has ls 9 [(4, .int 0), (3, .ref o0), (2, .ref q), (1, .ref h), (0, .ref b)])
    (hP : va_P D vwCl (wW h (a 0) (t 0) l0 m0 ++ sW cI a s0 ++ sW cI t s0 ++ wL l0 0 e0 0 ++ mW cI m0 (y 0) w0 z0 ++ yW cI y y0s ++ qW cI q g0 v0 0 g 0 ++ gW v0 cG (fun _ => none) ++ oW cO o0 fo) H) (hD : va_D (fun q : Nat => s.heap.size ≤ q) (wW h (a 0) (t 0) l0 m0 ++ sW cI a s0 ++ sW cI t s0 ++ wL l0 0 e0 0 ++ mW cI m0 (y 0) w0 z0 ++ yW cI y y0s ++ qW cI q g0 v0 0 g 0 ++ gW v0 cG (fun _ => none) ++ oW cO o0 fo)) (hS : va_S (fun q : Nat => s.heap.size ≤ q) s.heap H locs) : W p l e room_1 s m #[Value.ref b] below meth c H locs 30 3000 (lw_Z below #[Value.ref b] s) (F0 m 746 ls []) := by
  obtain ⟨C0, hK2, hXV, hN, hTX, hEX, hG⟩ := id E
  obtain ⟨hx, hb, hr, hml, hown, hts, hX, hbl, hlocks, hgv⟩ := id C0
  have hK := K_1 hK2
  have hE := hXV.1
  have hA : ∀ q : Nat, s.heap.size ≤ q → (fun q : Nat => s.heap.size ≤ q) q := fun _ h => h
  have hg0 : g (680 : Int32).toNatClampNeg = 0 := hF.2 _ (by decide)
  have hP := hP.sub (ws' := wW h (a 0) (t 0) l0 m0 ++ sW cI a s0 ++ qW cI q g0 v0 0 g 0 ++ gW v0 cG (fun _ => none) ++ oW cO o0 fo) [0, 1, 2, 3, 4, 5, 6, 19, 20, 21, 22] rfl
  have hD := hD.sub (ws' := wW h (a 0) (t 0) l0 m0 ++ sW cI a s0 ++ qW cI q g0 v0 0 g 0 ++ gW v0 cG (fun _ => none) ++ oW cO o0 fo) [0, 1, 2, 3, 4, 5, 6, 19, 20, 21, 22] (by decide) rfl
  refine lv_aload_n hx hb dL_law_746 rfl (lv_at hl 3 rfl) ?_
  refine law_ld (n := 1) C0 hS (lv_at hl 4 rfl) (lv_at hl 0 rfl) (by decide) (by decide) dL_law_747 dL_law_748 dL_law_750 dL_law_751 dL_law_752 rfl rfl rfl rfl rfl ?_
  refine law_ld (n := 2) C0 hS (lv_at hl 4 rfl) (lv_at hl 0 rfl) (by decide) (by decide) dL_law_753 dL_law_754 dL_law_756 dL_law_757 dL_law_758 rfl rfl rfl rfl rfl ?_
  refine law_ld (n := 3) C0 hS (lv_at hl 4 rfl) (lv_at hl 0 rfl) (by decide) (by decide) dL_law_759 dL_law_760 dL_law_762 dL_law_763 dL_law_764 rfl rfl rfl rfl rfl ?_
  refine law_ld (n := 4) C0 hS (lv_at hl 4 rfl) (lv_at hl 0 rfl) (by decide) (by decide) dL_law_765 dL_law_766 dL_law_768 dL_law_769 dL_law_770 rfl rfl rfl rfl rfl ?_
  refine lv_aload_n hx hb dL_law_771 rfl (lv_at hl 1 rfl) ?_
  have hFc := va_free (wc := wW h (a 0) (t 0) l0 m0 ++ sW cI a s0 ++ oW cO o0 fo) hD hS hA [0, 1, 2, 3, 4, 5, 6, 10] rfl
  refine va_calli (vx_runSW (As := [.ref h, .int (xs 1), .int (xs 2), .int (xs 3), .int (xs 4), .ref o0]) (rest := []) ⟨hx, hb, hml, hown, hts⟩ (c_L_lay l hst D cI cO _ h (t 0) l0 m0 a s0 (xs 1) (xs 2) (xs 3) (xs 4) o0 fo) (vx_cwSW 6 hts gL_law_L_lay rfl rfl rfl (by decide +kernel) ⟨Nat.le_of_ble_eq_true rfl, Nat.le_of_ble_eq_true rfl⟩) ⟨preL_blind, preL_of (hP.sub (ws' := wW h (a 0) (t 0) l0 m0 ++ sW cI a s0 ++ oW cO o0 fo) [0, 1, 2, 3, 4, 5, 6, 10] rfl) hK2 hXV (hD.sub (ws' := wW h (a 0) (t 0) l0 m0 ++ sW cI a s0 ++ oW cO o0 fo) [0, 1, 2, 3, 4, 5, 6, 10] (by decide) rfl) hTX hN hS hFc [.ref h, .int (xs 1), .int (xs 2), .int (xs 3), .int (xs 4), .ref o0]⟩ rfl rfl hl.1 rfl (lv_room (Nat.le_of_ble_eq_true rfl)) dL_law_772 ⟨Nat.le_of_ble_eq_true rfl, Nat.le_of_ble_eq_true rfl⟩) hS (fun q _ h => hFc q h) hFc (fun k5 u5 t9 H1 locs ht hvm hw5 hB hz1 hk1 hS => ?_)
  obtain ⟨hP1, hD1⟩ := hB
  rw [ht] at hP1
  obtain ⟨hP, hD⟩ := va_join (wr := qW cI q g0 v0 0 g 0 ++ gW v0 cG (fun _ => none)) (w1 := oW cO o0 u5) hP hD [0, 1, 2, 3, 4, 5, 6, 10] [7, 8, 9] rfl rfl (by decide) (by decide) hk1 hFc hP1 hD1
  generalize H1 = H at hP hS ⊢
  have hP : va_P D vwCl (qW cI q g0 v0 0 g 0 ++ gW v0 cG (fun _ => none) ++ oW cO o0 u5) H := hP
  have hD : va_D (fun q : Nat => s.heap.size ≤ q) (qW cI q g0 v0 0 g 0 ++ gW v0 cG (fun _ => none) ++ oW cO o0 u5) := hD
  obtain ⟨hT5, hA5⟩ := hw5
  refine lv_istore (lv' := [(5, .int k5), (4, .int 0), (3, .ref o0), (2, .ref q), (1, .ref h), (0, .ref b)]) hx hb dL_law_775 hl (by decide) rfl (fun ls hl => ?_)
  refine lv_aload_n hx hb dL_law_777 rfl (lv_at hl 3 rfl) ?_
  refine law_ld (n := 1) C0 hS (lv_at hl 5 rfl) (lv_at hl 1 rfl) (by decide) (by decide) dL_law_778 dL_law_779 dL_law_781 dL_law_782 dL_law_783 rfl rfl rfl rfl rfl ?_
  refine law_ld (n := 2) C0 hS (lv_at hl 5 rfl) (lv_at hl 1 rfl) (by decide) (by decide) dL_law_784 dL_law_785 dL_law_787 dL_law_788 dL_law_789 rfl rfl rfl rfl rfl ?_
  refine law_ld (n := 3) C0 hS (lv_at hl 5 rfl) (lv_at hl 1 rfl) (by decide) (by decide) dL_law_790 dL_law_791 dL_law_793 dL_law_794 dL_law_795 rfl rfl rfl rfl rfl ?_
  refine law_ld (n := 4) C0 hS (lv_at hl 5 rfl) (lv_at hl 1 rfl) (by decide) (by decide) dL_law_796 dL_law_797 dL_law_799 dL_law_800 dL_law_801 rfl rfl rfl rfl rfl ?_
  have hFc := va_free (wc := qW cI q g0 v0 0 g 0) hD hS hA [0, 1] rfl
  refine va_calli (va_runV (As := [.int (xs 1), .int (xs 2), .int (xs 3), .int (xs 4)]) (rest := []) ⟨hx, hb, hml, hown, hts⟩ (c_X5_lay_0 l D cI _ q g0 v0 0 g 0 (xs 1) (xs 2) (xs 3) (xs 4) hg0) (cwV 4 hts gL_law_X5_lay rfl rfl rfl (by decide +kernel) ⟨Nat.le_of_ble_eq_true rfl, Nat.le_of_ble_eq_true rfl⟩) ⟨preM_blind, va_recv hK hP (ci := 5) (q0 := 0) rfl rfl, preM_of (hP.sub (ws' := qW cI q g0 v0 0 g 0) [0, 1] rfl) hK hE (hD.sub (ws' := qW cI q g0 v0 0 g 0) [0, 1] (by decide) rfl) [.ref q, .int (xs 1), .int (xs 2), .int (xs 3), .int (xs 4)]⟩ rfl rfl hl.1 rfl (lv_room (Nat.le_of_ble_eq_true rfl)) dL_law_802 ⟨Nat.le_of_ble_eq_true rfl, Nat.le_of_ble_eq_true rfl⟩) hS (fun q _ h => hFc q h) hFc (fun r6 u6 t9 H1 locs ht hvm hw6 hB hz1 hk1 hS => ?_)
  obtain ⟨hP1, -, hD1⟩ := hB
  rw [ht] at hP1
  obtain ⟨hP, hD⟩ := va_join (wr := oW cO o0 u5) (w1 := qW cI q g0 v0 u6.1 u6.2.1 u6.2.2) hP hD [0, 1] [3] rfl rfl (by decide) (by decide) hk1 hFc hP1 hD1
  generalize H1 = H at hP hS ⊢
  refine lv_istore (lv' := [(6, .int r6), (5, .int k5), (4, .int 0), (3, .ref o0), (2, .ref q), (1, .ref h), (0, .ref b)]) hx hb dL_law_805 hl (by decide) rfl (fun ls hl => ?_)
  exact law_cmp (pc := 807) E ⟨Nat.le_of_ble_eq_true rfl, Nat.le_of_ble_eq_true rfl⟩ (hP.sub (ws' := oW cO o0 u5 ++ qW cI q g0 v0 u6.1 u6.2.1 u6.2.2) [0, 1, 2] rfl) hS (lv_sub hl [6, 4, 3, 2, 1, 0] rfl) (hw6.1.trans (by rw [hT5, s0_lay])) (law_an (by unfold layT; (repeat' split) <;> omega) hT5 hA5 (fun h => absurd h (by rw [s0_lay]; decide))) dL_law_807 dL_law_808 dL_law_811 dL_law_813 dL_law_818 dL_law_820 dL_law_823 dL_law_824 dL_law_825 dL_law_826 dL_law_828 dL_law_829 dL_law_830 dL_law_835 (by decide)
set_option maxHeartbeats 4000000 in
set_option maxRecDepth 100000 in
theorem law_c9 {p : Program} {l : Launch} {e : Env} {s : State} {m : MethodId} {below : List Frame} {meth : Method} {c : Code} {b : Nat} {xs : Nat → Int32} {D : va_G} {cI cO : ClassId} {e0 : Nat} {cG : ClassId} {H : Heap} {locs : List Loc} {ls : Array Slot} {h l0 m0 w0 q g0 v0 o0 : Nat} {a t y : Nat → Nat} {g : Nat → Int32} {fo : Nat → Int64} (hst : l.stackTraces = false) (E : lawE p s m meth c b xs D cI cO e0 cG) (hF : fresh g) (hl : lv_has ls 9 [(4, .int 0), (3, .ref o0), (2, .ref q), (1, .ref h), (0, .ref b)])
    (hP : va_P D vwCl (wW h (a 0) (t 0) l0 m0 ++ sW cI a s0 ++ sW cI t s0 ++ wL l0 0 e0 0 ++ mW cI m0 (y 0) w0 z0 ++ yW cI y y0s ++ qW cI q g0 v0 0 g 0 ++ gW v0 cG (fun _ => none) ++ oW cO o0 fo) H) (hD : va_D (fun q : Nat => s.heap.size ≤ q) (wW h (a 0) (t 0) l0 m0 ++ sW cI a s0 ++ sW cI t s0 ++ wL l0 0 e0 0 ++ mW cI m0 (y 0) w0 z0 ++ yW cI y y0s ++ qW cI q g0 v0 0 g 0 ++ gW v0 cG (fun _ => none) ++ oW cO o0 fo)) (hS : va_S (fun q : Nat => s.heap.size ≤ q) s.heap H locs) : W p l e room_1 s m #[Value.ref b] below meth c H locs 30 3000 (lw_Z below #[Value.ref b] s) (F0 m 838 ls []) := by
  obtain ⟨C0, hK2, hXV, hN, hTX, hEX, hG⟩ := id E
  obtain ⟨hx, hb, hr, hml, hown, hts, hX, hbl, hlocks, hgv⟩ := id C0
  have hK := K_1 hK2
  have hE := hXV.1
  have hA : ∀ q : Nat, s.heap.size ≤ q → (fun q : Nat => s.heap.size ≤ q) q := fun _ h => h
  have hg0 : g (680 : Int32).toNatClampNeg = 0 := hF.2 _ (by decide)
  have hP := hP.sub (ws' := wW h (a 0) (t 0) l0 m0 ++ sW cI a s0 ++ qW cI q g0 v0 0 g 0 ++ gW v0 cG (fun _ => none) ++ oW cO o0 fo) [0, 1, 2, 3, 4, 5, 6, 19, 20, 21, 22] rfl
  have hD := hD.sub (ws' := wW h (a 0) (t 0) l0 m0 ++ sW cI a s0 ++ qW cI q g0 v0 0 g 0 ++ gW v0 cG (fun _ => none) ++ oW cO o0 fo) [0, 1, 2, 3, 4, 5, 6, 19, 20, 21, 22] (by decide) rfl
  refine lv_aload_n hx hb dL_law_838 rfl (lv_at hl 3 rfl) ?_
  refine law_ld (n := 1) C0 hS (lv_at hl 4 rfl) (lv_at hl 0 rfl) (by decide) (by decide) dL_law_839 dL_law_840 dL_law_842 dL_law_843 dL_law_844 rfl rfl rfl rfl rfl ?_
  refine law_ld (n := 2) C0 hS (lv_at hl 4 rfl) (lv_at hl 0 rfl) (by decide) (by decide) dL_law_845 dL_law_846 dL_law_848 dL_law_849 dL_law_850 rfl rfl rfl rfl rfl ?_
  refine lv_aload_n hx hb dL_law_851 rfl (lv_at hl 1 rfl) ?_
  have hFc := va_free (wc := wW h (a 0) (t 0) l0 m0 ++ sW cI a s0 ++ oW cO o0 fo) hD hS hA [0, 1, 2, 3, 4, 5, 6, 10] rfl
  refine va_calli (vx_runSW (As := [.ref h, .int (xs 1), .int (xs 2), .ref o0]) (rest := []) ⟨hx, hb, hml, hown, hts⟩ (c_L_of l hst D cI cO _ h (t 0) l0 m0 a s0 (xs 1) (xs 2) o0 fo) (vx_cwSW 4 hts gL_law_L_of rfl rfl rfl (by decide +kernel) ⟨Nat.le_of_ble_eq_true rfl, Nat.le_of_ble_eq_true rfl⟩) ⟨preL_blind, preL_of (hP.sub (ws' := wW h (a 0) (t 0) l0 m0 ++ sW cI a s0 ++ oW cO o0 fo) [0, 1, 2, 3, 4, 5, 6, 10] rfl) hK2 hXV (hD.sub (ws' := wW h (a 0) (t 0) l0 m0 ++ sW cI a s0 ++ oW cO o0 fo) [0, 1, 2, 3, 4, 5, 6, 10] (by decide) rfl) hTX hN hS hFc [.ref h, .int (xs 1), .int (xs 2), .ref o0]⟩ rfl rfl hl.1 rfl (lv_room (Nat.le_of_ble_eq_true rfl)) dL_law_852 ⟨Nat.le_of_ble_eq_true rfl, Nat.le_of_ble_eq_true rfl⟩) hS (fun q _ h => hFc q h) hFc (fun k5 u5 t9 H1 locs ht hvm hw5 hB hz1 hk1 hS => ?_)
  obtain ⟨hP1, hD1⟩ := hB
  rw [ht] at hP1
  obtain ⟨hP, hD⟩ := va_join (wr := qW cI q g0 v0 0 g 0 ++ gW v0 cG (fun _ => none)) (w1 := oW cO o0 u5) hP hD [0, 1, 2, 3, 4, 5, 6, 10] [7, 8, 9] rfl rfl (by decide) (by decide) hk1 hFc hP1 hD1
  generalize H1 = H at hP hS ⊢
  have hP : va_P D vwCl (qW cI q g0 v0 0 g 0 ++ gW v0 cG (fun _ => none) ++ oW cO o0 u5) H := hP
  have hD : va_D (fun q : Nat => s.heap.size ≤ q) (qW cI q g0 v0 0 g 0 ++ gW v0 cG (fun _ => none) ++ oW cO o0 u5) := hD
  obtain ⟨hT5, hA5⟩ := hw5
  refine lv_istore (lv' := [(5, .int k5), (4, .int 0), (3, .ref o0), (2, .ref q), (1, .ref h), (0, .ref b)]) hx hb dL_law_855 hl (by decide) rfl (fun ls hl => ?_)
  refine lv_aload_n hx hb dL_law_857 rfl (lv_at hl 3 rfl) ?_
  refine law_ld (n := 1) C0 hS (lv_at hl 5 rfl) (lv_at hl 1 rfl) (by decide) (by decide) dL_law_858 dL_law_859 dL_law_861 dL_law_862 dL_law_863 rfl rfl rfl rfl rfl ?_
  refine law_ld (n := 2) C0 hS (lv_at hl 5 rfl) (lv_at hl 1 rfl) (by decide) (by decide) dL_law_864 dL_law_865 dL_law_867 dL_law_868 dL_law_869 rfl rfl rfl rfl rfl ?_
  have hFc := va_free (wc := qW cI q g0 v0 0 g 0) hD hS hA [0, 1] rfl
  refine va_calli (va_runV (As := [.int (xs 1), .int (xs 2)]) (rest := []) ⟨hx, hb, hml, hown, hts⟩ (c_X5_of_0 l D cI _ q g0 v0 0 g 0 (xs 1) (xs 2) hg0) (cwV 2 hts gL_law_X5_of rfl rfl rfl (by decide +kernel) ⟨Nat.le_of_ble_eq_true rfl, Nat.le_of_ble_eq_true rfl⟩) ⟨preM_blind, va_recv hK hP (ci := 5) (q0 := 0) rfl rfl, preM_of (hP.sub (ws' := qW cI q g0 v0 0 g 0) [0, 1] rfl) hK hE (hD.sub (ws' := qW cI q g0 v0 0 g 0) [0, 1] (by decide) rfl) [.ref q, .int (xs 1), .int (xs 2)]⟩ rfl rfl hl.1 rfl (lv_room (Nat.le_of_ble_eq_true rfl)) dL_law_870 ⟨Nat.le_of_ble_eq_true rfl, Nat.le_of_ble_eq_true rfl⟩) hS (fun q _ h => hFc q h) hFc (fun r6 u6 t9 H1 locs ht hvm hw6 hB hz1 hk1 hS => ?_)
  obtain ⟨hP1, -, hD1⟩ := hB
  rw [ht] at hP1
  obtain ⟨hP, hD⟩ := va_join (wr := oW cO o0 u5) (w1 := qW cI q g0 v0 u6.1 u6.2.1 u6.2.2) hP hD [0, 1] [3] rfl rfl (by decide) (by decide) hk1 hFc hP1 hD1
  generalize H1 = H at hP hS ⊢
  refine lv_istore (lv' := [(6, .int r6), (5, .int k5), (4, .int 0), (3, .ref o0), (2, .ref q), (1, .ref h), (0, .ref b)]) hx hb dL_law_873 hl (by decide) rfl (fun ls hl => ?_)
  exact law_cmp (pc := 875) E ⟨Nat.le_of_ble_eq_true rfl, Nat.le_of_ble_eq_true rfl⟩ (hP.sub (ws' := oW cO o0 u5 ++ qW cI q g0 v0 u6.1 u6.2.1 u6.2.2) [0, 1, 2] rfl) hS (lv_sub hl [6, 4, 3, 2, 1, 0] rfl) (hw6.1.trans (by rw [hT5, s0_of])) (law_an (by unfold ofT; (repeat' split) <;> omega) hT5 hA5 (fun h => absurd h (by rw [s0_of]; decide))) dL_law_875 dL_law_876 dL_law_879 dL_law_881 dL_law_886 dL_law_888 dL_law_891 dL_law_892 dL_law_893 dL_law_894 dL_law_896 dL_law_897 dL_law_898 dL_law_903 (by decide)
set_option maxHeartbeats 4000000 in
set_option maxRecDepth 100000 in
theorem law_c10 {p : Program} {l : Launch} {e : Env} {s : State} {m : MethodId} {below : List Frame} {meth : Method} {c : Code} {b : Nat} {xs : Nat → Int32} {D : va_G} {cI cO : ClassId} {e0 : Nat} {cG : ClassId} {H : Heap} {locs : List Loc} {ls : Array Slot} {h l0 m0 w0 q g0 v0 o0 : Nat} {a t y : Nat → Nat} {g : Nat → Int32} {fo : Nat → Int64} (hst : l.stackTraces = false) (E : lawE p s m meth c b xs D cI cO e0 cG) (hF : fresh g) (hl : lv_has ls 9 [(4, .int 0), (3, .ref o0), (2, .ref q), (1, .ref h), (0, .ref b)])
    (hP : va_P D vwCl (wW h (a 0) (t 0) l0 m0 ++ sW cI a s0 ++ sW cI t s0 ++ wL l0 0 e0 0 ++ mW cI m0 (y 0) w0 z0 ++ yW cI y y0s ++ qW cI q g0 v0 0 g 0 ++ gW v0 cG (fun _ => none) ++ oW cO o0 fo) H) (hD : va_D (fun q : Nat => s.heap.size ≤ q) (wW h (a 0) (t 0) l0 m0 ++ sW cI a s0 ++ sW cI t s0 ++ wL l0 0 e0 0 ++ mW cI m0 (y 0) w0 z0 ++ yW cI y y0s ++ qW cI q g0 v0 0 g 0 ++ gW v0 cG (fun _ => none) ++ oW cO o0 fo)) (hS : va_S (fun q : Nat => s.heap.size ≤ q) s.heap H locs) : W p l e room_1 s m #[Value.ref b] below meth c H locs 30 3000 (lw_Z below #[Value.ref b] s) (F0 m 906 ls []) := by
  obtain ⟨C0, hK2, hXV, hN, hTX, hEX, hG⟩ := id E
  obtain ⟨hx, hb, hr, hml, hown, hts, hX, hbl, hlocks, hgv⟩ := id C0
  have hK := K_1 hK2
  have hE := hXV.1
  have hA : ∀ q : Nat, s.heap.size ≤ q → (fun q : Nat => s.heap.size ≤ q) q := fun _ h => h
  have hg0 : g (680 : Int32).toNatClampNeg = 0 := hF.2 _ (by decide)
  by_cases h3 : xs 3 = 0
  · have hP := hP.sub (ws' := wW h (a 0) (t 0) l0 m0 ++ sW cI a s0 ++ qW cI q g0 v0 0 g 0 ++ gW v0 cG (fun _ => none) ++ oW cO o0 fo) [0, 1, 2, 3, 4, 5, 6, 19, 20, 21, 22] rfl
    have hD := hD.sub (ws' := wW h (a 0) (t 0) l0 m0 ++ sW cI a s0 ++ qW cI q g0 v0 0 g 0 ++ gW v0 cG (fun _ => none) ++ oW cO o0 fo) [0, 1, 2, 3, 4, 5, 6, 19, 20, 21, 22] (by decide) rfl
    refine lv_aload_n hx hb dL_law_906 rfl (lv_at hl 3 rfl) ?_
    refine law_ld (n := 1) C0 hS (lv_at hl 4 rfl) (lv_at hl 0 rfl) (by decide) (by decide) dL_law_907 dL_law_908 dL_law_910 dL_law_911 dL_law_912 rfl rfl rfl rfl rfl ?_
    refine law_ld (n := 2) C0 hS (lv_at hl 4 rfl) (lv_at hl 0 rfl) (by decide) (by decide) dL_law_913 dL_law_914 dL_law_916 dL_law_917 dL_law_918 rfl rfl rfl rfl rfl ?_
    refine law_ld (n := 3) C0 hS (lv_at hl 4 rfl) (lv_at hl 0 rfl) (by decide) (by decide) dL_law_919 dL_law_920 dL_law_922 dL_law_923 dL_law_924 rfl rfl rfl rfl rfl ?_
    refine lv_if_eq (tgt := 932) hx hb dL_law_925 (by decide) (fun _ => ?_) (fun z9 => absurd h3 z9)
    refine lv_iconst (v := 0) hx hb dL_law_932 (by decide) ?_
    refine lv_aload_n hx hb dL_law_933 rfl (lv_at hl 1 rfl) ?_
    have hFc := va_free (wc := wW h (a 0) (t 0) l0 m0 ++ sW cI a s0 ++ oW cO o0 fo) hD hS hA [0, 1, 2, 3, 4, 5, 6, 10] rfl
    refine va_calli (vx_runSW (As := [.ref h, .int (xs 1), .int (xs 2), .int 0, .ref o0]) (rest := []) ⟨hx, hb, hml, hown, hts⟩ (c_L_effect l hst D cI cO _ h (t 0) l0 m0 a s0 (xs 1) (xs 2) 0 o0 fo) (vx_cwSW 5 hts gL_law_L_effect rfl rfl rfl (by decide +kernel) ⟨Nat.le_of_ble_eq_true rfl, Nat.le_of_ble_eq_true rfl⟩) ⟨preL_blind, preL_of (hP.sub (ws' := wW h (a 0) (t 0) l0 m0 ++ sW cI a s0 ++ oW cO o0 fo) [0, 1, 2, 3, 4, 5, 6, 10] rfl) hK2 hXV (hD.sub (ws' := wW h (a 0) (t 0) l0 m0 ++ sW cI a s0 ++ oW cO o0 fo) [0, 1, 2, 3, 4, 5, 6, 10] (by decide) rfl) hTX hN hS hFc [.ref h, .int (xs 1), .int (xs 2), .int 0, .ref o0]⟩ rfl rfl hl.1 rfl (lv_room (Nat.le_of_ble_eq_true rfl)) dL_law_934 ⟨Nat.le_of_ble_eq_true rfl, Nat.le_of_ble_eq_true rfl⟩) hS (fun q _ h => hFc q h) hFc (fun k5 u5 t9 H1 locs ht hvm hw5 hB hz1 hk1 hS => ?_)
    obtain ⟨hP1, hD1⟩ := hB
    rw [ht] at hP1
    obtain ⟨hP, hD⟩ := va_join (wr := qW cI q g0 v0 0 g 0 ++ gW v0 cG (fun _ => none)) (w1 := oW cO o0 u5) hP hD [0, 1, 2, 3, 4, 5, 6, 10] [7, 8, 9] rfl rfl (by decide) (by decide) hk1 hFc hP1 hD1
    generalize H1 = H at hP hS ⊢
    have hP : va_P D vwCl (qW cI q g0 v0 0 g 0 ++ gW v0 cG (fun _ => none) ++ oW cO o0 u5) H := hP
    have hD : va_D (fun q : Nat => s.heap.size ≤ q) (qW cI q g0 v0 0 g 0 ++ gW v0 cG (fun _ => none) ++ oW cO o0 u5) := hD
    obtain ⟨hT5, hA5⟩ := hw5
    refine lv_istore (lv' := [(5, .int k5), (4, .int 0), (3, .ref o0), (2, .ref q), (1, .ref h), (0, .ref b)]) hx hb dL_law_937 hl (by decide) rfl (fun ls hl => ?_)
    refine lv_aload_n hx hb dL_law_939 rfl (lv_at hl 3 rfl) ?_
    refine law_ld (n := 1) C0 hS (lv_at hl 5 rfl) (lv_at hl 1 rfl) (by decide) (by decide) dL_law_940 dL_law_941 dL_law_943 dL_law_944 dL_law_945 rfl rfl rfl rfl rfl ?_
    refine law_ld (n := 2) C0 hS (lv_at hl 5 rfl) (lv_at hl 1 rfl) (by decide) (by decide) dL_law_946 dL_law_947 dL_law_949 dL_law_950 dL_law_951 rfl rfl rfl rfl rfl ?_
    refine law_ld (n := 3) C0 hS (lv_at hl 5 rfl) (lv_at hl 1 rfl) (by decide) (by decide) dL_law_952 dL_law_953 dL_law_955 dL_law_956 dL_law_957 rfl rfl rfl rfl rfl ?_
    refine lv_if_eq (tgt := 965) hx hb dL_law_958 (by decide) (fun _ => ?_) (fun z9 => absurd h3 z9)
    refine lv_iconst (v := 0) hx hb dL_law_965 (by decide) ?_
    have hFc := va_free (wc := qW cI q g0 v0 0 g 0) hD hS hA [0, 1] rfl
    refine va_calli (va_runV (As := [.int (xs 1), .int (xs 2), .int 0]) (rest := []) ⟨hx, hb, hml, hown, hts⟩ (c_X5_effect_0 l D cI _ q g0 v0 0 g 0 (xs 1) (xs 2) 0 hg0) (cwV 3 hts gL_law_X5_effect rfl rfl rfl (by decide +kernel) ⟨Nat.le_of_ble_eq_true rfl, Nat.le_of_ble_eq_true rfl⟩) ⟨preM_blind, va_recv hK hP (ci := 5) (q0 := 0) rfl rfl, preM_of (hP.sub (ws' := qW cI q g0 v0 0 g 0) [0, 1] rfl) hK hE (hD.sub (ws' := qW cI q g0 v0 0 g 0) [0, 1] (by decide) rfl) [.ref q, .int (xs 1), .int (xs 2), .int 0]⟩ rfl rfl hl.1 rfl (lv_room (Nat.le_of_ble_eq_true rfl)) dL_law_966 ⟨Nat.le_of_ble_eq_true rfl, Nat.le_of_ble_eq_true rfl⟩) hS (fun q _ h => hFc q h) hFc (fun r6 u6 t9 H1 locs ht hvm hw6 hB hz1 hk1 hS => ?_)
    obtain ⟨hP1, -, hD1⟩ := hB
    rw [ht] at hP1
    obtain ⟨hP, hD⟩ := va_join (wr := oW cO o0 u5) (w1 := qW cI q g0 v0 u6.1 u6.2.1 u6.2.2) hP hD [0, 1] [3] rfl rfl (by decide) (by decide) hk1 hFc hP1 hD1
    generalize H1 = H at hP hS ⊢
    refine lv_istore (lv' := [(6, .int r6), (5, .int k5), (4, .int 0), (3, .ref o0), (2, .ref q), (1, .ref h), (0, .ref b)]) hx hb dL_law_969 hl (by decide) rfl (fun ls hl => ?_)
    exact law_cmp (pc := 971) E ⟨Nat.le_of_ble_eq_true rfl, Nat.le_of_ble_eq_true rfl⟩ (hP.sub (ws' := oW cO o0 u5 ++ qW cI q g0 v0 u6.1 u6.2.1 u6.2.2) [0, 1, 2] rfl) hS (lv_sub hl [6, 4, 3, 2, 1, 0] rfl) (hw6.1.trans (by rw [hT5, s0_effect])) (law_an (by unfold effectT; (repeat' split) <;> omega) hT5 hA5 (fun h => absurd h (by rw [s0_effect]; decide))) dL_law_971 dL_law_972 dL_law_975 dL_law_977 dL_law_982 dL_law_984 dL_law_987 dL_law_988 dL_law_989 dL_law_990 dL_law_992 dL_law_993 dL_law_994 dL_law_999 (by decide)
  · have hP := hP.sub (ws' := wW h (a 0) (t 0) l0 m0 ++ sW cI a s0 ++ qW cI q g0 v0 0 g 0 ++ gW v0 cG (fun _ => none) ++ oW cO o0 fo) [0, 1, 2, 3, 4, 5, 6, 19, 20, 21, 22] rfl
    have hD := hD.sub (ws' := wW h (a 0) (t 0) l0 m0 ++ sW cI a s0 ++ qW cI q g0 v0 0 g 0 ++ gW v0 cG (fun _ => none) ++ oW cO o0 fo) [0, 1, 2, 3, 4, 5, 6, 19, 20, 21, 22] (by decide) rfl
    refine lv_aload_n hx hb dL_law_906 rfl (lv_at hl 3 rfl) ?_
    refine law_ld (n := 1) C0 hS (lv_at hl 4 rfl) (lv_at hl 0 rfl) (by decide) (by decide) dL_law_907 dL_law_908 dL_law_910 dL_law_911 dL_law_912 rfl rfl rfl rfl rfl ?_
    refine law_ld (n := 2) C0 hS (lv_at hl 4 rfl) (lv_at hl 0 rfl) (by decide) (by decide) dL_law_913 dL_law_914 dL_law_916 dL_law_917 dL_law_918 rfl rfl rfl rfl rfl ?_
    refine law_ld (n := 3) C0 hS (lv_at hl 4 rfl) (lv_at hl 0 rfl) (by decide) (by decide) dL_law_919 dL_law_920 dL_law_922 dL_law_923 dL_law_924 rfl rfl rfl rfl rfl ?_
    refine lv_if_eq (tgt := 932) hx hb dL_law_925 (by decide) (fun z9 => absurd z9 h3) (fun _ => ?_)
    refine lv_iconst (v := 1) hx hb dL_law_928 (by decide) ?_
    refine lv_goto (tgt := 933) hx hb dL_law_929 (by decide) ?_
    refine lv_aload_n hx hb dL_law_933 rfl (lv_at hl 1 rfl) ?_
    have hFc := va_free (wc := wW h (a 0) (t 0) l0 m0 ++ sW cI a s0 ++ oW cO o0 fo) hD hS hA [0, 1, 2, 3, 4, 5, 6, 10] rfl
    refine va_calli (vx_runSW (As := [.ref h, .int (xs 1), .int (xs 2), .int 1, .ref o0]) (rest := []) ⟨hx, hb, hml, hown, hts⟩ (c_L_effect l hst D cI cO _ h (t 0) l0 m0 a s0 (xs 1) (xs 2) 1 o0 fo) (vx_cwSW 5 hts gL_law_L_effect rfl rfl rfl (by decide +kernel) ⟨Nat.le_of_ble_eq_true rfl, Nat.le_of_ble_eq_true rfl⟩) ⟨preL_blind, preL_of (hP.sub (ws' := wW h (a 0) (t 0) l0 m0 ++ sW cI a s0 ++ oW cO o0 fo) [0, 1, 2, 3, 4, 5, 6, 10] rfl) hK2 hXV (hD.sub (ws' := wW h (a 0) (t 0) l0 m0 ++ sW cI a s0 ++ oW cO o0 fo) [0, 1, 2, 3, 4, 5, 6, 10] (by decide) rfl) hTX hN hS hFc [.ref h, .int (xs 1), .int (xs 2), .int 1, .ref o0]⟩ rfl rfl hl.1 rfl (lv_room (Nat.le_of_ble_eq_true rfl)) dL_law_934 ⟨Nat.le_of_ble_eq_true rfl, Nat.le_of_ble_eq_true rfl⟩) hS (fun q _ h => hFc q h) hFc (fun k5 u5 t9 H1 locs ht hvm hw5 hB hz1 hk1 hS => ?_)
    obtain ⟨hP1, hD1⟩ := hB
    rw [ht] at hP1
    obtain ⟨hP, hD⟩ := va_join (wr := qW cI q g0 v0 0 g 0 ++ gW v0 cG (fun _ => none)) (w1 := oW cO o0 u5) hP hD [0, 1, 2, 3, 4, 5, 6, 10] [7, 8, 9] rfl rfl (by decide) (by decide) hk1 hFc hP1 hD1
    generalize H1 = H at hP hS ⊢
    have hP : va_P D vwCl (qW cI q g0 v0 0 g 0 ++ gW v0 cG (fun _ => none) ++ oW cO o0 u5) H := hP
    have hD : va_D (fun q : Nat => s.heap.size ≤ q) (qW cI q g0 v0 0 g 0 ++ gW v0 cG (fun _ => none) ++ oW cO o0 u5) := hD
    obtain ⟨hT5, hA5⟩ := hw5
    refine lv_istore (lv' := [(5, .int k5), (4, .int 0), (3, .ref o0), (2, .ref q), (1, .ref h), (0, .ref b)]) hx hb dL_law_937 hl (by decide) rfl (fun ls hl => ?_)
    refine lv_aload_n hx hb dL_law_939 rfl (lv_at hl 3 rfl) ?_
    refine law_ld (n := 1) C0 hS (lv_at hl 5 rfl) (lv_at hl 1 rfl) (by decide) (by decide) dL_law_940 dL_law_941 dL_law_943 dL_law_944 dL_law_945 rfl rfl rfl rfl rfl ?_
    refine law_ld (n := 2) C0 hS (lv_at hl 5 rfl) (lv_at hl 1 rfl) (by decide) (by decide) dL_law_946 dL_law_947 dL_law_949 dL_law_950 dL_law_951 rfl rfl rfl rfl rfl ?_
    refine law_ld (n := 3) C0 hS (lv_at hl 5 rfl) (lv_at hl 1 rfl) (by decide) (by decide) dL_law_952 dL_law_953 dL_law_955 dL_law_956 dL_law_957 rfl rfl rfl rfl rfl ?_
    refine lv_if_eq (tgt := 965) hx hb dL_law_958 (by decide) (fun z9 => absurd z9 h3) (fun _ => ?_)
    refine lv_iconst (v := 1) hx hb dL_law_961 (by decide) ?_
    refine lv_goto (tgt := 966) hx hb dL_law_962 (by decide) ?_
    have hFc := va_free (wc := qW cI q g0 v0 0 g 0) hD hS hA [0, 1] rfl
    refine va_calli (va_runV (As := [.int (xs 1), .int (xs 2), .int 1]) (rest := []) ⟨hx, hb, hml, hown, hts⟩ (c_X5_effect_0 l D cI _ q g0 v0 0 g 0 (xs 1) (xs 2) 1 hg0) (cwV 3 hts gL_law_X5_effect rfl rfl rfl (by decide +kernel) ⟨Nat.le_of_ble_eq_true rfl, Nat.le_of_ble_eq_true rfl⟩) ⟨preM_blind, va_recv hK hP (ci := 5) (q0 := 0) rfl rfl, preM_of (hP.sub (ws' := qW cI q g0 v0 0 g 0) [0, 1] rfl) hK hE (hD.sub (ws' := qW cI q g0 v0 0 g 0) [0, 1] (by decide) rfl) [.ref q, .int (xs 1), .int (xs 2), .int 1]⟩ rfl rfl hl.1 rfl (lv_room (Nat.le_of_ble_eq_true rfl)) dL_law_966 ⟨Nat.le_of_ble_eq_true rfl, Nat.le_of_ble_eq_true rfl⟩) hS (fun q _ h => hFc q h) hFc (fun r6 u6 t9 H1 locs ht hvm hw6 hB hz1 hk1 hS => ?_)
    obtain ⟨hP1, -, hD1⟩ := hB
    rw [ht] at hP1
    obtain ⟨hP, hD⟩ := va_join (wr := oW cO o0 u5) (w1 := qW cI q g0 v0 u6.1 u6.2.1 u6.2.2) hP hD [0, 1] [3] rfl rfl (by decide) (by decide) hk1 hFc hP1 hD1
    generalize H1 = H at hP hS ⊢
    refine lv_istore (lv' := [(6, .int r6), (5, .int k5), (4, .int 0), (3, .ref o0), (2, .ref q), (1, .ref h), (0, .ref b)]) hx hb dL_law_969 hl (by decide) rfl (fun ls hl => ?_)
    exact law_cmp (pc := 971) E ⟨Nat.le_of_ble_eq_true rfl, Nat.le_of_ble_eq_true rfl⟩ (hP.sub (ws' := oW cO o0 u5 ++ qW cI q g0 v0 u6.1 u6.2.1 u6.2.2) [0, 1, 2] rfl) hS (lv_sub hl [6, 4, 3, 2, 1, 0] rfl) (hw6.1.trans (by rw [hT5, s0_effect])) (law_an (by unfold effectT; (repeat' split) <;> omega) hT5 hA5 (fun h => absurd h (by rw [s0_effect]; decide))) dL_law_971 dL_law_972 dL_law_975 dL_law_977 dL_law_982 dL_law_984 dL_law_987 dL_law_988 dL_law_989 dL_law_990 dL_law_992 dL_law_993 dL_law_994 dL_law_999 (by decide)
set_option maxHeartbeats 4000000 in
set_option maxRecDepth 100000 in
theorem law_c11 {p : Program} {l : Launch} {e : Env} {s : State} {m : MethodId} {below : List Frame} {meth : Method} {c : Code} {b : Nat} {xs : Nat → Int32} {D : va_G} {cI cO : ClassId} {e0 : Nat} {cG : ClassId} {H : Heap} {locs : List Loc} {ls : Array Slot} {h l0 m0 w0 q g0 v0 o0 : Nat} {a t y : Nat → Nat} {g : Nat → Int32} {fo : Nat → Int64} (hst : l.stackTraces = false) (E : lawE p s m meth c b xs D cI cO e0 cG) (hF : fresh g) (hl : lv_has ls 9 [(4, .int 0), (3, .ref o0), (2, .ref q), (1, .ref h), (0, .ref b)])
    (hP : va_P D vwCl (wW h (a 0) (t 0) l0 m0 ++ sW cI a s0 ++ sW cI t s0 ++ wL l0 0 e0 0 ++ mW cI m0 (y 0) w0 z0 ++ yW cI y y0s ++ qW cI q g0 v0 0 g 0 ++ gW v0 cG (fun _ => none) ++ oW cO o0 fo) H) (hD : va_D (fun q : Nat => s.heap.size ≤ q) (wW h (a 0) (t 0) l0 m0 ++ sW cI a s0 ++ sW cI t s0 ++ wL l0 0 e0 0 ++ mW cI m0 (y 0) w0 z0 ++ yW cI y y0s ++ qW cI q g0 v0 0 g 0 ++ gW v0 cG (fun _ => none) ++ oW cO o0 fo)) (hS : va_S (fun q : Nat => s.heap.size ≤ q) s.heap H locs) : W p l e room_1 s m #[Value.ref b] below meth c H locs 30 3000 (lw_Z below #[Value.ref b] s) (F0 m 1002 ls []) := by
  obtain ⟨C0, hK2, hXV, hN, hTX, hEX, hG⟩ := id E
  obtain ⟨hx, hb, hr, hml, hown, hts, hX, hbl, hlocks, hgv⟩ := id C0
  have hK := K_1 hK2
  have hE := hXV.1
  have hA : ∀ q : Nat, s.heap.size ≤ q → (fun q : Nat => s.heap.size ≤ q) q := fun _ h => h
  have hg0 : g (680 : Int32).toNatClampNeg = 0 := hF.2 _ (by decide)
  have hP := hP.sub (ws' := wW h (a 0) (t 0) l0 m0 ++ sW cI a s0 ++ wL l0 0 e0 0 ++ qW cI q g0 v0 0 g 0 ++ gW v0 cG (fun _ => none) ++ oW cO o0 fo) [0, 1, 2, 3, 4, 5, 6, 13, 19, 20, 21, 22] rfl
  have hD := hD.sub (ws' := wW h (a 0) (t 0) l0 m0 ++ sW cI a s0 ++ wL l0 0 e0 0 ++ qW cI q g0 v0 0 g 0 ++ gW v0 cG (fun _ => none) ++ oW cO o0 fo) [0, 1, 2, 3, 4, 5, 6, 13, 19, 20, 21, 22] (by decide) rfl
  refine lv_aload_n hx hb dL_law_1002 rfl (lv_at hl 3 rfl) ?_
  refine law_ld (n := 1) C0 hS (lv_at hl 4 rfl) (lv_at hl 0 rfl) (by decide) (by decide) dL_law_1003 dL_law_1004 dL_law_1006 dL_law_1007 dL_law_1008 rfl rfl rfl rfl rfl ?_
  refine lv_aload_n hx hb dL_law_1009 rfl (lv_at hl 1 rfl) ?_
  have hFc := va_free (wc := wW h (a 0) (t 0) l0 m0 ++ sW cI a s0 ++ wL l0 0 e0 0 ++ oW cO o0 fo) hD hS hA [0, 1, 2, 3, 4, 5, 6, 7, 11] rfl
  refine va_calli (vx_runSW (As := [.ref h, .int (xs 1), .ref o0]) (rest := []) ⟨hx, hb, hml, hown, hts⟩ (c_L_many l hst D cI cO _ h (t 0) l0 m0 a s0 0 e0 0 (xs 1) o0 fo (by decide)) (vx_cwSW 3 hts gL_law_L_many rfl rfl rfl (by decide +kernel) ⟨Nat.le_of_ble_eq_true rfl, Nat.le_of_ble_eq_true rfl⟩) ⟨preL_blind, preL_of (hP.sub (ws' := wW h (a 0) (t 0) l0 m0 ++ sW cI a s0 ++ wL l0 0 e0 0 ++ oW cO o0 fo) [0, 1, 2, 3, 4, 5, 6, 7, 11] rfl) hK2 hXV (hD.sub (ws' := wW h (a 0) (t 0) l0 m0 ++ sW cI a s0 ++ wL l0 0 e0 0 ++ oW cO o0 fo) [0, 1, 2, 3, 4, 5, 6, 7, 11] (by decide) rfl) hTX hN hS hFc [.ref h, .int (xs 1), .ref o0]⟩ rfl rfl hl.1 rfl (lv_room (Nat.le_of_ble_eq_true rfl)) dL_law_1010 ⟨Nat.le_of_ble_eq_true rfl, Nat.le_of_ble_eq_true rfl⟩) hS (fun q _ h => hFc q h) hFc (fun k5 u5 t9 H1 locs ht hvm hw5 hB hz1 hk1 hS => ?_)
  obtain ⟨hP1, hD1⟩ := hB
  rw [ht] at hP1
  obtain ⟨hP, hD⟩ := va_join (wr := qW cI q g0 v0 0 g 0 ++ gW v0 cG (fun _ => none)) (w1 := oW cO o0 u5) hP hD [0, 1, 2, 3, 4, 5, 6, 7, 11] [8, 9, 10] rfl rfl (by decide) (by decide) hk1 hFc hP1 hD1
  generalize H1 = H at hP hS ⊢
  have hP : va_P D vwCl (qW cI q g0 v0 0 g 0 ++ gW v0 cG (fun _ => none) ++ oW cO o0 u5) H := hP
  have hD : va_D (fun q : Nat => s.heap.size ≤ q) (qW cI q g0 v0 0 g 0 ++ gW v0 cG (fun _ => none) ++ oW cO o0 u5) := hD
  obtain ⟨hT5, hA5⟩ := hw5
  refine lv_istore (lv' := [(5, .int k5), (4, .int 0), (3, .ref o0), (2, .ref q), (1, .ref h), (0, .ref b)]) hx hb dL_law_1013 hl (by decide) rfl (fun ls hl => ?_)
  refine lv_aload_n hx hb dL_law_1015 rfl (lv_at hl 3 rfl) ?_
  refine law_ld (n := 1) C0 hS (lv_at hl 5 rfl) (lv_at hl 1 rfl) (by decide) (by decide) dL_law_1016 dL_law_1017 dL_law_1019 dL_law_1020 dL_law_1021 rfl rfl rfl rfl rfl ?_
  have hFc := va_free (wc := qW cI q g0 v0 0 g 0) hD hS hA [0, 1] rfl
  refine va_calli (va_runV (As := [.int (xs 1)]) (rest := []) ⟨hx, hb, hml, hown, hts⟩ (c_X5_many_0 l D cI _ q g0 v0 0 g 0 (xs 1) hg0 (fun j h _ => hF.2 j h) rfl) (cwV 1 hts gL_law_X5_many rfl rfl rfl (by decide +kernel) ⟨Nat.le_of_ble_eq_true rfl, Nat.le_of_ble_eq_true rfl⟩) ⟨preM_blind, va_recv hK hP (ci := 5) (q0 := 0) rfl rfl, preM_of (hP.sub (ws' := qW cI q g0 v0 0 g 0) [0, 1] rfl) hK hE (hD.sub (ws' := qW cI q g0 v0 0 g 0) [0, 1] (by decide) rfl) [.ref q, .int (xs 1)]⟩ rfl rfl hl.1 rfl (lv_room (Nat.le_of_ble_eq_true rfl)) dL_law_1022 ⟨Nat.le_of_ble_eq_true rfl, Nat.le_of_ble_eq_true rfl⟩) hS (fun q _ h => hFc q h) hFc (fun r6 u6 t9 H1 locs ht hvm hw6 hB hz1 hk1 hS => ?_)
  obtain ⟨hP1, -, hD1⟩ := hB
  rw [ht] at hP1
  obtain ⟨hP, hD⟩ := va_join (wr := oW cO o0 u5) (w1 := qW cI q g0 v0 u6.1 u6.2.1 u6.2.2) hP hD [0, 1] [3] rfl rfl (by decide) (by decide) hk1 hFc hP1 hD1
  generalize H1 = H at hP hS ⊢
  refine lv_istore (lv' := [(6, .int r6), (5, .int k5), (4, .int 0), (3, .ref o0), (2, .ref q), (1, .ref h), (0, .ref b)]) hx hb dL_law_1025 hl (by decide) rfl (fun ls hl => ?_)
  exact law_cmp (pc := 1027) E ⟨Nat.le_of_ble_eq_true rfl, Nat.le_of_ble_eq_true rfl⟩ (hP.sub (ws' := oW cO o0 u5 ++ qW cI q g0 v0 u6.1 u6.2.1 u6.2.2) [0, 1, 2] rfl) hS (lv_sub hl [6, 4, 3, 2, 1, 0] rfl) (hw6.1.trans hT5.symm) (law_an (by unfold manyT; (repeat' split) <;> omega) hT5 hA5 (fun h => by rw [hw6.2 h, s0_count (manyT_in h)])) dL_law_1027 dL_law_1028 dL_law_1031 dL_law_1033 dL_law_1038 dL_law_1040 dL_law_1043 dL_law_1044 dL_law_1045 dL_law_1046 dL_law_1048 dL_law_1049 dL_law_1050 dL_law_1055 (by decide)
