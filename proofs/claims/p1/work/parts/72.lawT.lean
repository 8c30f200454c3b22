-- ===== one turn of the law's loop =====
set_option maxHeartbeats 4000000 in
set_option maxRecDepth 100000 in
theorem law_turn {p : Program} {l : Launch} {e : Env} {s : State} {m : MethodId} {below : List Frame} {meth : Method} {c : Code} {b : Nat} {xs : Nat → Int32} {D : va_G} {cI cO : ClassId} {e0 : Nat} {cG : ClassId} {H : Heap} {locs : List Loc} {ls : Array Slot} {h l0 m0 w0 q g0 v0 o0 : Nat} {a t y : Nat → Nat} {g : Nat → Int32} {fo : Nat → Int64} (hst : l.stackTraces = false) (E : lawE p s m meth c b xs D cI cO e0 cG) (hF : fresh g) (hl : lv_has ls 9 [(4, .int 0), (3, .ref o0), (2, .ref q), (1, .ref h), (0, .ref b)])
    (hP : va_P D vwCl (wW h (a 0) (t 0) l0 m0 ++ sW cI a s0 ++ sW cI t s0 ++ wL l0 0 e0 0 ++ mW cI m0 (y 0) w0 z0 ++ yW cI y y0s ++ qW cI q g0 v0 0 g 0 ++ gW v0 cG (fun _ => none) ++ oW cO o0 fo) H) (hD : va_D (fun q : Nat => s.heap.size ≤ q) (wW h (a 0) (t 0) l0 m0 ++ sW cI a s0 ++ sW cI t s0 ++ wL l0 0 e0 0 ++ mW cI m0 (y 0) w0 z0 ++ yW cI y y0s ++ qW cI q g0 v0 0 g 0 ++ gW v0 cG (fun _ => none) ++ oW cO o0 fo)) (hS : va_S (fun q : Nat => s.heap.size ≤ q) s.heap H locs) : W p l e room_1 s m #[Value.ref b] below meth c H locs 30 3000 (lw_Z below #[Value.ref b] s) (F0 m 23 ls []) := by
  obtain ⟨C0, hK2, hXV, hN, hTX, hEX, hG⟩ := id E
  obtain ⟨hx, hb, hr, hml, hown, hts, hX, hbl, hlocks, hgv⟩ := id C0
  have hK := K_1 hK2
  have hE := hXV.1
  have hA : ∀ q : Nat, s.heap.size ≤ q → (fun q : Nat => s.heap.size ≤ q) q := fun _ h => h
  have hg0 : g (680 : Int32).toNatClampNeg = 0 := hF.2 _ (by decide)
  have hbA : ¬ (fun q : Nat => s.heap.size ≤ q) b := Nat.not_le.mpr hbl
  refine lv_iload hx hb dL_law_23 (lv_at hl 0 rfl) ?_
  refine lv_aload_n hx hb dL_law_25 rfl (lv_at hl 4 rfl) ?_
  refine va_slen hx hb hX hbl hbA hS dL_law_26 ?_
  refine lv_iconst (v := 5) hx hb dL_law_27 (by decide) ?_
  refine lv_isub hx hb dL_law_28 ?_
  refine lv_icmp_gt (tgt := 1771) hx hb dL_law_29 (by decide) (fun z9 => absurd z9 (by decide)) (fun _ => ?_)
  refine lv_aload_n hx hb dL_law_32 rfl (lv_at hl 4 rfl) ?_
  refine lv_iload hx hb dL_law_33 (lv_at hl 0 rfl) ?_
  refine va_sld hx hb hX hbl hbA hS (law_in (n := 0) (by decide)) dL_law_35 ?_
  refine lv_bipush (v := 31) hx hb dL_law_36 (by decide) ?_
  refine lv_iand hx hb dL_law_38 ?_
  obtain ⟨j, hj, ej⟩ := and31 (xs (Int32.toNatClampNeg 0))
  rw [ej]
  rcases (show j = 0 ∨ j = 1 ∨ j = 2 ∨ j = 3 ∨ j = 4 ∨ j = 5 ∨ j = 6 ∨ j = 7 ∨ j = 8 ∨ j = 9 ∨ j = 10 ∨ j = 11 ∨ j = 12 ∨ j = 13 ∨ j = 14 ∨ j = 15 ∨ j = 16 ∨ j = 17 ∨ j = 18 ∨ j = 19 ∨ j = 20 ∨ j = 21 ∨ j = 22 ∨ j = 23 ∨ j = 24 ∨ 25 ≤ j by omega) with rfl | rfl | rfl | rfl | rfl | rfl | rfl | rfl | rfl | rfl | rfl | rfl | rfl | rfl | rfl | rfl | rfl | rfl | rfl | rfl | rfl | rfl | rfl | rfl | rfl | hj25
  · exact lv_tableIn (off := 113) (tgt := 152) hx hb dL_law_39 (by decide) (by decide) (by decide) (by decide) (law_c0 hst E hF hl hP hD hS)
  · exact lv_tableIn (off := 205) (tgt := 244) hx hb dL_law_39 (by decide) (by decide) (by decide) (by decide) (law_c1 hst E hF hl hP hD hS)
  · exact lv_tableIn (off := 273) (tgt := 312) hx hb dL_law_39 (by decide) (by decide) (by decide) (by decide) (law_c2 hst E hF hl hP hD hS)
  · exact lv_tableIn (off := 329) (tgt := 368) hx hb dL_law_39 (by decide) (by decide) (by decide) (by decide) (law_c3 hst E hF hl hP hD hS)
  · exact lv_tableIn (off := 385) (tgt := 424) hx hb dL_law_39 (by decide) (by decide) (by decide) (by decide) (law_c4 hst E hF hl hP hD hS)
  · exact lv_tableIn (off := 460) (tgt := 499) hx hb dL_law_39 (by decide) (by decide) (by decide) (by decide) (law_c5 hst E hF hl hP hD hS)
  · exact lv_tableIn (off := 535) (tgt := 574) hx hb dL_law_39 (by decide) (by decide) (by decide) (by decide) (law_c6 hst E hF hl hP hD hS)
  · exact lv_tableIn (off := 615) (tgt := 654) hx hb dL_law_39 (by decide) (by decide) (by decide) (by decide) (law_c7 hst E hF hl hP hD hS)
  · exact lv_tableIn (off := 707) (tgt := 746) hx hb dL_law_39 (by decide) (by decide) (by decide) (by decide) (law_c8 hst E hF hl hP hD hS)
  · exact lv_tableIn (off := 799) (tgt := 838) hx hb dL_law_39 (by decide) (by decide) (by decide) (by decide) (law_c9 hst E hF hl hP hD hS)
  · exact lv_tableIn (off := 867) (tgt := 906) hx hb dL_law_39 (by decide) (by decide) (by decide) (by decide) (law_c10 hst E hF hl hP hD hS)
  · exact lv_tableIn (off := 963) (tgt := 1002) hx hb dL_law_39 (by decide) (by decide) (by decide) (by decide) (law_c11 hst E hF hl hP hD hS)
  · exact lv_tableIn (off := 1019) (tgt := 1058) hx hb dL_law_39 (by decide) (by decide) (by decide) (by decide) (law_c12 hst E hF hl hP hD hS)
  · exact lv_tableIn (off := 1075) (tgt := 1114) hx hb dL_law_39 (by decide) (by decide) (by decide) (by decide) (law_c13 hst E hF hl hP hD hS)
  · exact lv_tableIn (off := 1131) (tgt := 1170) hx hb dL_law_39 (by decide) (by decide) (by decide) (by decide) (law_c14 hst E hF hl hP hD hS)
  · exact lv_tableIn (off := 1187) (tgt := 1226) hx hb dL_law_39 (by decide) (by decide) (by decide) (by decide) (law_c15 hst E hF hl hP hD hS)
  · exact lv_tableIn (off := 1255) (tgt := 1294) hx hb dL_law_39 (by decide) (by decide) (by decide) (by decide) (law_c16 hst E hF hl hP hD hS)
  · exact lv_tableIn (off := 1323) (tgt := 1362) hx hb dL_law_39 (by decide) (by decide) (by decide) (by decide) (law_c17 hst E hF hl hP hD hS)
  · exact lv_tableIn (off := 1379) (tgt := 1418) hx hb dL_law_39 (by decide) (by decide) (by decide) (by decide) (law_c18 hst E hF hl hP hD hS)
  · exact lv_tableIn (off := 1423) (tgt := 1462) hx hb dL_law_39 (by decide) (by decide) (by decide) (by decide) (law_c19 hst E hF hl hP hD hS)
  · exact lv_tableIn (off := 1479) (tgt := 1518) hx hb dL_law_39 (by decide) (by decide) (by decide) (by decide) (law_c20 hst E hF hl hP hD hS)
  · exact lv_tableIn (off := 1547) (tgt := 1586) hx hb dL_law_39 (by decide) (by decide) (by decide) (by decide) (law_c21 hst E hF hl hP hD hS)
  · exact lv_tableIn (off := 1603) (tgt := 1642) hx hb dL_law_39 (by decide) (by decide) (by decide) (by decide) (law_c22 hst E hF hl hP hD hS)
  · exact lv_tableIn (off := 1671) (tgt := 1710) hx hb dL_law_39 (by decide) (by decide) (by decide) (by decide) (law_c23 hst E hF hl hP hD hS)
  · exact lv_tableIn (off := 1712) (tgt := 1751) hx hb dL_law_39 (by decide) (by decide) (by decide) (by decide) (law_c24 hst E hF hl hP hD hS)
  · refine lv_tableOut (tgt := 1765) hx hb dL_law_39 (Or.inr ?_) (by decide) ?_
    · rcases (show j = 25 ∨ j = 26 ∨ j = 27 ∨ j = 28 ∨ j = 29 ∨ j = 30 ∨ j = 31 by omega) with rfl | rfl | rfl | rfl | rfl | rfl | rfl <;> decide
    · exact law_tail C0 ⟨Nat.le_of_ble_eq_true rfl, Nat.le_of_ble_eq_true rfl⟩ hS (lv_sub hl [4, 0] rfl)
