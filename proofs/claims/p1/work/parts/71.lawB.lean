-- ===== the law's cases, on =====
set_option maxHeartbeats 4000000 in
set_option maxRecDepth 100000 in
theorem law_c12 {p : Program} {l : Launch} {e : Env} {s : State} {m : MethodId} {below : List Frame} {meth : Method} {c : Code} {b : Nat} {xs : Nat → Int32} {D : va_G} {cI cO : ClassId} {e0 : Nat} {cG : ClassId} {H : Heap} {locs : List Loc} {ls : Array Slot} {h l0 m0 w0 q g0 v0 o0 : Nat} {a t y : Nat → Nat} {g : Nat → Int32} {fo : Nat → Int64} (hst : l.stackTraces = false) (E : lawE p s m meth c b xs D cI cO e0 cG) (hF : fresh g) (hl : lv_has ls 9 [(4, .int 0), (3, .ref o0), (2, .ref q), (1, .ref h), (0, .ref b)])
    (hP : va_P D vwCl (wW h (a 0) (t 0) l0 m0 ++ sW cI a s0 ++ sW cI t s0 ++ wL l0 0 e0 0 ++ mW cI m0 (y 0) w0 z0 ++ yW cI y y0s ++ qW cI q g0 v0 0 g 0 ++ gW v0 cG (fun _ => none) ++ oW cO o0 fo) H) (hD : va_D (fun q : Nat => s.heap.size ≤ q) (wW h (a 0) (t 0) l0 m0 ++ sW cI a s0 ++ sW cI t s0 ++ wL l0 0 e0 0 ++ mW cI m0 (y 0) w0 z0 ++ yW cI y y0s ++ qW cI q g0 v0 0 g 0 ++ gW v0 cG (fun _ => none) ++ oW cO o0 fo)) (hS : va_S (fun q : Nat => s.heap.size ≤ q) s.heap H locs) : W p l e room_1 s m #[Value.ref b] below meth c H locs 30 3000 (lw_Z below #[Value.ref b] s) (F0 m 1058 ls []) := by
  obtain ⟨C0, hK2, hXV, hN, hTX, hEX, hG⟩ := id E
  obtain ⟨hx, hb, hr, hml, hown, hts, hX, hbl, hlocks, hgv⟩ := id C0
  have hK := K_1 hK2
  have hE := hXV.1
  have hA : ∀ q : Nat, s.heap.size ≤ q → (fun q : Nat => s.heap.size ≤ q) q := fun _ h => h
  have hg0 : g (680 : Int32).toNatClampNeg = 0 := hF.2 _ (by decide)
  have hP := hP.sub (ws' := wW h (a 0) (t 0) l0 m0 ++ sW cI a s0 ++ qW cI q g0 v0 0 g 0 ++ gW v0 cG (fun _ => none) ++ oW cO o0 fo) [0, 1, 2, 3, 4, 5, 6, 19, 20, 21, 22] rfl
  have hD := hD.sub (ws' := wW h (a 0) (t 0) l0 m0 ++ sW cI a s0 ++ qW cI q g0 v0 0 g 0 ++ gW v0 cG (fun _ => none) ++ oW cO o0 fo) [0, 1, 2, 3, 4, 5, 6, 19, 20, 21, 22] (by decide) rfl
  refine lv_aload_n hx hb dL_law_1058 rfl (lv_at hl 3 rfl) ?_
  refine law_ld (n := 1) C0 hS (lv_at hl 4 rfl) (lv_at hl 0 rfl) (by decide) (by decide) dL_law_1059 dL_law_1060 dL_law_1062 dL_law_1063 dL_law_1064 rfl rfl rfl rfl rfl ?_
  refine lv_aload_n hx hb dL_law_1065 rfl (lv_at hl 1 rfl) ?_
  have hFc := va_free (wc := wW h (a 0) (t 0) l0 m0 ++ sW cI a s0 ++ oW cO o0 fo) hD hS hA [0, 1, 2, 3, 4, 5, 6, 10] rfl
  refine va_calli (vx_runSW (As := [.ref h, .int (xs 1), .ref o0]) (rest := []) ⟨hx, hb, hml, hown, hts⟩ (c_L_act_0 l hst D cI cO _ h (t 0) l0 m0 a s0 (xs 1) o0 fo rfl) (vx_cwSW 3 hts gL_law_L_act rfl rfl rfl (by decide +kernel) ⟨Nat.le_of_ble_eq_true rfl, Nat.le_of_ble_eq_true rfl⟩) ⟨preL_blind, preL_of (hP.sub (ws' := wW h (a 0) (t 0) l0 m0 ++ sW cI a s0 ++ oW cO o0 fo) [0, 1, 2, 3, 4, 5, 6, 10] rfl) hK2 hXV (hD.sub (ws' := wW h (a 0) (t 0) l0 m0 ++ sW cI a s0 ++ oW cO o0 fo) [0, 1, 2, 3, 4, 5, 6, 10] (by decide) rfl) hTX hN hS hFc [.ref h, .int (xs 1), .ref o0]⟩ rfl rfl hl.1 rfl (lv_room (Nat.le_of_ble_eq_true rfl)) dL_law_1066 ⟨Nat.le_of_ble_eq_true rfl, Nat.le_of_ble_eq_true rfl⟩) hS (fun q _ h => hFc q h) hFc (fun k5 u5 t9 H1 locs ht hvm hw5 hB hz1 hk1 hS => ?_)
  obtain ⟨hP1, hD1⟩ := hB
  rw [ht] at hP1
  obtain ⟨hP, hD⟩ := va_join (wr := qW cI q g0 v0 0 g 0 ++ gW v0 cG (fun _ => none)) (w1 := oW cO o0 u5) hP hD [0, 1, 2, 3, 4, 5, 6, 10] [7, 8, 9] rfl rfl (by decide) (by decide) hk1 hFc hP1 hD1
  generalize H1 = H at hP hS ⊢
  have hP : va_P D vwCl (qW cI q g0 v0 0 g 0 ++ gW v0 cG (fun _ => none) ++ oW cO o0 u5) H := hP
  have hD : va_D (fun q : Nat => s.heap.size ≤ q) (qW cI q g0 v0 0 g 0 ++ gW v0 cG (fun _ => none) ++ oW cO o0 u5) := hD
  obtain ⟨hT5, hA5⟩ := hw5
  refine lv_istore (lv' := [(5, .int k5), (4, .int 0), (3, .ref o0), (2, .ref q), (1, .ref h), (0, .ref b)]) hx hb dL_law_1069 hl (by decide) rfl (fun ls hl => ?_)
  refine lv_aload_n hx hb dL_law_1071 rfl (lv_at hl 3 rfl) ?_
  refine law_ld (n := 1) C0 hS (lv_at hl 5 rfl) (lv_at hl 1 rfl) (by decide) (by decide) dL_law_1072 dL_law_1073 dL_law_1075 dL_law_1076 dL_law_1077 rfl rfl rfl rfl rfl ?_
  have hFc := va_free (wc := qW cI q g0 v0 0 g 0) hD hS hA [0, 1] rfl
  refine va_calli (va_runV (As := [.int (xs 1)]) (rest := []) ⟨hx, hb, hml, hown, hts⟩ (c_X5_act_0 l D cI _ q g0 v0 0 g 0 (xs 1) hg0) (cwV 1 hts gL_law_X5_act rfl rfl rfl (by decide +kernel) ⟨Nat.le_of_ble_eq_true rfl, Nat.le_of_ble_eq_true rfl⟩) ⟨preM_blind, va_recv hK hP (ci := 5) (q0 := 0) rfl rfl, preM_of (hP.sub (ws' := qW cI q g0 v0 0 g 0) [0, 1] rfl) hK hE (hD.sub (ws' := qW cI q g0 v0 0 g 0) [0, 1] (by decide) rfl) [.ref q, .int (xs 1)]⟩ rfl rfl hl.1 rfl (lv_room (Nat.le_of_ble_eq_true rfl)) dL_law_1078 ⟨Nat.le_of_ble_eq_true rfl, Nat.le_of_ble_eq_true rfl⟩) hS (fun q _ h => hFc q h) hFc (fun r6 u6 t9 H1 locs ht hvm hw6 hB hz1 hk1 hS => ?_)
  obtain ⟨hP1, -, hD1⟩ := hB
  rw [ht] at hP1
  obtain ⟨hP, hD⟩ := va_join (wr := oW cO o0 u5) (w1 := qW cI q g0 v0 u6.1 u6.2.1 u6.2.2) hP hD [0, 1] [3] rfl rfl (by decide) (by decide) hk1 hFc hP1 hD1
  generalize H1 = H at hP hS ⊢
  refine lv_istore (lv' := [(6, .int r6), (5, .int k5), (4, .int 0), (3, .ref o0), (2, .ref q), (1, .ref h), (0, .ref b)]) hx hb dL_law_1081 hl (by decide) rfl (fun ls hl => ?_)
  exact law_cmp (pc := 1083) E ⟨Nat.le_of_ble_eq_true rfl, Nat.le_of_ble_eq_true rfl⟩ (hP.sub (ws' := oW cO o0 u5 ++ qW cI q g0 v0 u6.1 u6.2.1 u6.2.2) [0, 1, 2] rfl) hS (lv_sub hl [6, 4, 3, 2, 1, 0] rfl) (hw6.1.trans hT5.symm) (law_an (ans := 0) (by unfold actT0; (repeat' split) <;> omega) hT5 (fun h => (hA5 h).trans (show Nat.toInt64 0 = (0 : Int32).toInt64 from rfl)) (fun h => absurd h (by unfold actT0; split <;> decide))) dL_law_1083 dL_law_1084 dL_law_1087 dL_law_1089 dL_law_1094 dL_law_1096 dL_law_1099 dL_law_1100 dL_law_1101 dL_law_1102 dL_law_1104 dL_law_1105 dL_law_1106 dL_law_1111 (by decide)
set_option maxHeartbeats 4000000 in
set_option maxRecDepth 100000 in
theorem law_c13 {p : Program} {l : Launch} {e : Env} {s : State} {m : MethodId} {below : List Frame} {meth : Method} {c : Code} {b : Nat} {xs : Nat → Int32} {D : va_G} {cI cO : ClassId} {e0 : Nat} {cG : ClassId} {H : Heap} {locs : List Loc} {ls : Array Slot} {h l0 m0 w0 q g0 v0 o0 : Nat} {a t y : Nat → Nat} {g : Nat → Int32} {fo : Nat → Int64} (hst : l.stackTraces = false) (E : lawE p s m meth c b xs D cI cO e0 cG) (hF : fresh g) (hl : lv_has ls 9 [(4, .int 0), (3, .ref o0), (2, .ref q), (1, .ref h), (0, .ref b)])
    (hP : va_P D vwCl (wW h (a 0) (t 0) l0 m0 ++ sW cI a s0 ++ sW cI t s0 ++ wL l0 0 e0 0 ++ mW cI m0 (y 0) w0 z0 ++ yW cI y y0s ++ qW cI q g0 v0 0 g 0 ++ gW v0 cG (fun _ => none) ++ oW cO o0 fo) H) (hD : va_D (fun q : Nat => s.heap.size ≤ q) (wW h (a 0) (t 0) l0 m0 ++ sW cI a s0 ++ sW cI t s0 ++ wL l0 0 e0 0 ++ mW cI m0 (y 0) w0 z0 ++ yW cI y y0s ++ qW cI q g0 v0 0 g 0 ++ gW v0 cG (fun _ => none) ++ oW cO o0 fo)) (hS : va_S (fun q : Nat => s.heap.size ≤ q) s.heap H locs) : W p l e room_1 s m #[Value.ref b] below meth c H locs 30 3000 (lw_Z below #[Value.ref b] s) (F0 m 1114 ls []) := by
  obtain ⟨C0, hK2, hXV, hN, hTX, hEX, hG⟩ := id E
  obtain ⟨hx, hb, hr, hml, hown, hts, hX, hbl, hlocks, hgv⟩ := id C0
  have hK := K_1 hK2
  have hE := hXV.1
  have hA : ∀ q : Nat, s.heap.size ≤ q → (fun q : Nat => s.heap.size ≤ q) q := fun _ h => h
  have hg0 : g (680 : Int32).toNatClampNeg = 0 := hF.2 _ (by decide)
  have hP := hP.sub (ws' := wW h (a 0) (t 0) l0 m0 ++ sW cI a s0 ++ qW cI q g0 v0 0 g 0 ++ gW v0 cG (fun _ => none) ++ oW cO o0 fo) [0, 1, 2, 3, 4, 5, 6, 19, 20, 21, 22] rfl
  have hD := hD.sub (ws' := wW h (a 0) (t 0) l0 m0 ++ sW cI a s0 ++ qW cI q g0 v0 0 g 0 ++ gW v0 cG (fun _ => none) ++ oW cO o0 fo) [0, 1, 2, 3, 4, 5, 6, 19, 20, 21, 22] (by decide) rfl
  refine lv_aload_n hx hb dL_law_1114 rfl (lv_at hl 3 rfl) ?_
  refine law_ld (n := 1) C0 hS (lv_at hl 4 rfl) (lv_at hl 0 rfl) (by decide) (by decide) dL_law_1115 dL_law_1116 dL_law_1118 dL_law_1119 dL_law_1120 rfl rfl rfl rfl rfl ?_
  refine lv_aload_n hx hb dL_law_1121 rfl (lv_at hl 1 rfl) ?_
  have hFc := va_free (wc := wW h (a 0) (t 0) l0 m0 ++ sW cI a s0 ++ oW cO o0 fo) hD hS hA [0, 1, 2, 3, 4, 5, 6, 10] rfl
  refine va_calli (vx_runSW (As := [.ref h, .int (xs 1), .ref o0]) (rest := []) ⟨hx, hb, hml, hown, hts⟩ (c_L_follow_0 l hst D cI cO _ h (t 0) l0 m0 a s0 (xs 1) o0 fo rfl) (vx_cwSW 3 hts gL_law_L_follow rfl rfl rfl (by decide +kernel) ⟨Nat.le_of_ble_eq_true rfl, Nat.le_of_ble_eq_true rfl⟩) ⟨preL_blind, preL_of (hP.sub (ws' := wW h (a 0) (t 0) l0 m0 ++ sW cI a s0 ++ oW cO o0 fo) [0, 1, 2, 3, 4, 5, 6, 10] rfl) hK2 hXV (hD.sub (ws' := wW h (a 0) (t 0) l0 m0 ++ sW cI a s0 ++ oW cO o0 fo) [0, 1, 2, 3, 4, 5, 6, 10] (by decide) rfl) hTX hN hS hFc [.ref h, .int (xs 1), .ref o0]⟩ rfl rfl hl.1 rfl (lv_room (Nat.le_of_ble_eq_true rfl)) dL_law_1122 ⟨Nat.le_of_ble_eq_true rfl, Nat.le_of_ble_eq_true rfl⟩) hS (fun q _ h => hFc q h) hFc (fun k5 u5 t9 H1 locs ht hvm hw5 hB hz1 hk1 hS => ?_)
  obtain ⟨hP1, hD1⟩ := hB
  rw [ht] at hP1
  obtain ⟨hP, hD⟩ := va_join (wr := qW cI q g0 v0 0 g 0 ++ gW v0 cG (fun _ => none)) (w1 := oW cO o0 u5) hP hD [0, 1, 2, 3, 4, 5, 6, 10] [7, 8, 9] rfl rfl (by decide) (by decide) hk1 hFc hP1 hD1
  generalize H1 = H at hP hS ⊢
  have hP : va_P D vwCl (qW cI q g0 v0 0 g 0 ++ gW v0 cG (fun _ => none) ++ oW cO o0 u5) H := hP
  have hD : va_D (fun q : Nat => s.heap.size ≤ q) (qW cI q g0 v0 0 g 0 ++ gW v0 cG (fun _ => none) ++ oW cO o0 u5) := hD
  obtain ⟨hT5, hA5⟩ := hw5
  refine lv_istore (lv' := [(5, .int k5), (4, .int 0), (3, .ref o0), (2, .ref q), (1, .ref h), (0, .ref b)]) hx hb dL_law_1125 hl (by decide) rfl (fun ls hl => ?_)
  refine lv_aload_n hx hb dL_law_1127 rfl (lv_at hl 3 rfl) ?_
  refine law_ld (n := 1) C0 hS (lv_at hl 5 rfl) (lv_at hl 1 rfl) (by decide) (by decide) dL_law_1128 dL_law_1129 dL_law_1131 dL_law_1132 dL_law_1133 rfl rfl rfl rfl rfl ?_
  have hFc := va_free (wc := qW cI q g0 v0 0 g 0) hD hS hA [0, 1] rfl
  refine va_calli (va_runV (As := [.int (xs 1)]) (rest := []) ⟨hx, hb, hml, hown, hts⟩ (c_X5_follow_0 l D cI _ q g0 v0 0 g 0 (xs 1) hg0) (cwV 1 hts gL_law_X5_follow rfl rfl rfl (by decide +kernel) ⟨Nat.le_of_ble_eq_true rfl, Nat.le_of_ble_eq_true rfl⟩) ⟨preM_blind, va_recv hK hP (ci := 5) (q0 := 0) rfl rfl, preM_of (hP.sub (ws' := qW cI q g0 v0 0 g 0) [0, 1] rfl) hK hE (hD.sub (ws' := qW cI q g0 v0 0 g 0) [0, 1] (by decide) rfl) [.ref q, .int (xs 1)]⟩ rfl rfl hl.1 rfl (lv_room (Nat.le_of_ble_eq_true rfl)) dL_law_1134 ⟨Nat.le_of_ble_eq_true rfl, Nat.le_of_ble_eq_true rfl⟩) hS (fun q _ h => hFc q h) hFc (fun r6 u6 t9 H1 locs ht hvm hw6 hB hz1 hk1 hS => ?_)
  obtain ⟨hP1, -, hD1⟩ := hB
  rw [ht] at hP1
  obtain ⟨hP, hD⟩ := va_join (wr := oW cO o0 u5) (w1 := qW cI q g0 v0 u6.1 u6.2.1 u6.2.2) hP hD [0, 1] [3] rfl rfl (by decide) (by decide) hk1 hFc hP1 hD1
  generalize H1 = H at hP hS ⊢
  refine lv_istore (lv' := [(6, .int r6), (5, .int k5), (4, .int 0), (3, .ref o0), (2, .ref q), (1, .ref h), (0, .ref b)]) hx hb dL_law_1137 hl (by decide) rfl (fun ls hl => ?_)
  exact law_cmp (pc := 1139) E ⟨Nat.le_of_ble_eq_true rfl, Nat.le_of_ble_eq_true rfl⟩ (hP.sub (ws' := oW cO o0 u5 ++ qW cI q g0 v0 u6.1 u6.2.1 u6.2.2) [0, 1, 2] rfl) hS (lv_sub hl [6, 4, 3, 2, 1, 0] rfl) (hw6.1.trans hT5.symm) (law_an (by unfold followT; (repeat' split) <;> omega) hT5 hA5 (fun h => hw6.2 h)) dL_law_1139 dL_law_1140 dL_law_1143 dL_law_1145 dL_law_1150 dL_law_1152 dL_law_1155 dL_law_1156 dL_law_1157 dL_law_1158 dL_law_1160 dL_law_1161 dL_law_1162 dL_law_1167 (by decide)
set_option maxHeartbeats 4000000 in
set_option maxRecDepth 100000 in
theorem law_c14 {p : Program} {l : Launch} {e : Env} {s : State} {m : MethodId} {below : List Frame} {meth : Method} {c : Code} {b : Nat} {xs : Nat → Int32} {D : va_G} {cI cO : ClassId} {e0 : Nat} {cG : ClassId} {H : Heap} {locs : List Loc} {ls : Array Slot} {h l0 m0 w0 q g0 v0 o0 : Nat} {a t y : Nat → Nat} {g : Nat → Int32} {fo : Nat → Int64} (hst : l.stackTraces = false) (E : lawE p s m meth c b xs D cI cO e0 cG) (hF : fresh g) (hl : lv_has ls 9 [(4, .int 0), (3, .ref o0), (2, .ref q), (1, .ref h), (0, .ref b)])
    (hP : va_P D vwCl (wW h (a 0) (t 0) l0 m0 ++ sW cI a s0 ++ sW cI t s0 ++ wL l0 0 e0 0 ++ mW cI m0 (y 0) w0 z0 ++ yW cI y y0s ++ qW cI q g0 v0 0 g 0 ++ gW v0 cG (fun _ => none) ++ oW cO o0 fo) H) (hD : va_D (fun q : Nat => s.heap.size ≤ q) (wW h (a 0) (t 0) l0 m0 ++ sW cI a s0 ++ sW cI t s0 ++ wL l0 0 e0 0 ++ mW cI m0 (y 0) w0 z0 ++ yW cI y y0s ++ qW cI q g0 v0 0 g 0 ++ gW v0 cG (fun _ => none) ++ oW cO o0 fo)) (hS : va_S (fun q : Nat => s.heap.size ≤ q) s.heap H locs) : W p l e room_1 s m #[Value.ref b] below meth c H locs 30 3000 (lw_Z below #[Value.ref b] s) (F0 m 1170 ls []) := by
  obtain ⟨C0, hK2, hXV, hN, hTX, hEX, hG⟩ := id E
  obtain ⟨hx, hb, hr, hml, hown, hts, hX, hbl, hlocks, hgv⟩ := id C0
  have hK := K_1 hK2
  have hE := hXV.1
  have hA : ∀ q : Nat, s.heap.size ≤ q → (fun q : Nat => s.heap.size ≤ q) q := fun _ h => h
  have hg0 : g (680 : Int32).toNatClampNeg = 0 := hF.2 _ (by decide)
  have hP := hP.sub (ws' := wW h (a 0) (t 0) l0 m0 ++ sW cI a s0 ++ qW cI q g0 v0 0 g 0 ++ gW v0 cG (fun _ => none) ++ oW cO o0 fo) [0, 1, 2, 3, 4, 5, 6, 19, 20, 21, 22] rfl
  have hD := hD.sub (ws' := wW h (a 0) (t 0) l0 m0 ++ sW cI a s0 ++ qW cI q g0 v0 0 g 0 ++ gW v0 cG (fun _ => none) ++ oW cO o0 fo) [0, 1, 2, 3, 4, 5, 6, 19, 20, 21, 22] (by decide) rfl
  refine lv_aload_n hx hb dL_law_1170 rfl (lv_at hl 3 rfl) ?_
  refine law_ld (n := 1) C0 hS (lv_at hl 4 rfl) (lv_at hl 0 rfl) (by decide) (by decide) dL_law_1171 dL_law_1172 dL_law_1174 dL_law_1175 dL_law_1176 rfl rfl rfl rfl rfl ?_
  refine lv_aload_n hx hb dL_law_1177 rfl (lv_at hl 1 rfl) ?_
  have hFc := va_free (wc := wW h (a 0) (t 0) l0 m0 ++ sW cI a s0 ++ oW cO o0 fo) hD hS hA [0, 1, 2, 3, 4, 5, 6, 10] rfl
  refine va_calli (vx_runSW (As := [.ref h, .int (xs 1), .ref o0]) (rest := []) ⟨hx, hb, hml, hown, hts⟩ (c_L_target l hst D cI cO _ h (t 0) l0 m0 a s0 (xs 1) o0 fo (by decide)) (vx_cwSW 3 hts gL_law_L_target rfl rfl rfl (by decide +kernel) ⟨Nat.le_of_ble_eq_true rfl, Nat.le_of_ble_eq_true rfl⟩) ⟨preL_blind, preL_of (hP.sub (ws' := wW h (a 0) (t 0) l0 m0 ++ sW cI a s0 ++ oW cO o0 fo) [0, 1, 2, 3, 4, 5, 6, 10] rfl) hK2 hXV (hD.sub (ws' := wW h (a 0) (t 0) l0 m0 ++ sW cI a s0 ++ oW cO o0 fo) [0, 1, 2, 3, 4, 5, 6, 10] (by decide) rfl) hTX hN hS hFc [.ref h, .int (xs 1), .ref o0]⟩ rfl rfl hl.1 rfl (lv_room (Nat.le_of_ble_eq_true rfl)) dL_law_1178 ⟨Nat.le_of_ble_eq_true rfl, Nat.le_of_ble_eq_true rfl⟩) hS (fun q _ h => hFc q h) hFc (fun k5 u5 t9 H1 locs ht hvm hw5 hB hz1 hk1 hS => ?_)
  obtain ⟨hP1, hD1⟩ := hB
  rw [ht] at hP1
  obtain ⟨hP, hD⟩ := va_join (wr := qW cI q g0 v0 0 g 0 ++ gW v0 cG (fun _ => none)) (w1 := oW cO o0 u5) hP hD [0, 1, 2, 3, 4, 5, 6, 10] [7, 8, 9] rfl rfl (by decide) (by decide) hk1 hFc hP1 hD1
  generalize H1 = H at hP hS ⊢
  have hP : va_P D vwCl (qW cI q g0 v0 0 g 0 ++ gW v0 cG (fun _ => none) ++ oW cO o0 u5) H := hP
  have hD : va_D (fun q : Nat => s.heap.size ≤ q) (qW cI q g0 v0 0 g 0 ++ gW v0 cG (fun _ => none) ++ oW cO o0 u5) := hD
  obtain ⟨hT5, hA5⟩ := hw5
  refine lv_istore (lv' := [(5, .int k5), (4, .int 0), (3, .ref o0), (2, .ref q), (1, .ref h), (0, .ref b)]) hx hb dL_law_1181 hl (by decide) rfl (fun ls hl => ?_)
  refine lv_aload_n hx hb dL_law_1183 rfl (lv_at hl 3 rfl) ?_
  refine law_ld (n := 1) C0 hS (lv_at hl 5 rfl) (lv_at hl 1 rfl) (by decide) (by decide) dL_law_1184 dL_law_1185 dL_law_1187 dL_law_1188 dL_law_1189 rfl rfl rfl rfl rfl ?_
  have hFc := va_free (wc := qW cI q g0 v0 0 g 0) hD hS hA [0, 1] rfl
  refine va_calli (va_runV (As := [.int (xs 1)]) (rest := []) ⟨hx, hb, hml, hown, hts⟩ (c_X5_target_0 l D cI _ q g0 v0 0 g 0 (xs 1) hg0) (cwV 1 hts gL_law_X5_target rfl rfl rfl (by decide +kernel) ⟨Nat.le_of_ble_eq_true rfl, Nat.le_of_ble_eq_true rfl⟩) ⟨preM_blind, va_recv hK hP (ci := 5) (q0 := 0) rfl rfl, preM_of (hP.sub (ws' := qW cI q g0 v0 0 g 0) [0, 1] rfl) hK hE (hD.sub (ws' := qW cI q g0 v0 0 g 0) [0, 1] (by decide) rfl) [.ref q, .int (xs 1)]⟩ rfl rfl hl.1 rfl (lv_room (Nat.le_of_ble_eq_true rfl)) dL_law_1190 ⟨Nat.le_of_ble_eq_true rfl, Nat.le_of_ble_eq_true rfl⟩) hS (fun q _ h => hFc q h) hFc (fun r6 u6 t9 H1 locs ht hvm hw6 hB hz1 hk1 hS => ?_)
  obtain ⟨hP1, -, hD1⟩ := hB
  rw [ht] at hP1
  obtain ⟨hP, hD⟩ := va_join (wr := oW cO o0 u5) (w1 := qW cI q g0 v0 u6.1 u6.2.1 u6.2.2) hP hD [0, 1] [3] rfl rfl (by decide) (by decide) hk1 hFc hP1 hD1
  generalize H1 = H at hP hS ⊢
  refine lv_istore (lv' := [(6, .int r6), (5, .int k5), (4, .int 0), (3, .ref o0), (2, .ref q), (1, .ref h), (0, .ref b)]) hx hb dL_law_1193 hl (by decide) rfl (fun ls hl => ?_)
  exact law_cmp (pc := 1195) E ⟨Nat.le_of_ble_eq_true rfl, Nat.le_of_ble_eq_true rfl⟩ (hP.sub (ws' := oW cO o0 u5 ++ qW cI q g0 v0 u6.1 u6.2.1 u6.2.2) [0, 1, 2] rfl) hS (lv_sub hl [6, 4, 3, 2, 1, 0] rfl) (hw6.1.trans (by rw [hT5, s0_target])) (law_an (by unfold targetT; (repeat' split) <;> omega) hT5 hA5 (fun h => absurd h (by rw [s0_target]; decide))) dL_law_1195 dL_law_1196 dL_law_1199 dL_law_1201 dL_law_1206 dL_law_1208 dL_law_1211 dL_law_1212 dL_law_1213 dL_law_1214 dL_law_1216 dL_law_1217 dL_law_1218 dL_law_1223 (by decide)
set_option maxHeartbeats 4000000 in
set_option maxRecDepth 100000 in
theorem law_c15 {p : Program} {l : Launch} {e : Env} {s : State} {m : MethodId} {below : List Frame} {meth : Method} {c : Code} {b : Nat} {xs : Nat → Int32} {D : va_G} {cI cO : ClassId} {e0 : Nat} {cG : ClassId} {H : Heap} {locs : List Loc} {ls : Array Slot} {h l0 m0 w0 q g0 v0 o0 : Nat} {a t y : Nat → Nat} {g : Nat → Int32} {fo : Nat → Int64} (hst : l.stackTraces = false) (E : lawE p s m meth c b xs D cI cO e0 cG) (hF : fresh g) (hl : lv_has ls 9 [(4, .int 0), (3, .ref o0), (2, .ref q), (1, .ref h), (0, .ref b)])
    (hP : va_P D vwCl (wW h (a 0) (t 0) l0 m0 ++ sW cI a s0 ++ sW cI t s0 ++ wL l0 0 e0 0 ++ mW cI m0 (y 0) w0 z0 ++ yW cI y y0s ++ qW cI q g0 v0 0 g 0 ++ gW v0 cG (fun _ => none) ++ oW cO o0 fo) H) (hD : va_D (fun q : Nat => s.heap.size ≤ q) (wW h (a 0) (t 0) l0 m0 ++ sW cI a s0 ++ sW cI t s0 ++ wL l0 0 e0 0 ++ mW cI m0 (y 0) w0 z0 ++ yW cI y y0s ++ qW cI q g0 v0 0 g 0 ++ gW v0 cG (fun _ => none) ++ oW cO o0 fo)) (hS : va_S (fun q : Nat => s.heap.size ≤ q) s.heap H locs) : W p l e room_1 s m #[Value.ref b] below meth c H locs 30 3000 (lw_Z below #[Value.ref b] s) (F0 m 1226 ls []) := by
  obtain ⟨C0, hK2, hXV, hN, hTX, hEX, hG⟩ := id E
  obtain ⟨hx, hb, hr, hml, hown, hts, hX, hbl, hlocks, hgv⟩ := id C0
  have hK := K_1 hK2
  have hE := hXV.1
  have hA : ∀ q : Nat, s.heap.size ≤ q → (fun q : Nat => s.heap.size ≤ q) q := fun _ h => h
  have hg0 : g (680 : Int32).toNatClampNeg = 0 := hF.2 _ (by decide)
  have hP := hP.sub (ws' := wW h (a 0) (t 0) l0 m0 ++ sW cI a s0 ++ qW cI q g0 v0 0 g 0 ++ gW v0 cG (fun _ => none) ++ oW cO o0 fo) [0, 1, 2, 3, 4, 5, 6, 19, 20, 21, 22] rfl
  have hD := hD.sub (ws' := wW h (a 0) (t 0) l0 m0 ++ sW cI a s0 ++ qW cI q g0 v0 0 g 0 ++ gW v0 cG (fun _ => none) ++ oW cO o0 fo) [0, 1, 2, 3, 4, 5, 6, 19, 20, 21, 22] (by decide) rfl
  refine lv_aload_n hx hb dL_law_1226 rfl (lv_at hl 3 rfl) ?_
  refine law_ld (n := 1) C0 hS (lv_at hl 4 rfl) (lv_at hl 0 rfl) (by decide) (by decide) dL_law_1227 dL_law_1228 dL_law_1230 dL_law_1231 dL_law_1232 rfl rfl rfl rfl rfl ?_
  refine law_ld (n := 2) C0 hS (lv_at hl 4 rfl) (lv_at hl 0 rfl) (by decide) (by decide) dL_law_1233 dL_law_1234 dL_law_1236 dL_law_1237 dL_law_1238 rfl rfl rfl rfl rfl ?_
  refine lv_aload_n hx hb dL_law_1239 rfl (lv_at hl 1 rfl) ?_
  have hFc := va_free (wc := wW h (a 0) (t 0) l0 m0 ++ sW cI a s0 ++ oW cO o0 fo) hD hS hA [0, 1, 2, 3, 4, 5, 6, 10] rfl
  refine va_calli (vx_runSW (As := [.ref h, .int (xs 1), .int (xs 2), .ref o0]) (rest := []) ⟨hx, hb, hml, hown, hts⟩ (c_L_way_0 l hst D cI cO _ h (t 0) l0 m0 a s0 (xs 1) (xs 2) o0 fo rfl) (vx_cwSW 4 hts gL_law_L_way rfl rfl rfl (by decide +kernel) ⟨Nat.le_of_ble_eq_true rfl, Nat.le_of_ble_eq_true rfl⟩) ⟨preL_blind, preL_of (hP.sub (ws' := wW h (a 0) (t 0) l0 m0 ++ sW cI a s0 ++ oW cO o0 fo) [0, 1, 2, 3, 4, 5, 6, 10] rfl) hK2 hXV (hD.sub (ws' := wW h (a 0) (t 0) l0 m0 ++ sW cI a s0 ++ oW cO o0 fo) [0, 1, 2, 3, 4, 5, 6, 10] (by decide) rfl) hTX hN hS hFc [.ref h, .int (xs 1), .int (xs 2), .ref o0]⟩ rfl rfl hl.1 rfl (lv_room (Nat.le_of_ble_eq_true rfl)) dL_law_1240 ⟨Nat.le_of_ble_eq_true rfl, Nat.le_of_ble_eq_true rfl⟩) hS (fun q _ h => hFc q h) hFc (fun k5 u5 t9 H1 locs ht hvm hw5 hB hz1 hk1 hS => ?_)
  obtain ⟨hP1, hD1⟩ := hB
  rw [ht] at hP1
  obtain ⟨hP, hD⟩ := va_join (wr := qW cI q g0 v0 0 g 0 ++ gW v0 cG (fun _ => none)) (w1 := oW cO o0 u5) hP hD [0, 1, 2, 3, 4, 5, 6, 10] [7, 8, 9] rfl rfl (by decide) (by decide) hk1 hFc hP1 hD1
  generalize H1 = H at hP hS ⊢
  have hP : va_P D vwCl (qW cI q g0 v0 0 g 0 ++ gW v0 cG (fun _ => none) ++ oW cO o0 u5) H := hP
  have hD : va_D (fun q : Nat => s.heap.size ≤ q) (qW cI q g0 v0 0 g 0 ++ gW v0 cG (fun _ => none) ++ oW cO o0 u5) := hD
  obtain ⟨hT5, hA5⟩ := hw5
  refine lv_istore (lv' := [(5, .int k5), (4, .int 0), (3, .ref o0), (2, .ref q), (1, .ref h), (0, .ref b)]) hx hb dL_law_1243 hl (by decide) rfl (fun ls hl => ?_)
  refine lv_aload_n hx hb dL_law_1245 rfl (lv_at hl 3 rfl) ?_
  refine law_ld (n := 1) C0 hS (lv_at hl 5 rfl) (lv_at hl 1 rfl) (by decide) (by decide) dL_law_1246 dL_law_1247 dL_law_1249 dL_law_1250 dL_law_1251 rfl rfl rfl rfl rfl ?_
  refine law_ld (n := 2) C0 hS (lv_at hl 5 rfl) (lv_at hl 1 rfl) (by decide) (by decide) dL_law_1252 dL_law_1253 dL_law_1255 dL_law_1256 dL_law_1257 rfl rfl rfl rfl rfl ?_
  have hFc := va_free (wc := qW cI q g0 v0 0 g 0) hD hS hA [0, 1] rfl
  refine va_calli (va_runV (As := [.int (xs 1), .int (xs 2)]) (rest := []) ⟨hx, hb, hml, hown, hts⟩ (c_X5_way_0 l D cI _ q g0 v0 0 g 0 (xs 1) (xs 2) hg0) (cwV 2 hts gL_law_X5_way rfl rfl rfl (by decide +kernel) ⟨Nat.le_of_ble_eq_true rfl, Nat.le_of_ble_eq_true rfl⟩) ⟨preM_blind, va_recv hK hP (ci := 5) (q0 := 0) rfl rfl, preM_of (hP.sub (ws' := qW cI q g0 v0 0 g 0) [0, 1] rfl) hK hE (hD.sub (ws' := qW cI q g0 v0 0 g 0) [0, 1] (by decide) rfl) [.ref q, .int (xs 1), .int (xs 2)]⟩ rfl rfl hl.1 rfl (lv_room (Nat.le_of_ble_eq_true rfl)) dL_law_1258 ⟨Nat.le_of_ble_eq_true rfl, Nat.le_of_ble_eq_true rfl⟩) hS (fun q _ h => hFc q h) hFc (fun r6 u6 t9 H1 locs ht hvm hw6 hB hz1 hk1 hS => ?_)
  obtain ⟨hP1, -, hD1⟩ := hB
  rw [ht] at hP1
  obtain ⟨hP, hD⟩ := va_join (wr := oW cO o0 u5) (w1 := qW cI q g0 v0 u6.1 u6.2.1 u6.2.2) hP hD [0, 1] [3] rfl rfl (by decide) (by decide) hk1 hFc hP1 hD1
  generalize H1 = H at hP hS ⊢
  refine lv_istore (lv' := [(6, .int r6), (5, .int k5), (4, .int 0), (3, .ref o0), (2, .ref q), (1, .ref h), (0, .ref b)]) hx hb dL_law_1261 hl (by decide) rfl (fun ls hl => ?_)
  exact law_cmp (pc := 1263) E ⟨Nat.le_of_ble_eq_true rfl, Nat.le_of_ble_eq_true rfl⟩ (hP.sub (ws' := oW cO o0 u5 ++ qW cI q g0 v0 u6.1 u6.2.1 u6.2.2) [0, 1, 2] rfl) hS (lv_sub hl [6, 4, 3, 2, 1, 0] rfl) (hw6.1.trans hT5.symm) (law_an (ans := 0) (by decide) hT5 (fun h => (hA5 h).trans (show Nat.toInt64 0 = (0 : Int32).toInt64 from rfl)) (fun h => absurd h (by decide))) dL_law_1263 dL_law_1264 dL_law_1267 dL_law_1269 dL_law_1274 dL_law_1276 dL_law_1279 dL_law_1280 dL_law_1281 dL_law_1282 dL_law_1284 dL_law_1285 dL_law_1286 dL_law_1291 (by decide)
set_option maxHeartbeats 4000000 in
set_option maxRecDepth 100000 in
theorem law_c16 {p : Program} {l : Launch} {e : Env} {s : State} {m : MethodId} {below : List Frame} {meth : Method} {c : Code} {b : Nat} {xs : Nat → Int32} {D : va_G} {cI cO : ClassId} {e0 : Nat} {cG : ClassId} {H : Heap} {locs : List Loc} {ls : Array Slot} {h l0 m0 w0 q g0 v0 o0 : Nat} {a t y : Nat → Nat} {g : Nat → Int32} {fo : Nat → Int64} (hst : l.stackTraces = false) (E : lawE p s m meth c b xs D cI cO e0 cG) (hF : fresh g) (hl : lv_has ls 9 [(4, .int 0), (3, .ref o0), (2, .ref q), (1, .ref h), (0, .ref b)])
    (hP : va_P D vwCl (wW h (a 0) (t 0) l0 m0 ++ sW cI a s0 ++ sW cI t s0 ++ wL l0 0 e0 0 ++ mW cI m0 (y 0) w0 z0 ++ yW cI y y0s ++ qW cI q g0 v0 0 g 0 ++ gW v0 cG (fun _ => none) ++ oW cO o0 fo) H) (hD : va_D (fun q : Nat => s.heap.size ≤ q) (wW h (a 0) (t 0) l0 m0 ++ sW cI a s0 ++ sW cI t s0 ++ wL l0 0 e0 0 ++ mW cI m0 (y 0) w0 z0 ++ yW cI y y0s ++ qW cI q g0 v0 0 g 0 ++ gW v0 cG (fun _ => none) ++ oW cO o0 fo)) (hS : va_S (fun q : Nat => s.heap.size ≤ q) s.heap H locs) : W p l e room_1 s m #[Value.ref b] below meth c H locs 30 3000 (lw_Z below #[Value.ref b] s) (F0 m 1294 ls []) := by
  obtain ⟨C0, hK2, hXV, hN, hTX, hEX, hG⟩ := id E
  obtain ⟨hx, hb, hr, hml, hown, hts, hX, hbl, hlocks, hgv⟩ := id C0
  have hK := K_1 hK2
  have hE := hXV.1
  have hA : ∀ q : Nat, s.heap.size ≤ q → (fun q : Nat => s.heap.size ≤ q) q := fun _ h => h
  have hg0 : g (680 : Int32).toNatClampNeg = 0 := hF.2 _ (by decide)
  have hP := hP.sub (ws' := wW h (a 0) (t 0) l0 m0 ++ sW cI a s0 ++ qW cI q g0 v0 0 g 0 ++ gW v0 cG (fun _ => none) ++ oW cO o0 fo) [0, 1, 2, 3, 4, 5, 6, 19, 20, 21, 22] rfl
  have hD := hD.sub (ws' := wW h (a 0) (t 0) l0 m0 ++ sW cI a s0 ++ qW cI q g0 v0 0 g 0 ++ gW v0 cG (fun _ => none) ++ oW cO o0 fo) [0, 1, 2, 3, 4, 5, 6, 19, 20, 21, 22] (by decide) rfl
  refine lv_aload_n hx hb dL_law_1294 rfl (lv_at hl 3 rfl) ?_
  refine law_ld (n := 1) C0 hS (lv_at hl 4 rfl) (lv_at hl 0 rfl) (by decide) (by decide) dL_law_1295 dL_law_1296 dL_law_1298 dL_law_1299 dL_law_1300 rfl rfl rfl rfl rfl ?_
  refine law_ld (n := 2) C0 hS (lv_at hl 4 rfl) (lv_at hl 0 rfl) (by decide) (by decide) dL_law_1301 dL_law_1302 dL_law_1304 dL_law_1305 dL_law_1306 rfl rfl rfl rfl rfl ?_
  refine lv_aload_n hx hb dL_law_1307 rfl (lv_at hl 1 rfl) ?_
  have hFc := va_free (wc := wW h (a 0) (t 0) l0 m0 ++ sW cI a s0 ++ oW cO o0 fo) hD hS hA [0, 1, 2, 3, 4, 5, 6, 10] rfl
  refine va_calli (vx_runSW (As := [.ref h, .int (xs 1), .int (xs 2), .ref o0]) (rest := []) ⟨hx, hb, hml, hown, hts⟩ (c_L_worth_0 l hst D cI cO _ h (t 0) l0 m0 a s0 (xs 1) (xs 2) o0 fo rfl) (vx_cwSW 4 hts gL_law_L_worth rfl rfl rfl (by decide +kernel) ⟨Nat.le_of_ble_eq_true rfl, Nat.le_of_ble_eq_true rfl⟩) ⟨preL_blind, preL_of (hP.sub (ws' := wW h (a 0) (t 0) l0 m0 ++ sW cI a s0 ++ oW cO o0 fo) [0, 1, 2, 3, 4, 5, 6, 10] rfl) hK2 hXV (hD.sub (ws' := wW h (a 0) (t 0) l0 m0 ++ sW cI a s0 ++ oW cO o0 fo) [0, 1, 2, 3, 4, 5, 6, 10] (by decide) rfl) hTX hN hS hFc [.ref h, .int (xs 1), .int (xs 2), .ref o0]⟩ rfl rfl hl.1 rfl (lv_room (Nat.le_of_ble_eq_true rfl)) dL_law_1308 ⟨Nat.le_of_ble_eq_true rfl, Nat.le_of_ble_eq_true rfl⟩) hS (fun q _ h => hFc q h) hFc (fun k5 u5 t9 H1 locs ht hvm hw5 hB hz1 hk1 hS => ?_)
  obtain ⟨hP1, hD1⟩ := hB
  rw [ht] at hP1
  obtain ⟨hP, hD⟩ := va_join (wr := qW cI q g0 v0 0 g 0 ++ gW v0 cG (fun _ => none)) (w1 := oW cO o0 u5) hP hD [0, 1, 2, 3, 4, 5, 6, 10] [7, 8, 9] rfl rfl (by decide) (by decide) hk1 hFc hP1 hD1
  generalize H1 = H at hP hS ⊢
  have hP : va_P D vwCl (qW cI q g0 v0 0 g 0 ++ gW v0 cG (fun _ => none) ++ oW cO o0 u5) H := hP
  have hD : va_D (fun q : Nat => s.heap.size ≤ q) (qW cI q g0 v0 0 g 0 ++ gW v0 cG (fun _ => none) ++ oW cO o0 u5) := hD
  obtain ⟨hT5, hA5⟩ := hw5
  refine lv_istore (lv' := [(5, .int k5), (4, .int 0), (3, .ref o0), (2, .ref q), (1, .ref h), (0, .ref b)]) hx hb dL_law_1311 hl (by decide) rfl (fun ls hl => ?_)
  refine lv_aload_n hx hb dL_law_1313 rfl (lv_at hl 3 rfl) ?_
  refine law_ld (n := 1) C0 hS (lv_at hl 5 rfl) (lv_at hl 1 rfl) (by decide) (by decide) dL_law_1314 dL_law_1315 dL_law_1317 dL_law_1318 dL_law_1319 rfl rfl rfl rfl rfl ?_
  refine law_ld (n := 2) C0 hS (lv_at hl 5 rfl) (lv_at hl 1 rfl) (by decide) (by decide) dL_law_1320 dL_law_1321 dL_law_1323 dL_law_1324 dL_law_1325 rfl rfl rfl rfl rfl ?_
  have hFc := va_free (wc := qW cI q g0 v0 0 g 0) hD hS hA [0, 1] rfl
  refine va_calli (va_runV (As := [.int (xs 1), .int (xs 2)]) (rest := []) ⟨hx, hb, hml, hown, hts⟩ (c_X5_worth_0 l D cI _ q g0 v0 0 g 0 (xs 1) (xs 2) hg0) (cwV 2 hts gL_law_X5_worth rfl rfl rfl (by decide +kernel) ⟨Nat.le_of_ble_eq_true rfl, Nat.le_of_ble_eq_true rfl⟩) ⟨preM_blind, va_recv hK hP (ci := 5) (q0 := 0) rfl rfl, preM_of (hP.sub (ws' := qW cI q g0 v0 0 g 0) [0, 1] rfl) hK hE (hD.sub (ws' := qW cI q g0 v0 0 g 0) [0, 1] (by decide) rfl) [.ref q, .int (xs 1), .int (xs 2)]⟩ rfl rfl hl.1 rfl (lv_room (Nat.le_of_ble_eq_true rfl)) dL_law_1326 ⟨Nat.le_of_ble_eq_true rfl, Nat.le_of_ble_eq_true rfl⟩) hS (fun q _ h => hFc q h) hFc (fun r6 u6 t9 H1 locs ht hvm hw6 hB hz1 hk1 hS => ?_)
  obtain ⟨hP1, -, hD1⟩ := hB
  rw [ht] at hP1
  obtain ⟨hP, hD⟩ := va_join (wr := oW cO o0 u5) (w1 := qW cI q g0 v0 u6.1 u6.2.1 u6.2.2) hP hD [0, 1] [3] rfl rfl (by decide) (by decide) hk1 hFc hP1 hD1
  generalize H1 = H at hP hS ⊢
  refine lv_istore (lv' := [(6, .int r6), (5, .int k5), (4, .int 0), (3, .ref o0), (2, .ref q), (1, .ref h), (0, .ref b)]) hx hb dL_law_1329 hl (by decide) rfl (fun ls hl => ?_)
  exact law_cmp (pc := 1331) E ⟨Nat.le_of_ble_eq_true rfl, Nat.le_of_ble_eq_true rfl⟩ (hP.sub (ws' := oW cO o0 u5 ++ qW cI q g0 v0 u6.1 u6.2.1 u6.2.2) [0, 1, 2] rfl) hS (lv_sub hl [6, 4, 3, 2, 1, 0] rfl) (hw6.1.trans hT5.symm) (law_an (ans := 0) (by decide) hT5 (fun h => (hA5 h).trans (show Nat.toInt64 0 = (0 : Int32).toInt64 from rfl)) (fun h => absurd h (by decide))) dL_law_1331 dL_law_1332 dL_law_1335 dL_law_1337 dL_law_1342 dL_law_1344 dL_law_1347 dL_law_1348 dL_law_1349 dL_law_1350 dL_law_1352 dL_law_1353 dL_law_1354 dL_law_1359 (by decide)
set_option maxHeartbeats 4000000 in
set_option maxRecDepth 100000 in
theorem law_c17 {p : Program} {l : Launch} {e : Env} {s : State} {m : MethodId} {below : List Frame} {meth : Method} {c : Code} {b : Nat} {xs : Nat → Int32} {D : va_G} {cI cO : ClassId} {e0 : Nat} {cG : ClassId} {H : Heap} {locs : List Loc} {ls : Array Slot} {h l0 m0 w0 q g0 v0 o0 : Nat} {a t y : Nat → Nat} {g : Nat → Int32} {fo : Nat → Int64} (hst : l.stackTraces = false) (E : lawE p s m meth c b xs D cI cO e0 cG) (hF : fresh g) (hl : lv_has ls 9 [(4, .int 0), (3, .ref o0), (2, .ref q), (1, .ref h), (0, .ref b)])
    (hP : va_P D vwCl (wW h (a 0) (t 0) l0 m0 ++ sW cI a s0 ++ sW cI t s0 ++ wL l0 0 e0 0 ++ mW cI m0 (y 0) w0 z0 ++ yW cI y y0s ++ qW cI q g0 v0 0 g 0 ++ gW v0 cG (fun _ => none) ++ oW cO o0 fo) H) (hD : va_D (fun q : Nat => s.heap.size ≤ q) (wW h (a 0) (t 0) l0 m0 ++ sW cI a s0 ++ sW cI t s0 ++ wL l0 0 e0 0 ++ mW cI m0 (y 0) w0 z0 ++ yW cI y y0s ++ qW cI q g0 v0 0 g 0 ++ gW v0 cG (fun _ => none) ++ oW cO o0 fo)) (hS : va_S (fun q : Nat => s.heap.size ≤ q) s.heap H locs) : W p l e room_1 s m #[Value.ref b] below meth c H locs 30 3000 (lw_Z below #[Value.ref b] s) (F0 m 1362 ls []) := by
  obtain ⟨C0, hK2, hXV, hN, hTX, hEX, hG⟩ := id E
  obtain ⟨hx, hb, hr, hml, hown, hts, hX, hbl, hlocks, hgv⟩ := id C0
  have hK := K_1 hK2
  have hE := hXV.1
  have hA : ∀ q : Nat, s.heap.size ≤ q → (fun q : Nat => s.heap.size ≤ q) q := fun _ h => h
  have hg0 : g (680 : Int32).toNatClampNeg = 0 := hF.2 _ (by decide)
  have hP := hP.sub (ws' := wW h (a 0) (t 0) l0 m0 ++ sW cI a s0 ++ qW cI q g0 v0 0 g 0 ++ gW v0 cG (fun _ => none) ++ oW cO o0 fo) [0, 1, 2, 3, 4, 5, 6, 19, 20, 21, 22] rfl
  have hD := hD.sub (ws' := wW h (a 0) (t 0) l0 m0 ++ sW cI a s0 ++ qW cI q g0 v0 0 g 0 ++ gW v0 cG (fun _ => none) ++ oW cO o0 fo) [0, 1, 2, 3, 4, 5, 6, 19, 20, 21, 22] (by decide) rfl
  refine lv_aload_n hx hb dL_law_1362 rfl (lv_at hl 3 rfl) ?_
  refine law_ld (n := 1) C0 hS (lv_at hl 4 rfl) (lv_at hl 0 rfl) (by decide) (by decide) dL_law_1363 dL_law_1364 dL_law_1366 dL_law_1367 dL_law_1368 rfl rfl rfl rfl rfl ?_
  refine lv_aload_n hx hb dL_law_1369 rfl (lv_at hl 1 rfl) ?_
  have hFc := va_free (wc := wW h (a 0) (t 0) l0 m0 ++ sW cI a s0 ++ oW cO o0 fo) hD hS hA [0, 1, 2, 3, 4, 5, 6, 10] rfl
  refine va_calli (vx_runSW (As := [.ref h, .int (xs 1), .ref o0]) (rest := []) ⟨hx, hb, hml, hown, hts⟩ (c_L_plan_0 l hst D cI cO _ h (t 0) l0 m0 a s0 (xs 1) o0 fo rfl) (vx_cwSW 3 hts gL_law_L_plan rfl rfl rfl (by decide +kernel) ⟨Nat.le_of_ble_eq_true rfl, Nat.le_of_ble_eq_true rfl⟩) ⟨preL_blind, preL_of (hP.sub (ws' := wW h (a 0) (t 0) l0 m0 ++ sW cI a s0 ++ oW cO o0 fo) [0, 1, 2, 3, 4, 5, 6, 10] rfl) hK2 hXV (hD.sub (ws' := wW h (a 0) (t 0) l0 m0 ++ sW cI a s0 ++ oW cO o0 fo) [0, 1, 2, 3, 4, 5, 6, 10] (by decide) rfl) hTX hN hS hFc [.ref h, .int (xs 1), .ref o0]⟩ rfl rfl hl.1 rfl (lv_room (Nat.le_of_ble_eq_true rfl)) dL_law_1370 ⟨Nat.le_of_ble_eq_true rfl, Nat.le_of_ble_eq_true rfl⟩) hS (fun q _ h => hFc q h) hFc (fun k5 u5 t9 H1 locs ht hvm hw5 hB hz1 hk1 hS => ?_)
  obtain ⟨hP1, hD1⟩ := hB
  rw [ht] at hP1
  obtain ⟨hP, hD⟩ := va_join (wr := qW cI q g0 v0 0 g 0 ++ gW v0 cG (fun _ => none)) (w1 := oW cO o0 u5) hP hD [0, 1, 2, 3, 4, 5, 6, 10] [7, 8, 9] rfl rfl (by decide) (by decide) hk1 hFc hP1 hD1
  generalize H1 = H at hP hS ⊢
  have hP : va_P D vwCl (qW cI q g0 v0 0 g 0 ++ gW v0 cG (fun _ => none) ++ oW cO o0 u5) H := hP
  have hD : va_D (fun q : Nat => s.heap.size ≤ q) (qW cI q g0 v0 0 g 0 ++ gW v0 cG (fun _ => none) ++ oW cO o0 u5) := hD
  obtain ⟨hT5, hA5⟩ := hw5
  refine lv_istore (lv' := [(5, .int k5), (4, .int 0), (3, .ref o0), (2, .ref q), (1, .ref h), (0, .ref b)]) hx hb dL_law_1373 hl (by decide) rfl (fun ls hl => ?_)
  refine lv_aload_n hx hb dL_law_1375 rfl (lv_at hl 3 rfl) ?_
  refine law_ld (n := 1) C0 hS (lv_at hl 5 rfl) (lv_at hl 1 rfl) (by decide) (by decide) dL_law_1376 dL_law_1377 dL_law_1379 dL_law_1380 dL_law_1381 rfl rfl rfl rfl rfl ?_
  have hFc := va_free (wc := qW cI q g0 v0 0 g 0) hD hS hA [0, 1] rfl
  refine va_calli (va_runV (As := [.int (xs 1)]) (rest := []) ⟨hx, hb, hml, hown, hts⟩ (c_X5_plan_0 l D cI _ q g0 v0 0 g 0 (xs 1) hg0) (cwV 1 hts gL_law_X5_plan rfl rfl rfl (by decide +kernel) ⟨Nat.le_of_ble_eq_true rfl, Nat.le_of_ble_eq_true rfl⟩) ⟨preM_blind, va_recv hK hP (ci := 5) (q0 := 0) rfl rfl, preM_of (hP.sub (ws' := qW cI q g0 v0 0 g 0) [0, 1] rfl) hK hE (hD.sub (ws' := qW cI q g0 v0 0 g 0) [0, 1] (by decide) rfl) [.ref q, .int (xs 1)]⟩ rfl rfl hl.1 rfl (lv_room (Nat.le_of_ble_eq_true rfl)) dL_law_1382 ⟨Nat.le_of_ble_eq_true rfl, Nat.le_of_ble_eq_true rfl⟩) hS (fun q _ h => hFc q h) hFc (fun r6 u6 t9 H1 locs ht hvm hw6 hB hz1 hk1 hS => ?_)
  obtain ⟨hP1, -, hD1⟩ := hB
  rw [ht] at hP1
  obtain ⟨hP, hD⟩ := va_join (wr := oW cO o0 u5) (w1 := qW cI q g0 v0 u6.1 u6.2.1 u6.2.2) hP hD [0, 1] [3] rfl rfl (by decide) (by decide) hk1 hFc hP1 hD1
  generalize H1 = H at hP hS ⊢
  refine lv_istore (lv' := [(6, .int r6), (5, .int k5), (4, .int 0), (3, .ref o0), (2, .ref q), (1, .ref h), (0, .ref b)]) hx hb dL_law_1385 hl (by decide) rfl (fun ls hl => ?_)
  exact law_cmp (pc := 1387) E ⟨Nat.le_of_ble_eq_true rfl, Nat.le_of_ble_eq_true rfl⟩ (hP.sub (ws' := oW cO o0 u5 ++ qW cI q g0 v0 u6.1 u6.2.1 u6.2.2) [0, 1, 2] rfl) hS (lv_sub hl [6, 4, 3, 2, 1, 0] rfl) (hw6.1.trans hT5.symm) (law_an (ans := 0) (by decide) hT5 (fun h => (hA5 h).trans (show Nat.toInt64 0 = (0 : Int32).toInt64 from rfl)) (fun h => absurd h (by decide))) dL_law_1387 dL_law_1388 dL_law_1391 dL_law_1393 dL_law_1398 dL_law_1400 dL_law_1403 dL_law_1404 dL_law_1405 dL_law_1406 dL_law_1408 dL_law_1409 dL_law_1410 dL_law_1415 (by decide)
set_option maxHeartbeats 4000000 in
set_option maxRecDepth 100000 in
theorem law_c18 {p : Program} {l : Launch} {e : Env} {s : State} {m : MethodId} {below : List Frame} {meth : Method} {c : Code} {b : Nat} {xs : Nat → Int32} {D : va_G} {cI cO : ClassId} {e0 : Nat} {cG : ClassId} {H : Heap} {locs : List Loc} {ls : Array Slot} {h l0 m0 w0 q g0 v0 o0 : Nat} {a t y : Nat → Nat} {g : Nat → Int32} {fo : Nat → Int64} (hst : l.stackTraces = false) (E : lawE p s m meth c b xs D cI cO e0 cG) (hF : fresh g) (hl : lv_has ls 9 [(4, .int 0), (3, .ref o0), (2, .ref q), (1, .ref h), (0, .ref b)])
    (hP : va_P D vwCl (wW h (a 0) (t 0) l0 m0 ++ sW cI a s0 ++ sW cI t s0 ++ wL l0 0 e0 0 ++ mW cI m0 (y 0) w0 z0 ++ yW cI y y0s ++ qW cI q g0 v0 0 g 0 ++ gW v0 cG (fun _ => none) ++ oW cO o0 fo) H) (hD : va_D (fun q : Nat => s.heap.size ≤ q) (wW h (a 0) (t 0) l0 m0 ++ sW cI a s0 ++ sW cI t s0 ++ wL l0 0 e0 0 ++ mW cI m0 (y 0) w0 z0 ++ yW cI y y0s ++ qW cI q g0 v0 0 g 0 ++ gW v0 cG (fun _ => none) ++ oW cO o0 fo)) (hS : va_S (fun q : Nat => s.heap.size ≤ q) s.heap H locs) : W p l e room_1 s m #[Value.ref b] below meth c H locs 30 3000 (lw_Z below #[Value.ref b] s) (F0 m 1418 ls []) := by
  obtain ⟨C0, hK2, hXV, hN, hTX, hEX, hG⟩ := id E
  obtain ⟨hx, hb, hr, hml, hown, hts, hX, hbl, hlocks, hgv⟩ := id C0
  have hK := K_1 hK2
  have hE := hXV.1
  have hA : ∀ q : Nat, s.heap.size ≤ q → (fun q : Nat => s.heap.size ≤ q) q := fun _ h => h
  have hg0 : g (680 : Int32).toNatClampNeg = 0 := hF.2 _ (by decide)
  have hP := hP.sub (ws' := wW h (a 0) (t 0) l0 m0 ++ sW cI a s0 ++ wL l0 0 e0 0 ++ qW cI q g0 v0 0 g 0 ++ gW v0 cG (fun _ => none) ++ oW cO o0 fo) [0, 1, 2, 3, 4, 5, 6, 13, 19, 20, 21, 22] rfl
  have hD := hD.sub (ws' := wW h (a 0) (t 0) l0 m0 ++ sW cI a s0 ++ wL l0 0 e0 0 ++ qW cI q g0 v0 0 g 0 ++ gW v0 cG (fun _ => none) ++ oW cO o0 fo) [0, 1, 2, 3, 4, 5, 6, 13, 19, 20, 21, 22] (by decide) rfl
  refine lv_aload_n hx hb dL_law_1418 rfl (lv_at hl 3 rfl) ?_
  refine lv_aload_n hx hb dL_law_1419 rfl (lv_at hl 1 rfl) ?_
  have hFc := va_free (wc := wW h (a 0) (t 0) l0 m0 ++ sW cI a s0 ++ wL l0 0 e0 0 ++ oW cO o0 fo) hD hS hA [0, 1, 2, 3, 4, 5, 6, 7, 11] rfl
  refine va_calli (vx_runSW (As := [.ref h, .ref o0]) (rest := []) ⟨hx, hb, hml, hown, hts⟩ (c_L_save_0 l hst D cI cO _ h (t 0) l0 m0 a s0 0 e0 o0 fo) (vx_cwSW 2 hts gL_law_L_save rfl rfl rfl (by decide +kernel) ⟨Nat.le_of_ble_eq_true rfl, Nat.le_of_ble_eq_true rfl⟩) ⟨preLE_blind, preLE_of (hP.sub (ws' := wW h (a 0) (t 0) l0 m0 ++ sW cI a s0 ++ wL l0 0 e0 0 ++ oW cO o0 fo) [0, 1, 2, 3, 4, 5, 6, 7, 11] rfl) hK2 hXV (hD.sub (ws' := wW h (a 0) (t 0) l0 m0 ++ sW cI a s0 ++ wL l0 0 e0 0 ++ oW cO o0 fo) [0, 1, 2, 3, 4, 5, 6, 7, 11] (by decide) rfl) hTX hN hEX hS hFc [.ref h, .ref o0]⟩ rfl rfl hl.1 rfl (lv_room (Nat.le_of_ble_eq_true rfl)) dL_law_1420 ⟨Nat.le_of_ble_eq_true rfl, Nat.le_of_ble_eq_true rfl⟩) hS (fun q _ h => hFc q h) hFc (fun k5 u5 t9 H1 locs ht hvm hw5 hB hz1 hk1 hS => ?_)
  obtain ⟨hP1, hD1⟩ := hB
  rw [ht] at hP1
  obtain ⟨hP, hD⟩ := va_join (wr := qW cI q g0 v0 0 g 0 ++ gW v0 cG (fun _ => none)) (w1 := oW cO o0 u5) hP hD [0, 1, 2, 3, 4, 5, 6, 7, 11] [8, 9, 10] rfl rfl (by decide) (by decide) hk1 hFc hP1 hD1
  generalize H1 = H at hP hS ⊢
  have hP : va_P D vwCl (qW cI q g0 v0 0 g 0 ++ gW v0 cG (fun _ => none) ++ oW cO o0 u5) H := hP
  have hD : va_D (fun q : Nat => s.heap.size ≤ q) (qW cI q g0 v0 0 g 0 ++ gW v0 cG (fun _ => none) ++ oW cO o0 u5) := hD
  obtain ⟨hT5, hA5⟩ := hw5
  refine lv_istore (lv' := [(5, .int k5), (4, .int 0), (3, .ref o0), (2, .ref q), (1, .ref h), (0, .ref b)]) hx hb dL_law_1423 hl (by decide) rfl (fun ls hl => ?_)
  refine lv_aload_n hx hb dL_law_1425 rfl (lv_at hl 3 rfl) ?_
  have hFc := va_free (wc := qW cI q g0 v0 0 g 0 ++ gW v0 cG (fun _ => none)) hD hS hA [0, 1, 2] rfl
  refine va_calli (va_runV (As := []) (rest := []) ⟨hx, hb, hml, hown, hts⟩ (c_X5_save_0 l D cI _ q g0 v0 0 g 0 cG (fun _ => none)  rfl) (cwV 0 hts gL_law_X5_save rfl rfl rfl (by decide +kernel) ⟨Nat.le_of_ble_eq_true rfl, Nat.le_of_ble_eq_true rfl⟩) ⟨preG_blind, va_recv hK hP (ci := 5) (q0 := 0) rfl rfl, preG_of (hP.sub (ws' := qW cI q g0 v0 0 g 0 ++ gW v0 cG (fun _ => none)) [0, 1, 2] rfl) hK hE (hD.sub (ws' := qW cI q g0 v0 0 g 0 ++ gW v0 cG (fun _ => none)) [0, 1, 2] (by decide) rfl) hG [.ref q]⟩ rfl rfl hl.1 rfl (lv_room (Nat.le_of_ble_eq_true rfl)) dL_law_1426 ⟨Nat.le_of_ble_eq_true rfl, Nat.le_of_ble_eq_true rfl⟩) hS (fun q _ h => hFc q h) hFc (fun r6 u6 t9 H1 locs ht hvm hw6 hB hz1 hk1 hS => ?_)
  obtain ⟨hP1, -, hD1⟩ := hB
  rw [ht] at hP1
  obtain ⟨hP, hD⟩ := va_join (wr := oW cO o0 u5) (w1 := qW cI q g0 v0 u6.1 u6.2.1 u6.2.2) hP hD [0, 1, 2] [3] rfl rfl (by decide) (by decide) hk1 hFc hP1 hD1
  generalize H1 = H at hP hS ⊢
  refine lv_istore (lv' := [(6, .int r6), (5, .int k5), (4, .int 0), (3, .ref o0), (2, .ref q), (1, .ref h), (0, .ref b)]) hx hb dL_law_1429 hl (by decide) rfl (fun ls hl => ?_)
  exact law_cmp (pc := 1431) E ⟨Nat.le_of_ble_eq_true rfl, Nat.le_of_ble_eq_true rfl⟩ (hP.sub (ws' := oW cO o0 u5 ++ qW cI q g0 v0 u6.1 u6.2.1 u6.2.2) [0, 1, 2] rfl) hS (lv_sub hl [6, 4, 3, 2, 1, 0] rfl) (hw6.2.trans hT5.symm) (law_an (by decide) hT5 hA5 (fun _ => hw6.1)) dL_law_1431 dL_law_1432 dL_law_1435 dL_law_1437 dL_law_1442 dL_law_1444 dL_law_1447 dL_law_1448 dL_law_1449 dL_law_1450 dL_law_1452 dL_law_1453 dL_law_1454 dL_law_1459 (by decide)
set_option maxHeartbeats 4000000 in
set_option maxRecDepth 100000 in
theorem law_c19 {p : Program} {l : Launch} {e : Env} {s : State} {m : MethodId} {below : List Frame} {meth : Method} {c : Code} {b : Nat} {xs : Nat → Int32} {D : va_G} {cI cO : ClassId} {e0 : Nat} {cG : ClassId} {H : Heap} {locs : List Loc} {ls : Array Slot} {h l0 m0 w0 q g0 v0 o0 : Nat} {a t y : Nat → Nat} {g : Nat → Int32} {fo : Nat → Int64} (hst : l.stackTraces = false) (E : lawE p s m meth c b xs D cI cO e0 cG) (hF : fresh g) (hl : lv_has ls 9 [(4, .int 0), (3, .ref o0), (2, .ref q), (1, .ref h), (0, .ref b)])
    (hP : va_P D vwCl (wW h (a 0) (t 0) l0 m0 ++ sW cI a s0 ++ sW cI t s0 ++ wL l0 0 e0 0 ++ mW cI m0 (y 0) w0 z0 ++ yW cI y y0s ++ qW cI q g0 v0 0 g 0 ++ gW v0 cG (fun _ => none) ++ oW cO o0 fo) H) (hD : va_D (fun q : Nat => s.heap.size ≤ q) (wW h (a 0) (t 0) l0 m0 ++ sW cI a s0 ++ sW cI t s0 ++ wL l0 0 e0 0 ++ mW cI m0 (y 0) w0 z0 ++ yW cI y y0s ++ qW cI q g0 v0 0 g 0 ++ gW v0 cG (fun _ => none) ++ oW cO o0 fo)) (hS : va_S (fun q : Nat => s.heap.size ≤ q) s.heap H locs) : W p l e room_1 s m #[Value.ref b] below meth c H locs 30 3000 (lw_Z below #[Value.ref b] s) (F0 m 1462 ls []) := by
  obtain ⟨C0, hK2, hXV, hN, hTX, hEX, hG⟩ := id E
  obtain ⟨hx, hb, hr, hml, hown, hts, hX, hbl, hlocks, hgv⟩ := id C0
  have hK := K_1 hK2
  have hE := hXV.1
  have hA : ∀ q : Nat, s.heap.size ≤ q → (fun q : Nat => s.heap.size ≤ q) q := fun _ h => h
  have hg0 : g (680 : Int32).toNatClampNeg = 0 := hF.2 _ (by decide)
  have hP := hP.sub (ws' := wW h (a 0) (t 0) l0 m0 ++ sW cI a s0 ++ wL l0 0 e0 0 ++ qW cI q g0 v0 0 g 0 ++ gW v0 cG (fun _ => none) ++ oW cO o0 fo) [0, 1, 2, 3, 4, 5, 6, 13, 19, 20, 21, 22] rfl
  have hD := hD.sub (ws' := wW h (a 0) (t 0) l0 m0 ++ sW cI a s0 ++ wL l0 0 e0 0 ++ qW cI q g0 v0 0 g 0 ++ gW v0 cG (fun _ => none) ++ oW cO o0 fo) [0, 1, 2, 3, 4, 5, 6, 13, 19, 20, 21, 22] (by decide) rfl
  refine lv_aload_n hx hb dL_law_1462 rfl (lv_at hl 3 rfl) ?_
  refine law_ld (n := 1) C0 hS (lv_at hl 4 rfl) (lv_at hl 0 rfl) (by decide) (by decide) dL_law_1463 dL_law_1464 dL_law_1466 dL_law_1467 dL_law_1468 rfl rfl rfl rfl rfl ?_
  refine lv_aload_n hx hb dL_law_1469 rfl (lv_at hl 1 rfl) ?_
  have hFc := va_free (wc := wW h (a 0) (t 0) l0 m0 ++ sW cI a s0 ++ wL l0 0 e0 0 ++ oW cO o0 fo) hD hS hA [0, 1, 2, 3, 4, 5, 6, 7, 11] rfl
  refine va_calli (vx_runSW (As := [.ref h, .int (xs 1), .ref o0]) (rest := []) ⟨hx, hb, hml, hown, hts⟩ (c_L_load_0 l hst D cI cO _ h (t 0) l0 m0 a s0 0 e0 (xs 1) o0 fo) (vx_cwSW 3 hts gL_law_L_load rfl rfl rfl (by decide +kernel) ⟨Nat.le_of_ble_eq_true rfl, Nat.le_of_ble_eq_true rfl⟩) ⟨preL_blind, preL_of (hP.sub (ws' := wW h (a 0) (t 0) l0 m0 ++ sW cI a s0 ++ wL l0 0 e0 0 ++ oW cO o0 fo) [0, 1, 2, 3, 4, 5, 6, 7, 11] rfl) hK2 hXV (hD.sub (ws' := wW h (a 0) (t 0) l0 m0 ++ sW cI a s0 ++ wL l0 0 e0 0 ++ oW cO o0 fo) [0, 1, 2, 3, 4, 5, 6, 7, 11] (by decide) rfl) hTX hN hS hFc [.ref h, .int (xs 1), .ref o0]⟩ rfl rfl hl.1 rfl (lv_room (Nat.le_of_ble_eq_true rfl)) dL_law_1470 ⟨Nat.le_of_ble_eq_true rfl, Nat.le_of_ble_eq_true rfl⟩) hS (fun q _ h => hFc q h) hFc (fun k5 u5 t9 H1 locs ht hvm hw5 hB hz1 hk1 hS => ?_)
  obtain ⟨hP1, hD1⟩ := hB
  rw [ht] at hP1
  obtain ⟨hP, hD⟩ := va_join (wr := qW cI q g0 v0 0 g 0 ++ gW v0 cG (fun _ => none)) (w1 := oW cO o0 u5) hP hD [0, 1, 2, 3, 4, 5, 6, 7, 11] [8, 9, 10] rfl rfl (by decide) (by decide) hk1 hFc hP1 hD1
  generalize H1 = H at hP hS ⊢
  have hP : va_P D vwCl (qW cI q g0 v0 0 g 0 ++ gW v0 cG (fun _ => none) ++ oW cO o0 u5) H := hP
  have hD : va_D (fun q : Nat => s.heap.size ≤ q) (qW cI q g0 v0 0 g 0 ++ gW v0 cG (fun _ => none) ++ oW cO o0 u5) := hD
  obtain ⟨hT5, hA5⟩ := hw5
  refine lv_istore (lv' := [(5, .int k5), (4, .int 0), (3, .ref o0), (2, .ref q), (1, .ref h), (0, .ref b)]) hx hb dL_law_1473 hl (by decide) rfl (fun ls hl => ?_)
  refine lv_aload_n hx hb dL_law_1475 rfl (lv_at hl 3 rfl) ?_
  refine law_ld (n := 1) C0 hS (lv_at hl 5 rfl) (lv_at hl 1 rfl) (by decide) (by decide) dL_law_1476 dL_law_1477 dL_law_1479 dL_law_1480 dL_law_1481 rfl rfl rfl rfl rfl ?_
  have hFc := va_free (wc := qW cI q g0 v0 0 g 0) hD hS hA [0, 1] rfl
  refine va_calli (va_runV (As := [.int (xs 1)]) (rest := []) ⟨hx, hb, hml, hown, hts⟩ (c_X5_load_0 l D cI _ q g0 v0 0 g 0 (xs 1) rfl) (cwV 1 hts gL_law_X5_load rfl rfl rfl (by decide +kernel) ⟨Nat.le_of_ble_eq_true rfl, Nat.le_of_ble_eq_true rfl⟩) ⟨preM_blind, va_recv hK hP (ci := 5) (q0 := 0) rfl rfl, preM_of (hP.sub (ws' := qW cI q g0 v0 0 g 0) [0, 1] rfl) hK hE (hD.sub (ws' := qW cI q g0 v0 0 g 0) [0, 1] (by decide) rfl) [.ref q, .int (xs 1)]⟩ rfl rfl hl.1 rfl (lv_room (Nat.le_of_ble_eq_true rfl)) dL_law_1482 ⟨Nat.le_of_ble_eq_true rfl, Nat.le_of_ble_eq_true rfl⟩) hS (fun q _ h => hFc q h) hFc (fun r6 u6 t9 H1 locs ht hvm hw6 hB hz1 hk1 hS => ?_)
  obtain ⟨hP1, -, hD1⟩ := hB
  rw [ht] at hP1
  obtain ⟨hP, hD⟩ := va_join (wr := oW cO o0 u5) (w1 := qW cI q g0 v0 u6.1 u6.2.1 u6.2.2) hP hD [0, 1] [3] rfl rfl (by decide) (by decide) hk1 hFc hP1 hD1
  generalize H1 = H at hP hS ⊢
  refine lv_istore (lv' := [(6, .int r6), (5, .int k5), (4, .int 0), (3, .ref o0), (2, .ref q), (1, .ref h), (0, .ref b)]) hx hb dL_law_1485 hl (by decide) rfl (fun ls hl => ?_)
  exact law_cmp (pc := 1487) E ⟨Nat.le_of_ble_eq_true rfl, Nat.le_of_ble_eq_true rfl⟩ (hP.sub (ws' := oW cO o0 u5 ++ qW cI q g0 v0 u6.1 u6.2.1 u6.2.2) [0, 1, 2] rfl) hS (lv_sub hl [6, 4, 3, 2, 1, 0] rfl) (hw6.1.trans hT5.symm) (law_an (ans := 0) (by decide) hT5 (fun h => (hA5 h).trans (show Nat.toInt64 0 = (0 : Int32).toInt64 from rfl)) (fun h => absurd h (by decide))) dL_law_1487 dL_law_1488 dL_law_1491 dL_law_1493 dL_law_1498 dL_law_1500 dL_law_1503 dL_law_1504 dL_law_1505 dL_law_1506 dL_law_1508 dL_law_1509 dL_law_1510 dL_law_1515 (by decide)
set_option maxHeartbeats 4000000 in
set_option maxRecDepth 100000 in
theorem law_c20 {p : Program} {l : Launch} {e : Env} {s : State} {m : MethodId} {below : List Frame} {meth : Method} {c : Code} {b : Nat} {xs : Nat → Int32} {D : va_G} {cI cO : ClassId} {e0 : Nat} {cG : ClassId} {H : Heap} {locs : List Loc} {ls : Array Slot} {h l0 m0 w0 q g0 v0 o0 : Nat} {a t y : Nat → Nat} {g : Nat → Int32} {fo : Nat → Int64} (hst : l.stackTraces = false) (E : lawE p s m meth c b xs D cI cO e0 cG) (hF : fresh g) (hl : lv_has ls 9 [(4, .int 0), (3, .ref o0), (2, .ref q), (1, .ref h), (0, .ref b)])
    (hP : va_P D vwCl (wW h (a 0) (t 0) l0 m0 ++ sW cI a s0 ++ sW cI t s0 ++ wL l0 0 e0 0 ++ mW cI m0 (y 0) w0 z0 ++ yW cI y y0s ++ qW cI q g0 v0 0 g 0 ++ gW v0 cG (fun _ => none) ++ oW cO o0 fo) H) (hD : va_D (fun q : Nat => s.heap.size ≤ q) (wW h (a 0) (t 0) l0 m0 ++ sW cI a s0 ++ sW cI t s0 ++ wL l0 0 e0 0 ++ mW cI m0 (y 0) w0 z0 ++ yW cI y y0s ++ qW cI q g0 v0 0 g 0 ++ gW v0 cG (fun _ => none) ++ oW cO o0 fo)) (hS : va_S (fun q : Nat => s.heap.size ≤ q) s.heap H locs) : W p l e room_1 s m #[Value.ref b] below meth c H locs 30 3000 (lw_Z below #[Value.ref b] s) (F0 m 1518 ls []) := by
  obtain ⟨C0, hK2, hXV, hN, hTX, hEX, hG⟩ := id E
  obtain ⟨hx, hb, hr, hml, hown, hts, hX, hbl, hlocks, hgv⟩ := id C0
  have hK := K_1 hK2
  have hE := hXV.1
  have hA : ∀ q : Nat, s.heap.size ≤ q → (fun q : Nat => s.heap.size ≤ q) q := fun _ h => h
  have hg0 : g (680 : Int32).toNatClampNeg = 0 := hF.2 _ (by decide)
  have hP := hP.sub (ws' := wW h (a 0) (t 0) l0 m0 ++ sW cI a s0 ++ qW cI q g0 v0 0 g 0 ++ gW v0 cG (fun _ => none) ++ oW cO o0 fo) [0, 1, 2, 3, 4, 5, 6, 19, 20, 21, 22] rfl
  have hD := hD.sub (ws' := wW h (a 0) (t 0) l0 m0 ++ sW cI a s0 ++ qW cI q g0 v0 0 g 0 ++ gW v0 cG (fun _ => none) ++ oW cO o0 fo) [0, 1, 2, 3, 4, 5, 6, 19, 20, 21, 22] (by decide) rfl
  refine lv_aload_n hx hb dL_law_1518 rfl (lv_at hl 3 rfl) ?_
  refine law_ld (n := 1) C0 hS (lv_at hl 4 rfl) (lv_at hl 0 rfl) (by decide) (by decide) dL_law_1519 dL_law_1520 dL_law_1522 dL_law_1523 dL_law_1524 rfl rfl rfl rfl rfl ?_
  refine law_ld (n := 2) C0 hS (lv_at hl 4 rfl) (lv_at hl 0 rfl) (by decide) (by decide) dL_law_1525 dL_law_1526 dL_law_1528 dL_law_1529 dL_law_1530 rfl rfl rfl rfl rfl ?_
  refine lv_aload_n hx hb dL_law_1531 rfl (lv_at hl 1 rfl) ?_
  have hFc := va_free (wc := wW h (a 0) (t 0) l0 m0 ++ sW cI a s0 ++ oW cO o0 fo) hD hS hA [0, 1, 2, 3, 4, 5, 6, 10] rfl
  refine va_calli (vx_runSW (As := [.ref h, .int (xs 1), .int (xs 2), .ref o0]) (rest := []) ⟨hx, hb, hml, hown, hts⟩ (c_L_hit l hst D cI cO _ h (t 0) l0 m0 a s0 (xs 1) (xs 2) o0 fo) (vx_cwSW 4 hts gL_law_L_hit rfl rfl rfl (by decide +kernel) ⟨Nat.le_of_ble_eq_true rfl, Nat.le_of_ble_eq_true rfl⟩) ⟨preL_blind, preL_of (hP.sub (ws' := wW h (a 0) (t 0) l0 m0 ++ sW cI a s0 ++ oW cO o0 fo) [0, 1, 2, 3, 4, 5, 6, 10] rfl) hK2 hXV (hD.sub (ws' := wW h (a 0) (t 0) l0 m0 ++ sW cI a s0 ++ oW cO o0 fo) [0, 1, 2, 3, 4, 5, 6, 10] (by decide) rfl) hTX hN hS hFc [.ref h, .int (xs 1), .int (xs 2), .ref o0]⟩ rfl rfl hl.1 rfl (lv_room (Nat.le_of_ble_eq_true rfl)) dL_law_1532 ⟨Nat.le_of_ble_eq_true rfl, Nat.le_of_ble_eq_true rfl⟩) hS (fun q _ h => hFc q h) hFc (fun k5 u5 t9 H1 locs ht hvm hw5 hB hz1 hk1 hS => ?_)
  obtain ⟨hP1, hD1⟩ := hB
  rw [ht] at hP1
  obtain ⟨hP, hD⟩ := va_join (wr := qW cI q g0 v0 0 g 0 ++ gW v0 cG (fun _ => none)) (w1 := oW cO o0 u5) hP hD [0, 1, 2, 3, 4, 5, 6, 10] [7, 8, 9] rfl rfl (by decide) (by decide) hk1 hFc hP1 hD1
  generalize H1 = H at hP hS ⊢
  have hP : va_P D vwCl (qW cI q g0 v0 0 g 0 ++ gW v0 cG (fun _ => none) ++ oW cO o0 u5) H := hP
  have hD : va_D (fun q : Nat => s.heap.size ≤ q) (qW cI q g0 v0 0 g 0 ++ gW v0 cG (fun _ => none) ++ oW cO o0 u5) := hD
  obtain ⟨hT5, hA5⟩ := hw5
  refine lv_istore (lv' := [(5, .int k5), (4, .int 0), (3, .ref o0), (2, .ref q), (1, .ref h), (0, .ref b)]) hx hb dL_law_1535 hl (by decide) rfl (fun ls hl => ?_)
  refine lv_aload_n hx hb dL_law_1537 rfl (lv_at hl 3 rfl) ?_
  refine law_ld (n := 1) C0 hS (lv_at hl 5 rfl) (lv_at hl 1 rfl) (by decide) (by decide) dL_law_1538 dL_law_1539 dL_law_1541 dL_law_1542 dL_law_1543 rfl rfl rfl rfl rfl ?_
  refine law_ld (n := 2) C0 hS (lv_at hl 5 rfl) (lv_at hl 1 rfl) (by decide) (by decide) dL_law_1544 dL_law_1545 dL_law_1547 dL_law_1548 dL_law_1549 rfl rfl rfl rfl rfl ?_
  have hFc := va_free (wc := qW cI q g0 v0 0 g 0) hD hS hA [0, 1] rfl
  refine va_calli (va_runV (As := [.int (xs 1), .int (xs 2)]) (rest := []) ⟨hx, hb, hml, hown, hts⟩ (c_X5_hit_0 l D cI _ q g0 v0 0 g 0 (xs 1) (xs 2) hg0) (cwV 2 hts gL_law_X5_hit rfl rfl rfl (by decide +kernel) ⟨Nat.le_of_ble_eq_true rfl, Nat.le_of_ble_eq_true rfl⟩) ⟨preM_blind, va_recv hK hP (ci := 5) (q0 := 0) rfl rfl, preM_of (hP.sub (ws' := qW cI q g0 v0 0 g 0) [0, 1] rfl) hK hE (hD.sub (ws' := qW cI q g0 v0 0 g 0) [0, 1] (by decide) rfl) [.ref q, .int (xs 1), .int (xs 2)]⟩ rfl rfl hl.1 rfl (lv_room (Nat.le_of_ble_eq_true rfl)) dL_law_1550 ⟨Nat.le_of_ble_eq_true rfl, Nat.le_of_ble_eq_true rfl⟩) hS (fun q _ h => hFc q h) hFc (fun r6 u6 t9 H1 locs ht hvm hw6 hB hz1 hk1 hS => ?_)
  obtain ⟨hP1, -, hD1⟩ := hB
  rw [ht] at hP1
  obtain ⟨hP, hD⟩ := va_join (wr := oW cO o0 u5) (w1 := qW cI q g0 v0 u6.1 u6.2.1 u6.2.2) hP hD [0, 1] [3] rfl rfl (by decide) (by decide) hk1 hFc hP1 hD1
  generalize H1 = H at hP hS ⊢
  refine lv_istore (lv' := [(6, .int r6), (5, .int k5), (4, .int 0), (3, .ref o0), (2, .ref q), (1, .ref h), (0, .ref b)]) hx hb dL_law_1553 hl (by decide) rfl (fun ls hl => ?_)
  exact law_cmp (pc := 1555) E ⟨Nat.le_of_ble_eq_true rfl, Nat.le_of_ble_eq_true rfl⟩ (hP.sub (ws' := oW cO o0 u5 ++ qW cI q g0 v0 u6.1 u6.2.1 u6.2.2) [0, 1, 2] rfl) hS (lv_sub hl [6, 4, 3, 2, 1, 0] rfl) (hw6.1.trans (by rw [hT5, s0_hit])) (law_an (by unfold hitT; (repeat' split) <;> omega) hT5 hA5 (fun h => absurd h (by rw [s0_hit]; decide))) dL_law_1555 dL_law_1556 dL_law_1559 dL_law_1561 dL_law_1566 dL_law_1568 dL_law_1571 dL_law_1572 dL_law_1573 dL_law_1574 dL_law_1576 dL_law_1577 dL_law_1578 dL_law_1583 (by decide)
set_option maxHeartbeats 4000000 in
set_option maxRecDepth 100000 in
theorem law_c21 {p : Program} {l : Launch} {e : Env} {s : State} {m : MethodId} {below : List Frame} {meth : Method} {c : Code} {b : Nat} {xs : Nat → Int32} {D : va_G} {cI cO : ClassId} {e0 : Nat} {cG : ClassId} {H : Heap} {locs : List Loc} {ls : Array Slot} {h l0 m0 w0 q g0 v0 o0 : Nat} {a t y : Nat → Nat} {g : Nat → Int32} {fo : Nat → Int64} (hst : l.stackTraces = false) (E : lawE p s m meth c b xs D cI cO e0 cG) (hF : fresh g) (hl : lv_has ls 9 [(4, .int 0), (3, .ref o0), (2, .ref q), (1, .ref h), (0, .ref b)])
    (hP : va_P D vwCl (wW h (a 0) (t 0) l0 m0 ++ sW cI a s0 ++ sW cI t s0 ++ wL l0 0 e0 0 ++ mW cI m0 (y 0) w0 z0 ++ yW cI y y0s ++ qW cI q g0 v0 0 g 0 ++ gW v0 cG (fun _ => none) ++ oW cO o0 fo) H) (hD : va_D (fun q : Nat => s.heap.size ≤ q) (wW h (a 0) (t 0) l0 m0 ++ sW cI a s0 ++ sW cI t s0 ++ wL l0 0 e0 0 ++ mW cI m0 (y 0) w0 z0 ++ yW cI y y0s ++ qW cI q g0 v0 0 g 0 ++ gW v0 cG (fun _ => none) ++ oW cO o0 fo)) (hS : va_S (fun q : Nat => s.heap.size ≤ q) s.heap H locs) : W p l e room_1 s m #[Value.ref b] below meth c H locs 30 3000 (lw_Z below #[Value.ref b] s) (F0 m 1586 ls []) := by
  obtain ⟨C0, hK2, hXV, hN, hTX, hEX, hG⟩ := id E
  obtain ⟨hx, hb, hr, hml, hown, hts, hX, hbl, hlocks, hgv⟩ := id C0
  have hK := K_1 hK2
  have hE := hXV.1
  have hA : ∀ q : Nat, s.heap.size ≤ q → (fun q : Nat => s.heap.size ≤ q) q := fun _ h => h
  have hg0 : g (680 : Int32).toNatClampNeg = 0 := hF.2 _ (by decide)
  have hP := hP.sub (ws' := wW h (a 0) (t 0) l0 m0 ++ sW cI a s0 ++ sW cI t s0 ++ qW cI q g0 v0 0 g 0 ++ gW v0 cG (fun _ => none) ++ oW cO o0 fo) [0, 1, 2, 3, 4, 5, 6, 7, 8, 9, 10, 11, 12, 19, 20, 21, 22] rfl
  have hD := hD.sub (ws' := wW h (a 0) (t 0) l0 m0 ++ sW cI a s0 ++ sW cI t s0 ++ qW cI q g0 v0 0 g 0 ++ gW v0 cG (fun _ => none) ++ oW cO o0 fo) [0, 1, 2, 3, 4, 5, 6, 7, 8, 9, 10, 11, 12, 19, 20, 21, 22] (by decide) rfl
  refine lv_aload_n hx hb dL_law_1586 rfl (lv_at hl 3 rfl) ?_
  refine law_ld (n := 1) C0 hS (lv_at hl 4 rfl) (lv_at hl 0 rfl) (by decide) (by decide) dL_law_1587 dL_law_1588 dL_law_1590 dL_law_1591 dL_law_1592 rfl rfl rfl rfl rfl ?_
  refine lv_aload_n hx hb dL_law_1593 rfl (lv_at hl 1 rfl) ?_
  have hFc := va_free (wc := wW h (a 0) (t 0) l0 m0 ++ sW cI a s0 ++ sW cI t s0 ++ oW cO o0 fo) hD hS hA [0, 1, 2, 3, 4, 5, 6, 7, 8, 9, 10, 11, 12, 16] rfl
  refine va_calli (vx_runSW (As := [.ref h, .int (xs 1), .ref o0]) (rest := []) ⟨hx, hb, hml, hown, hts⟩ (c_L_ahead_0 l hst D cI cO _ h l0 m0 a t s0 s0 (xs 1) o0 fo rfl) (vx_cwSW 3 hts gL_law_L_ahead rfl rfl rfl (by decide +kernel) ⟨Nat.le_of_ble_eq_true rfl, Nat.le_of_ble_eq_true rfl⟩) ⟨preL_blind, preL_of (hP.sub (ws' := wW h (a 0) (t 0) l0 m0 ++ sW cI a s0 ++ sW cI t s0 ++ oW cO o0 fo) [0, 1, 2, 3, 4, 5, 6, 7, 8, 9, 10, 11, 12, 16] rfl) hK2 hXV (hD.sub (ws' := wW h (a 0) (t 0) l0 m0 ++ sW cI a s0 ++ sW cI t s0 ++ oW cO o0 fo) [0, 1, 2, 3, 4, 5, 6, 7, 8, 9, 10, 11, 12, 16] (by decide) rfl) hTX hN hS hFc [.ref h, .int (xs 1), .ref o0]⟩ rfl rfl hl.1 rfl (lv_room (Nat.le_of_ble_eq_true rfl)) dL_law_1594 ⟨Nat.le_of_ble_eq_true rfl, Nat.le_of_ble_eq_true rfl⟩) hS (fun q _ h => hFc q h) hFc (fun k5 u5 t9 H1 locs ht hvm hw5 hB hz1 hk1 hS => ?_)
  obtain ⟨hP1, hD1⟩ := hB
  rw [ht] at hP1
  obtain ⟨hP, hD⟩ := va_join (wr := qW cI q g0 v0 0 g 0 ++ gW v0 cG (fun _ => none)) (w1 := oW cO o0 u5) hP hD [0, 1, 2, 3, 4, 5, 6, 7, 8, 9, 10, 11, 12, 16] [13, 14, 15] rfl rfl (by decide) (by decide) hk1 hFc hP1 hD1
  generalize H1 = H at hP hS ⊢
  have hP : va_P D vwCl (qW cI q g0 v0 0 g 0 ++ gW v0 cG (fun _ => none) ++ oW cO o0 u5) H := hP
  have hD : va_D (fun q : Nat => s.heap.size ≤ q) (qW cI q g0 v0 0 g 0 ++ gW v0 cG (fun _ => none) ++ oW cO o0 u5) := hD
  obtain ⟨hT5, hA5⟩ := hw5
  refine lv_istore (lv' := [(5, .int k5), (4, .int 0), (3, .ref o0), (2, .ref q), (1, .ref h), (0, .ref b)]) hx hb dL_law_1597 hl (by decide) rfl (fun ls hl => ?_)
  refine lv_aload_n hx hb dL_law_1599 rfl (lv_at hl 3 rfl) ?_
  refine law_ld (n := 1) C0 hS (lv_at hl 5 rfl) (lv_at hl 1 rfl) (by decide) (by decide) dL_law_1600 dL_law_1601 dL_law_1603 dL_law_1604 dL_law_1605 rfl rfl rfl rfl rfl ?_
  have hFc := va_free (wc := qW cI q g0 v0 0 g 0) hD hS hA [0, 1] rfl
  refine va_calli (va_runV (As := [.int (xs 1)]) (rest := []) ⟨hx, hb, hml, hown, hts⟩ (c_X5_ahead_0 l D cI _ q g0 v0 0 g 0 (xs 1) hg0) (cwV 1 hts gL_law_X5_ahead rfl rfl rfl (by decide +kernel) ⟨Nat.le_of_ble_eq_true rfl, Nat.le_of_ble_eq_true rfl⟩) ⟨preM_blind, va_recv hK hP (ci := 5) (q0 := 0) rfl rfl, preM_of (hP.sub (ws' := qW cI q g0 v0 0 g 0) [0, 1] rfl) hK hE (hD.sub (ws' := qW cI q g0 v0 0 g 0) [0, 1] (by decide) rfl) [.ref q, .int (xs 1)]⟩ rfl rfl hl.1 rfl (lv_room (Nat.le_of_ble_eq_true rfl)) dL_law_1606 ⟨Nat.le_of_ble_eq_true rfl, Nat.le_of_ble_eq_true rfl⟩) hS (fun q _ h => hFc q h) hFc (fun r6 u6 t9 H1 locs ht hvm hw6 hB hz1 hk1 hS => ?_)
  obtain ⟨hP1, -, hD1⟩ := hB
  rw [ht] at hP1
  obtain ⟨hP, hD⟩ := va_join (wr := oW cO o0 u5) (w1 := qW cI q g0 v0 u6.1 u6.2.1 u6.2.2) hP hD [0, 1] [3] rfl rfl (by decide) (by decide) hk1 hFc hP1 hD1
  generalize H1 = H at hP hS ⊢
  refine lv_istore (lv' := [(6, .int r6), (5, .int k5), (4, .int 0), (3, .ref o0), (2, .ref q), (1, .ref h), (0, .ref b)]) hx hb dL_law_1609 hl (by decide) rfl (fun ls hl => ?_)
  exact law_cmp (pc := 1611) E ⟨Nat.le_of_ble_eq_true rfl, Nat.le_of_ble_eq_true rfl⟩ (hP.sub (ws' := oW cO o0 u5 ++ qW cI q g0 v0 u6.1 u6.2.1 u6.2.2) [0, 1, 2] rfl) hS (lv_sub hl [6, 4, 3, 2, 1, 0] rfl) (hw6.1.trans hT5.symm) (law_an (ans := 0) (by unfold followT; (repeat' split) <;> omega) hT5 (fun h => (hA5 h).trans (show Nat.toInt64 0 = (0 : Int32).toInt64 from rfl)) (fun h => hw6.2 h)) dL_law_1611 dL_law_1612 dL_law_1615 dL_law_1617 dL_law_1622 dL_law_1624 dL_law_1627 dL_law_1628 dL_law_1629 dL_law_1630 dL_law_1632 dL_law_1633 dL_law_1634 dL_law_1639 (by decide)
set_option maxHeartbeats 4000000 in
set_option maxRecDepth 100000 in
theorem law_c22 {p : Program} {l : Launch} {e : Env} {s : State} {m : MethodId} {below : List Frame} {meth : Method} {c : Code} {b : Nat} {xs : Nat → Int32} {D : va_G} {cI cO : ClassId} {e0 : Nat} {cG : ClassId} {H : Heap} {locs : List Loc} {ls : Array Slot} {h l0 m0 w0 q g0 v0 o0 : Nat} {a t y : Nat → Nat} {g : Nat → Int32} {fo : Nat → Int64} (hst : l.stackTraces = false) (E : lawE p s m meth c b xs D cI cO e0 cG) (hF : fresh g) (hl : lv_has ls 9 [(4, .int 0), (3, .ref o0), (2, .ref q), (1, .ref h), (0, .ref b)])
    (hP : va_P D vwCl (wW h (a 0) (t 0) l0 m0 ++ sW cI a s0 ++ sW cI t s0 ++ wL l0 0 e0 0 ++ mW cI m0 (y 0) w0 z0 ++ yW cI y y0s ++ qW cI q g0 v0 0 g 0 ++ gW v0 cG (fun _ => none) ++ oW cO o0 fo) H) (hD : va_D (fun q : Nat => s.heap.size ≤ q) (wW h (a 0) (t 0) l0 m0 ++ sW cI a s0 ++ sW cI t s0 ++ wL l0 0 e0 0 ++ mW cI m0 (y 0) w0 z0 ++ yW cI y y0s ++ qW cI q g0 v0 0 g 0 ++ gW v0 cG (fun _ => none) ++ oW cO o0 fo)) (hS : va_S (fun q : Nat => s.heap.size ≤ q) s.heap H locs) : W p l e room_1 s m #[Value.ref b] below meth c H locs 30 3000 (lw_Z below #[Value.ref b] s) (F0 m 1642 ls []) := by
  obtain ⟨C0, hK2, hXV, hN, hTX, hEX, hG⟩ := id E
  obtain ⟨hx, hb, hr, hml, hown, hts, hX, hbl, hlocks, hgv⟩ := id C0
  have hK := K_1 hK2
  have hE := hXV.1
  have hA : ∀ q : Nat, s.heap.size ≤ q → (fun q : Nat => s.heap.size ≤ q) q := fun _ h => h
  have hg0 : g (680 : Int32).toNatClampNeg = 0 := hF.2 _ (by decide)
  have hP := hP.sub (ws' := wW h (a 0) (t 0) l0 m0 ++ sW cI a s0 ++ qW cI q g0 v0 0 g 0 ++ gW v0 cG (fun _ => none) ++ oW cO o0 fo) [0, 1, 2, 3, 4, 5, 6, 19, 20, 21, 22] rfl
  have hD := hD.sub (ws' := wW h (a 0) (t 0) l0 m0 ++ sW cI a s0 ++ qW cI q g0 v0 0 g 0 ++ gW v0 cG (fun _ => none) ++ oW cO o0 fo) [0, 1, 2, 3, 4, 5, 6, 19, 20, 21, 22] (by decide) rfl
  refine lv_aload_n hx hb dL_law_1642 rfl (lv_at hl 3 rfl) ?_
  refine law_ld (n := 1) C0 hS (lv_at hl 4 rfl) (lv_at hl 0 rfl) (by decide) (by decide) dL_law_1643 dL_law_1644 dL_law_1646 dL_law_1647 dL_law_1648 rfl rfl rfl rfl rfl ?_
  refine law_ld (n := 2) C0 hS (lv_at hl 4 rfl) (lv_at hl 0 rfl) (by decide) (by decide) dL_law_1649 dL_law_1650 dL_law_1652 dL_law_1653 dL_law_1654 rfl rfl rfl rfl rfl ?_
  refine lv_aload_n hx hb dL_law_1655 rfl (lv_at hl 1 rfl) ?_
  have hFc := va_free (wc := wW h (a 0) (t 0) l0 m0 ++ sW cI a s0 ++ oW cO o0 fo) hD hS hA [0, 1, 2, 3, 4, 5, 6, 10] rfl
  refine va_calli (vx_runSW (As := [.ref h, .int (xs 1), .int (xs 2), .ref o0]) (rest := []) ⟨hx, hb, hml, hown, hts⟩ (c_L_danger l hst D cI cO _ h (t 0) l0 m0 a s0 (xs 1) (xs 2) o0 fo (by decide)) (vx_cwSW 4 hts gL_law_L_danger rfl rfl rfl (by decide +kernel) ⟨Nat.le_of_ble_eq_true rfl, Nat.le_of_ble_eq_true rfl⟩) ⟨preL_blind, preL_of (hP.sub (ws' := wW h (a 0) (t 0) l0 m0 ++ sW cI a s0 ++ oW cO o0 fo) [0, 1, 2, 3, 4, 5, 6, 10] rfl) hK2 hXV (hD.sub (ws' := wW h (a 0) (t 0) l0 m0 ++ sW cI a s0 ++ oW cO o0 fo) [0, 1, 2, 3, 4, 5, 6, 10] (by decide) rfl) hTX hN hS hFc [.ref h, .int (xs 1), .int (xs 2), .ref o0]⟩ rfl rfl hl.1 rfl (lv_room (Nat.le_of_ble_eq_true rfl)) dL_law_1656 ⟨Nat.le_of_ble_eq_true rfl, Nat.le_of_ble_eq_true rfl⟩) hS (fun q _ h => hFc q h) hFc (fun k5 u5 t9 H1 locs ht hvm hw5 hB hz1 hk1 hS => ?_)
  obtain ⟨hP1, hD1⟩ := hB
  rw [ht] at hP1
  obtain ⟨hP, hD⟩ := va_join (wr := qW cI q g0 v0 0 g 0 ++ gW v0 cG (fun _ => none)) (w1 := oW cO o0 u5) hP hD [0, 1, 2, 3, 4, 5, 6, 10] [7, 8, 9] rfl rfl (by decide) (by decide) hk1 hFc hP1 hD1
  generalize H1 = H at hP hS ⊢
  have hP : va_P D vwCl (qW cI q g0 v0 0 g 0 ++ gW v0 cG (fun _ => none) ++ oW cO o0 u5) H := hP
  have hD : va_D (fun q : Nat => s.heap.size ≤ q) (qW cI q g0 v0 0 g 0 ++ gW v0 cG (fun _ => none) ++ oW cO o0 u5) := hD
  obtain ⟨hT5, hA5⟩ := hw5
  refine lv_istore (lv' := [(5, .int k5), (4, .int 0), (3, .ref o0), (2, .ref q), (1, .ref h), (0, .ref b)]) hx hb dL_law_1659 hl (by decide) rfl (fun ls hl => ?_)
  refine lv_aload_n hx hb dL_law_1661 rfl (lv_at hl 3 rfl) ?_
  refine law_ld (n := 1) C0 hS (lv_at hl 5 rfl) (lv_at hl 1 rfl) (by decide) (by decide) dL_law_1662 dL_law_1663 dL_law_1665 dL_law_1666 dL_law_1667 rfl rfl rfl rfl rfl ?_
  refine law_ld (n := 2) C0 hS (lv_at hl 5 rfl) (lv_at hl 1 rfl) (by decide) (by decide) dL_law_1668 dL_law_1669 dL_law_1671 dL_law_1672 dL_law_1673 rfl rfl rfl rfl rfl ?_
  have hFc := va_free (wc := qW cI q g0 v0 0 g 0) hD hS hA [0, 1] rfl
  refine va_calli (va_runV (As := [.int (xs 1), .int (xs 2)]) (rest := []) ⟨hx, hb, hml, hown, hts⟩ (c_X5_danger_0 l D cI _ q g0 v0 0 g 0 (xs 1) (xs 2) hg0) (cwV 2 hts gL_law_X5_danger rfl rfl rfl (by decide +kernel) ⟨Nat.le_of_ble_eq_true rfl, Nat.le_of_ble_eq_true rfl⟩) ⟨preM_blind, va_recv hK hP (ci := 5) (q0 := 0) rfl rfl, preM_of (hP.sub (ws' := qW cI q g0 v0 0 g 0) [0, 1] rfl) hK hE (hD.sub (ws' := qW cI q g0 v0 0 g 0) [0, 1] (by decide) rfl) [.ref q, .int (xs 1), .int (xs 2)]⟩ rfl rfl hl.1 rfl (lv_room (Nat.le_of_ble_eq_true rfl)) dL_law_1674 ⟨Nat.le_of_ble_eq_true rfl, Nat.le_of_ble_eq_true rfl⟩) hS (fun q _ h => hFc q h) hFc (fun r6 u6 t9 H1 locs ht hvm hw6 hB hz1 hk1 hS => ?_)
  obtain ⟨hP1, -, hD1⟩ := hB
  rw [ht] at hP1
  obtain ⟨hP, hD⟩ := va_join (wr := oW cO o0 u5) (w1 := qW cI q g0 v0 u6.1 u6.2.1 u6.2.2) hP hD [0, 1] [3] rfl rfl (by decide) (by decide) hk1 hFc hP1 hD1
  generalize H1 = H at hP hS ⊢
  refine lv_istore (lv' := [(6, .int r6), (5, .int k5), (4, .int 0), (3, .ref o0), (2, .ref q), (1, .ref h), (0, .ref b)]) hx hb dL_law_1677 hl (by decide) rfl (fun ls hl => ?_)
  exact law_cmp (pc := 1679) E ⟨Nat.le_of_ble_eq_true rfl, Nat.le_of_ble_eq_true rfl⟩ (hP.sub (ws' := oW cO o0 u5 ++ qW cI q g0 v0 u6.1 u6.2.1 u6.2.2) [0, 1, 2] rfl) hS (lv_sub hl [6, 4, 3, 2, 1, 0] rfl) (hw6.1.trans (by rw [hT5, s0_knows])) (law_an (by unfold knowsT; (repeat' split) <;> omega) hT5 hA5 (fun h => by rw [s0_knows] at h; rw [hw6.2 h, s0_watch])) dL_law_1679 dL_law_1680 dL_law_1683 dL_law_1685 dL_law_1690 dL_law_1692 dL_law_1695 dL_law_1696 dL_law_1697 dL_law_1698 dL_law_1700 dL_law_1701 dL_law_1702 dL_law_1707 (by decide)
set_option maxHeartbeats 4000000 in
set_option maxRecDepth 100000 in
theorem law_c23 {p : Program} {l : Launch} {e : Env} {s : State} {m : MethodId} {below : List Frame} {meth : Method} {c : Code} {b : Nat} {xs : Nat → Int32} {D : va_G} {cI cO : ClassId} {e0 : Nat} {cG : ClassId} {H : Heap} {locs : List Loc} {ls : Array Slot} {h l0 m0 w0 q g0 v0 o0 : Nat} {a t y : Nat → Nat} {g : Nat → Int32} {fo : Nat → Int64} (hst : l.stackTraces = false) (E : lawE p s m meth c b xs D cI cO e0 cG) (hF : fresh g) (hl : lv_has ls 9 [(4, .int 0), (3, .ref o0), (2, .ref q), (1, .ref h), (0, .ref b)])
    (hP : va_P D vwCl (wW h (a 0) (t 0) l0 m0 ++ sW cI a s0 ++ sW cI t s0 ++ wL l0 0 e0 0 ++ mW cI m0 (y 0) w0 z0 ++ yW cI y y0s ++ qW cI q g0 v0 0 g 0 ++ gW v0 cG (fun _ => none) ++ oW cO o0 fo) H) (hD : va_D (fun q : Nat => s.heap.size ≤ q) (wW h (a 0) (t 0) l0 m0 ++ sW cI a s0 ++ sW cI t s0 ++ wL l0 0 e0 0 ++ mW cI m0 (y 0) w0 z0 ++ yW cI y y0s ++ qW cI q g0 v0 0 g 0 ++ gW v0 cG (fun _ => none) ++ oW cO o0 fo)) (hS : va_S (fun q : Nat => s.heap.size ≤ q) s.heap H locs) : W p l e room_1 s m #[Value.ref b] below meth c H locs 30 3000 (lw_Z below #[Value.ref b] s) (F0 m 1710 ls []) := by
  obtain ⟨C0, hK2, hXV, hN, hTX, hEX, hG⟩ := id E
  obtain ⟨hx, hb, hr, hml, hown, hts, hX, hbl, hlocks, hgv⟩ := id C0
  have hK := K_1 hK2
  have hE := hXV.1
  have hA : ∀ q : Nat, s.heap.size ≤ q → (fun q : Nat => s.heap.size ≤ q) q := fun _ h => h
  have hg0 : g (680 : Int32).toNatClampNeg = 0 := hF.2 _ (by decide)
  refine lv_aload_n hx hb dL_law_1710 rfl (lv_at hl 3 rfl) ?_
  refine vp_callSd (va_Run.run (va_runV (As := []) (rest := []) ⟨hx, hb, hml, hown, hts⟩ (c_X4_meanLife_0 l D cI h (t 0) l0 m0 a s0 rfl) (cwV 0 hts gL_law_X4_meanLife rfl rfl rfl (by decide +kernel) ⟨Nat.le_of_ble_eq_true rfl, Nat.le_of_ble_eq_true rfl⟩) ⟨preR_blind, va_recv hK hP (ci := 4) (q0 := 0) rfl rfl, preR_of (hP.sub (ws' := wW h (a 0) (t 0) l0 m0 ++ sW cI a s0) [0, 1, 2, 3, 4, 5, 6] rfl) hK hE [.ref h]⟩ rfl rfl hl.1 rfl (lv_room (Nat.le_of_ble_eq_true rfl)) dL_law_1711 ⟨Nat.le_of_ble_eq_true rfl, Nat.le_of_ble_eq_true rfl⟩)) (fun r5 hr5 => ?_)
  subst hr5
  refine lv_dstore (lv' := [(5, .double FP.dconst0), (4, .int 0), (3, .ref o0), (2, .ref q), (1, .ref h), (0, .ref b)]) hx hb dL_law_1714 hl (by decide) rfl (fun ls hl => ?_)
  refine lv_aload_n hx hb dL_law_1716 rfl (lv_at hl 3 rfl) ?_
  have hFc := va_free (wc := qW cI q g0 v0 0 g 0) hD hS hA [19, 20] rfl
  refine va_calld (va_runV (As := []) (rest := []) ⟨hx, hb, hml, hown, hts⟩ (c_X5_meanLife_0 l D cI _ q g0 v0 0 g 0 hg0) (cwV 0 hts gL_law_X5_meanLife rfl rfl rfl (by decide +kernel) ⟨Nat.le_of_ble_eq_true rfl, Nat.le_of_ble_eq_true rfl⟩) ⟨preM_blind, va_recv hK hP (ci := 5) (q0 := 19) rfl rfl, preM_of (hP.sub (ws' := qW cI q g0 v0 0 g 0) [19, 20] rfl) hK hE (hD.sub (ws' := qW cI q g0 v0 0 g 0) [19, 20] (by decide) rfl) [.ref q]⟩ rfl rfl hl.1 rfl (lv_room (Nat.le_of_ble_eq_true rfl)) dL_law_1717 ⟨Nat.le_of_ble_eq_true rfl, Nat.le_of_ble_eq_true rfl⟩) hS (fun q _ h => hFc q h) hFc (fun r6 u6 t9 H1 locs ht hvm hw6 hB hz1 hk1 hS => ?_)
  obtain ⟨hr6, -⟩ := hw6
  subst hr6
  refine lv_dstore (lv' := [(7, .double FP.dconst0), (5, .double FP.dconst0), (4, .int 0), (3, .ref o0), (2, .ref q), (1, .ref h), (0, .ref b)]) hx hb dL_law_1720 hl (by decide) rfl (fun ls hl => ?_)
  refine lv_dload hx hb dL_law_1722 (lv_at hl 1 rfl) ?_
  refine lv_dload hx hb dL_law_1724 (lv_at hl 0 rfl) ?_
  refine lv_dcmp hx hb dL_law_1726 ?_
  refine lv_if_eq (tgt := 1748) hx hb dL_law_1727 (by decide) (fun _ => ?_) (fun z9 => absurd (by decide +kernel) z9)
  refine lv_goto (tgt := 1765) hx hb dL_law_1748 (by decide) ?_
  exact law_tail C0 ⟨Nat.le_of_ble_eq_true rfl, Nat.le_of_ble_eq_true rfl⟩ hS (lv_sub hl [6, 2] rfl)
set_option maxHeartbeats 4000000 in
set_option maxRecDepth 100000 in
theorem law_c24 {p : Program} {l : Launch} {e : Env} {s : State} {m : MethodId} {below : List Frame} {meth : Method} {c : Code} {b : Nat} {xs : Nat → Int32} {D : va_G} {cI cO : ClassId} {e0 : Nat} {cG : ClassId} {H : Heap} {locs : List Loc} {ls : Array Slot} {h l0 m0 w0 q g0 v0 o0 : Nat} {a t y : Nat → Nat} {g : Nat → Int32} {fo : Nat → Int64} (hst : l.stackTraces = false) (E : lawE p s m meth c b xs D cI cO e0 cG) (hF : fresh g) (hl : lv_has ls 9 [(4, .int 0), (3, .ref o0), (2, .ref q), (1, .ref h), (0, .ref b)])
    (hP : va_P D vwCl (wW h (a 0) (t 0) l0 m0 ++ sW cI a s0 ++ sW cI t s0 ++ wL l0 0 e0 0 ++ mW cI m0 (y 0) w0 z0 ++ yW cI y y0s ++ qW cI q g0 v0 0 g 0 ++ gW v0 cG (fun _ => none) ++ oW cO o0 fo) H) (hD : va_D (fun q : Nat => s.heap.size ≤ q) (wW h (a 0) (t 0) l0 m0 ++ sW cI a s0 ++ sW cI t s0 ++ wL l0 0 e0 0 ++ mW cI m0 (y 0) w0 z0 ++ yW cI y y0s ++ qW cI q g0 v0 0 g 0 ++ gW v0 cG (fun _ => none) ++ oW cO o0 fo)) (hS : va_S (fun q : Nat => s.heap.size ≤ q) s.heap H locs) : W p l e room_1 s m #[Value.ref b] below meth c H locs 30 3000 (lw_Z below #[Value.ref b] s) (F0 m 1751 ls []) := by
  obtain ⟨C0, hK2, hXV, hN, hTX, hEX, hG⟩ := id E
  obtain ⟨hx, hb, hr, hml, hown, hts, hX, hbl, hlocks, hgv⟩ := id C0
  have hK := K_1 hK2
  have hE := hXV.1
  have hA : ∀ q : Nat, s.heap.size ≤ q → (fun q : Nat => s.heap.size ≤ q) q := fun _ h => h
  have hg0 : g (680 : Int32).toNatClampNeg = 0 := hF.2 _ (by decide)
  refine lv_aload_n hx hb dL_law_1751 rfl (lv_at hl 3 rfl) ?_
  refine vp_callSl (va_Run.run (va_runV (As := []) (rest := []) ⟨hx, hb, hml, hown, hts⟩ (c_X4_digest_0 l D cI h (t 0) l0 m0 a s0 0 e0 0 rfl) (cwV 0 hts gL_law_X4_digest rfl rfl rfl (by decide +kernel) ⟨Nat.le_of_ble_eq_true rfl, Nat.le_of_ble_eq_true rfl⟩) ⟨preF_blind, va_recv hK hP (ci := 4) (q0 := 0) rfl rfl, preF_of (hP.sub (ws' := wW h (a 0) (t 0) l0 m0 ++ sW cI a s0 ++ wL l0 0 e0 0) [0, 1, 2, 3, 4, 5, 6, 13] rfl) hK hE hXV.2.2.2.2.2.2.2.2 [.ref h]⟩ rfl rfl hl.1 rfl (lv_room (Nat.le_of_ble_eq_true rfl)) dL_law_1752 ⟨Nat.le_of_ble_eq_true rfl, Nat.le_of_ble_eq_true rfl⟩)) (fun r5 hr5 => ?_)
  subst hr5
  refine lv_aload_n hx hb dL_law_1755 rfl (lv_at hl 2 rfl) ?_
  have hFc := va_free (wc := qW cI q g0 v0 0 g 0) hD hS hA [19, 20] rfl
  refine va_calll (va_runV (As := []) (rest := [.long (dig0 s0 0)]) ⟨hx, hb, hml, hown, hts⟩ (c_X5_digest_0 l D cI _ q g0 v0 0 g 0 hg0 (fun j h _ => hF.2 j h) rfl) (cwV 0 hts gL_law_X5_digest rfl rfl rfl (by decide +kernel) ⟨Nat.le_of_ble_eq_true rfl, Nat.le_of_ble_eq_true rfl⟩) ⟨preM_blind, va_recv hK hP (ci := 5) (q0 := 19) rfl rfl, preM_of (hP.sub (ws' := qW cI q g0 v0 0 g 0) [19, 20] rfl) hK hE (hD.sub (ws' := qW cI q g0 v0 0 g 0) [19, 20] (by decide) rfl) [.ref q]⟩ rfl rfl hl.1 rfl (lv_room (Nat.le_of_ble_eq_true rfl)) dL_law_1756 ⟨Nat.le_of_ble_eq_true rfl, Nat.le_of_ble_eq_true rfl⟩) hS (fun q _ h => hFc q h) hFc (fun r6 u6 t9 H1 locs ht hvm hw6 hB hz1 hk1 hS => ?_)
  obtain ⟨hr6, -⟩ := hw6
  subst hr6
  refine W.lcmp hx hb dL_law_1759 ?_
  refine lv_if_eq (tgt := 1765) hx hb dL_law_1760 (by decide) (fun _ => ?_) (fun z9 => absurd (by rw [s0_digest hF.1]; exact cmp_self _) z9)
  exact law_tail C0 ⟨Nat.le_of_ble_eq_true rfl, Nat.le_of_ble_eq_true rfl⟩ hS (lv_sub hl [4, 0] rfl)
