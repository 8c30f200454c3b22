-- ===== the law, from its entry =====
section WNO
variable {p : Program} {l : Launch} {e : Env} {R : Room} {s : State} {m : MethodId} {args : Array Value} {below : List Frame} {meth : Method} {c : Code} {H : Heap} {locs : List Loc} {cells slots : Nat} {Q : State → Prop}
variable {cc : ByteArray} {pc : Nat} {ls : Array Slot} {rest : List Value} {D : va_G} {cl : List vw_C} {A : Nat → Prop} {ws : va_W} {H0 : Heap} {cI cO : ClassId}
/-- one new cell for a long -/
theorem w_newO (hexec : p.tables.exec = Jvm.exec) (hb : c.code = cc) (harr : (Cond.arrayClass .long).before args s = true) (hK : va_K D cl [(cI, .int), (cO, .long)] s) (hP : va_P D cl ws H) (hD : va_D A ws) (hS : va_S A H0 H locs) (hA : ∀ q, H0.size ≤ q → A q)
    {n : Int32} (hn : ¬ n < 0) (hN : n.toNatClampNeg = 1) (hcells : cells + 1 ≤ R.cells) (hslots : slots + 1 ≤ R.slots) (hdg : decode cc pc = .ok (.newarray .long, 2))
    (kk : ∀ (q : Nat) (H1 : Heap), va_P D cl (ws ++ [(q, .inl (cO, 1, .inr (.inl (fun _ => 0))))]) H1 → va_D A (ws ++ [(q, .inl (cO, 1, .inr (.inl (fun _ => 0))))]) → va_S A H0 H1 locs →
      W p l e R s m args below meth c H1 locs (cells + 1) (slots + 1) Q (F0 m (pc + 2) ls (.ref q :: rest))) : W p l e R s m args below meth c H locs cells slots Q (F0 m pc ls (.int n :: rest)) := by
  refine va_newa (atype := .long) (ty := .long) (a0 := (1, .inr (.inl (fun _ => 0)))) hexec hb harr rfl hK hP hD hS hA (fun cA => rfl) hn hN (by decide) hcells hslots hdg (fun q cA H1 hK1 hP1 hD1 hS1 => ?_)
  have e1 : cA = cO := by
    have h1 := (hK1.2 2 _ rfl).2
    have h2 := (hK.2 1 _ rfl).2
    exact Option.some.inj (h1.symm.trans h2)
  subst e1
  exact kk q H1 hP1 hD1 hS1
end WNO
theorem w_CL8 : (Cond.classLink RL 8 RX4) ∈ lw_tbl := by decide +kernel
theorem w_IN4 : (Cond.instantiable RX4 4) ∈ lw_tbl := by decide +kernel
theorem w_IT4 : (Cond.initialized RX4) ∈ lw_tbl := tb_81.1
theorem w_ML91 : (Cond.methodLink RL 91 yX4_init) ∈ lw_tbl := by decide +kernel
theorem w_IM4 : (Cond.instanceMethod yX4_init) ∈ lw_tbl := by decide +kernel
theorem w_CL92 : (Cond.classLink RL 92 RX5) ∈ lw_tbl := by decide +kernel
theorem w_IN5 : (Cond.instantiable RX5 4) ∈ lw_tbl := by decide +kernel
theorem w_IT5 : (Cond.initialized RX5) ∈ lw_tbl := tb_102.1
theorem w_ML94 : (Cond.methodLink RL 94 yX5_init) ∈ lw_tbl := by decide +kernel
theorem w_IM5 : (Cond.instanceMethod yX5_init) ∈ lw_tbl := by decide +kernel
theorem w_ARL : (Cond.arrayClass .long) ∈ lw_tbl := by decide +kernel
set_option maxHeartbeats 4000000 in
set_option maxRecDepth 100000 in
theorem whole_start {p : Program} {e : Env} {s : State} {m : MethodId} {below : List Frame} {meth : Method} {c : Code} (l : Launch) (hflags : l.flags = flags0) {b L : Nat} {xs : Nat → Int32} (hL : L ≤ 5) (C0 : lw_At p s m meth c b L xs) : W p l e room_1 s m #[Value.ref b] below meth c s.heap [] 0 0 (lw_Z below #[Value.ref b] s) (entryFrame m ([Value.ref b] : List Value).toArray 9) := by
  obtain ⟨hx, hb, hr, hml, hown, hts, hX, hbl, hlocks, hgv⟩ := id C0
  have hst : l.stackTraces = false := by simp [Launch.stackTraces, hflags, flags0]
  have hbA : ¬ (fun q : Nat => s.heap.size ≤ q) b := Nat.not_le.mpr hbl
  have hA : ∀ q : Nat, s.heap.size ≤ q → (fun q : Nat => s.heap.size ≤ q) q := fun _ h => h
  have hnA : ∀ a : Nat, a < s.heap.size → ¬ (fun q : Nat => s.heap.size ≤ q) a := fun a h => Nat.not_le.mpr h
  obtain ⟨D, cI, cO, hK2⟩ := st_K hts
  have hK := K_1 hK2
  obtain ⟨mc, hmc⟩ : ∃ mc, s.vm.findClass RX4 = some mc := ⟨_, (hK2.1 4 _ rfl).2.1⟩
  have hXV := st_XV hmc hts
  have hE := hXV.1
  have hN := st_NC hgv
  have hTX := st_TX (A := (fun q : Nat => s.heap.size ≤ q)) hts (st_given hgv).1 (st_given hgv).2.1 hnA
  obtain ⟨e0, hEX⟩ := st_EX (A := (fun q : Nat => s.heap.size ≤ q)) hts hgv hnA
  obtain ⟨hmn, hwn, -, -, hAO⟩ := st_nests hts
  have hS : va_S (fun q : Nat => s.heap.size ≤ q) s.heap s.heap [] := va_S.rf
  have hP : va_P D vwCl [] s.heap := fun k q h => by simp at h
  have hD : va_D (fun q : Nat => s.heap.size ≤ q) [] := ⟨fun i j p q h => by simp at h, fun k q h => by simp at h⟩
  have hl := lv_entry ([.ref b]) (n := 9) (Nat.le_of_ble_eq_true rfl)
  rw [lg_entry_eq]
  generalize (lg_sl ([.ref b]) ++ List.replicate (9 - (lg_sl ([.ref b])).length) Slot.unset).toArray = ls at hl ⊢
  have hl : lv_has ls 9 [(0, .ref b)] := hl
  refine va_new (D := D) (ci := 4) (fs := [.null, .null, .null, .null]) (C := RX4) (T := TX4) (N := 4) hx hb hts inX4 tyX4 tyX4_ok hown (hts (.classLink RL 8 RX4) w_CL8) (hts (.instantiable RX4 4) w_IN4) (hts (.initialized RX4) w_IT4) hK hP hD hS hA rfl (fun j hj => by rcases (show j = 0 ∨ j = 1 ∨ j = 2 ∨ j = 3 by omega) with rfl | rfl | rfl | rfl <;> rfl) (Nat.le_of_ble_eq_true rfl) (Nat.le_of_ble_eq_true rfl) dL_law_0 (fun q0 H hP hD hS => ?_)
  have hP : va_P D vwCl ([(q0, .inr (4, [.null, .null, .null, .null]))]) H := hP
  have hD : va_D (fun q : Nat => s.heap.size ≤ q) ([(q0, .inr (4, [.null, .null, .null, .null]))]) := hD
  refine lv_dup hx hb dL_law_3 rfl ?_
  have hFc := va_free (wc := [(q0, .inr (4, [.null, .null, .null, .null]))]) hD hS hA [0] rfl
  refine va_callv (va_runI (As := []) (rest := [.ref q0]) ⟨hx, hb, hml, hown, hts⟩ (c_X4_init l D cI _ q0 e0) (cwI 0 hts gL_law_X4_init rfl rfl rfl (hts (.initialized RX4) w_IT4) (hts (.methodLink RL 91 yX4_init) w_ML91) (hts (.instanceMethod yX4_init) w_IM4) rfl (by decide +kernel) ⟨Nat.le_of_ble_eq_true rfl, Nat.le_of_ble_eq_true rfl⟩) ⟨preZ_blind, preZ_of hP hK hE hD hEX.1 hmn hwn hS hFc [.ref q0]⟩ rfl rfl hl.1 rfl (lv_room (Nat.le_of_ble_eq_true rfl)) dL_law_4 ⟨Nat.le_of_ble_eq_true rfl, Nat.le_of_ble_eq_true rfl⟩) hS (fun q _ h => hFc q h) hFc (fun u t9 H1 locs ht hvm hw hB hz1 hk1 hS => ?_)
  obtain ⟨h, a, t, l0, m0, w0, y⟩ := u
  dsimp only at hw hB
  subst hw
  obtain ⟨hP1, hK1, hD1⟩ := hB
  rw [ht] at hP1
  obtain ⟨hP, hD⟩ := va_join (wr := []) (w1 := wW h (a 0) (t 0) l0 m0 ++ sW cI a s0 ++ sW cI t s0 ++ wL l0 0 e0 0 ++ mW cI m0 (y 0) w0 z0 ++ yW cI y y0s) hP hD [0] [] rfl rfl (by decide) (by decide) hk1 hFc hP1 hD1
  generalize H1 = H at hP hS ⊢
  have hP : va_P D vwCl (wW h (a 0) (t 0) l0 m0 ++ sW cI a s0 ++ sW cI t s0 ++ wL l0 0 e0 0 ++ mW cI m0 (y 0) w0 z0 ++ yW cI y y0s) H := hP
  have hD : va_D (fun q : Nat => s.heap.size ≤ q) (wW h (a 0) (t 0) l0 m0 ++ sW cI a s0 ++ sW cI t s0 ++ wL l0 0 e0 0 ++ mW cI m0 (y 0) w0 z0 ++ yW cI y y0s) := hD
  refine lv_astore_n (lv' := [(1, .ref h), (0, .ref b)]) hx hb dL_law_7 rfl hl (by decide) rfl (fun ls hl => ?_)
  refine va_new (D := D) (ci := 5) (fs := [.int 0, .null, .null, .int 0]) (C := RX5) (T := TX5) (N := 4) hx hb hts inX5 tyX5 tyX5_ok hown (hts (.classLink RL 92 RX5) w_CL92) (hts (.instantiable RX5 4) w_IN5) (hts (.initialized RX5) w_IT5) hK hP hD hS hA rfl (fun j hj => by rcases (show j = 0 ∨ j = 1 ∨ j = 2 ∨ j = 3 by omega) with rfl | rfl | rfl | rfl <;> rfl) (Nat.le_of_ble_eq_true rfl) (Nat.le_of_ble_eq_true rfl) dL_law_8 (fun q8 H hP hD hS => ?_)
  have hP : va_P D vwCl (wW h (a 0) (t 0) l0 m0 ++ sW cI a s0 ++ sW cI t s0 ++ wL l0 0 e0 0 ++ mW cI m0 (y 0) w0 z0 ++ yW cI y y0s ++ [(q8, .inr (5, [.int 0, .null, .null, .int 0]))]) H := hP
  have hD : va_D (fun q : Nat => s.heap.size ≤ q) (wW h (a 0) (t 0) l0 m0 ++ sW cI a s0 ++ sW cI t s0 ++ wL l0 0 e0 0 ++ mW cI m0 (y 0) w0 z0 ++ yW cI y y0s ++ [(q8, .inr (5, [.int 0, .null, .null, .int 0]))]) := hD
  refine lv_dup hx hb dL_law_11 rfl ?_
  have hFc := va_free (wc := [(q8, .inr (5, [.int 0, .null, .null, .int 0]))]) hD hS hA [19] rfl
  refine va_callv (va_runI (As := []) (rest := [.ref q8]) ⟨hx, hb, hml, hown, hts⟩ (c_X5_initO l D cI _ q8) (cwI 0 hts gL_law_X5_init rfl rfl rfl (hts (.initialized RX5) w_IT5) (hts (.methodLink RL 94 yX5_init) w_ML94) (hts (.instanceMethod yX5_init) w_IM5) rfl (by decide +kernel) ⟨Nat.le_of_ble_eq_true rfl, Nat.le_of_ble_eq_true rfl⟩) ⟨preO_blind, preO_of (hP.sub (ws' := [(q8, .inr (5, [.int 0, .null, .null, .int 0]))]) [19] rfl) hK hE (hD.sub (ws' := [(q8, .inr (5, [.int 0, .null, .null, .int 0]))]) [19] (by decide) rfl) hAO [.ref q8]⟩ rfl rfl hl.1 rfl (lv_room (Nat.le_of_ble_eq_true rfl)) dL_law_12 ⟨Nat.le_of_ble_eq_true rfl, Nat.le_of_ble_eq_true rfl⟩) hS (fun q _ h => hFc q h) hFc (fun u t9 H1 locs ht hvm hw hB hz1 hk1 hS => ?_)
  obtain ⟨q, g0, v0, cG, g⟩ := u
  dsimp only at hw hB
  obtain ⟨rfl, hF⟩ := hw
  obtain ⟨⟨hP1, hK1, hD1⟩, hG1⟩ := hB
  have hG : RowG cG s := RowG.moved hvm.symm hG1
  rw [ht] at hP1
  obtain ⟨hP, hD⟩ := va_join (wr := wW h (a 0) (t 0) l0 m0 ++ sW cI a s0 ++ sW cI t s0 ++ wL l0 0 e0 0 ++ mW cI m0 (y 0) w0 z0 ++ yW cI y y0s) (w1 := qW cI q g0 v0 0 g 0 ++ gW v0 cG (fun _ => none)) hP hD [19] [0, 1, 2, 3, 4, 5, 6, 7, 8, 9, 10, 11, 12, 13, 14, 15, 16, 17, 18] rfl rfl (by decide) (by decide) hk1 hFc hP1 hD1
  generalize H1 = H at hP hS ⊢
  have hP : va_P D vwCl (wW h (a 0) (t 0) l0 m0 ++ sW cI a s0 ++ sW cI t s0 ++ wL l0 0 e0 0 ++ mW cI m0 (y 0) w0 z0 ++ yW cI y y0s ++ (qW cI q g0 v0 0 g 0 ++ gW v0 cG (fun _ => none))) H := hP
  have hD : va_D (fun q : Nat => s.heap.size ≤ q) (wW h (a 0) (t 0) l0 m0 ++ sW cI a s0 ++ sW cI t s0 ++ wL l0 0 e0 0 ++ mW cI m0 (y 0) w0 z0 ++ yW cI y y0s ++ (qW cI q g0 v0 0 g 0 ++ gW v0 cG (fun _ => none))) := hD
  refine lv_astore_n (lv' := [(2, .ref q), (1, .ref h), (0, .ref b)]) hx hb dL_law_15 rfl hl (by decide) rfl (fun ls hl => ?_)
  refine lv_iconst (v := 1) hx hb dL_law_16 (by decide) ?_
  refine w_newO hx hb (hts (.arrayClass .long) w_ARL) hK2 hP hD hS hA (by decide) (by decide) (Nat.le_of_ble_eq_true rfl) (Nat.le_of_ble_eq_true rfl) dL_law_17 (fun o0 H hP hD hS => ?_)
  have hP : va_P D vwCl (wW h (a 0) (t 0) l0 m0 ++ sW cI a s0 ++ sW cI t s0 ++ wL l0 0 e0 0 ++ mW cI m0 (y 0) w0 z0 ++ yW cI y y0s ++ qW cI q g0 v0 0 g 0 ++ gW v0 cG (fun _ => none) ++ oW cO o0 (fun _ => 0)) H := hP
  have hD : va_D (fun q : Nat => s.heap.size ≤ q) (wW h (a 0) (t 0) l0 m0 ++ sW cI a s0 ++ sW cI t s0 ++ wL l0 0 e0 0 ++ mW cI m0 (y 0) w0 z0 ++ yW cI y y0s ++ qW cI q g0 v0 0 g 0 ++ gW v0 cG (fun _ => none) ++ oW cO o0 (fun _ => 0)) := hD
  refine lv_astore_n (lv' := [(3, .ref o0), (2, .ref q), (1, .ref h), (0, .ref b)]) hx hb dL_law_19 rfl hl (by decide) rfl (fun ls hl => ?_)
  refine lv_iconst (v := 0) hx hb dL_law_20 (by decide) ?_
  refine lv_istore (lv' := [(4, .int 0), (3, .ref o0), (2, .ref q), (1, .ref h), (0, .ref b)]) hx hb dL_law_21 hl (by decide) rfl (fun ls hl => ?_)
  refine W.widen (k := 30) (n := 3000) (Nat.le_of_ble_eq_true rfl) (Nat.le_of_ble_eq_true rfl) ?_
  rcases Nat.lt_or_ge L 5 with hL5 | hL5
  · refine law_end C0 ⟨Nat.le_of_ble_eq_true rfl, Nat.le_of_ble_eq_true rfl⟩ hS (lv_sub hl [4, 0] rfl) ?_
    rcases (show L = 0 ∨ L = 1 ∨ L = 2 ∨ L = 3 ∨ L = 4 by omega) with rfl | rfl | rfl | rfl | rfl <;> decide
  · have hL5 : L = 5 := by omega
    subst hL5
    exact law_turn hst ⟨C0, hK2, hXV, hN, hTX, hEX, hG⟩ hF hl hP hD hS
set_option maxHeartbeats 4000000 in
theorem lw_walk (l : Launch) (hflags : l.flags = flags0) (b : Addr) (xs : List Int32) : MetFree l x (headSpec (Jvm.Cond.code x code maxLocals ret :: tables_1) room_1) (lw_P b xs) (fun _ _ _ _ _ => True) lw_Q := by
  refine MetFree.of_bodyS (code := code) (maxLocals := maxLocals) (ret := ret) (by decide) ?_ ?_
  · intro args s m h hn
    obtain ⟨meth, c, h1, h2, h3, h4, h5, h6, -, -⟩ := Cond.code_spec hn (atoms_spec (ws := Jvm.Cond.code x code maxLocals ret :: tables_1) h _ List.mem_cons_self)
    exact ⟨meth, c, h1, h2, h3, h4, h5, h6⟩
  · intro p e s m args below meth c s₁ B hml0 hP _
    obtain ⟨rfl, hx, hbd, hgv⟩ := hP
    obtain ⟨scr, harrAt, hlist, hof, hsmall⟩ := hx
    obtain ⟨hcb, hkn, -, -⟩ := State.arrayAt?_spec harrAt
    have hown : s.vm.findClass R_law = some m.cls := findClass_of_methodNamed B.named
    have hts0 : ∀ c ∈ (Jvm.Cond.code x code maxLocals ret :: tables_1), c.before #[Value.ref b] s = true := atoms_spec (ws := Jvm.Cond.code x code maxLocals ret :: tables_1) B.pre
    have hts : ∀ w ∈ lw_tbl, w.before #[Value.ref b] s = true := k2_hts_sels lw_privs (fun w hw => hts0 w (List.mem_cons_of_mem _ hw)) lw_privs_ok
    have hml : c.maxLocals = 9 := B.maxLocals_eq (hts0 _ List.mem_cons_self)
    have X₀ : Stand p l e room_1 s m #[Value.ref b] below meth c s₁ [] 0 0 := Stand.of_body B
    have hh0 : s₁.heap = s.heap := by rw [B.state]; rfl
    have hsz : scr.slots.size = xs.length := by rw [← Array.length_toList, hlist, List.length_map]
    have hval : ∀ j : Nat, j < xs.length → scr.slots[j]? = some (.int (xs.getD j 0)) := fun j hj => by
      rw [← Array.getElem?_toList, hlist]
      simp [hj]
    have hbl : b < s.heap.size := (Array.getElem?_eq_some_iff.mp hcb).1
    have hX : va_X b xs.length (fun j => xs.getD j 0) s s.heap := ⟨scr, hcb, hof, hkn, hsz, hval⟩
    have K : W p l e room_1 s m #[Value.ref b] below meth c s₁.heap [] 0 0 (lw_Z below #[Value.ref b] s) (entryFrame m ([Value.ref b] : List Value).toArray 9) := by
      rw [hh0]
      exact whole_start l hflags hbd ⟨B.exec, B.bytes, B.returns, hml, hown, hts, hX, hbl, B.notSynchronized, hgv⟩
    obtain ⟨t, a1, o, b1, b2, b3⟩ := K s₁ rfl X₀
    exact ⟨t, o, a1, b1, b2, b3⟩
theorem lw_pre_spec {args : Array Value} {s : State} (h : (Jvm.Cond.and given_1 narrow_1).before args s = true) (hr : rest_1_c.before args s = true) : ∃ (b : Addr) (xs : List Int32), lw_P b xs args s := by
  have hs := flat_of_before _ h
  have hq := flat_of_before _ hr
  have hc : (Cond.count 1).before args s = true := hs _ (by decide +kernel)
  have harr : (Cond.arrayOf (.arg 0) .int).before args s = true := hs _ (by decide +kernel)
  have hle : (Cond.le (.length (.arg 0)) (.int 5)).before args s = true := hs _ (by decide +kernel)
  have hlen : (Cond.isInt (.length (.arg 0))).before args s = true := hq _ (by decide +kernel)
  have hall : (Cond.all (.arg 0) (.isInt (.elem (.arg 0) (.index 0)))).before args s = true := hq _ (by decide +kernel)
  obtain ⟨b, xs, hb, hx⟩ := State.ints_of_pre rfl harr hlen hall
  have hsm : xs.length < 2 ^ 31 := hx.choose_spec.2.2.2
  have hev : (Term.length (.arg 0)).eval args s none [] s = some (.int xs.length.toInt32) := hx.length_eval hb
  have hv := Cond.le_ints hev (show (Term.int 5).eval args s none [] s = some (.int 5) from rfl)
  have hd : xs.length.toInt32 ≤ 5 := by
    simpa [Cond.before, Cond.holds, hv] using hle
  have hN : xs.length ≤ 5 := (Int32.ofNat_le_ofNat hsm (by decide)).mp (show Int32.ofNat xs.length ≤ Int32.ofNat 5 from hd)
  exact ⟨b, xs, Cond.one_arg hc (show args[0]? = some (.ref b) from hb), hx, hN, h⟩
theorem lw_comes (l : Launch) (hflags : l.flags = flags0) : Comes l x (Jvm.Cond.code x code maxLocals ret :: tables_1) room_1 (fun tb e args s => Calls_1 tb e args s ∧ rest_1 tb e args s ∧ Pre_1 tb e args s)
    (fun _ _ args s o t => lw_Q args s o t) := by
  intro p e ha hc hk s m args below hf hfit hheap happ hpre
  obtain ⟨b, xs, hP⟩ := lw_pre_spec hpre.2.2 hpre.2.1
  obtain ⟨k, o, h1, h2, h3, hQ⟩ := lw_walk l hflags b xs p e ha hc hk s m args below hf ((Spec.applies_iff_loose hf).mp happ).1 hP trivial
  exact ⟨k, o, h1, h2, h3, hQ⟩
theorem lw_frame {s t : State} {o : Outcome} {args : Array Value} (h : State.butDraws s t lw_cs (fun t1 => Framed s o t1 [] 600002 7302232)) :
    State.butDraws s t [Jvm.Choice.named "NaN.bits"] (fun t1 => Framed s o t1 (fieldLocs frame_1_writes args s ++ arrayLocs frame_1_arrays args s ++ staticLocs frame_1_statics s) 600002 7302232) := h
theorem lw_limb (L : Cond) (hL : ∀ (args : Array Value) (s t : State), L.after args s (.returned (some (.int 1))) t = true) :
    ArmFor flags0 classFile x code maxLocals ret World_1 tables_1 room_1 Calls_1 rest_1 Pre_1
      (fun tb e a s o t => postC L tb e a s o t ∧ State.butDraws s t [Jvm.Choice.named "NaN.bits"] (fun t1 => Framed s o t1 (fieldLocs frame_1_writes a s ++ arrayLocs frame_1_arrays a s ++ staticLocs frame_1_statics s) 600002 7302232)) := by
  intro l hflags _ _ p e ha hc hk s m args below hf hfit hheap happ hpre
  obtain ⟨k, o, h1, h2, h3, rfl, hF⟩ := lw_comes l hflags p e ha hc hk s m args below hf hfit hheap happ hpre
  exact ⟨k, _, h1, h2, h3, hL args s _, lw_frame hF⟩
theorem i_vc : Claimed_1_1 ∧ Claimed_1_2 := ⟨lw_limb limb_1_1 (fun args s t => by simp [limb_1_1, Cond.after, Cond.holds, Cond.value]), lw_limb limb_1_2 (fun args s t => Cond.after_iff.mpr (by
  first | (rw [show limb_1_2 = Cond.eq .result (.int 1) from rfl, Cond.eq_ints (x := 1) (y := 1) rfl rfl]; simp; done) | (simp [limb_1_2, Cond.value, Term.eval]; done)))⟩
