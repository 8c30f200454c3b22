-- ===== the law: what its walk stands on =====
def preO (D : va_G) (cI : ClassId) (ws : va_W) (sz : Nat) (U : State) : Prop := preM D cI ws sz U ∧ (Cond.arrayOver (.array .int)).before #[] U = true
theorem preO_blind {av : List Value} {D : va_G} {cI : ClassId} {ws : va_W} {sz : Nat} : FrameBlind (va_Pc av (preO D cI ws sz)) := fun a U g mk q => by
  obtain ⟨q0, q1, q2⟩ := q
  exact ⟨q0, (preM_blind (av := av) a U g mk ⟨q0, q1⟩).2, over_moved (u := U) (E := U.calling g mk a) (Vm.Alike.refl U.vm) q2⟩
theorem preO_of {D : va_G} {cI : ClassId} {ws : va_W} {A : Nat → Prop} {s : State} {H : Heap} (hP : va_P D vwCl ws H) (hK : va_K D vwCl [(cI, .int)] s) (hE : EV s) (hD : va_D A ws) (hO : (Cond.arrayOver (.array .int)).before #[] s = true) (av : List Value) : ∀ U : State, U.heap = H → s.WarmedH U.vm → va_Pc av (preO D cI ws H.size) av.toArray U := fun U hU hW => ⟨rfl, (preM_of hP hK hE hD av U hU hW).2, over_moved hW.alike hO⟩
set_option maxHeartbeats 4000000 in
set_option maxRecDepth 100000 in
theorem c_X5_initO (l : Launch) (D : va_G) (cI : ClassId) (sz : Nat) (h : Nat) : Met l yX5_init wsX5_init ({ frames := 1, cells := 2, slots := 688, locals := 12 } : Room) (va_Pc [.ref h] (preO D cI ([(h, .inr (5, [.int 0, .null, .null, .int 0]))]) sz)) (va_Qv (fun (u : (Nat × Nat × Nat × ClassId × (Nat → Int32))) => u.1 = h ∧ fresh u.2.2.2.2) (fun (u : (Nat × Nat × Nat × ClassId × (Nat → Int32))) => (fun t => posM D cI (va_A ([(h, .inr (5, [.int 0, .null, .null, .int 0]))]) sz) (qW cI u.1 u.2.1 u.2.2.1 0 u.2.2.2.2 0 ++ gW u.2.2.1 u.2.2.2.1 (fun _ => none)) t ∧ RowG u.2.2.2.1 t)) (va_A ([(h, .inr (5, [.int 0, .null, .null, .int 0]))]) sz)) 2 688 (va_A ([(h, .inr (5, [.int 0, .null, .null, .int 0]))]) sz) := by
  refine Met.ofW (cc := cX5_init) (maxL := 2) (ret := none) (by decide) rfl ?_
  intro p e s m args below meth c s₁ B hml hv
  obtain ⟨rfl, ⟨hsz, hP, hK, hE, hD0⟩, hAO⟩ := hv
  have hx := B.exec
  have hb := B.bytes
  have hr := B.returns
  have hts := atoms_spec (ws := wsX5_init) B.pre
  have hown : s.vm.findClass RX5 = some m.cls := findClass_of_methodNamed B.named
  have hlocks := B.notSynchronized
  have hin : meth.name = "<init>" := (name_of_methodNamed B.named B.method).1
  subst hsz
  have hD := hD0.self (sz := s.heap.size)
  generalize hAe : va_A ([(h, .inr (5, [.int 0, .null, .null, .int 0]))]) s.heap.size = A at hD ⊢
  have hA : ∀ q : Nat, s.heap.size ≤ q → A q := fun q h => by rw [← hAe]; exact Or.inr h
  have hS : va_S A s.heap s.heap [] := va_S.rf
  have hP : va_P D vwCl ([(h, .inr (5, [.int 0, .null, .null, .int 0]))]) s.heap := hP
  have hl := lv_entry ([.ref h]) (n := 2) (Nat.le_of_ble_eq_true rfl)
  rw [lg_entry_eq]
  generalize (lg_sl ([.ref h]) ++ List.replicate (2 - (lg_sl ([.ref h])).length) Slot.unset).toArray = ls at hl ⊢
  have hl : lv_has ls 2 [(0, .ref h)] := hl
  refine lv_aload_n hx hb dX5_init_0 rfl (lv_at hl 0 rfl) ?_
  refine W.objInit hx hb hown (hts (.methodLink RX5 3 objectInit) (by decide +kernel)) (hts (.instanceMethod objectInit) (by decide +kernel)) (hts (.code objectInit ⟨#[0xb1]⟩ 1 none) (by decide +kernel)) rfl (by rw [hml]; exact hl.1) rfl dX5_init_1 (Nat.le_of_ble_eq_true rfl) (Nat.le_of_ble_eq_true rfl) ?_
  refine W.eq (g2 := F0 m 4 ls []) rfl ?_
  refine lv_aload_n hx hb dX5_init_4 rfl (lv_at hl 0 rfl) ?_
  refine lv_sipush (v := 683) hx hb dX5_init_5 (by decide) ?_
  refine w_newI hx hb (hts (.arrayClass .int) (by decide +kernel)) hK hP hD hS hA (by decide) (N' := 683) (by decide) (by decide) (Nat.le_of_ble_eq_true rfl) (Nat.le_of_ble_eq_true rfl) dX5_init_8 (fun q8 H hP hD hS => ?_)
  have hP : va_P D vwCl ([(h, .inr (5, [.int 0, .null, .null, .int 0])), (q8, .inl (cI, 683, .inl (fun _ => 0)))]) H := hP
  have hD : va_D A ([(h, .inr (5, [.int 0, .null, .null, .int 0])), (q8, .inl (cI, 683, .inl (fun _ => 0)))]) := hD
  refine va_put (D := D) (ci := 5) (v := .ref q8) (ty := (.array .int)) (C := RX5) (T := TX5) (N := 4) hx hb hts (by decide +kernel) tyX5 tyX5_ok nmX5 hown hK hP hD hS 0 rfl rfl 1 (by decide) (hts (.fieldLink RX5 9 "WarrenModel" "g" "[I") (by decide +kernel)) (fun _ h9 => h9) rfl (by decide +kernel) rfl rfl (Nat.le_of_ble_eq_true rfl) dX5_init_10 (fun H locs hP hD hS => ?_)
  have hP : va_P D vwCl ([(h, .inr (5, [.int 0, .ref q8, .null, .int 0])), (q8, .inl (cI, 683, .inl (fun _ => 0)))]) H := hP
  have hD : va_D A ([(h, .inr (5, [.int 0, .ref q8, .null, .int 0])), (q8, .inl (cI, 683, .inl (fun _ => 0)))]) := hD
  refine lv_aload_n hx hb dX5_init_13 rfl (lv_at hl 0 rfl) ?_
  refine lv_iconst (v := 5) hx hb dX5_init_14 (by decide) ?_
  refine w_newG (N' := 5) hx hb hown (hts (.classLink RX5 13 "[I") (by decide +kernel)) (over_moved (Vm.Alike.refl s.vm) hAO) hP hD hS hA (by decide) (by decide) (by decide) (Nat.le_of_ble_eq_true rfl) (Nat.le_of_ble_eq_true rfl) dX5_init_15 (fun q15 cG H hG hP hD hS => ?_)
  have hP : va_P D vwCl ([(h, .inr (5, [.int 0, .ref q8, .null, .int 0])), (q8, .inl (cI, 683, .inl (fun _ => 0)))] ++ gW q15 cG (fun _ => none)) H := hP
  have hD : va_D A ([(h, .inr (5, [.int 0, .ref q8, .null, .int 0])), (q8, .inl (cI, 683, .inl (fun _ => 0)))] ++ gW q15 cG (fun _ => none)) := hD
  refine va_putF (D := D) (ci := 5) (v := .ref q15) (ty := (.array (.array .int))) (C := RX5) (T := TX5) (N := 4) hx hb hts (by decide +kernel) tyX5 tyX5_ok nmX5 hown hK hP hD hS 0 rfl rfl 2 (by decide) (hts (.fieldLink RX5 14 "WarrenModel" "saved" "[[I") (by decide +kernel)) (fun _ h9 => h9) rfl hin rfl (by decide +kernel) rfl rfl (Nat.le_of_ble_eq_true rfl) dX5_init_18 (fun H locs hP hD hS => ?_)
  have hP : va_P D vwCl ([(h, .inr (5, [.int 0, .ref q8, .ref q15, .int 0])), (q8, .inl (cI, 683, .inl (fun _ => 0)))] ++ gW q15 cG (fun _ => none)) H := hP
  have hD : va_D A ([(h, .inr (5, [.int 0, .ref q8, .ref q15, .int 0])), (q8, .inl (cI, 683, .inl (fun _ => 0)))] ++ gW q15 cG (fun _ => none)) := hD
  refine lv_iconst (v := 0) hx hb dX5_init_21 (by decide) ?_
  refine lv_istore_n (lv' := [(1, .int 0), (0, .ref h)]) hx hb dX5_init_22 rfl hl (by decide) rfl (fun ls hl => ?_)
  have L23 : ∀ (n k : Nat) (g1 : Nat → Int32) (hk : k + n = 160) (h1 : ∀ j, j < k → g1 j = 1) (h0 : ∀ j, k ≤ j → g1 j = 0) (H : Heap) (locs : List Loc) (ls : Array Slot), lv_has ls 2 [(1, .int (nI k)), (0, .ref h)] → va_P D vwCl ([(h, .inr (5, [.int 0, .ref q8, .ref q15, .int 0])), (q8, .inl (cI, 683, .inl g1))] ++ gW q15 cG (fun _ => none)) H → va_D A ([(h, .inr (5, [.int 0, .ref q8, .ref q15, .int 0])), (q8, .inl (cI, 683, .inl g1))] ++ gW q15 cG (fun _ => none)) → va_S A s.heap H locs → W p l e ({ frames := 1, cells := 2, slots := 688, locals := 12 } : Room) s m ([.ref h] : List Value).toArray below meth c H locs 2 688 (MQ below (va_Qv (fun (u : (Nat × Nat × Nat × ClassId × (Nat → Int32))) => u.1 = h ∧ fresh u.2.2.2.2) (fun (u : (Nat × Nat × Nat × ClassId × (Nat → Int32))) => (fun t => posM D cI A (qW cI u.1 u.2.1 u.2.2.1 0 u.2.2.2.2 0 ++ gW u.2.2.1 u.2.2.2.1 (fun _ => none)) t ∧ RowG u.2.2.2.1 t)) A) ([.ref h] : List Value).toArray s 2 688 A) (F0 m 23 ls []) := by
    intro n
    induction n with
    | zero =>
      intro k g1 hk h1 h0 H locs ls hl hP hD hS
      refine lv_iload_n hx hb dX5_init_23 rfl (lv_at hl 0 rfl) ?_
      refine lv_sipush (v := 160) hx hb dX5_init_24 (by decide) ?_
      refine lv_icmp_ge (tgt := 43) hx hb dX5_init_27 (by decide) (fun c_27 => ?_) (fun c_27 => absurd (nI_le (b := k) (a := 160) (by omega) (by omega)) c_27)
      have hP9 := hP
      have hD9 := hD
      exact W.vret hx hb hr (fun T9 ht hW => ⟨⟨(h, q8, q15, cG, g1), rfl, ⟨rfl, fun j hj => h1 j (by omega), fun j hj => h0 j (by omega)⟩, ⟨by rw [ht]; exact hP9, va_K.moved hW.alike hK, hD9⟩, RowG.moved hW.alike hG⟩, hS.F ht⟩) hS.2.2 dX5_init_43
    | succ n ih23 =>
      intro k g1 hk h1 h0 H locs ls hl hP hD hS
      refine lv_iload_n hx hb dX5_init_23 rfl (lv_at hl 0 rfl) ?_
      refine lv_sipush (v := 160) hx hb dX5_init_24 (by decide) ?_
      refine lv_icmp_ge (tgt := 43) hx hb dX5_init_27 (by decide) (fun c_27 => absurd c_27 (nI_ge (b := 160) (by omega) (by omega))) (fun c_27 => ?_)
      refine lv_aload_n hx hb dX5_init_30 rfl (lv_at hl 1 rfl) ?_
      refine va_get (D := D) (ci := 5) (v := .ref q8) (C := RX5) (T := TX5) (N := 4) hx hb hts (by decide +kernel) hown hK hP 0 rfl rfl 1 (by decide) (hts (.fieldLink RX5 9 "WarrenModel" "g" "[I") (by decide +kernel)) (fun _ h9 => h9) rfl dX5_init_31 ?_
      refine lv_iload_n hx hb dX5_init_34 rfl (lv_at hl 0 rfl) ?_
      refine lv_iconst (v := 1) hx hb dX5_init_35 (by decide) ?_
      refine va_iast hx hb hK hP hD hS 1 0 rfl rfl (vp_in_nI (n := k) (by omega) (by decide)) dX5_init_36 (fun H locs hP hD hS => ?_)
      have hP : va_P D vwCl ([(h, .inr (5, [.int 0, .ref q8, .ref q15, .int 0])), (q8, .inl (cI, 683, .inl (upd g1 (nI k).toNatClampNeg 1)))] ++ gW q15 cG (fun _ => none)) H := hP
      have hD : va_D A ([(h, .inr (5, [.int 0, .ref q8, .ref q15, .int 0])), (q8, .inl (cI, 683, .inl (upd g1 (nI k).toNatClampNeg 1)))] ++ gW q15 cG (fun _ => none)) := hD
      refine lv_iinc (v := (nI (k + 1))) (lv' := [(1, .int (nI (k + 1))), (0, .ref h)]) hx hb dX5_init_37 hl (k := 0) rfl (nI_1 k) (by decide) rfl (fun ls hl => ?_)
      refine lv_goto (tgt := 23) hx hb dX5_init_40 (by decide) ?_
      exact ih23 (k + 1) (upd g1 (nI k).toNatClampNeg 1) (by omega) (init_put h1 h0 (by omega)).1 (init_put h1 h0 (by omega)).2 _ _ ls (lv_sub hl [0, 1] rfl) hP hD hS
  exact L23 160 0 (fun _ => 0) (by omega) (fun _ h => absurd h (Nat.not_lt_zero _)) (fun _ _ => rfl) _ _ ls (lv_sub hl [0, 1] rfl) hP hD hS
/-! THE CLAIM OUT OF ONE WALK OF THE LAW'S BODY. Your part is whole_start (and what it stands on); all else here is the same for every law, but numbers. -/
def R_law : String := "WarrenLaw"
def lw_P (b : Addr) (xs : List Int32) (args : Array Value) (s : State) : Prop := args = #[.ref b] ∧ s.IntsAt b xs ∧ xs.length ≤ 5 ∧ (Jvm.Cond.and given_1 narrow_1).before args s = true
/-- what a walk over the start with the record d0 says of its end, said of the start itself -/
theorem lw_closed {s t : State} {o : Outcome} {d0 : Drawn} {L : List Loc} {k n : Nat} (hd0 : s.drawn.sameBut d0 lw_cs) (hv : ∃ v, o = .returned v) (hW : (s.setDrawn d0).WarmedH t.vm) (hs : (s.setDrawn d0).sameButNew ({ t with vm := s.vm } : State) L k n) : State.butDraws s t lw_cs (fun t1 => Framed s o t1 L k n) := by
  have h2 : t.drawn = d0 := congrArg State.drawn hs.1
  refine ⟨⟨hv, hW, State.sameButNew.setDrawn hs s.drawn⟩, ?_, by decide⟩
  rw [h2]
  exact hd0
def lw_Q (_ : Array Value) (s : State) (o : Outcome) (t : State) : Prop := o = .returned (some (.int 1)) ∧ State.butDraws s t lw_cs (fun t1 => Framed s o t1 [] 600002 7302232)
def lw_Z (below : List Frame) (a : Array Value) (s : State) : State → Prop := fun t => ∃ o, t.status = .running ∧ Ended t below o ∧ lw_Q a s o t
/-- the law's own end, with 1 on the stack, nothing written that was there before, its room as the claim has it; d0: the record of draws at this point (at the entry s.drawn: begin with 'refine W.base ?_' and 'have hd0 := Drawn.sameBut.refl s.drawn lw_cs') -/
theorem lw_ret {p : Program} {l : Launch} {e : Env} {s : State} {m : MethodId} {below : List Frame} {meth : Method} {c : Code} {b : Nat} {d0 : Drawn} (hd0 : s.drawn.sameBut d0 lw_cs) (hx : p.tables.exec = Jvm.exec) (hb : c.code = code) (hr : meth.sig.returnType = ret) (hlocks : meth.locks = false) {pc : Nat} {H : Heap} {ls : Array Slot} (hdg : decode code pc = .ok (.ireturn, 1)) : W p l e room_1 (s.setDrawn d0) m #[Value.ref b] below meth c H [] 600002 7302232 (lw_Z below #[Value.ref b] s) (F0 m pc ls [.int 1]) := by
  intro T hT X
  obtain ⟨fs, hret, hrun, hended, hW, hframe⟩ := X.leave (v := some (.int 1)) (hlocks := hlocks) (fun h => by rw [hr] at h; cases h)
  have hmeth' : T.vm.method? m = some meth := X.method'
  refine ⟨T.setFrames fs, ?_, .returned (some (.int 1)), hrun, hended, rfl, lw_closed hd0 ⟨_, rfl⟩ hW hframe⟩
  jvm_step X.here [X.here.top, hx, hb, hdg, hmeth', hr, ret, narrow_b1]
  (try refine ⟨rfl, ?_⟩); (try refine ⟨rfl, ?_⟩)
  first | (intro acts; rw [hret _ acts rfl rfl rfl]) | rw [hret _ _ rfl rfl rfl]
  exact Steps.refl _
/-- what holds at the law's entry: the machine, the code, the tables' words (any of lw_tbl by 'hts w (by decide +kernel)'), the script of L ints xs at the cell b, what the Statement gives of the start (any of its parts by flat_of_before) -/
def lw_At (p : Program) (s : State) (m : MethodId) (meth : Method) (c : Code) (b L : Nat) (xs : Nat → Int32) : Prop :=
  p.tables.exec = Jvm.exec ∧ c.code = code ∧ meth.sig.returnType = ret ∧ c.maxLocals = 9 ∧ s.vm.findClass R_law = some m.cls ∧ (∀ w ∈ lw_tbl, w.before #[Value.ref b] s = true) ∧ va_X b L xs s s.heap ∧ b < s.heap.size ∧ meth.locks = false ∧ (Jvm.Cond.and given_1 narrow_1).before #[Value.ref b] s = true
theorem and31 (x : Int32) : ∃ j : Nat, j < 32 ∧ x &&& 31 = nI j := by
  have hlt : x.toBitVec.toNat &&& 31 ≤ 31 := Nat.and_le_right
  refine ⟨x.toBitVec.toNat &&& 31, by omega, ?_⟩
  apply Int32.toBitVec_inj.mp
  rw [Int32.toBitVec_and]
  apply BitVec.eq_of_toNat_eq
  rw [BitVec.toNat_and]
  show x.toBitVec.toNat &&& 31 = (BitVec.ofNat 32 (x.toBitVec.toNat &&& 31)).toNat
  rw [BitVec.toNat_ofNat, Nat.mod_eq_of_lt (by omega)]
theorem cmp_self (x : Int64) : lg_cmp x x = 0 := by
  unfold lg_cmp
  rw [if_neg (fun h => Int64.lt_irrefl h), if_pos rfl]
theorem thr_nz {n : Nat} (h : n ≤ 3) (h0 : nI n = 0) : n = 0 := by
  rcases (show n = 0 ∨ n = 1 ∨ n = 2 ∨ n = 3 by omega) with rfl | rfl | rfl | rfl
  · rfl
  · exact absurd h0 (by decide)
  · exact absurd h0 (by decide)
  · exact absurd h0 (by decide)
theorem law_in {n : Nat} (h : n < 5) : vp_in (nI n) 5 := vp_in_nI h (by decide)
theorem add0 (n : Nat) : (0 : Int32) + nI n = nI n := Int32.zero_add _
/-- the law's surroundings behind its start: a script of five ints -/
def lawE (p : Program) (s : State) (m : MethodId) (meth : Method) (c : Code) (b : Nat) (xs : Nat → Int32) (D : va_G) (cI cO : ClassId) (e0 : Nat) (cG : ClassId) : Prop :=
  lw_At p s m meth c b 5 xs ∧ va_K D vwCl [(cI, .int), (cO, .long)] s ∧ XV s ∧ NC s ∧ TX (fun q : Nat => s.heap.size ≤ q) s s.heap ∧ EX e0 (fun q : Nat => s.heap.size ≤ q) s s.heap ∧ RowG cG s
section LAWS
variable {p : Program} {l : Launch} {e : Env} {s : State} {m : MethodId} {below : List Frame} {meth : Method} {c : Code} {b : Nat} {xs : Nat → Int32} {D : va_G} {cI cO : ClassId} {e0 : Nat} {cG : ClassId} {H : Heap} {locs : List Loc} {ls : Array Slot} {cells slots : Nat}
set_option maxHeartbeats 4000000 in
theorem law_end {L : Nat} {i : Int32} (C0 : lw_At p s m meth c b L xs) (hcs : cells ≤ 600002 ∧ slots ≤ 7302232) (hS : va_S (fun q : Nat => s.heap.size ≤ q) s.heap H locs) (hl : lv_has ls 9 [(0, .ref b), (4, .int i)]) (hgt : Int32.ofNat L - 5 < i) : W p l e room_1 s m #[Value.ref b] below meth c H locs cells slots (lw_Z below #[Value.ref b] s) (F0 m 23 ls []) := by
  obtain ⟨hx, hb, hr, hml, hown, hts, hX, hbl, hlocks, hgv⟩ := id C0
  have hbA : ¬ (fun q : Nat => s.heap.size ≤ q) b := Nat.not_le.mpr hbl
  refine lv_iload hx hb dL_law_23 (lv_at hl 1 rfl) ?_
  refine lv_aload_n hx hb dL_law_25 rfl (lv_at hl 0 rfl) ?_
  refine va_slen hx hb hX hbl hbA hS dL_law_26 ?_
  refine lv_iconst (v := 5) hx hb dL_law_27 (by decide) ?_
  refine lv_isub hx hb dL_law_28 ?_
  refine lv_icmp_gt (tgt := 1771) hx hb dL_law_29 (by decide) (fun _ => ?_) (fun q => absurd hgt q)
  refine lv_iconst (v := 1) hx hb dL_law_1771 (by decide) ?_
  refine va_forget (fun q hq => hS.2.2 q hq) (W.widen (k := 600002) (n := 7302232) hcs.1 hcs.2 (W.base ?_))
  exact lw_ret (Drawn.sameBut.refl s.drawn lw_cs) hx hb hr hlocks dL_law_1772
set_option maxHeartbeats 4000000 in
theorem law_tail (C0 : lw_At p s m meth c b 5 xs) (hcs : cells ≤ 600002 ∧ slots ≤ 7302232) (hS : va_S (fun q : Nat => s.heap.size ≤ q) s.heap H locs) (hl : lv_has ls 9 [(0, .ref b), (4, .int 0)]) : W p l e room_1 s m #[Value.ref b] below meth c H locs cells slots (lw_Z below #[Value.ref b] s) (F0 m 1765 ls []) := by
  obtain ⟨hx, hb, hr, hml, hown, hts, hX, hbl, hlocks, hgv⟩ := id C0
  refine lv_iinc (v := 5) (lv' := [(4, .int 5), (0, .ref b)]) hx hb dL_law_1765 hl (k := 1) rfl (by decide) (by decide) rfl (fun ls hl => ?_)
  refine lv_goto (tgt := 23) hx hb dL_law_1768 (by decide) ?_
  exact law_end C0 hcs hS (lv_sub hl [1, 0] rfl) (by decide)
/-- one place of the script on the stack -/
theorem law_ld {n pc pc1 pc2 pc3 pc4 pc5 : Nat} {z : Int} {rest : List Value} (C0 : lw_At p s m meth c b 5 xs) (hS : va_S (fun q : Nat => s.heap.size ≤ q) s.heap H locs) (h0 : ls[0]? = some (.val (.ref b))) (h4 : ls[4]? = some (.val (.int 0))) (hn : n < 5) (hz : Int32.ofInt z = nI n)
    (d0 : decode code pc = .ok (.aload_n 0, 1)) (d1 : decode code pc1 = .ok (.iload 4, 2)) (d2 : decode code pc2 = .ok (.iconst z, 1)) (d3 : decode code pc3 = .ok (.iadd, 1)) (d4 : decode code pc4 = .ok (.iaload, 1)) (q1 : pc1 = pc + 1) (q2 : pc2 = pc1 + 2) (q3 : pc3 = pc2 + 1) (q4 : pc4 = pc3 + 1) (q5 : pc5 = pc4 + 1) {cells slots : Nat} {Q : State → Prop}
    (kk : W p l e room_1 s m #[Value.ref b] below meth c H locs cells slots Q (F0 m pc5 ls (.int (xs n) :: rest))) : W p l e room_1 s m #[Value.ref b] below meth c H locs cells slots Q (F0 m pc ls rest) := by
  obtain ⟨hx, hb, hr, hml, hown, hts, hX, hbl, hlocks, hgv⟩ := id C0
  have hbA : ¬ (fun q : Nat => s.heap.size ≤ q) b := Nat.not_le.mpr hbl
  subst q5; subst q4; subst q3; subst q2; subst q1
  refine lv_aload_n hx hb d0 rfl h0 ?_
  refine lv_iload hx hb d1 h4 ?_
  refine lv_iconst (v := nI n) hx hb d2 hz ?_
  refine lv_iadd hx hb d3 ?_
  rw [add0]
  refine va_sld hx hb hX hbl hbA hS (law_in hn) d4 ?_
  rw [nI_clamp (by omega)]
  exact kk
set_option maxHeartbeats 4000000 in
/-- both answers are compared -/
theorem law_cmp {pc : Nat} {off : Int} {q g0 v0 o0 : Nat} {th k r : Int32} {g : Nat → Int32} {gm : Int32} {u : Nat → Int64} (E : lawE p s m meth c b xs D cI cO e0 cG) (hcs : cells ≤ 600002 ∧ slots ≤ 7302232)
    (hP : va_P D vwCl (oW cO o0 u ++ qW cI q g0 v0 th g gm) H) (hS : va_S (fun q : Nat => s.heap.size ≤ q) s.heap H locs) (hl : lv_has ls 9 [(0, .ref b), (2, .ref q), (3, .ref o0), (4, .int 0), (5, .int k), (6, .int r)]) (hk : th = k) (hv : k = 0 → u 0 = r.toInt64)
    (d0 : decode code pc = .ok (.aload_n 2, 1)) (d1 : decode code (pc + 1) = .ok (.invokevirtual 101, 3)) (d2 : decode code (pc + 4) = .ok (.iload 5, 2)) (d3 : decode code (pc + 6) = .ok (.if_icmp .eq 5, 3)) (d4 : decode code (pc + 11) = .ok (.iload 5, 2)) (d5 : decode code (pc + 13) = .ok (.ifCond .ne 15, 3)) (d6 : decode code (pc + 16) = .ok (.aload_n 3, 1)) (d7 : decode code (pc + 17) = .ok (.iconst 0, 1)) (d8 : decode code (pc + 18) = .ok (.laload, 1)) (d9 : decode code (pc + 19) = .ok (.iload 6, 2)) (d10 : decode code (pc + 21) = .ok (.i2l, 1)) (d11 : decode code (pc + 22) = .ok (.lcmp, 1)) (d12 : decode code (pc + 23) = .ok (.ifCond .eq 5, 3)) (d13 : decode code (pc + 28) = .ok (.goto off, 3)) (ht : ((pc + 28 : Nat) : Int) + off = (1765 : Nat)) :
    W p l e room_1 s m #[Value.ref b] below meth c H locs cells slots (lw_Z below #[Value.ref b] s) (F0 m pc ls []) := by
  obtain ⟨C0, hK2, hXV, hN, hTX, hEX, hG⟩ := E
  obtain ⟨hx, hb, hr, hml, hown, hts, hX, hbl, hlocks, hgv⟩ := id C0
  have hK := K_1 hK2
  have hE := hXV.1
  subst hk
  refine lv_aload_n hx hb d0 rfl (lv_at hl 1 rfl) ?_
  refine vp_callSi (va_Run.run (va_runV (As := []) (rest := []) ⟨hx, hb, hml, hown, hts⟩ (c_X5_thrown l D cI q g0 v0 th g gm) (cwV 0 hts gL_law_X5_thrown rfl rfl rfl (by decide +kernel) ⟨Nat.le_of_ble_eq_true rfl, Nat.le_of_ble_eq_true rfl⟩) ⟨preR_blind, va_recv hK hP (ci := 5) (q0 := 1) rfl rfl, preR_of (hP.sub (ws' := qW cI q g0 v0 th g gm) [1, 2] rfl) hK hE [.ref q]⟩ rfl rfl hl.1 rfl (lv_room (Nat.le_of_ble_eq_true rfl)) d1 ⟨Nat.le_trans (Nat.le_of_eq (Nat.add_zero _)) (Nat.le_trans hcs.1 (Nat.le_of_ble_eq_true rfl)), Nat.le_trans (Nat.le_of_eq (Nat.add_zero _)) (Nat.le_trans hcs.2 (Nat.le_of_ble_eq_true rfl))⟩)) (fun r9 hr9 => ?_)
  subst hr9
  refine lv_iload hx hb d2 (lv_at hl 4 rfl) ?_
  refine lv_icmp_eq (tgt := pc + 11) hx hb d3 (by omega) (fun _ => ?_) (fun z9 => absurd rfl z9)
  refine lv_iload hx hb d4 (lv_at hl 4 rfl) ?_
  refine lv_if_ne (tgt := pc + 28) hx hb d5 (by omega) (fun _ => ?_) (fun hz => ?_)
  · refine lv_goto (tgt := 1765) hx hb d13 ht ?_
    exact law_tail C0 hcs hS (lv_sub hl [0, 3] rfl)
  · refine lv_aload_n hx hb d6 rfl (lv_at hl 2 rfl) ?_
    refine lv_iconst (v := 0) hx hb d7 (by decide) ?_
    refine va_lald hx hb hK2 hP 0 1 rfl rfl (show vp_in 0 1 from vp_in_nI (n := 0) (by decide) (by decide)) d8 ?_
    refine lv_iload hx hb d9 (lv_at hl 5 rfl) ?_
    refine lv_i2l (v := r.toInt64) hx hb d10 rfl ?_
    refine W.lcmp hx hb d11 ?_
    refine lv_if_eq (tgt := pc + 28) hx hb d12 (by omega) (fun _ => ?_) (fun z9 => absurd (by rw [show (0 : Int32).toNatClampNeg = 0 from rfl, hv hz]; exact cmp_self _) z9)
    refine lv_goto (tgt := 1765) hx hb d13 ht ?_
    exact law_tail C0 hcs hS (lv_sub hl [0, 3] rfl)
end LAWS
