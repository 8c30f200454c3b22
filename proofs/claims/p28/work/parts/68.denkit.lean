-- ===== the shadow's walks: what they stand on =====
abbrev KD (cI cZ cG cY : ClassId) : List (ClassId × FieldType) := [(cI, .int), (cZ, .boolean), (cG, .array .int), (cY, .array .boolean)]
theorem K_D {D : va_G} {cl : List vw_C} {cI cZ cG cY : ClassId} {s : State} (h : va_K D cl (KD cI cZ cG cY) s) : va_K D cl [(cI, .int)] s := ⟨h.1, fun k q hq => by
  cases k with
  | zero => exact h.2 0 q hq
  | succ k => exact nomatch hq⟩
def den_cell : Cond := .methodLinkNest RX5 37 yL_cell RL
def den_below : Cond := .methodLinkNest RX5 43 yL_below RL
/-- the script -/
def BX (b L : Nat) (xs : Nat → Int32) (A : Nat → Prop) (U : State) (H : Heap) : Prop := va_X b L xs U H ∧ b < H.size ∧ ¬ A b ∧ L < 2 ^ 31
theorem BX.pass {b L : Nat} {xs : Nat → Int32} {A B : Nat → Prop} {s : State} {H : Heap} {locs : List Loc} (h : BX b L xs A s s.heap) (hS : va_S A s.heap H locs) (hB : ∀ q, B q → A q) {U : State} (hU : U.heap = H) (hW : s.vm.Alike U.vm) : BX b L xs B U U.heap := by
  rw [hU]
  exact ⟨va_X.moved hW (h.1.kept (hS.2.1 b h.2.1 h.2.2.1)), Nat.lt_of_lt_of_le h.2.1 hS.1, fun z => h.2.2.1 (hB b z), h.2.2.2⟩
/-- what stands around a walk that writes -/
def GX (cG : ClassId) (t b L : Nat) (xs : Nat → Int32) (A : Nat → Prop) (U : State) (H : Heap) : Prop := XV U ∧ TX A U H ∧ NC U ∧ SX t A U H ∧ RowG cG U ∧ BX b L xs A U H ∧ va_Nw den_cell U ∧ va_Nw den_below U ∧ (Cond.arrayOver (.array .int)).before #[] U = true
theorem GX.pass {cG : ClassId} {t b L : Nat} {xs : Nat → Int32} {A B : Nat → Prop} {s : State} {H : Heap} {locs : List Loc} (h : GX cG t b L xs A s s.heap) (hS : va_S A s.heap H locs) (hB : ∀ q, B q → A q) {U : State} (hU : U.heap = H) (hW : s.WarmedH U.vm) : GX cG t b L xs B U U.heap :=
  ⟨XV.warm hW h.1, h.2.1.pass hS hB hU hW.alike, NC.moved hW.alike h.2.2.1, h.2.2.2.1.pass hS hB hU hW.alike, RowG.moved hW.alike h.2.2.2.2.1, h.2.2.2.2.2.1.pass hS hB hU hW.alike, va_Nw.warmM hW h.2.2.2.2.2.2.1, va_Nw.warmM hW h.2.2.2.2.2.2.2.1, over_moved hW.alike h.2.2.2.2.2.2.2.2⟩
theorem GX.same {cG : ClassId} {t b L : Nat} {xs : Nat → Int32} {A : Nat → Prop} {u U : State} {H : Heap} (hv : u.vm = U.vm) (h : GX cG t b L xs A u H) : GX cG t b L xs A U H :=
  have hal : u.vm.Alike U.vm := hv ▸ Vm.Alike.refl u.vm
  ⟨XV.same hv h.1, ⟨vx_Zq.moved hal h.2.1.1, vx_Zq.moved hal h.2.1.2⟩, NC.moved hal h.2.2.1, SX.same hv h.2.2.2.1, RowG.moved hal h.2.2.2.2.1, ⟨va_X.moved hal h.2.2.2.2.2.1.1, h.2.2.2.2.2.1.2⟩, va_Nw.same rfl hv h.2.2.2.2.2.2.1, va_Nw.same rfl hv h.2.2.2.2.2.2.2.1, over_moved hal h.2.2.2.2.2.2.2.2⟩
def preDR (D : va_G) (cI cZ cG cY : ClassId) (ws : va_W) (U : State) : Prop := va_P D vwCl ws U.heap ∧ va_K D vwCl (KD cI cZ cG cY) U
theorem preDR_blind {av : List Value} {D : va_G} {cI cZ cG cY : ClassId} {ws : va_W} : FrameBlind (va_Pc av (preDR D cI cZ cG cY ws)) := fun a U g mk q => by
  obtain ⟨q0, qP, qK⟩ := q
  exact ⟨q0, qP, va_K.moved (u := U) (U := U.calling g mk a) (Vm.Alike.refl U.vm) qK⟩
theorem preDR_of {D : va_G} {cI cZ cG cY : ClassId} {ws : va_W} {s : State} {H : Heap} (hP : va_P D vwCl ws H) (hK : va_K D vwCl (KD cI cZ cG cY) s) (av : List Value) : ∀ U : State, U.heap = H → s.WarmedH U.vm → va_Pc av (preDR D cI cZ cG cY ws) av.toArray U := fun U hU hW => ⟨rfl, by rw [hU]; exact hP, va_K.moved hW.alike hK⟩
def preD (D : va_G) (cI cZ cG cY : ClassId) (t b L : Nat) (xs : Nat → Int32) (ws : va_W) (sz : Nat) (U : State) : Prop := (U.heap.size = sz ∧ va_P D vwCl ws U.heap ∧ va_K D vwCl (KD cI cZ cG cY) U ∧ va_D (fun _ => True) ws) ∧ GX cG t b L xs (va_A ws sz) U U.heap
theorem preD_blind {av : List Value} {D : va_G} {cI cZ cG cY : ClassId} {t b L : Nat} {xs : Nat → Int32} {ws : va_W} {sz : Nat} : FrameBlind (va_Pc av (preD D cI cZ cG cY t b L xs ws sz)) := fun a U g mk q => by
  obtain ⟨q0, ⟨q1, qP, qK, qD⟩, qG⟩ := q
  exact ⟨q0, ⟨q1, qP, va_K.moved (u := U) (U := U.calling g mk a) (Vm.Alike.refl U.vm) qK, qD⟩, GX.same (u := U) (U := U.calling g mk a) rfl qG⟩
theorem preD_of {D : va_G} {cI cZ cG cY : ClassId} {t b L : Nat} {xs : Nat → Int32} {ws : va_W} {A : Nat → Prop} {s : State} {H : Heap} {locs : List Loc} (hP : va_P D vwCl ws H) (hK : va_K D vwCl (KD cI cZ cG cY) s) (hD : va_D A ws) (hG : GX cG t b L xs A s s.heap) (hS : va_S A s.heap H locs) (hF : ∀ q, va_A ws H.size q → A q) (av : List Value) : ∀ U : State, U.heap = H → s.WarmedH U.vm → va_Pc av (preD D cI cZ cG cY t b L xs ws H.size) av.toArray U := fun U hU hW =>
  ⟨rfl, ⟨by rw [hU], by rw [hU]; exact hP, va_K.moved hW.alike hK, hD.weaken (fun _ _ _ _ => trivial)⟩, hG.pass hS hF hU hW⟩
def posD (D : va_G) (cI cZ cG cY : ClassId) (A : Nat → Prop) (ws : va_W) (t : State) : Prop := va_P D vwCl ws t.heap ∧ va_K D vwCl (KD cI cZ cG cY) t ∧ va_D A ws
theorem free0 {A0 : Nat → Prop} {ws : va_W} {H0 H : Heap} {locs : List Loc} (hD : va_D A0 ws) (hS : va_S A0 H0 H locs) (hA : ∀ q, H0.size ≤ q → A0 q) : ∀ q, va_A ws H.size q → A0 q := by
  intro q h
  rcases h with ⟨k, e, h⟩ | h
  · exact hD.2 _ (q, e) h
  · exact hA q (Nat.le_trans hS.1 h)
theorem join0 {A A0 : Nat → Prop} {ws : va_W} (hF : ∀ q, A q → A0 q) (hD : va_D A ws) : va_D A0 ws := hD.weaken (fun _ q _ h => hF q.1 h)
theorem vin_lt {i : Int32} {n : Nat} (h : vp_in i n) : i.toNatClampNeg < n := Nat.not_le.mp fun q => h (Or.inr q)
theorem bW_at2 {X : va_W} {K : Nat} (hK : X.length = K) {cI : ClassId} {r : Nat → Nat} {n : Nat} {R : RW} {j : Nat} {g : Nat → Int32} (h : j < n) : (X ++ bW cI r n (upR R j g))[K + j]? = some (r j, .inl (cI, 19, .inl g)) := by
  rw [bW_at hK h, upR_s]
theorem bW_wrP {X : va_W} {K : Nat} (hK : X.length = K) {D : va_G} {cl : List vw_C} {H : Heap} {cI : ClassId} {r : Nat → Nat} {n : Nat} {R : RW} {j : Nat} {g g' : Nat → Int32} (h : va_P D cl ((X ++ bW cI r n (upR R j g)).set (K + j) (r j, .inl (cI, 19, .inl g'))) H) : va_P D cl (X ++ bW cI r n (upR R j g')) H := by
  rw [bW_set hK, upR_u] at h; exact h
theorem bW_wrD {X : va_W} {K : Nat} (hK : X.length = K) {A : Nat → Prop} {cI : ClassId} {r : Nat → Nat} {n : Nat} {R : RW} {j : Nat} {g g' : Nat → Int32} (h : va_D A ((X ++ bW cI r n (upR R j g)).set (K + j) (r j, .inl (cI, 19, .inl g')))) : va_D A (X ++ bW cI r n (upR R j g')) := by
  rw [bW_set hK, upR_u] at h; exact h
theorem dY_at {cI cZ cG cY : ClassId} {o r : Nat → Nat} {h b dr : Nat} {δ : DD} {Y : RW} {pl : va_W} {s : Nat} (hs : s < 2) : (dW cI cZ cG cY o r h b dr δ Y ++ pl)[3 + s]? = some (o (3 + s), .inl (cZ, 160, .inl (Y s))) := by
  rcases (show s = 0 ∨ s = 1 by omega) with q | q <;> subst q <;> rfl
theorem dY_set {cI cZ cG cY : ClassId} {o r : Nat → Nat} {h b dr : Nat} {δ : DD} {Y : RW} {pl : va_W} {s : Nat} {g : Nat → Int32} (hs : s < 2) : (dW cI cZ cG cY o r h b dr δ Y ++ pl).set (3 + s) (o (3 + s), .inl (cZ, 160, .inl g)) = dW cI cZ cG cY o r h b dr δ (upR Y s g) ++ pl := by
  rcases (show s = 0 ∨ s = 1 by omega) with q | q <;> subst q <;> rfl
section WD
variable {p : Program} {l : Launch} {e : Env} {R : Room} {s : State} {m : MethodId} {args : Array Value} {below : List Frame} {meth : Method} {c : Code} {H : Heap} {locs : List Loc} {cells slots : Nat} {Q : State → Prop}
variable {cc : ByteArray} {pc : Nat} {ls : Array Slot} {rest : List Value} {D : va_G} {cl : List vw_C} {ws : va_W} {a : Nat} {cI cZ cG cY : ClassId}
/-- a being's row -/
theorem w_ldB (hexec : p.tables.exec = Jvm.exec) (hb : c.code = cc) (hK : va_K D cl (KD cI cZ cG cY) s) (hP : va_P D cl ws H) (q0 : Nat) {n : Nat} {rr : Nat → Nat} (ha : ws[q0]? = some (a, .inl (cG, n, .inr (.inr (.inr (.inr (fun j => some (rr j)))))))) {i : Int32} (hin : vp_in i n) (hdg : decode cc pc = .ok (.aaload, 1))
    (kk : W p l e R s m args below meth c H locs cells slots Q (F0 m (pc + 1) ls (.ref (rr i.toNatClampNeg) :: rest))) : W p l e R s m args below meth c H locs cells slots Q (F0 m pc ls (.int i :: .ref a :: rest)) := by
  have hlt : i.toNatClampNeg < n := vin_lt hin
  exact W.aald (v := .ref (rr i.toNatClampNeg)) (ty := .array .int) hexec hb (hP q0 _ ha) ((hK.2 2 _ rfl).1 n (fun j => va_rf (some (rr j)))) rfl (fun q => by cases q) (by show ¬ (i < 0 ∨ (arrV _ _ _).slots.size ≤ _); rw [arrV_size]; exact hin) (by show (arrV _ _ _).slots[_]? = _; rw [arrV_read _ _ hlt]; rfl) rfl rfl hdg kk
/-- a side's row of what it knows -/
theorem w_ldY (hexec : p.tables.exec = Jvm.exec) (hb : c.code = cc) (hK : va_K D cl (KD cI cZ cG cY) s) (hP : va_P D cl ws H) (q0 : Nat) {n : Nat} {o : Nat → Nat} (ha : ws[q0]? = some (a, .inl (cY, n, .inr (.inr (.inr (.inr (fun j => some (o (3 + j))))))))) {i : Int32} (hin : vp_in i n) (hdg : decode cc pc = .ok (.aaload, 1))
    (kk : W p l e R s m args below meth c H locs cells slots Q (F0 m (pc + 1) ls (.ref (o (3 + i.toNatClampNeg)) :: rest))) : W p l e R s m args below meth c H locs cells slots Q (F0 m pc ls (.int i :: .ref a :: rest)) := by
  have hlt : i.toNatClampNeg < n := vin_lt hin
  exact W.aald (v := .ref (o (3 + i.toNatClampNeg))) (ty := .array .boolean) hexec hb (hP q0 _ ha) ((hK.2 3 _ rfl).1 n (fun j => va_rf (some (o (3 + j))))) rfl (fun q => by cases q) (by show ¬ (i < 0 ∨ (arrV _ _ _).slots.size ≤ _); rw [arrV_size]; exact hin) (by show (arrV _ _ _).slots[_]? = _; rw [arrV_read _ _ hlt]; rfl) rfl rfl hdg kk
end WD
-- what is drawn
def belowI (v n : Int32) : Int32 := remI (v &&& 2147483647) n
theorem below_or (v : Int32) {n : Nat} (h1 : 1 ≤ n) (h2 : n < 2 ^ 31) : ∃ j : Nat, j < n ∧ belowI v (nI n) = nI j := by
  have e : v &&& 2147483647 = nI (v.toBitVec.toNat % 2 ^ 31) := pk_and v 31 (by decide)
  refine ⟨v.toBitVec.toNat % 2 ^ 31 % n, Nat.mod_lt _ (by omega), ?_⟩
  unfold belowI remI
  rw [e]
  exact pk_rem (Nat.mod_lt _ (by decide)) (by omega) h2
def cellI (L : Nat) (xs : Nat → Int32) (k : Int32) : Int32 := if nI L ≤ k then 790386105 * (k + 3) else xs k.toNatClampNeg
theorem rem24 {n : Nat} (h : n < 2 ^ 31) : remI (nI n) 24 = nI (n % 24) := pk_rem (d := 24) h (by decide) (by decide)
theorem div24 {n : Nat} (h : n < 2 ^ 31) : nI n / 24 = nI (n / 24) := pk_div (d := 24) h (by decide) (by decide)
/-- a cell that is inner: what a step from it leads to is on the map -/
theorem in_step {c : Nat} (hc : ¬ rimN c) (h160 : c < 160) (d : Int32) : ∃ c', c' < 160 ∧ nI c + stepD d = nI c' := by
  unfold stepD
  have h0 := nb_st (k := 0) hc (by decide)
  have h1 := nb_st (k := 1) hc (by decide)
  have h2 := nb_st (k := 2) hc (by decide)
  have h3 := nb_st (k := 3) hc (by decide)
  split
  · exact ⟨_, nb_in (k := 0) hc, h0⟩
  · split
    · exact ⟨_, nb_in (k := 1) hc, h1⟩
    · split
      · exact ⟨_, nb_in (k := 2) hc, h2⟩
      · exact ⟨_, nb_in (k := 3) hc, h3⟩
def preB (b L : Nat) (xs : Nat → Int32) (U : State) : Prop := BX b L xs (fun _ => False) U U.heap
theorem preB_blind {av : List Value} {b L : Nat} {xs : Nat → Int32} : FrameBlind (va_Pc av (preB b L xs)) := fun a U g mk q => by
  obtain ⟨q0, q1, q2⟩ := q
  exact ⟨q0, va_X.moved (u := U) (U := U.calling g mk a) (Vm.Alike.refl U.vm) q1, q2⟩
theorem preB_of {b L : Nat} {xs : Nat → Int32} {A : Nat → Prop} {s : State} {H : Heap} {locs : List Loc} (hB : BX b L xs A s s.heap) (hS : va_S A s.heap H locs) (av : List Value) : ∀ U : State, U.heap = H → s.WarmedH U.vm → va_Pc av (preB b L xs) av.toArray U := fun U hU hW => ⟨rfl, hB.pass hS (fun _ z => z.elim) hU hW.alike⟩
theorem m1_sub (x : Int32) : x + (-1) = x - 1 := (Int32.sub_eq_add_neg x 1).symm
theorem tt_in {t : Int32} {n : Nat} (h : t = -1 ∨ ∃ j, j < n ∧ t = nI j) (h0 : ¬ t < 0) (hn : n < 2 ^ 31) : vp_in t n := by
  rcases h with q | ⟨j, hj, q⟩
  · rw [q] at h0; exact absurd neg1_lt h0
  · rw [q]; exact vp_in_nI hj hn
theorem on_or (δ : DD) (c : Int32) : onD δ c = -1 ∨ ∃ j, j < d_n δ ∧ onD δ c = nI j := by
  rcases fst_or (fun j => decide (d_R δ j 1 = c)) (d_n δ) 0 with ⟨a, -⟩ | ⟨j, -, a2, a3, -⟩
  · exact Or.inl a
  · exact Or.inr ⟨j, by omega, a3⟩
theorem on_in {δ : DD} {c : Int32} (hn : d_n δ ≤ 10) (h : ¬ onD δ c < 0) : vp_in (onD δ c) (d_n δ) := tt_in (on_or δ c) h (by omega)
theorem cellD_in {x y : Int32} {j k : Nat} (hx : cellB x = true) (hy : cellB y = true) (h1 : 1 ≤ j) (h2 : j < 8) (h3 : k ≤ j) : vp_in (cellD x y (nI j) (nI k)) 160 := by
  obtain ⟨i, hi, rfl⟩ := cell_n hx
  obtain ⟨q, hq, rfl⟩ := cell_n hy
  obtain ⟨c, hc, e, -⟩ := line_D hi hq h2 h1 h3
  rw [e]
  exact vp_in_nI hc (by decide)
theorem act_fin {δ δ5 δ6 δ7 : DD} {jb : Nat} {x t4 : Int32} {k : Nat} {g9 : Nat → Int32} (h5 : δ5 = spD δ jb x) (h6 : δ6 = e_g δ5 jb (poisR (d_R δ5 jb))) (h7 : δ7 = e_g δ6 jb (healR (d_R δ6 jb))) (hg : offRL 5 0 (d_R δ7 jb) = offRL 0 k g9) (ht4 : t4 = timeD (d_R δ jb)) : e_ac (e_g δ7 jb (upd g9 8 (g9 8 + t4))) (d_ac (e_g δ7 jb (upd g9 8 (g9 8 + t4))) + 1) = actD δ jb x := by
  have e7 : d_R δ7 jb = healR (poisR (d_R δ5 jb)) := by rw [h7, e_g_R, h6, e_g_R]
  have eg : g9 = wearR (d_R δ5 jb) := by
    have h : offRL 5 0 (d_R δ7 jb) = g9 := hg
    rw [← h, e7]
    rfl
  have e8 : ∀ G, e_g δ7 jb G = e_g δ5 jb G := fun G => by rw [h7, e_g_u, h6, e_g_u]
  rw [e8, eg, ht4, h5]
  rfl
