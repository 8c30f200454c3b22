-- ===== one more being in the shadow: its rows =====
theorem RowG.eq {cA cG : ClassId} {U : State} (h1 : RowG cA U) (h2 : RowG cG U) : cA = cG := by
  obtain ⟨_, _, a, -⟩ := h1
  obtain ⟨_, _, b, -⟩ := h2
  exact Option.some.inj (a.symm.trans b)
theorem row_eqq {cG : ClassId} {n : Nat} {f g : Nat → Option Nat} (h : ∀ j, j < n → f j = g j) : vp_cell cG (n, .inr (.inr (.inr (.inr f)))) = vp_cell cG (n, .inr (.inr (.inr (.inr g)))) := by
  rw [vp_cell_q, vp_cell_q]
  unfold arrV
  have e : (fun j : Fin n => va_rf (f j.val)) = (fun j : Fin n => va_rf (g j.val)) := funext fun j => by rw [h j.val j.isLt]
  rw [e]
theorem P_rowq {D : va_G} {cl : List vw_C} {A : Nat → Prop} {ws : va_W} {H : Heap} {cG : ClassId} {n a : Nat} {f : Nat → Option Nat} (hP : va_P D cl ws H) (hD : va_D A ws) (k : Nat) (ha : ws[k]? = some (a, .inl (cG, n, .inr (.inr (.inr (.inr f)))))) (g : Nat → Option Nat) (h : ∀ j, j < n → f j = g j) : va_P D cl (ws.set k (a, .inl (cG, n, .inr (.inr (.inr (.inr g)))))) H := by
  refine hP.set hD ha ?_ (fun _ _ => rfl)
  show H[a]? = some (vp_cell cG (n, .inr (.inr (.inr (.inr g)))))
  rw [← row_eqq h]
  exact hP k _ ha
section WCG
variable {p : Program} {l : Launch} {e : Env} {R : Room} {s : State} {m : MethodId} {args : Array Value} {below : List Frame} {meth : Method} {c : Code} {H : Heap} {locs : List Loc} {cells slots : Nat} {Q : State → Prop}
variable {cc : ByteArray} {pc : Nat} {ls : Array Slot} {rest : List Value} {D : va_G} {cl : List vw_C} {A : Nat → Prop} {ws : va_W} {H0 : Heap} {cI cG : ClassId}
/-- rows of ints are copied from one array to another, from the first place on -/
theorem w_copyG (hexec : p.tables.exec = Jvm.exec) (hb : c.code = cc) (hml : c.maxLocals = ls.size) {own : String} {index : Nat} (hown : s.vm.findClass own = some m.cls) (hlink : (Cond.methodLink own index arraycopyName).before args s = true) (hnat : (Cond.native arraycopyName).before args s = true) (hstat : (Cond.static arraycopyName).before args s = true) (hini : (Cond.initialized "java/lang/System").before args s = true)
    (hK : va_K D cl [(cI, .int)] s) (hG : RowG cG s) (hP : va_P D cl ws H) (hD : va_D A ws) (hS : va_S A H0 H locs) (q0 q1 : Nat) {a0 a n0 n1 : Nat} {f g : Nat → Option Nat} (ha0 : ws[q0]? = some (a0, .inl (cG, n0, .inr (.inr (.inr (.inr f)))))) (ha1 : ws[q1]? = some (a, .inl (cG, n1, .inr (.inr (.inr (.inr g))))))
    {n N : Nat} (hn : n < 2 ^ 31) (h4 : n ≤ n0) (h5 : n ≤ n1) (hel : ∀ i : Nat, i < n → ∀ y : Nat, f i = some y → ∃ r : Nat → Int32, H[y]? = some (vp_cell cI (N, .inl r)))
    (hframes : 1 ≤ R.frames) (hlocals : (rest.map fun v => v.category).sum + (nativeFrameWords "java/lang/System" "arraycopy" 5 + 11) ≤ R.locals) (hdg : decode cc pc = .ok (.invokestatic index, 3))
    (kk : ∀ (H1 : Heap) (locs1 : List Loc), va_P D cl (ws.set q1 (a, .inl (cG, n1, .inr (.inr (.inr (.inr (va_cpy f g 0 0 n))))))) H1 → va_D A (ws.set q1 (a, .inl (cG, n1, .inr (.inr (.inr (.inr (va_cpy f g 0 0 n))))))) → va_S A H0 H1 locs1 → W p l e R s m args below meth c H1 locs1 cells slots Q (F0 m (pc + 3) ls rest)) : W p l e R s m args below meth c H locs cells slots Q (F0 m pc ls (.int (nI n) :: .int 0 :: .ref a :: .int 0 :: .ref a0 :: rest)) := by
  obtain ⟨kA, comp, f1, f2, f3, f4⟩ := hG
  have h2 : s.vm.findClass ("[" ++ (FieldType.int).toString) = some cI := (hK.2 0 _ rfl).2
  have e1 : comp = cI := Option.some.inj (f4.symm.trans h2)
  subst e1
  obtain ⟨kC, hkC, -⟩ := Vm.findClass_spec f4
  intro T hT X
  have z0 : (0 : Int32).toNatClampNeg = 0 := by decide
  have zn : (nI n).toNatClampNeg = n := nI_clamp hn
  have i0 : (0 : Int32).toInt = 0 := by decide
  have inn : (nI n).toInt = (n : Int) := nI_toInt hn
  have hc0 : H[a0]? = some (vp_cell cG (n0, .inr (.inr (.inr (.inr f))))) := hP q0 _ ha0
  have hc1 : H[a]? = some (vp_cell cG (n1, .inr (.inr (.inr (.inr g))))) := hP q1 _ ha1
  obtain ⟨vm', X', step⟩ := X.arraycopy hexec hown hlink hnat hstat hini (src := a0) (dst := a) (cs := vp_cell cG (n0, .inr (.inr (.inr (.inr f))))) (cd := vp_cell cG (n1, .inr (.inr (.inr (.inr g))))) (srcPos := 0) (destPos := 0) (n := nI n) (by rw [hT]; exact hc0) (by rw [hT]; exact hc1)
    (fun _ h => by cases h) (fun _ h => by cases h) (fun h => by cases h) (fun h => by cases h) f2 f2 f3 f3 rfl (by decide) (by decide) (nI_pos hn)
    (by rw [i0, inn]; show ¬ _ > ((arrV cG n0 (fun j => va_rf (f j))).slots.size : Int); rw [arrV_size]; omega)
    (by rw [i0, inn]; show ¬ _ > ((arrV cG n1 (fun j => va_rf (g j))).slots.size : Int); rw [arrV_size]; omega)
    (fun vm₁ hal i hi => by
      rw [zn] at hi
      have e : (vp_cell cG (n0, .inr (.inr (.inr (.inr f))))).slots.getD ((0 : Int32).toNatClampNeg + i) .null = va_rf (f i) := by
        show (arrV cG n0 (fun j => va_rf (f j))).slots.getD _ _ = _
        rw [z0, Nat.zero_add, Array.getD_eq_getD_getElem?, arrV_read _ _ (by omega)]
        rfl
      rw [e]
      cases hy : f i with
      | none => exact ⟨rfl, trivial⟩
      | some y =>
        obtain ⟨r, hr⟩ := hel i hi y hy
        obtain ⟨kC', hkC', -⟩ := hal.2.2 _ _ hkC
        refine ⟨rfl, vp_cell comp (N, .inl r), (show T.heap[y]? = some _ by rw [hT]; exact hr), (fun q h => by cases h), ⟨kC', hkC'⟩, ⟨kC', hkC'⟩, ?_⟩
        show vm₁.assignable _ _ = true
        rw [hal.assignable]
        exact va_asg _ _)
    (g := F0 m pc ls (.int (nI n) :: .int 0 :: .ref a :: .int 0 :: .ref a0 :: rest)) rfl (by rw [hml]) (rest := rest) rfl (by rw [hb]; exact hdg) hframes (by show 2 * 0 + _ + _ ≤ _; omega)
  have e1 : copied (vp_cell cG (n0, .inr (.inr (.inr (.inr f))))) (vp_cell cG (n1, .inr (.inr (.inr (.inr g))))) 0 0 (nI n) = vp_cell cG (n1, .inr (.inr (.inr (.inr (va_cpy f g 0 0 n))))) := by
    rw [vp_cell_q, vp_cell_q, vp_cell_q]
    refine Eq.trans (va_copied (fun z => va_rf z) cG cG f g (sp := (0 : Int32).toNatClampNeg) (dp := (0 : Int32).toNatClampNeg) (n := (nI n).toNatClampNeg) (n0 := n0) (n1 := n1) (by rw [z0, zn]; omega)) ?_
    rw [z0, zn]
  rw [e1] at X' step
  have hl : a < H.size := (Array.getElem?_eq_some_iff.mp hc1).1
  generalize hV : vp_cell cG (n1, .inr (.inr (.inr (.inr (va_cpy f g 0 0 n))))) = V at X' step
  have hheap : ((T.setVm vm').setCell a V).heap = H.setIfInBounds a V := by rw [← hT]; rfl
  have oq : ∀ q : Nat, q ≠ a → (H.setIfInBounds a V)[q]? = H[q]? := fun q hq => by simp [Array.getElem?_setIfInBounds, Ne.symm hq]
  obtain ⟨t, a1, b1⟩ := kk _ _ (hP.set hD ha1 (show (H.setIfInBounds a V)[a]? = some _ by rw [hV]; simp [Array.getElem?_setIfInBounds, hl]) oq) (hD.set ha1) ⟨by simp; exact hS.1, fun q g1 g2 => by
      rw [oq q (fun e => g2 (by rw [e]; exact hD.2 q1 _ ha1))]
      exact hS.2.1 q g1 g2, fun q hq => by
      rcases List.mem_append.mp hq with h | h
      · exact hS.2.2 q h
      · obtain ⟨z, -, hz⟩ := List.mem_map.mp h
        rw [← hz]
        exact hD.2 q1 _ ha1⟩ _ hheap X'
  exact ⟨t, step t a1, b1⟩
end WCG
theorem cpy9 (s c x t : Int32) : ∀ j, j < 19 → va_cpy (upd (upd (upd (upd (upd (upd (upd (upd (upd (fun _ => 0) 0 s) 1 c) 2 x) 3 x) 4 5) 5 2) 6 2) 7 3) 8 t) (fun _ => (0 : Int32)) (0 : Int32).toNatClampNeg (0 : Int32).toNatClampNeg (9 : Int32).toNatClampNeg j = newR s c x t j := by
  intro j hj
  rw [show (0 : Int32).toNatClampNeg = 0 by decide, show (9 : Int32).toNatClampNeg = 9 by decide]
  rcases Nat.lt_or_ge j 9 with q | q
  · rw [pk_cpy_in (Nat.zero_le _) (by omega)]
    rcases (show j = 0 ∨ j = 1 ∨ j = 2 ∨ j = 3 ∨ j = 4 ∨ j = 5 ∨ j = 6 ∨ j = 7 ∨ j = 8 by omega) with r | r | r | r | r | r | r | r | r <;> subst r <;> rfl
  · rw [pk_cpy_out (Or.inr (by omega))]
    unfold newR
    rw [if_neg (by omega), if_neg (by omega), if_neg (by omega), if_neg (by omega), if_neg (by omega), if_neg (by omega), if_neg (by omega), if_neg (by omega), if_neg (by omega)]
theorem come_T {K : Nat} {σ : SS} {δ : DD} (h : IR K σ δ) {s c x : Nat} (hs : s < 2) (hc : c < 160) (h1 : 1 ≤ x) (h2 : x ≤ 60) : (d_n δ < 10 → remI (d_k δ c) 3 = 0 → onD δ (nI c) < 0 → comeT σ (nI s) (nI c) (nI x) = 0 ∧ (d_k δ c = 0 ∨ d_k δ c = 3)) ∧ (¬ (d_n δ < 10 ∧ remI (d_k δ c) 3 = 0 ∧ onD δ (nI c) < 0) → comeT σ (nI s) (nI c) (nI x) = 3) := by
  have hside : sideB (nI s) = true := by
    rcases (show s = 0 ∨ s = 1 by omega) with q | q <;> subst q <;> decide
  have e1 : comeT σ (nI s) (nI c) (nI x) = comeT2 σ (nI c) := by
    unfold comeT
    rw [if_pos (cell_of hc), if_pos hside, if_pos (show withinB (nI x) 1 60 = true from within_w (b := 1) (c := 60) h1 h2 (by decide))]
  obtain ⟨k, hk, ek⟩ := h.m.2.1 c hc
  have hrem : remI (d_k δ c) 3 = nI (k % 3) := by rw [ek]; exact pk_rem (d := 3) (by omega) (by decide) (by decide)
  have hst := stops_n hk
  have hm := onD_m1 (δ := δ) (c := nI c) h.1.2.1
  have hn := h.1.2.1
  have hroom : roomB σ = if (10 : Int32) ≤ nI (d_n δ) then false else true := by unfold roomB; rw [h.1.1]
  rw [e1, hrem]
  unfold comeT2
  rw [h.1.ki hc, ek, h.1.on, hroom]
  have h3 : nI (k % 3) = 0 ↔ k % 3 = 0 := nI_eq (a := k % 3) (b := 0) (by omega) (by decide)
  refine ⟨fun a b c' => ⟨?_, ?_⟩, fun z => ?_⟩
  · rw [if_neg (fun q => (hst.mp q) (h3.mp b)), if_pos (hm.mp c'), if_neg (show ¬ (10 : Int32) ≤ nI (d_n δ) from nI_ge (b := 10) a (by omega)), if_pos rfl]
  · have := h3.mp b
    rcases (show k = 0 ∨ k = 3 by omega) with q | q <;> subst q
    · exact Or.inl rfl
    · exact Or.inr rfl
  · by_cases q : stopsB (nI k) = true
    · rw [if_pos q]
    · rw [if_neg q]
      by_cases r : onD δ (nI c) = -1
      · rw [if_pos r]
        have hn10 : ¬ d_n δ < 10 := fun y => z ⟨y, h3.mpr (by by_cases w : k % 3 = 0; exact w; exact absurd (hst.mpr w) q), hm.mpr r⟩
        rw [if_pos (show (10 : Int32) ≤ nI (d_n δ) from nI_le (a := 10) (by omega) (by omega)), if_neg (by decide)]
      · rw [if_neg r]
theorem cpyN (rr : Nat → Nat) (q n : Nat) : ∀ j, j < n + 1 → va_up (va_cpy (fun j => some (rr j)) (fun _ => none) 0 0 n) n (some q) j = some ((fun j => if j = n then q else rr j) j) := by
  intro j hj
  unfold va_up
  by_cases h : j = n
  · simp [h]
  · rw [if_neg h, pk_cpy_in (Nat.zero_le _) (by omega)]
    simp [h]
