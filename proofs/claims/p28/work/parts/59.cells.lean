-- ===== cells, rows of rows of ints =====
theorem cell_within (x : Int32) : withinB x 0 159 = cellB x := by
  unfold withinB cellB
  by_cases h : x < 0
  · rw [if_pos h, if_pos h]
  · rw [if_neg h, if_neg h]
    have e : (159 < x) ↔ (160 ≤ x) := by
      rw [Int32.lt_iff_toInt_lt, Int32.le_iff_toInt_le]
      have a : (159 : Int32).toInt = 159 := by decide
      have b : (160 : Int32).toInt = 160 := by decide
      omega
    by_cases h2 : 159 < x
    · rw [if_pos h2, if_pos (e.mp h2)]
    · rw [if_neg h2, if_neg (fun q => h2 (e.mpr q))]
def apartM (x y : Int32) : Int32 := maxI (absI (colI x - colI y)) (absI (rowI x - rowI y))
theorem nz2r {j : Nat} (h1 : 1 ≤ j) (h2 : j ≤ 7) : ¬ 2 * nI j = 0 := by
  have e : (2 : Int32) * nI j = nI (2 * j) := pk_mul 2 j
  rw [e]
  exact nI_ne0 (by omega) (by omega)
theorem cell_n {x : Int32} (h : cellB x = true) : ∃ j : Nat, j < 160 ∧ x = nI j := by
  rw [← cell_within] at h
  obtain ⟨j, hj, e⟩ := within_0 (n := 159) (by decide) h
  exact ⟨j, by omega, e⟩
theorem cell_of {j : Nat} (h : j < 160) : cellB (nI j) = true := by
  unfold cellB
  rw [if_neg (nI_pos (n := j) (by omega)), if_neg (show ¬ (160 : Int32) ≤ nI j from nI_ge (a := j) (b := 160) (by omega) (by omega))]
theorem absI_sub : ∀ a, a < 16 → ∀ b, b < 16 → absI (nI a - nI b) = absI (nI b - nI a) := by decide +kernel
theorem row_col : ∀ i, i < 160 → rowI (nI i) = nI (i / 16) ∧ colI (nI i) = nI (i % 16) := by decide +kernel
theorem max_le {a b c : Int32} (h : maxI a b = c) : a ≤ c ∧ b ≤ c := by
  unfold maxI at h
  by_cases q : a < b
  · rw [if_pos q] at h; subst h; exact ⟨Int32.le_of_lt q, Int32.le_refl b⟩
  · rw [if_neg q] at h; subst h; exact ⟨Int32.le_refl a, Int32.not_lt.mp q⟩
theorem within_n {x : Int32} {a b : Nat} (hb : b < 2 ^ 31) (h : withinB x (nI a) (nI b) = true) (ha : a ≤ b) : ∃ j : Nat, j ≤ b ∧ x = nI j := by
  obtain ⟨h1, h2⟩ := within_l h
  have h0 : ¬ x < 0 := fun q => h1 (Int32.lt_of_lt_of_le q (nI_pos' (by omega)))
  exact nI_of2 (nI_toInt hb) h0 (Int32.not_lt.mp h2)
theorem apartM_comm {x y : Int32} (hx : cellB x = true) (hy : cellB y = true) : apartM x y = apartM y x := by
  obtain ⟨i, hi, rfl⟩ := cell_n hx
  obtain ⟨k, hk, rfl⟩ := cell_n hy
  unfold apartM
  rw [(row_col i hi).1, (row_col i hi).2, (row_col k hk).1, (row_col k hk).2, absI_sub (i % 16) (by omega) (k % 16) (by omega), absI_sub (i / 16) (by omega) (k / 16) (by omega)]
theorem apartM_F {x y : Int32} (hx : cellB x = true) (hy : cellB y = true) : apartM x y = apartF x y := by
  rw [apartM_comm hx hy]; rfl
theorem apartM_le {x y : Int32} (hx : cellB x = true) (hy : cellB y = true) (h : apartM x y ≤ 7) : ∃ j : Nat, j ≤ 7 ∧ apartM x y = nI j := by
  rw [apartM_F hx hy] at h ⊢
  exact apart_le h
theorem cell_rc (r c : Nat) : nI r * 16 + nI c = nI (16 * r + c) := by
  rw [show nI r * 16 = nI (r * 16) from pk_mul r 16, nI_add, Nat.mul_comm]
theorem within_d {a b c : Nat} (ha : a < 2 ^ 31) (hb : b < 2 ^ 31) (hc : c < 2 ^ 31) : (withinB (nI a) (nI b) (nI c) = true) ↔ (b ≤ a ∧ a ≤ c) := by
  unfold withinB
  by_cases h1 : a < b
  · rw [if_pos (nI_lt h1 hb)]
    exact ⟨fun q => absurd q (by decide), fun q => by omega⟩
  · rw [if_neg (nI_nlt (by omega) ha)]
    by_cases h2 : c < a
    · rw [if_pos (nI_lt h2 ha)]
      exact ⟨fun q => absurd q (by decide), fun q => by omega⟩
    · rw [if_neg (nI_nlt (by omega) hc)]
      exact ⟨fun _ => by omega, fun _ => rfl⟩
/-- the class of arrays of int rows -/
def RowG (cA : ClassId) (U : State) : Prop := ∃ (kA : Class) (comp : ClassId), U.vm.findClass "[[I" = some cA ∧ U.vm.classes[cA]? = some kA ∧ kA.kind = .array comp (.array .int) ∧ U.vm.findClass "[I" = some comp
theorem RowG.moved {cA : ClassId} {u U : State} (hvm : u.vm.Alike U.vm) (h : RowG cA u) : RowG cA U := by
  obtain ⟨kA, comp, h1, h2, h3, h4⟩ := h
  obtain ⟨k', hk', he⟩ := hvm.2.2 _ _ h2
  exact ⟨k', comp, by rw [hvm.findClass]; exact h1, hk', by rw [he]; exact h3, by rw [hvm.findClass]; exact h4⟩
/-- an array of int rows -/
abbrev gW (v0 : Nat) (cG : ClassId) (f : Nat → Option Nat) : va_W := [(v0, .inl (cG, 5, .inr (.inr (.inr (.inr f)))))]
section WG
variable {p : Program} {l : Launch} {e : Env} {R : Room} {s : State} {m : MethodId} {args : Array Value} {below : List Frame} {meth : Method} {c : Code} {H : Heap} {locs : List Loc} {cells slots : Nat} {Q : State → Prop}
variable {cc : ByteArray} {pc : Nat} {ls : Array Slot} {rest : List Value} {D : va_G} {cl : List vw_C} {A : Nat → Prop} {ws : va_W} {H0 : Heap} {cI : ClassId}
theorem w_newG (hexec : p.tables.exec = Jvm.exec) (hb : c.code = cc) {own : String} {index : Nat} (hown : s.vm.findClass own = some m.cls) (hclink : (Cond.classLink own index "[I").before args s = true) (hover : (Cond.arrayOver (.array .int)).before args s = true) (hP : va_P D cl ws H) (hD : va_D A ws) (hS : va_S A H0 H locs) (hA : ∀ q, H0.size ≤ q → A q)
    {n : Int32} {N' : Nat} (hn : ¬ n < 0) (hN : n.toNatClampNeg = N') (hbytes : N' * 4 ≤ 536870912) (hcells : cells + 1 ≤ R.cells) (hslots : slots + N' ≤ R.slots) (hdg : decode cc pc = .ok (.anewarray index, 3))
    (kk : ∀ (q : Nat) (cA : ClassId) (H1 : Heap), RowG cA s → va_P D cl (ws ++ [(q, .inl (cA, N', .inr (.inr (.inr (.inr (fun _ => none))))))]) H1 → va_D A (ws ++ [(q, .inl (cA, N', .inr (.inr (.inr (.inr (fun _ => none))))))]) → va_S A H0 H1 locs →
      W p l e R s m args below meth c H1 locs (cells + 1) (slots + N') Q (F0 m (pc + 3) ls (.ref q :: rest))) : W p l e R s m args below meth c H locs cells slots Q (F0 m pc ls (.int n :: rest)) := by
  subst hN
  refine W.anewA (t := .int) hexec hb hown hclink hover rfl hdg rfl hn hbytes hcells hslots fun cA kA comp f1 f2 f3 f4 => ?_
  generalize hH1 : H.push ({ cls := cA, slots := Array.replicate n.toNatClampNeg .null, vm := .none } : Cell) = H1
  have z1 : H1.size = H.size + 1 := by rw [← hH1, Array.size_push]
  have e1 : H1[H.size]? = some (arrV cA n.toNatClampNeg (fun _ => .null)) := by rw [← hH1, Array.getElem?_push_size, ← arrV_new]
  have o1 : ∀ q : Nat, q < H.size → H1[q]? = H[q]? := fun q hq => by rw [← hH1, Array.getElem?_push, if_neg (Nat.ne_of_lt hq)]
  have hk : ∀ (k : Nat) (x : Nat × va_E), ws[k]? = some x → H1[x.1]? = H[x.1]? := fun k x hx => o1 x.1 ((hP k x hx).lt)
  refine kk H.size cA H1 ⟨kA, comp, f1, f2, f3, f4⟩ ((hP.kept hk).app (fun k x hx => ?_)) (hD.push hP rfl (hA _ hS.1)) ⟨Nat.le_trans hS.1 (by omega), fun x h1 h2 => (o1 x (Nat.lt_of_lt_of_le h1 hS.1)).trans (hS.2.1 x h1 h2), hS.2.2⟩
  have hz : k < 1 := (List.getElem?_eq_some_iff.mp hx).1
  rw [show k = 0 by omega] at hx
  cases hx
  show H1[H.size]? = some (vp_cell _ _)
  rw [vp_cell_q]
  exact e1
/-- a row of ints is put into an array of such rows -/
theorem w_putG (hexec : p.tables.exec = Jvm.exec) (hb : c.code = cc) (hK : va_K D cl [(cI, .int)] s) (hP : va_P D cl ws H) (hD : va_D A ws) (hS : va_S A H0 H locs) (q0 qk : Nat) {cG : ClassId} (hG : RowG cG s) {a v n N : Nat} {f : Nat → Option Nat} {g : Nat → Int32} (ha : ws[q0]? = some (a, .inl (cG, n, .inr (.inr (.inr (.inr f)))))) (hv : ws[qk]? = some (v, .inl (cI, N, .inl g))) {i : Int32} (hin : vp_in i n) (hdg : decode cc pc = .ok (.aastore, 1))
    (kk : ∀ (H1 : Heap) (locs1 : List Loc), va_P D cl (ws.set q0 (a, .inl (cG, n, .inr (.inr (.inr (.inr (va_up f i.toNatClampNeg (some v)))))))) H1 → va_D A (ws.set q0 (a, .inl (cG, n, .inr (.inr (.inr (.inr (va_up f i.toNatClampNeg (some v)))))))) → va_S A H0 H1 locs1 → W p l e R s m args below meth c H1 locs1 cells slots Q (F0 m (pc + 1) ls rest)) : W p l e R s m args below meth c H locs cells slots Q (F0 m pc ls (.ref v :: .int i :: .ref a :: rest)) := by
  have hlt : i.toNatClampNeg < n := Nat.not_le.mp fun q => hin (Or.inr q)
  have h0 : ¬ i < 0 := fun q => hin (Or.inl q)
  obtain ⟨kA, comp, f1, f2, f3, f4⟩ := hG
  have h2 : s.vm.findClass ("[" ++ (FieldType.int).toString) = some cI := (hK.2 0 _ rfl).2
  have e1 : comp = cI := Option.some.inj (f4.symm.trans h2)
  subst e1
  obtain ⟨kC, hkC, -⟩ := Vm.findClass_spec f4
  refine W.aast hexec hb (hP q0 _ ha) (fun q h => by cases h) (fun h => by cases h) f2 f3 rfl hkC ⟨h0, by show _ < (arrV _ _ _).slots.size; rw [arrV_size]; exact hlt⟩ (hP qk _ hv) (fun q h => by cases h) hkC (va_asg _ _) rfl rfl hdg fun H1 e z oq => ?_
  refine kk H1 _ (hP.set hD ha ?_ oq) (hD.set ha) (hS.put z oq (hD.2 q0 _ ha))
  show H1[a]? = some (vp_cell _ _)
  rw [e]
  rw [vp_cell_q, vp_cell_q, arrV_store]
  congr 2
  funext q
  by_cases hq : q = i.toNatClampNeg
  · subst hq
    simp [updV, va_up, va_rf]
  · simp [updV, va_up, hq]
end WG
/-- (which exception is none of another's kind: nothing of it is asked here) -/
def NC (_ : State) : Prop := True
theorem NC.moved {u U : State} (_ : u.vm.Alike U.vm) (_ : NC u) : NC U := trivial
theorem thr1 {n : Nat} (h : ¬ n = 0) (h1 : n ≤ 1) : n = 1 := by omega
theorem thr2 {n : Nat} (h : ¬ n = 0) (h1 : n ≤ 2) : n = 1 ∨ n = 2 := by omega
theorem thr3 {n : Nat} (h : ¬ n = 0) (h1 : n ≤ 3) : n = 1 ∨ n = 2 ∨ n = 3 := by omega
