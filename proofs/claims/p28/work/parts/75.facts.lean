-- ===== the law: a world with more behind its pool =====
theorem md_eq (C R B xp : va_W) : ((C ++ (B ++ xp)) ++ R) = (C ++ B) ++ (xp ++ R) := by
  simp only [List.append_assoc]
theorem toM {D : va_G} {cl : List vw_C} {H : Heap} {C R B xp : va_W} (hP : va_P D cl ((C ++ R) ++ (B ++ xp)) H) : va_P D cl ((C ++ B) ++ (xp ++ R)) H := by
  have h := hP.swap
  rw [md_eq C R B xp] at h
  exact h
theorem toMD {A : Nat → Prop} {C R B xp : va_W} (hD : va_D A ((C ++ R) ++ (B ++ xp))) : va_D A ((C ++ B) ++ (xp ++ R)) := by
  have h := hD.swap
  rw [md_eq C R B xp] at h
  exact h
theorem ofM {D : va_G} {cl : List vw_C} {H : Heap} {C R B xp : va_W} (hP : va_P D cl ((C ++ B) ++ (xp ++ R)) H) : va_P D cl ((C ++ R) ++ (B ++ xp)) H := by
  have h : va_P D cl ((C ++ (B ++ xp)) ++ R) H := by rw [md_eq C R B xp]; exact hP
  exact h.swap
theorem ofMD {A : Nat → Prop} {C R B xp : va_W} (hD : va_D A ((C ++ B) ++ (xp ++ R))) : va_D A ((C ++ R) ++ (B ++ xp)) := by
  have h : va_D A ((C ++ (B ++ xp)) ++ R) := by rw [md_eq C R B xp]; exact hD
  exact h.swap
theorem pre_at {X Y : va_W} {k : Nat} {q : Nat × va_E} (h : X[k]? = some q) : (X ++ Y)[k]? = some q := by
  rw [List.getElem?_append_left (List.getElem?_eq_some_iff.mp h).1]
  exact h
theorem P_pre {D : va_G} {cl : List vw_C} {H : Heap} {X Y : va_W} (hP : va_P D cl (X ++ Y) H) : va_P D cl X H := hP.by id (fun _ _ h => pre_at h)
theorem D_pre {A : Nat → Prop} {X Y : va_W} (hD : va_D A (X ++ Y)) : va_D A X := hD.by id (fun _ _ h => pre_at h) (fun _ _ _ _ e => e)
theorem freeM {A0 : Nat → Prop} {C R B xp : va_W} {H0 H : Heap} {locs : List Loc} (hD : va_D A0 ((C ++ R) ++ (B ++ xp))) (hS : va_S A0 H0 H locs) (hA : ∀ q, H0.size ≤ q → A0 q) : ∀ q, va_A (C ++ B) H.size q → A0 q := free0 (D_pre (toMD hD)) hS hA
theorem rng_map (X : va_W) : (List.range X.length).map (fun i => X[i]?) = X.map some := by
  apply List.ext_getElem?
  intro i
  rw [List.getElem?_map, List.getElem?_map]
  by_cases h : i < X.length
  · rw [List.getElem?_range h, List.getElem?_eq_getElem h]
    simp
  · rw [List.getElem?_eq_none (by rw [List.length_range]; omega), List.getElem?_eq_none (by omega)]
    rfl
theorem joinX {A0 : Nat → Prop} {D : va_G} {cl : List vw_C} {X w1 pl : va_W} {H H1 : Heap} (hP : va_P D cl (X ++ pl) H) (hD : va_D A0 (X ++ pl)) (hk : ∀ q : Nat, q < H.size → ¬ va_A X H.size q → H1[q]? = H[q]?) (hF : ∀ q, va_A X H.size q → A0 q) (hP1 : va_P D cl w1 H1) (hD1 : va_D (va_A X H.size) w1) : va_P D cl (w1 ++ pl) H1 ∧ va_D A0 (w1 ++ pl) :=
  va_joinQ (X := X) (cx := X) (wr := []) (w1 := w1) (pl := pl) hP hD (List.range X.length) [] (rng_map X) rfl rfl (fun i h => absurd h List.not_mem_nil) hk hF hP1 hD1
theorem joinM {A0 : Nat → Prop} {D : va_G} {cl : List vw_C} {C R B xp C1 B1 : va_W} {H H1 : Heap} (hP : va_P D cl ((C ++ R) ++ (B ++ xp)) H) (hD : va_D A0 ((C ++ R) ++ (B ++ xp))) (hk : ∀ q : Nat, q < H.size → ¬ va_A (C ++ B) H.size q → H1[q]? = H[q]?) (hF : ∀ q, va_A (C ++ B) H.size q → A0 q) (hP1 : va_P D cl (C1 ++ B1) H1) (hD1 : va_D (va_A (C ++ B) H.size) (C1 ++ B1)) : va_P D cl ((C1 ++ R) ++ (B1 ++ xp)) H1 ∧ va_D A0 ((C1 ++ R) ++ (B1 ++ xp)) := by
  obtain ⟨a, b⟩ := joinX (toM hP) (toMD hD) hk hF hP1 hD1
  exact ⟨ofM a, ofMD b⟩
-- ===== what the law looks at, check by check =====
theorem F_of {σ : SS} {x w : Int32} (hx : beingB σ x = true) (hw : withinB w 0 9 = true) : ofT σ x w = 0 := by
  unfold ofT
  rw [if_pos hx, if_pos hw]
theorem F_ans {σ : SS} {x w : Int32} (hw : ¬ w = 9) : answerF σ x w = traitF σ x w := if_neg hw
theorem F_effT {σ : SS} {x : Int32} {e : Nat} (hx : beingB σ x = true) (he : e < 5) : effectT σ x (nI e) = 0 := by
  unfold effectT
  rw [if_pos hx, if_pos (show withinB (nI e) 0 4 = true from within_w (b := 0) (c := 4) (Nat.zero_le _) (by omega) (by decide))]
theorem F_eff0 {σ : SS} {x e : Int32} : effectF σ x e 0 = stackF σ x e := if_pos rfl
theorem F_eff1 {σ : SS} {x e : Int32} : effectF σ x e 1 = turnsF σ x e := if_neg (by decide)
theorem F_tgtT {σ : SS} {x : Int32} (hx : beingB σ x = true) : targetT σ x = 0 := if_pos hx
theorem F_hitT {σ : SS} {x y : Int32} (hx : beingB σ x = true) (hy : beingB σ y = true) : hitT σ x y = 0 := by
  unfold hitT
  rw [if_pos hx, if_pos hy]
theorem F_worT {σ : SS} {x w : Int32} (hx : beingB σ x = true) (hw : withinB w 0 7 = true) : worthT σ x w = 0 := by
  unfold worthT
  rw [if_pos hx, if_pos hw]
theorem F_in7 {j : Nat} (h : j < 8) : withinB (nI j) 0 7 = true := within_w (b := 0) (c := 7) (Nat.zero_le _) (by omega) (by decide)
theorem F_wayT {σ : SS} {x : Int32} {c : Nat} (hx : beingB σ x = true) (hc : c < 160) : wayT σ x (nI c) = 0 := by
  unfold wayT
  rw [if_pos hx, if_pos (cell_of hc)]
theorem F_celT {c : Nat} (hc : c < 160) : cellT (nI c) = 0 := if_pos (cell_of hc)
theorem F_seeT {a c : Nat} (ha : a < 160) (hc : c < 160) : seesT (nI a) (nI c) = 0 := by
  unfold seesT
  rw [if_pos (cell_of ha), if_pos (cell_of hc)]
theorem F_danT {s : Int32} {c : Nat} (hs : s = 0 ∨ s = 1) (hc : c < 160) : knowsT s (nI c) = 0 := by
  unfold knowsT
  rw [if_pos (by rcases hs with q | q <;> subst q <;> decide), if_pos (cell_of hc)]
theorem F_side {K : Nat} {σ : SS} {δ : DD} (h : IR K σ δ) {b : Nat} (hb : b < d_n δ) : traitF σ (nI b) 0 = 0 ∨ traitF σ (nI b) 0 = 1 := by
  rw [show traitF σ (nI b) 0 = d_R δ b 0 from h.1.tr (w := 0) hb (by omega)]
  exact (h.2.1.2.2.1 b hb).1
theorem F_c0 {σ : SS} {g : Nat} : countF σ g 0 = nI (s_n σ) := if_pos rfl
theorem F_c1 {σ : SS} {g : Nat} : countF σ g 1 = livingF σ 0 := by unfold countF; rw [if_neg (by decide), if_pos rfl]
theorem F_c2 {σ : SS} {g : Nat} : countF σ g 2 = livingF σ 1 := by unfold countF; rw [if_neg (by decide), if_neg (by decide), if_pos rfl]
theorem F_c3 {σ : SS} {g : Nat} : countF σ g 3 = turnF σ := by unfold countF; rw [if_neg (by decide), if_neg (by decide), if_neg (by decide), if_pos rfl]
theorem F_c4 {σ : SS} {g : Nat} : countF σ g 4 = s_ac σ := by unfold countF; rw [if_neg (by decide), if_neg (by decide), if_neg (by decide), if_neg (by decide), if_pos rfl]
theorem F_c5 {σ : SS} {g : Nat} : countF σ g 5 = s_hi σ := by unfold countF; rw [if_neg (by decide), if_neg (by decide), if_neg (by decide), if_neg (by decide), if_neg (by decide), if_pos rfl]
theorem F_c8 {σ : SS} {g : Nat} : countF σ g 8 = nI g := by
  unfold countF
  rw [if_neg (by decide), if_neg (by decide), if_neg (by decide), if_neg (by decide), if_neg (by decide), if_neg (by decide), if_neg (by decide), if_neg (by decide)]
theorem F_turn {K : Nat} {σ : SS} {δ : DD} (h : IR K σ δ) {b : Nat} (hb : b < d_n δ) (ha : aliveB σ (nI b) = true) : beingB σ (turnF σ) = true ∧ traitF σ (turnF σ) 8 ≤ traitF σ (nI b) 8 ∧ (traitF σ (nI b) 8 = traitF σ (turnF σ) 8 → turnF σ ≤ nI b) := by
  obtain ⟨t, ht, et, h1, h2⟩ := L_turn h hb ha
  have hn := h.1.2.1
  rw [et]
  exact ⟨being_T h ht, h1, fun e => nI_le (h2 e) (by omega)⟩
theorem F_turnb {K : Nat} {σ : SS} {δ : DD} (h : IR K σ δ) (h0 : ¬ turnF σ < 0) : beingB σ (turnF σ) = true := by
  have hn := h.1.2.1
  rcases turn_best σ (by rw [h.1.1]; omega) with ⟨a, -⟩ | ⟨t, -, a2, a3, -⟩
  · exact absurd (by rw [a]; exact neg1_lt) h0
  · rw [a3]
    exact being_T h (by rw [← h.1.1]; exact a2)
theorem F_rem3 {x : Int32} (h : x = 0 ∨ x = 3) : remI x 3 = 0 := by
  rcases h with q | q <;> subst q <;> decide
theorem abs_ap : ∀ x, x < 16 → ∀ y, y < 16 → absI (nI x - nI y) = nI (apN y x) := by decide +kernel
theorem F_apart {a b : Nat} (ha : a < 160) (hb : b < 160) : absI (nI a / 16 - nI b / 16) + absI (remI (nI a) 16 - remI (nI b) 16) = nI (manN b a) := by
  rw [show nI a / 16 = nI (a / 16) from pk_div (d := 16) (by omega) (by decide) (by decide), show nI b / 16 = nI (b / 16) from pk_div (d := 16) (by omega) (by decide) (by decide),
    show remI (nI a) 16 = nI (a % 16) from pk_rem (d := 16) (by omega) (by decide) (by decide), show remI (nI b) 16 = nI (b % 16) from pk_rem (d := 16) (by omega) (by decide) (by decide),
    abs_ap (a / 16) (by omega) (b / 16) (by omega), abs_ap (a % 16) (by omega) (b % 16) (by omega), nI_add]
  rfl
theorem man_lt {a b : Nat} (ha : a < 160) (hb : b < 160) : manN a b < 1000 := by
  unfold manN apN
  (repeat' split) <;> omega
theorem F_hit {σ : SS} {x : Int32} (ha : aliveB σ x = true) : (1 : Int32) ≤ hitF σ x x := by
  unfold hitF
  rw [if_pos ha, if_pos ha]
  unfold maxI
  split
  · exact Int32.le_refl 1
  · rename_i q
    exact Int32.not_lt.mp q
theorem F_step {C k : Nat} (hC : ¬ rimN C) : nI C + stepD (nI (k % 4)) = nI (nbN C (k % 4)) := by
  rcases (show k % 4 = 0 ∨ k % 4 = 1 ∨ k % 4 = 2 ∨ k % 4 = 3 by omega) with q | q | q | q <;> rw [q]
  · exact nb_st (k := 0) hC (by decide)
  · exact nb_st (k := 1) hC (by decide)
  · exact nb_st (k := 2) hC (by decide)
  · exact nb_st (k := 3) hC (by decide)
theorem F_rem4 {k : Nat} (h : k < 2 ^ 31) : remI (nI k) 4 = nI (k % 4) := pk_rem (d := 4) h (by decide) (by decide)
theorem F_norim {K : Nat} {σ : SS} {δ : DD} (h : IR K σ δ) {C : Nat} (hC : C < 160) (hk : ¬ kindF σ (nI C) = 1) : ¬ rimN C := fun q => hk (h.rim C hC q)
-- who is alive
def aliveQ (σ : SS) : Nat → Bool := fun j => aliveB σ (nI j)
theorem cnt_y {q : Nat → Bool} {b : Nat} (h : q b = true) : cntP q (b + 1) = cntP q b + 1 := by
  show cntP q b + (if q b = true then 1 else 0) = _
  rw [if_pos h]
theorem cnt_n {q : Nat → Bool} {b : Nat} (h : q b = false) : cntP q (b + 1) = cntP q b := by
  show cntP q b + (if q b = true then 1 else 0) = _
  rw [if_neg (by rw [h]; decide), Nat.add_zero]
theorem F_two {K : Nat} {σ : SS} {δ : DD} (h : IR K σ δ) : cntP (aliveQ σ) (d_n δ) = cntP (sideQ σ 0) (d_n δ) + cntP (sideQ σ 1) (d_n δ) := by
  refine cnt_two (fun j hj => ?_)
  have hs := F_side h hj
  unfold sideQ aliveQ
  rw [Bool.and_eq_true, Bool.and_eq_true, decide_eq_true_eq, decide_eq_true_eq]
  rcases hs with q | q <;> rw [q]
  · exact ⟨⟨fun a => Or.inl ⟨rfl, a⟩, fun a => a.elim (fun z => z.2) (fun z => z.2)⟩, fun a => absurd a.2.1 (by decide)⟩
  · exact ⟨⟨fun a => Or.inr ⟨rfl, a⟩, fun a => a.elim (fun z => z.2) (fun z => z.2)⟩, fun a => absurd a.1.1 (by decide)⟩
theorem F_liv {K : Nat} {σ : SS} {δ : DD} (h : IR K σ δ) (s : Int32) : livingF σ s = nI (cntP (sideQ σ s) (d_n δ)) := by rw [living_n, h.1.1]
theorem F_alive {K : Nat} {σ : SS} {δ : DD} (h : IR K σ δ) : livingF σ 0 + livingF σ 1 = nI (cntP (aliveQ σ) (d_n δ)) := by
  rw [F_liv h, F_liv h, nI_add, F_two h]
theorem F_turn0 {K : Nat} {σ : SS} {δ : DD} (h : IR K σ δ) : turnF σ < 0 ↔ cntP (aliveQ σ) (d_n δ) = 0 := (L_turn0 h).trans cnt_0.symm
theorem F_hits {K : Nat} {σ : SS} {δ : DD} (h : IR K σ δ) : s_hi σ ≤ s_ac σ := by
  obtain ⟨a, x, e1, e2, h1, h2⟩ := h.2.1.2.2.2.2
  have hK := h.2.2
  rw [h.1.2.2.2.2.2.1, h.1.2.2.2.2.2.2, e1, e2]
  exact nI_le h1 (by omega)
-- one side alone
theorem F_trait2 {K : Nat} {σ : SS} {δ : DD} (h : IR K σ δ) {j : Nat} (hj : j < d_n δ) : traitF σ (nI j) 2 = nI (traitF σ (nI j) 2).toNatClampNeg ∧ (traitF σ (nI j) 2).toNatClampNeg ≤ 60 ∧ (¬ aliveB σ (nI j) = true → (traitF σ (nI j) 2).toNatClampNeg = 0) := by
  obtain ⟨lf, mo, m, e2, e3, -, h1, h2, -, h3⟩ := L_row h hj
  rw [e2, nI_clamp (by omega)]
  refine ⟨rfl, by omega, fun ha => ?_⟩
  rcases h3 with ⟨q, -⟩ | ⟨-, q, -⟩
  · exact q
  · exact absurd q ha
theorem F_life {K : Nat} {σ : SS} {δ : DD} (h : IR K σ δ) (s : Int32) : lifeF σ s = nI (sumP (lifeN σ s) (d_n δ)) ∧ sumP (lifeN σ s) (d_n δ) ≤ 60 * cntP (sideQ σ s) (d_n δ) := by
  refine ⟨?_, sum_le (fun j hj => ?_)⟩
  · have := life_N σ s (s_n σ) 0 (fun j hj => (F_trait2 h (by rw [← h.1.1]; omega)).1)
    rw [Nat.zero_add, h.1.1] at this
    unfold lifeF
    rw [h.1.1]
    exact this
  · obtain ⟨-, h2, h3⟩ := F_trait2 h hj
    unfold lifeN sideQ
    by_cases hs : traitF σ (nI j) 0 = s
    · rw [if_pos hs, decide_eq_true hs, Bool.true_and]
      exact ⟨h2, h3⟩
    · rw [if_neg hs]
      exact ⟨Nat.zero_le _, fun _ => rfl⟩
theorem play_one {σ : SS} (h : livingF σ 0 ≤ 0 ∨ livingF σ 1 ≤ 0) : ∀ m, playS m σ = σ
  | 0 => rfl
  | m + 1 => by
    unfold playS
    rcases h with q | q
    · rw [if_pos q]
    · rw [if_pos q]
      split <;> rfl
/-- mean life times how many, to the nearest: all life -/
abbrev halfD : UInt64 := 4602678819172646912
def n64b (x : UInt64) : Bool := decide (x &&& 0x7fffffffffffffff ≤ 0x7ff0000000000000)
theorem n64b_ok {x : UInt64} (h : n64b x = true) : vf_n64 x := by
  unfold n64b at h
  unfold vf_n64
  exact of_decide_eq_true h
def numOk (a s : Nat) : Bool := n64b (FP.ddiv (FP.i2d (nI s)) (FP.i2d (nI a))) && (n64b (FP.dmul (FP.ddiv (FP.i2d (nI s)) (FP.i2d (nI a))) (FP.i2d (nI a))) && (n64b (FP.dadd (FP.dmul (FP.ddiv (FP.i2d (nI s)) (FP.i2d (nI a))) (FP.i2d (nI a))) halfD) && decide (FP.d2i (FP.dadd (FP.dmul (FP.ddiv (FP.i2d (nI s)) (FP.i2d (nI a))) (FP.i2d (nI a))) halfD) = nI s)))
def numRow (a : Nat) : Bool := (List.range (60 * a + 1)).all (numOk a)
theorem num_1 : numRow 1 = true := by decide +kernel
theorem num_2 : numRow 2 = true := by decide +kernel
theorem num_3 : numRow 3 = true := by decide +kernel
theorem num_4 : numRow 4 = true := by decide +kernel
theorem num_5 : numRow 5 = true := by decide +kernel
theorem num_6 : numRow 6 = true := by decide +kernel
theorem F_num {a s : Nat} (h1 : 1 ≤ a) (h6 : a ≤ 6) (hs : s ≤ 60 * a) : vf_n64 (FP.ddiv (FP.i2d (nI s)) (FP.i2d (nI a))) ∧ vf_n64 (FP.dmul (FP.ddiv (FP.i2d (nI s)) (FP.i2d (nI a))) (FP.i2d (nI a))) ∧ vf_n64 (FP.dadd (FP.dmul (FP.ddiv (FP.i2d (nI s)) (FP.i2d (nI a))) (FP.i2d (nI a))) halfD) ∧ FP.d2i (FP.dadd (FP.dmul (FP.ddiv (FP.i2d (nI s)) (FP.i2d (nI a))) (FP.i2d (nI a))) halfD) = nI s := by
  have hr : numRow a = true := by
    rcases (show a = 1 ∨ a = 2 ∨ a = 3 ∨ a = 4 ∨ a = 5 ∨ a = 6 by omega) with q | q | q | q | q | q <;> subst q
    · exact num_1
    · exact num_2
    · exact num_3
    · exact num_4
    · exact num_5
    · exact num_6
  have h : numOk a s = true := List.all_eq_true.mp hr s (List.mem_range.mpr (by omega))
  unfold numOk at h
  rw [Bool.and_eq_true, Bool.and_eq_true, Bool.and_eq_true, decide_eq_true_eq] at h
  exact ⟨n64b_ok h.1, n64b_ok h.2.1, n64b_ok h.2.2.1, h.2.2.2⟩
theorem F_lifes {K : Nat} {σ : SS} {δ : DD} (h : IR K σ δ) : ∃ S : Nat, lifeF σ 0 + lifeF σ 1 = nI S ∧ S ≤ 60 * cntP (aliveQ σ) (d_n δ) := by
  obtain ⟨a1, a2⟩ := F_life h 0
  obtain ⟨b1, b2⟩ := F_life h 1
  refine ⟨sumP (lifeN σ 0) (d_n δ) + sumP (lifeN σ 1) (d_n δ), by rw [a1, b1, nI_add], ?_⟩
  rw [F_two h]
  omega
theorem F_cnt {K : Nat} {σ : SS} {δ : DD} (h : IR K σ δ) (hn : d_n δ ≤ 6) : cntP (aliveQ σ) (d_n δ) ≤ 6 := Nat.le_trans (cnt_le _ _) hn
theorem F_meanN {K : Nat} {σ : SS} {δ : DD} (h : IR K σ δ) (hn : d_n δ ≤ 6) : ¬ livingF σ 0 + livingF σ 1 = 0 → vf_n64 (FP.ddiv (FP.i2d (lifeF σ 0 + lifeF σ 1)) (FP.i2d (livingF σ 0 + livingF σ 1))) := by
  intro h0
  obtain ⟨S, eS, hS⟩ := F_lifes h
  have h6 := F_cnt h hn
  rw [F_alive h] at h0 ⊢
  rw [eS]
  have h1 : 1 ≤ cntP (aliveQ σ) (d_n δ) := by
    rcases Nat.eq_zero_or_pos (cntP (aliveQ σ) (d_n δ)) with q | q
    · rw [q] at h0; exact absurd rfl h0
    · exact q
  exact (F_num h1 h6 hS).1
theorem F_mean {K : Nat} {σ : SS} {δ : DD} (h : IR K σ δ) (hn : d_n δ ≤ 6) : vf_n64 (FP.dmul (meanF σ) (FP.i2d (nI (cntP (aliveQ σ) (d_n δ))))) ∧ vf_n64 (FP.dadd (FP.dmul (meanF σ) (FP.i2d (nI (cntP (aliveQ σ) (d_n δ))))) halfD) ∧ FP.d2i (FP.dadd (FP.dmul (meanF σ) (FP.i2d (nI (cntP (aliveQ σ) (d_n δ))))) halfD) = lifeF σ 0 + lifeF σ 1 := by
  obtain ⟨S, eS, hS⟩ := F_lifes h
  have h6 := F_cnt h hn
  unfold meanF
  rw [F_alive h, eS]
  rcases Nat.eq_zero_or_pos (cntP (aliveQ σ) (d_n δ)) with q | q
  · rw [q] at hS ⊢
    have : S = 0 := by omega
    subst this
    rw [if_pos (show nI 0 = 0 from rfl)]
    exact ⟨n64b_ok (by decide +kernel), n64b_ok (by decide +kernel), by decide +kernel⟩
  · rw [if_neg (nI_ne0 q (by omega))]
    exact (F_num q h6 hS).2
theorem neg_ok : ∀ s, s < 601 → (0 : Int32) - nI s = (-1) * (0 + nI s) := by decide +kernel
theorem pos_ok : ∀ s, s < 601 → nI s - (0 : Int32) = 1 * (nI s + 0) := by decide +kernel
theorem F_ahead {K : Nat} {σ : SS} {δ : DD} (h : IR K σ δ) (hz : livingF σ 0 * livingF σ 1 = 0) : (livingF σ 0 ≤ 0 → lifeF (playS 3 σ) 0 - lifeF (playS 3 σ) 1 = (-1) * (lifeF σ 0 + lifeF σ 1)) ∧ (¬ livingF σ 0 ≤ 0 → lifeF (playS 3 σ) 0 - lifeF (playS 3 σ) 1 = 1 * (lifeF σ 0 + lifeF σ 1)) := by
  obtain ⟨a1, a2⟩ := F_life h 0
  obtain ⟨b1, b2⟩ := F_life h 1
  have hn := h.1.2.1
  have ha := cnt_le (sideQ σ 0) (d_n δ)
  have hb := cnt_le (sideQ σ 1) (d_n δ)
  have l0 := F_liv h 0
  have l1 := F_liv h 1
  refine ⟨fun q => ?_, fun q => ?_⟩
  · have h0 : cntP (sideQ σ 0) (d_n δ) = 0 := by
      rcases Nat.eq_zero_or_pos (cntP (sideQ σ 0) (d_n δ)) with r | r
      · exact r
      · rw [l0] at q; exact absurd q (nI_nle r (by omega))
    rw [play_one (Or.inl q), a1, b1, show sumP (lifeN σ 0) (d_n δ) = 0 by omega]
    exact neg_ok _ (by omega)
  · have h0 : cntP (sideQ σ 1) (d_n δ) = 0 := by
      rw [l0, l1, pk_mul] at hz
      have hm : cntP (sideQ σ 0) (d_n δ) * cntP (sideQ σ 1) (d_n δ) < 2 ^ 31 := Nat.lt_of_le_of_lt (Nat.mul_le_mul ha hb) (Nat.lt_of_le_of_lt (Nat.mul_le_mul hn hn) (by decide))
      have hm0 : cntP (sideQ σ 0) (d_n δ) * cntP (sideQ σ 1) (d_n δ) = 0 := (nI_eq (b := 0) hm (by decide)).mp hz
      rcases Nat.mul_eq_zero.mp hm0 with r | r
      · exact absurd (by rw [l0, r]; decide) q
      · exact r
    have q1 : livingF σ 1 ≤ 0 := by rw [l1, h0]; decide
    rw [play_one (Or.inr q1), a1, b1, show sumP (lifeN σ 1) (d_n δ) = 0 by omega]
    exact pos_ok _ (by omega)
