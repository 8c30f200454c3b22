-- ===== sight, turns and targets: both alike =====
theorem near_eq : ∀ d, d < 31 → ∀ j, j < 8 → 1 ≤ j → ∀ t, t < 8 → nearD (nI t * (nI d - 15)) (nI j) = nearF (nI t * (nI d - 15)) (nI j) := by decide +kernel
theorem sub15 : ∀ a, a < 16 → ∀ b, b < 16 → nI b - nI a = nI (b + 15 - a) - 15 := by decide +kernel
theorem near_D {a b j t : Nat} (ha : a < 16) (hb : b < 16) (hj : j < 8) (h1 : 1 ≤ j) (ht : t < 8) : nearD (nI t * (nI b - nI a)) (nI j) = nearF (nI t * (nI b - nI a)) (nI j) := by
  rw [sub15 a ha b hb]
  exact near_eq (b + 15 - a) (by omega) j hj h1 t ht
def nearInB (a b : Nat) : Bool := (List.range 8).all fun j => (List.range 8).all fun t => (j == 0) || (decide (j < t) || withinB (nI a + nearF (nI t * (nI b - nI a)) (nI j)) 0 (nI (max a b)))
theorem near_in1 : ∀ a, a < 16 → ∀ b, b < 16 → nearInB a b = true := by decide +kernel
theorem near_in (a : Nat) (ha : a < 16) (b : Nat) (hb : b < 16) (j : Nat) (hj : j < 8) (h1 : 1 ≤ j) (t : Nat) (ht : t < 8) (htj : t ≤ j) : withinB (nI a + nearF (nI t * (nI b - nI a)) (nI j)) 0 (nI (max a b)) = true := by
  have h := near_in1 a ha b hb
  unfold nearInB at h
  rw [List.all_eq_true] at h
  have h2 := h j (List.mem_range.mpr hj)
  rw [List.all_eq_true] at h2
  have h3 := h2 t (List.mem_range.mpr ht)
  simp only [Bool.or_eq_true, beq_iff_eq, decide_eq_true_eq] at h3
  rcases h3 with q | q | q
  · omega
  · omega
  · exact q
def nearSymB (a b : Nat) : Bool := (List.range 8).all fun j => (List.range 8).all fun t => (j == 0) || (decide (j < t) || decide (nI a + nearF (nI t * (nI b - nI a)) (nI j) = nI b + nearF (nI (j - t) * (nI a - nI b)) (nI j)))
theorem near_sym1 : ∀ a, a < 16 → ∀ b, b < 16 → nearSymB a b = true := by decide +kernel
theorem near_sym (a : Nat) (ha : a < 16) (b : Nat) (hb : b < 16) (j : Nat) (hj : j < 8) (h1 : 1 ≤ j) (t : Nat) (ht : t < 8) (htj : t ≤ j) : nI a + nearF (nI t * (nI b - nI a)) (nI j) = nI b + nearF (nI (j - t) * (nI a - nI b)) (nI j) := by
  have h := near_sym1 a ha b hb
  unfold nearSymB at h
  rw [List.all_eq_true] at h
  have h2 := h j (List.mem_range.mpr hj)
  rw [List.all_eq_true] at h2
  have h3 := h2 t (List.mem_range.mpr ht)
  simp only [Bool.or_eq_true, beq_iff_eq, decide_eq_true_eq] at h3
  rcases h3 with q | q | q
  · omega
  · omega
  · exact q
theorem cell_split {i : Nat} : nI i = 16 * nI (i / 16) + nI (i % 16) := by
  rw [show (16 : Int32) * nI (i / 16) = nI (16 * (i / 16)) from pk_mul 16 (i / 16), nI_add, show 16 * (i / 16) + i % 16 = i by omega]
theorem ring1 (P Q A B : Int32) : 16 * P + Q + A + 16 * B = 16 * (P + B) + (Q + A) := by
  rw [Int32.mul_add]
  ac_rfl
/-- a cell of the line, by row and column -/
theorem line_rc {i k : Nat} (hi : i < 160) (hk : k < 160) (n t : Int32) : lineC (nI i) (nI k) n t = 16 * (nI (i / 16) + nearF (t * (nI (k / 16) - nI (i / 16))) n) + (nI (i % 16) + nearF (t * (nI (k % 16) - nI (i % 16))) n) := by
  unfold lineC
  rw [(row_col i hi).1, (row_col i hi).2, (row_col k hk).1, (row_col k hk).2]
  rw [← ring1, ← cell_split]
theorem line_D {i k j t : Nat} (hi : i < 160) (hk : k < 160) (hj : j < 8) (h1 : 1 ≤ j) (ht : t ≤ j) : ∃ c, c < 160 ∧ cellD (nI i) (nI k) (nI j) (nI t) = nI c ∧ lineC (nI i) (nI k) (nI j) (nI t) = nI c := by
  obtain ⟨r, hr, er⟩ := within_0 (by omega) (near_in (i / 16) (by omega) (k / 16) (by omega) j hj h1 t (by omega) ht)
  obtain ⟨q, hq, eq⟩ := within_0 (by omega) (near_in (i % 16) (by omega) (k % 16) (by omega) j hj h1 t (by omega) ht)
  refine ⟨16 * r + q, by omega, ?_, ?_⟩
  · unfold cellD
    rw [(row_col i hi).1, (row_col i hi).2, (row_col k hk).1, (row_col k hk).2, near_D (by omega) (by omega) hj h1 (by omega), near_D (by omega) (by omega) hj h1 (by omega), er, Int32.add_assoc, eq, show (16 : Int32) * nI r = nI (16 * r) from pk_mul 16 r, nI_add]
  · rw [line_rc hi hk, er, eq, show (16 : Int32) * nI r = nI (16 * r) from pk_mul 16 r, nI_add]
theorem line_sym {i k j t : Nat} (hi : i < 160) (hk : k < 160) (hj : j < 8) (h1 : 1 ≤ j) (ht : t ≤ j) : lineC (nI i) (nI k) (nI j) (nI t) = lineC (nI k) (nI i) (nI j) (nI (j - t)) := by
  rw [line_rc hi hk, line_rc hk hi, near_sym (i / 16) (by omega) (k / 16) (by omega) j hj h1 t (by omega) ht, near_sym (i % 16) (by omega) (k % 16) (by omega) j hj h1 t (by omega) ht]
theorem seenL_all (σ : SS) (x y n : Int32) : ∀ (m k : Nat), seenL σ x y n m k = true ↔ ∀ t, k ≤ t → t < k + m → stopsB (kindF σ (lineC x y n (nI t))) = false
  | 0, k => ⟨fun _ t h1 h2 => by omega, fun _ => rfl⟩
  | m + 1, k => by
    unfold seenL
    by_cases h : stopsB (kindF σ (lineC x y n (nI k))) = true
    · rw [if_pos h]
      refine ⟨fun z => absurd z (by decide), fun z => ?_⟩
      have := z k (Nat.le_refl k) (by omega)
      rw [h] at this
      exact absurd this (by decide)
    · rw [if_neg h, seenL_all σ x y n m (k + 1)]
      have h0 : stopsB (kindF σ (lineC x y n (nI k))) = false := by cases hq : stopsB (kindF σ (lineC x y n (nI k))) with
        | true => exact absurd hq h
        | false => rfl
      refine ⟨fun z t h1 h2 => ?_, fun z t h1 h2 => z t (by omega) (by omega)⟩
      rcases (show t = k ∨ k + 1 ≤ t by omega) with r | r
      · rw [r]; exact h0
      · exact z t r (by omega)
theorem apartF_comm {x y : Int32} (hx : cellB x = true) (hy : cellB y = true) : apartF x y = apartF y x := by
  rw [← apartM_F hx hy, apartM_comm hx hy, apartM_F hy hx]
/-- sight goes both ways -/
theorem seen_comm (σ : SS) {i k : Nat} (hi : i < 160) (hk : k < 160) : seenB σ (nI i) (nI k) = seenB σ (nI k) (nI i) := by
  have hc := apartF_comm (cell_of hi) (cell_of hk)
  have key : ∀ {a b : Nat}, a < 160 → b < 160 → apartF (nI a) (nI b) = apartF (nI b) (nI a) → seenB σ (nI a) (nI b) = true → seenB σ (nI b) (nI a) = true := by
    intro a b ha hb hab h
    unfold seenB at h ⊢
    rw [← hab]
    by_cases q : apartF (nI a) (nI b) ≤ 7
    · rw [if_pos q] at h ⊢
      obtain ⟨j, hj, e⟩ := apart_le q
      rw [e, nI_clamp (by omega)] at h ⊢
      rw [seenL_all] at h ⊢
      intro t h1 h2
      have h3 := h (j - t) (by omega) (by omega)
      rw [line_sym ha hb (by omega) (by omega) (by omega), show j - (j - t) = t by omega] at h3
      exact h3
    · rw [if_neg q] at h
      exact absurd h (by decide)
  have e1 := key hi hk hc
  have e2 := key hk hi hc.symm
  cases h : seenB σ (nI i) (nI k) with
  | true => exact (e1 h).symm
  | false =>
    cases h2 : seenB σ (nI k) (nI i) with
    | true => rw [e2 h2] at h; cases h
    | false => rfl
theorem seen_le {σ : SS} {x y : Int32} (h : seenB σ x y = true) : apartF x y ≤ 7 := by
  unfold seenB at h
  by_cases q : apartF x y ≤ 7
  · exact q
  · rw [if_neg q] at h; cases h
/-- a being sees its own cell -/
theorem seen_self (σ : SS) {i : Nat} (hi : i < 160) : seenB σ (nI i) (nI i) = true := by
  have e : apartF (nI i) (nI i) = 0 := by
    unfold apartF
    rw [Int32.sub_self, Int32.sub_self]
    decide
  unfold seenB
  rw [e, if_pos (by decide)]
  rfl
theorem seesDL_eq {σ : SS} {kd : Nat → Int32} (hk : ∀ c, c < 160 → kindF σ (nI c) = kd c) {i k j : Nat} (hi : i < 160) (hk2 : k < 160) (hj : j < 8) : ∀ (m t : Nat), 1 ≤ t → t + m ≤ j → seesDL kd (nI i) (nI k) (nI j) m t = seenL σ (nI i) (nI k) (nI j) m t
  | 0, _, _, _ => rfl
  | m + 1, t, h1, h2 => by
    obtain ⟨c, hc, e1, e2⟩ := line_D hi hk2 hj (show 1 ≤ j by omega) (show t ≤ j by omega)
    unfold seesDL seenL
    rw [e1, e2, nI_clamp (by omega), hk c hc, seesDL_eq hk hi hk2 hj m (t + 1) (by omega) (by omega)]
    unfold stopsB
    by_cases q1 : kd c = 1
    · rw [if_pos q1, if_pos (show (if kd c = 1 then true else if kd c = 2 then true else false) = true by rw [if_pos q1])]
    · by_cases q2 : kd c = 2
      · rw [if_neg q1, if_pos q2, if_pos (show (if kd c = 1 then true else if kd c = 2 then true else false) = true by rw [if_neg q1, if_pos q2])]
      · rw [if_neg q1, if_neg q2, if_neg (show ¬ (if kd c = 1 then true else if kd c = 2 then true else false) = true by rw [if_neg q1, if_neg q2]; decide)]
theorem sees_eq {σ : SS} {kd : Nat → Int32} (hk : ∀ c, c < 160 → kindF σ (nI c) = kd c) {i k : Nat} (hi : i < 160) (hk2 : k < 160) : seesD kd (nI i) (nI k) = seenB σ (nI i) (nI k) := by
  unfold seesD seenB
  rw [apartM_F (cell_of hi) (cell_of hk2)]
  by_cases q : apartF (nI i) (nI k) ≤ 7
  · rw [if_pos q, if_pos q]
    obtain ⟨j, hj, e⟩ := apart_le q
    rw [e, nI_clamp (by omega)]
    rcases Nat.eq_zero_or_pos j with r | r
    · subst r; rfl
    · exact seesDL_eq hk hi hk2 (by omega) (j - 1) 1 (by omega) (by omega)
  · rw [if_neg q, if_neg q]
theorem best_congr {q q' : Nat → Prop} {v v' : Nat → Int32} {lo hi : Nat} {t : Int32} (h : ∀ i, lo ≤ i → i < hi → (q i ↔ q' i) ∧ (q i → v i = v' i)) (hb : bestP q v lo hi t) : bestP q' v' lo hi t := by
  rcases hb with ⟨a1, a2⟩ | ⟨j, a1, a2, a3, a4, a5⟩
  · exact Or.inl ⟨a1, fun i h1 h2 z => a2 i h1 h2 ((h i h1 h2).1.mpr z)⟩
  · refine Or.inr ⟨j, a1, a2, a3, (h j a1 a2).1.mp a4, fun i h1 h2 h3 => ?_⟩
    have q1 := (h i h1 h2).1.mpr h3
    rw [← (h j a1 a2).2 a4, ← (h i h1 h2).2 q1]
    exact a5 i h1 h2 q1
theorem turnL_best (σ : SS) (hn : s_n σ < 2 ^ 31) : ∀ (m k : Nat) (t : Int32), k + m = s_n σ → bestP (fun j => aliveB σ (nI j) = true) (fun j => traitF σ (nI j) 8) 0 k t → bestP (fun j => aliveB σ (nI j) = true) (fun j => traitF σ (nI j) 8) 0 (s_n σ) (turnL σ m k t)
  | 0, k, t, hk, h => by
    rw [show s_n σ = k by omega]
    exact h
  | m + 1, k, t, hk, h => by
    unfold turnL
    refine turnL_best σ hn m (k + 1) _ (by omega) ?_
    obtain ⟨u1, u2, u3⟩ := best_up (by omega) h
    by_cases a : aliveB σ (nI k) = true
    · rw [if_pos a]
      by_cases ht : t = -1
      · rw [if_pos ht]; exact u2 a ht
      · rw [if_neg ht]
        obtain ⟨j, hj, e⟩ : ∃ j, j < k ∧ t = nI j := by
          rcases h with ⟨b, -⟩ | ⟨j, -, b1, b2, -⟩
          · exact absurd b ht
          · exact ⟨j, b1, b2⟩
        obtain ⟨w1, w2⟩ := u3 j hj e a
        rw [e] at w1 ⊢
        by_cases hv : traitF σ (nI j) 8 ≤ traitF σ (nI k) 8
        · rw [if_pos hv]; exact w1 hv
        · rw [if_neg hv]; exact w2 hv
    · rw [if_neg a]; exact u1 a
theorem turn_best (σ : SS) (hn : s_n σ < 2 ^ 31) : bestP (fun j => aliveB σ (nI j) = true) (fun j => traitF σ (nI j) 8) 0 (s_n σ) (turnF σ) := turnL_best σ hn (s_n σ) 0 (-1) (by omega) (best_nil _ _ 0)
theorem neg1_lt : (-1 : Int32) < 0 := by decide
theorem turnDL_best (R : RW) {n : Nat} (hn : n < 2 ^ 31) : ∀ (m : Nat) (t : Int32), m ≤ n → bestP (fun j => ¬ R j 1 < 0) (fun j => R j 8) m n t → bestP (fun j => ¬ R j 1 < 0) (fun j => R j 8) 0 n (turnDL R m t)
  | 0, t, _, h => h
  | m + 1, t, hm, h => by
    unfold turnDL
    refine turnDL_best R hn m _ (by omega) ?_
    obtain ⟨u1, u2, u3⟩ := best_dn hn (show m < n by omega) h
    by_cases a : R m 1 < 0
    · rw [if_pos a]; exact u1 (fun z => z a)
    · rw [if_neg a]
      by_cases ht : t < 0
      · rw [if_pos ht]
        refine u2 a ?_
        rcases h with ⟨b, -⟩ | ⟨j, -, b1, b2, -⟩
        · exact b
        · rw [b2] at ht; exact absurd ht (nI_pos (by omega))
      · rw [if_neg ht]
        obtain ⟨j, hj1, hj, e⟩ : ∃ j, m < j ∧ j < n ∧ t = nI j := by
          rcases h with ⟨b, -⟩ | ⟨j, b0, b1, b2, -⟩
          · exact absurd (by rw [b]; exact neg1_lt) ht
          · exact ⟨j, b0, b1, b2⟩
        obtain ⟨w1, w2⟩ := u3 j hj1 hj e a
        rw [e] at w1 ⊢
        rw [nI_clamp (by omega)]
        by_cases hv : R j 8 < R m 8
        · rw [if_pos hv]; exact w1 hv
        · rw [if_neg hv]; exact w2 hv
theorem turnD_best (δ : DD) (hn : d_n δ < 2 ^ 31) : bestP (fun j => ¬ d_R δ j 1 < 0) (fun j => d_R δ j 8) 0 (d_n δ) (turnD δ) := turnDL_best (d_R δ) hn (d_n δ) (-1) (Nat.le_refl _) (best_nil _ _ _)
theorem IM.turn {σ : SS} {δ : DD} (h : IM σ δ) : turnF σ = turnD δ := by
  have hn : d_n δ < 2 ^ 31 := Nat.lt_of_le_of_lt h.1.2.1 (by decide)
  have h1 := turn_best σ (by rw [h.1.1]; exact hn)
  rw [h.1.1] at h1
  refine best_one (best_congr (fun i _ hi => ⟨h.alive hi, fun _ => ?_⟩) h1) (turnD_best δ hn)
  exact h.1.tr (w := 8) hi (by omega)
/-- whom one could aim at -/
def aimQ (σ : SS) (b : Int32) (k : Nat) : Prop := foeB σ b (nI k) = true ∧ seenB σ (traitF σ b 1) (traitF σ (nI k) 1) = true
def aimV (σ : SS) (b : Int32) (k : Nat) : Int32 := apartF (traitF σ b 1) (traitF σ (nI k) 1)
theorem targetL_best (σ : SS) (b : Int32) (hn : s_n σ < 2 ^ 31) : ∀ (m k : Nat) (t z : Int32), k + m = s_n σ → bestP (aimQ σ b) (aimV σ b) 0 k t → (t = -1 → z = 8) → (∀ j, j < k → t = nI j → z = aimV σ b j) → bestP (aimQ σ b) (aimV σ b) 0 (s_n σ) (targetL σ b (traitF σ b 1) m k t z)
  | 0, k, t, z, hk, h, _, _ => by
    rw [show s_n σ = k by omega]
    exact h
  | m + 1, k, t, z, hk, h, hz1, hz2 => by
    obtain ⟨u1, u2, u3⟩ := best_up (by omega) h
    have stay : bestP (aimQ σ b) (aimV σ b) 0 (k + 1) t → bestP (aimQ σ b) (aimV σ b) 0 (s_n σ) (targetL σ b (traitF σ b 1) m (k + 1) t z) := fun w => targetL_best σ b hn m (k + 1) t z (by omega) w hz1 (fun j hj e => by
      rcases h with ⟨c, -⟩ | ⟨j', -, c1, c2, -⟩
      · rw [c] at e; exact absurd e.symm (nI_neg1 (by omega))
      · have : j' = j := (nI_eq (by omega) (by omega)).mp (c2.symm.trans e)
        subst this
        exact hz2 j' c1 c2)
    unfold targetL
    by_cases hf : foeB σ b (nI k) = true
    · rw [if_pos hf]
      by_cases hv : z ≤ apartF (traitF σ b 1) (traitF σ (nI k) 1)
      · rw [if_pos hv]
        refine stay ?_
        by_cases hq : aimQ σ b k
        · rcases h with ⟨c, -⟩ | ⟨j, -, c1, c2, -⟩
          · have h1 := hz1 c
            have h2 := seen_le hq.2
            rw [h1] at hv
            exact absurd (Int32.le_trans hv h2) (by decide)
          · refine (u3 j c1 c2 hq).1 ?_
            rw [← hz2 j c1 c2]
            exact hv
        · exact u1 hq
      · rw [if_neg hv]
        by_cases hs : seenB σ (traitF σ b 1) (traitF σ (nI k) 1) = true
        · rw [if_pos hs]
          refine targetL_best σ b hn m (k + 1) (nI k) _ (by omega) ?_ (fun e => absurd e (nI_neg1 (by omega))) (fun j hj e => by
            have : k = j := (nI_eq (by omega) (by omega)).mp e
            subst this; rfl)
          rcases h with ⟨c, -⟩ | ⟨j, -, c1, c2, -⟩
          · exact u2 ⟨hf, hs⟩ c
          · refine (u3 j c1 c2 ⟨hf, hs⟩).2 ?_
            rw [← hz2 j c1 c2]
            exact hv
        · rw [if_neg hs]
          exact stay (u1 (fun z => hs z.2))
    · rw [if_neg hf]
      exact stay (u1 (fun z => hf z.1))
theorem target_best (σ : SS) (b : Int32) (hn : s_n σ < 2 ^ 31) (ha : aliveB σ b = true) : bestP (aimQ σ b) (aimV σ b) 0 (s_n σ) (targetF σ b) := by
  unfold targetF
  rw [if_pos ha]
  exact targetL_best σ b hn (s_n σ) 0 (-1) 8 (by omega) (best_nil _ _ 0) (fun _ => rfl) (fun j hj => by omega)
def aimQD (δ : DD) (b k : Nat) : Prop := ¬ d_R δ k 1 < 0 ∧ ¬ d_R δ k 0 = d_R δ b 0 ∧ seesD (d_k δ) (d_R δ b 1) (d_R δ k 1) = true
def aimVD (δ : DD) (b k : Nat) : Int32 := apartM (d_R δ b 1) (d_R δ k 1)
theorem targetDL_best (δ : DD) (b : Nat) (hn : d_n δ < 2 ^ 31) : ∀ (m : Nat) (t : Int32), m ≤ d_n δ → bestP (aimQD δ b) (aimVD δ b) m (d_n δ) t → bestP (aimQD δ b) (aimVD δ b) 0 (d_n δ) (targetDL δ b m t)
  | 0, t, _, h => h
  | m + 1, t, hm, h => by
    unfold targetDL
    refine targetDL_best δ b hn m _ (by omega) ?_
    obtain ⟨u1, u2, u3⟩ := best_dn hn (show m < d_n δ by omega) h
    by_cases a : d_R δ m 1 < 0
    · rw [if_pos a]; exact u1 (fun z => z.1 a)
    · rw [if_neg a]
      by_cases a2 : d_R δ m 0 = d_R δ b 0
      · rw [if_pos a2]; exact u1 (fun z => z.2.1 a2)
      · rw [if_neg a2]
        by_cases a3 : seesD (d_k δ) (d_R δ b 1) (d_R δ m 1) = true
        · rw [if_pos a3]
          by_cases ht : t < 0
          · rw [if_pos ht]
            refine u2 ⟨a, a2, a3⟩ ?_
            rcases h with ⟨c, -⟩ | ⟨j, -, c1, c2, -⟩
            · exact c
            · rw [c2] at ht; exact absurd ht (nI_pos (by omega))
          · rw [if_neg ht]
            obtain ⟨j, hj1, hj, e⟩ : ∃ j, m < j ∧ j < d_n δ ∧ t = nI j := by
              rcases h with ⟨c, -⟩ | ⟨j, c0, c1, c2, -⟩
              · exact absurd (by rw [c]; exact neg1_lt) ht
              · exact ⟨j, c0, c1, c2⟩
            obtain ⟨w1, w2⟩ := u3 j hj1 hj e ⟨a, a2, a3⟩
            rw [e] at w1 ⊢
            rw [nI_clamp (by omega)]
            show bestP (aimQD δ b) (aimVD δ b) m (d_n δ) (if aimVD δ b j < aimVD δ b m then nI j else nI m)
            by_cases hv : aimVD δ b j < aimVD δ b m
            · rw [if_pos hv]; exact w1 hv
            · rw [if_neg hv]; exact w2 hv
        · rw [if_neg a3]; exact u1 (fun z => a3 z.2.2)
theorem targetD_best (δ : DD) (b : Nat) (hn : d_n δ < 2 ^ 31) (ha : ¬ d_R δ b 1 < 0) : bestP (aimQD δ b) (aimVD δ b) 0 (d_n δ) (targetD δ b) := by
  unfold targetD
  rw [if_neg ha]
  exact targetDL_best δ b hn (d_n δ) (-1) (Nat.le_refl _) (best_nil _ _ _)
/-- where an alive one stands -/
theorem IM.cell {σ : SS} {δ : DD} (h : IM σ δ) {j : Nat} (hj : j < d_n δ) (ha : ¬ d_R δ j 1 < 0) : ∃ c, c < 160 ∧ d_R δ j 1 = nI c ∧ (d_k δ c = 0 ∨ d_k δ c = 3) := by
  obtain ⟨lf, mo, c, -, -, -, -, -, a6, a7, a8⟩ := (ok_alive (h.2.2.2.1 j hj)).1 ha
  exact ⟨c, a6, a7, a8⟩
theorem IM.foe {σ : SS} {δ : DD} (h : IM σ δ) {b k : Nat} (hb : b < d_n δ) (hk : k < d_n δ) : (foeB σ (nI b) (nI k) = true ↔ ¬ d_R δ k 1 < 0 ∧ ¬ d_R δ k 0 = d_R δ b 0) := by
  have hal := h.alive hk
  unfold aliveB at hal
  unfold foeB
  rw [show traitF σ (nI k) 0 = d_R δ k 0 from h.1.tr (w := 0) hk (by omega), show traitF σ (nI b) 0 = d_R δ b 0 from h.1.tr (w := 0) hb (by omega)]
  by_cases q : traitF σ (nI k) 2 ≤ 0
  · rw [if_pos q] at hal ⊢
    exact ⟨fun z => absurd z (by decide), fun z => absurd (hal.mpr z.1) (by decide)⟩
  · rw [if_neg q] at hal ⊢
    have ha := hal.mp rfl
    by_cases r : d_R δ k 0 = d_R δ b 0
    · rw [if_pos r]
      exact ⟨fun z => absurd z (by decide), fun z => absurd r z.2⟩
    · rw [if_neg r]
      exact ⟨fun _ => ⟨ha, r⟩, fun _ => rfl⟩
theorem IM.sees {σ : SS} {δ : DD} (h : IM σ δ) {i k : Nat} (hi : i < 160) (hk : k < 160) : seesD (d_k δ) (nI i) (nI k) = seenB σ (nI i) (nI k) := sees_eq (fun c hc => h.1.ki hc) hi hk
theorem IM.target {σ : SS} {δ : DD} (h : IM σ δ) {b : Nat} (hb : b < d_n δ) : targetF σ (nI b) = targetD δ b := by
  have hn : d_n δ < 2 ^ 31 := Nat.lt_of_le_of_lt h.1.2.1 (by decide)
  by_cases ha : d_R δ b 1 < 0
  · have h1 : ¬ aliveB σ (nI b) = true := fun z => (h.alive hb).mp z ha
    unfold targetF targetD
    rw [if_neg h1, if_pos ha]
  · have h1 := target_best σ (nI b) (by rw [h.1.1]; exact hn) ((h.alive hb).mpr ha)
    rw [h.1.1] at h1
    obtain ⟨c, hc, ec, -⟩ := h.cell hb ha
    refine best_one (best_congr (fun i _ hi => ?_) h1) (targetD_best δ b hn ha)
    have e1 : traitF σ (nI b) 1 = d_R δ b 1 := h.1.tr (w := 1) hb (by omega)
    have e2 : traitF σ (nI i) 1 = d_R δ i 1 := h.1.tr (w := 1) hi (by omega)
    unfold aimQ aimQD aimV aimVD
    rw [e1, e2, h.foe hb hi]
    by_cases ai : d_R δ i 1 < 0
    · exact ⟨⟨fun z => absurd ai z.1.1, fun z => absurd ai z.1⟩, fun z => absurd ai z.1.1⟩
    · obtain ⟨c2, hc2, ec2, -⟩ := h.cell hi ai
      rw [ec, ec2, h.sees hc hc2, apartM_F (cell_of hc) (cell_of hc2)]
      exact ⟨⟨fun z => ⟨z.1.1, z.1.2, z.2⟩, fun z => ⟨⟨z.1, z.2.1⟩, z.2.2⟩⟩, fun _ => rfl⟩
theorem IR.turn {K : Nat} {σ : SS} {δ : DD} (h : IR K σ δ) : turnF σ = turnD δ := h.m.turn
theorem IR.cell {K : Nat} {σ : SS} {δ : DD} (h : IR K σ δ) {j : Nat} (hj : j < d_n δ) (ha : ¬ d_R δ j 1 < 0) : ∃ c, c < 160 ∧ d_R δ j 1 = nI c ∧ (d_k δ c = 0 ∨ d_k δ c = 3) := h.m.cell hj ha
theorem IR.foe {K : Nat} {σ : SS} {δ : DD} (h : IR K σ δ) {b k : Nat} (hb : b < d_n δ) (hk : k < d_n δ) : (foeB σ (nI b) (nI k) = true ↔ ¬ d_R δ k 1 < 0 ∧ ¬ d_R δ k 0 = d_R δ b 0) := h.m.foe hb hk
theorem IR.target {K : Nat} {σ : SS} {δ : DD} (h : IR K σ δ) {b : Nat} (hb : b < d_n δ) : targetF σ (nI b) = targetD δ b := h.m.target hb
