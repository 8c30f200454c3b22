-- ===== what the law looks at: the class's answers in a dungeon that is right =====
/-- how many of the first b -/
def cntP (q : Nat → Bool) : Nat → Nat
  | 0 => 0
  | b + 1 => cntP q b + (if q b = true then 1 else 0)
def sumP (f : Nat → Nat) : Nat → Nat
  | 0 => 0
  | b + 1 => sumP f b + f b
theorem cnt_le (q : Nat → Bool) : ∀ b, cntP q b ≤ b
  | 0 => Nat.le_refl 0
  | b + 1 => by
    unfold cntP
    have := cnt_le q b
    split <;> omega
theorem cnt_0 {q : Nat → Bool} : ∀ {b : Nat}, (cntP q b = 0 ↔ ∀ j, j < b → ¬ q j = true)
  | 0 => ⟨fun _ j h => by omega, fun _ => rfl⟩
  | b + 1 => by
    have ih := cnt_0 (q := q) (b := b)
    unfold cntP
    by_cases h : q b = true
    · rw [if_pos h]
      exact ⟨fun z => by omega, fun z => absurd h (z b (by omega))⟩
    · rw [if_neg h, Nat.add_zero, ih]
      refine ⟨fun z j hj => ?_, fun z j hj => z j (by omega)⟩
      rcases (show j < b ∨ j = b by omega) with r | r
      · exact z j r
      · rw [r]; exact h
theorem cnt_two {p q r : Nat → Bool} : ∀ {b : Nat}, (∀ j, j < b → (r j = true ↔ p j = true ∨ q j = true) ∧ ¬ (p j = true ∧ q j = true)) → cntP r b = cntP p b + cntP q b
  | 0, _ => rfl
  | b + 1, h => by
    have ih := cnt_two (p := p) (q := q) (r := r) (b := b) (fun j hj => h j (by omega))
    obtain ⟨h1, h2⟩ := h b (by omega)
    unfold cntP
    rw [ih]
    by_cases hp : p b = true <;> by_cases hq : q b = true
    · exact absurd ⟨hp, hq⟩ h2
    · rw [if_pos hp, if_neg hq, if_pos (h1.mpr (Or.inl hp))]; omega
    · rw [if_neg hp, if_pos hq, if_pos (h1.mpr (Or.inr hq))]; omega
    · rw [if_neg hp, if_neg hq, if_neg (fun z => (h1.mp z).elim hp hq)]; omega
theorem sum_0 {f : Nat → Nat} : ∀ {b : Nat}, (∀ j, j < b → f j = 0) → sumP f b = 0
  | 0, _ => rfl
  | b + 1, h => by
    unfold sumP
    rw [sum_0 (fun j hj => h j (by omega)), h b (by omega)]
theorem sum_le {f : Nat → Nat} {q : Nat → Bool} {M : Nat} : ∀ {b : Nat}, (∀ j, j < b → (f j ≤ M ∧ (¬ q j = true → f j = 0))) → sumP f b ≤ M * cntP q b
  | 0, _ => Nat.zero_le _
  | b + 1, h => by
    have ih := sum_le (f := f) (q := q) (M := M) (b := b) (fun j hj => h j (by omega))
    obtain ⟨h1, h2⟩ := h b (by omega)
    unfold sumP cntP
    by_cases hq : q b = true
    · rw [if_pos hq, Nat.mul_add, Nat.mul_one]; omega
    · rw [if_neg hq, Nat.add_zero, h2 hq]; omega
theorem living_N (σ : SS) (s : Int32) : ∀ (m k t : Nat), livingL σ s m k (nI (cntP (fun j => decide (traitF σ (nI j) 0 = s) && aliveB σ (nI j)) k)) = nI (cntP (fun j => decide (traitF σ (nI j) 0 = s) && aliveB σ (nI j)) (k + m))
  | 0, _, _ => rfl
  | m + 1, k, t => by
    show livingL σ s m (k + 1) (if traitF σ (nI k) 0 = s then if aliveB σ (nI k) = true then nI (cntP (fun j => decide (traitF σ (nI j) 0 = s) && aliveB σ (nI j)) k) + 1 else nI (cntP (fun j => decide (traitF σ (nI j) 0 = s) && aliveB σ (nI j)) k) else nI (cntP (fun j => decide (traitF σ (nI j) 0 = s) && aliveB σ (nI j)) k)) = _
    rw [show k + (m + 1) = k + 1 + m by omega, ← living_N σ s m (k + 1) t]
    congr 1
    show _ = nI (cntP (fun j => decide (traitF σ (nI j) 0 = s) && aliveB σ (nI j)) k + (if (decide (traitF σ (nI k) 0 = s) && aliveB σ (nI k)) = true then 1 else 0))
    by_cases h1 : traitF σ (nI k) 0 = s
    · rw [if_pos h1, decide_eq_true h1, Bool.true_and]
      by_cases h2 : aliveB σ (nI k) = true
      · rw [if_pos h2, if_pos h2, nI_1]
      · rw [if_neg h2, if_neg h2, Nat.add_zero]
    · rw [if_neg h1, decide_eq_false h1, Bool.false_and, if_neg (by decide), Nat.add_zero]
def sideQ (σ : SS) (s : Int32) : Nat → Bool := fun j => decide (traitF σ (nI j) 0 = s) && aliveB σ (nI j)
theorem living_n (σ : SS) (s : Int32) : livingF σ s = nI (cntP (sideQ σ s) (s_n σ)) := by
  have := living_N σ s (s_n σ) 0 0
  rw [Nat.zero_add] at this
  exact this
def watchQ (σ : SS) (s c : Int32) : Nat → Bool := fun j => aliveB σ (nI j) && (!decide (traitF σ (nI j) 0 = s) && seenB σ (traitF σ (nI j) 1) c)
theorem watch_N (σ : SS) (s c : Int32) : ∀ (m k : Nat), watchL σ s c m k (nI (cntP (watchQ σ s c) k)) = nI (cntP (watchQ σ s c) (k + m))
  | 0, _ => rfl
  | m + 1, k => by
    show watchL σ s c m (k + 1) (if aliveB σ (nI k) = true then if traitF σ (nI k) 0 = s then nI (cntP (watchQ σ s c) k) else if seenB σ (traitF σ (nI k) 1) c = true then nI (cntP (watchQ σ s c) k) + 1 else nI (cntP (watchQ σ s c) k) else nI (cntP (watchQ σ s c) k)) = _
    rw [show k + (m + 1) = k + 1 + m by omega, ← watch_N σ s c m (k + 1)]
    congr 1
    show _ = nI (cntP (watchQ σ s c) k + (if (aliveB σ (nI k) && (!decide (traitF σ (nI k) 0 = s) && seenB σ (traitF σ (nI k) 1) c)) = true then 1 else 0))
    by_cases h1 : aliveB σ (nI k) = true
    · rw [if_pos h1, h1, Bool.true_and]
      by_cases h2 : traitF σ (nI k) 0 = s
      · rw [if_pos h2, decide_eq_true h2, if_neg (by simp), Nat.add_zero]
      · rw [if_neg h2, decide_eq_false h2]
        by_cases h3 : seenB σ (traitF σ (nI k) 1) c = true
        · rw [if_pos h3, h3, if_pos (by decide), nI_1]
        · rw [if_neg h3, if_neg (by simpa using h3), Nat.add_zero]
    · have h0 : aliveB σ (nI k) = false := by cases hq : aliveB σ (nI k) with
        | true => exact absurd hq h1
        | false => rfl
      rw [if_neg h1, h0, Bool.false_and, if_neg (by decide), Nat.add_zero]
theorem watch_n (σ : SS) (s c : Int32) : watchF σ s c = nI (cntP (watchQ σ s c) (s_n σ)) := by
  have := watch_N σ s c (s_n σ) 0
  rw [Nat.zero_add] at this
  exact this
/-- the life of a being, as a number -/
def lifeN (σ : SS) (s : Int32) : Nat → Nat := fun j => if traitF σ (nI j) 0 = s then (traitF σ (nI j) 2).toNatClampNeg else 0
theorem life_N (σ : SS) (s : Int32) : ∀ (m k : Nat), (∀ j, j < k + m → traitF σ (nI j) 2 = nI (traitF σ (nI j) 2).toNatClampNeg) → lifeL σ s m k (nI (sumP (lifeN σ s) k)) = nI (sumP (lifeN σ s) (k + m))
  | 0, _, _ => rfl
  | m + 1, k, h => by
    show lifeL σ s m (k + 1) (if traitF σ (nI k) 0 = s then nI (sumP (lifeN σ s) k) + traitF σ (nI k) 2 else nI (sumP (lifeN σ s) k)) = _
    rw [show k + (m + 1) = k + 1 + m by omega, ← life_N σ s m (k + 1) (fun j hj => h j (by omega))]
    congr 1
    show _ = nI (sumP (lifeN σ s) k + lifeN σ s k)
    unfold lifeN
    by_cases h1 : traitF σ (nI k) 0 = s
    · rw [if_pos h1, if_pos h1]
      conv => lhs; rw [h k (by omega)]
      rw [nI_add]
    · rw [if_neg h1, if_neg h1, Nat.add_zero]
-- what a being is worth asking about
theorem L_eff {K : Nat} {σ : SS} {δ : DD} (h : IR K σ δ) {b e : Nat} (hb : b < d_n δ) (he : e < 5) : ∃ s t : Nat, stackF σ (nI b) (nI e) = nI s ∧ turnsF σ (nI b) (nI e) = nI t ∧ s ≤ 9 ∧ t ≤ 20 ∧ (s = 0 ↔ t = 0) := by
  obtain ⟨s, t, a1, a2, a3, a4, a5⟩ := (h.2.1.2.2.1 b hb).2.2.2.2.2.2 e he
  exact ⟨s, t, by rw [h.1.st hb he, a1], by rw [h.1.tu hb he, a2], a3, a4, a5⟩
theorem L_row {K : Nat} {σ : SS} {δ : DD} (h : IR K σ δ) {b : Nat} (hb : b < d_n δ) : ∃ lf mo m : Nat, traitF σ (nI b) 2 = nI lf ∧ traitF σ (nI b) 3 = nI mo ∧ traitF σ (nI b) 7 = nI m ∧ lf ≤ mo ∧ mo ≤ 60 ∧ m ≤ 9 ∧ ((lf = 0 ∧ traitF σ (nI b) 1 = -1 ∧ aliveB σ (nI b) = false) ∨ (0 < lf ∧ aliveB σ (nI b) = true ∧ ∃ c, c < 160 ∧ traitF σ (nI b) 1 = nI c ∧ (kindF σ (nI c) = 0 ∨ kindF σ (nI c) = 3))) := by
  have hr := h.2.1.2.2.1 b hb
  obtain ⟨lf, mo, a1, a2, a3, a4, a5⟩ := hr.2.1
  obtain ⟨m, hm, em⟩ := hr.2.2.2.2.2.1
  have e1 : traitF σ (nI b) 1 = d_R δ b 1 := h.1.tr (w := 1) hb (by omega)
  refine ⟨lf, mo, m, by rw [show traitF σ (nI b) 2 = d_R δ b 2 from h.1.tr (w := 2) hb (by omega), a1], by rw [show traitF σ (nI b) 3 = d_R δ b 3 from h.1.tr (w := 3) hb (by omega), a2], by rw [show traitF σ (nI b) 7 = d_R δ b 7 from h.1.tr (w := 7) hb (by omega), em], a3, a4, hm, ?_⟩
  have hal := h.alive hb
  rw [e1]
  rcases a5 with ⟨b1, b2⟩ | ⟨b1, c, b2, b3, b4⟩
  · refine Or.inl ⟨b1, b2, ?_⟩
    cases hq : aliveB σ (nI b) with
    | true => exact absurd (by rw [b2]; exact neg1_lt) (hal.mp hq)
    | false => rfl
  · refine Or.inr ⟨b1, hal.mpr (by rw [b3]; exact nI_pos (by omega)), c, b2, b3, ?_⟩
    rw [h.1.ki b2]
    exact b4
theorem worth_dead {σ : SS} {b : Int32} (h : aliveB σ b = false) (k : Nat) : worthF σ b k = -1000 := by
  have hp : possB σ b (nI k) = false := by
    unfold possB
    rw [h]
    rfl
  unfold worthF
  rw [hp]
  rfl
theorem bestL_dead {f : Nat → Int32} (h : ∀ k, f k = -1000) : ∀ (m k : Nat), bestL f m k (-1) (-1000) = -1
  | 0, _ => rfl
  | m + 1, k => by
    unfold bestL
    rw [h k, if_pos (by decide)]
    exact bestL_dead h m (k + 1)
theorem plan_dead {σ : SS} {b : Int32} (h : aliveB σ b = false) : planF σ b = -1 := bestL_dead (worth_dead h) 8 0
theorem hit_dead {σ : SS} {b : Int32} (h : aliveB σ b = false) (o : Int32) : hitF σ b o = 0 := by
  unfold hitF
  rw [h, if_neg (by decide)]
theorem target_dead {σ : SS} {b : Int32} (h : aliveB σ b = false) : targetF σ b = -1 := by
  unfold targetF
  rw [h, if_neg (by decide)]
theorem worthOf_at {f : Nat → Int32} {k : Nat} (h : k < 8) : worthOfF f (nI k) = f k := rd_at h (by decide) _
theorem worth_wait {σ : SS} {b : Int32} (h : aliveB σ b = true) : worthF σ b 0 = 1 := by
  unfold worthF possB
  rw [if_pos h, if_pos (show nI 0 = 0 from rfl), if_pos rfl]
  unfold worthP
  rw [if_pos (show nI 0 = 0 from rfl)]
/-- the best is as good as each -/
theorem bestL_ge (f : Nat → Int32) : ∀ (m k : Nat) (b w : Int32), k + m = 8 → ((b = -1 ∧ w = -1000 ∧ ∀ i, i < k → f i ≤ w) ∨ ∃ j, j < k ∧ b = nI j ∧ w = f j ∧ ∀ i, i < k → f i ≤ f j) → (bestL f m k b w = -1 ∧ ∀ i, i < 8 → f i ≤ -1000) ∨ ∃ j, j < 8 ∧ bestL f m k b w = nI j ∧ ∀ i, i < 8 → f i ≤ f j
  | 0, k, b, w, hk, h => by
    rcases h with ⟨a1, a2, a3⟩ | ⟨j, a1, a2, a3, a4⟩
    · exact Or.inl ⟨a1, fun i hi => by have := a3 i (by omega); rw [a2] at this; exact this⟩
    · exact Or.inr ⟨j, by omega, a2, fun i hi => a4 i (by omega)⟩
  | m + 1, k, b, w, hk, h => by
    unfold bestL
    by_cases q : f k ≤ w
    · rw [if_pos q]
      refine bestL_ge f m (k + 1) b w (by omega) ?_
      rcases h with ⟨a1, a2, a3⟩ | ⟨j, a1, a2, a3, a4⟩
      · refine Or.inl ⟨a1, a2, fun i hi => ?_⟩
        rcases (show i < k ∨ i = k by omega) with r | r
        · exact a3 i r
        · rw [r]; exact q
      · refine Or.inr ⟨j, by omega, a2, a3, fun i hi => ?_⟩
        rcases (show i < k ∨ i = k by omega) with r | r
        · exact a4 i r
        · rw [r, ← a3]; exact q
    · rw [if_neg q]
      have hlt : w ≤ f k := Int32.le_of_lt (Int32.not_le.mp q)
      refine bestL_ge f m (k + 1) (nI k) (f k) (by omega) (Or.inr ⟨k, by omega, rfl, rfl, fun i hi => ?_⟩)
      rcases (show i < k ∨ i = k by omega) with r | r
      · rcases h with ⟨a1, a2, a3⟩ | ⟨j, a1, a2, a3, a4⟩
        · exact Int32.le_trans (a3 i r) hlt
        · exact Int32.le_trans (a4 i r) (by rw [← a3]; exact hlt)
      · rw [r]; exact Int32.le_refl _
theorem plan_ok {σ : SS} {b : Int32} (h : aliveB σ b = true) : ∃ j, j < 8 ∧ planF σ b = nI j ∧ (1 : Int32) ≤ worthF σ b j := by
  have h0 := worth_wait h
  rcases bestL_ge (worthF σ b) 8 0 (-1) (-1000) rfl (Or.inl ⟨rfl, rfl, fun i hi => by omega⟩) with ⟨-, a⟩ | ⟨j, a1, a2, a3⟩
  · have := a 0 (by decide)
    rw [h0] at this
    exact absurd this (by decide)
  · refine ⟨j, a1, a2, ?_⟩
    rw [← h0]
    exact a3 0 (by decide)
theorem worth_5 {σ : SS} {b : Int32} (ht : targetF σ b = -1) : worthF σ b 5 = -1000 := by
  have : possB σ b (nI 5) = false := by
    unfold possB
    by_cases h : aliveB σ b = true
    · rw [if_pos h, if_neg (show ¬ nI 5 = 0 by decide), if_neg (show ¬ nI 5 < 1 by decide), if_pos (show (4 : Int32) < nI 5 by decide)]
      unfold magicB
      rw [if_pos (show nI 5 = 5 from rfl), ht, if_pos rfl]
      split <;> rfl
    · rw [if_neg h]
  unfold worthF
  rw [this, if_neg (by decide)]
theorem L_on {K : Nat} {σ : SS} {δ : DD} (h : IR K σ δ) {b c : Nat} (hb : b < d_n δ) (hc : c < 160) (e : traitF σ (nI b) 1 = nI c) : onF σ (nI c) = nI b := by
  have e1 : d_R δ b 1 = nI c := by rw [← e]; exact (h.1.tr (w := 1) hb (by omega)).symm
  rw [h.1.on]
  rcases h.m.who hc with ⟨-, q⟩ | ⟨j, a1, a2, a3, -⟩
  · exact absurd e1 (q b hb)
  · have : j = b := h.2.1.2.2.2.1 j b a1 hb (by rw [a3, e1]) (by rw [a3]; exact nI_neg1 (by omega))
    rw [a2, this]
theorem L_free {K : Nat} {σ : SS} {δ : DD} (h : IR K σ δ) {c : Nat} (hc : c < 160) (e : onF σ (nI c) < 0) : ∀ j, j < d_n δ → ¬ traitF σ (nI j) 1 = nI c := by
  rw [h.1.on] at e
  intro j hj q
  rcases h.m.who hc with ⟨-, z⟩ | ⟨o, a1, a2, a3, -⟩
  · exact z j hj (by rw [← q]; exact (h.1.tr (w := 1) hj (by omega)).symm)
  · rw [a2] at e
    exact nI_pos (Nat.lt_trans a1 (Nat.lt_of_le_of_lt h.1.2.1 (by decide))) e
theorem L_turn {K : Nat} {σ : SS} {δ : DD} (h : IR K σ δ) {b : Nat} (hb : b < d_n δ) (ha : aliveB σ (nI b) = true) : ∃ t, t < d_n δ ∧ turnF σ = nI t ∧ traitF σ (nI t) 8 ≤ traitF σ (nI b) 8 ∧ (traitF σ (nI b) 8 = traitF σ (nI t) 8 → t ≤ b) := by
  have hb' : b < s_n σ := by rw [h.1.1]; exact hb
  rcases turn_best σ (by rw [h.1.1]; exact Nat.lt_of_le_of_lt h.1.2.1 (by decide)) with ⟨-, q⟩ | ⟨t, -, a2, a3, a4, a5⟩
  · exact absurd ha (q b (Nat.zero_le _) hb')
  · obtain ⟨c1, c2⟩ := a5 b (Nat.zero_le _) hb' ha
    refine ⟨t, by rw [← h.1.1]; exact a2, a3, c1, fun e => ?_⟩
    rcases Nat.lt_or_ge b t with r | r
    · have this : traitF σ (nI t) 8 < traitF σ (nI b) 8 := c2 r
      rw [e] at this
      exact (Int32.lt_irrefl this).elim
    · exact r
theorem L_turn0 {K : Nat} {σ : SS} {δ : DD} (h : IR K σ δ) : (turnF σ < 0 ↔ ∀ j, j < d_n δ → ¬ aliveB σ (nI j) = true) := by
  rw [← h.1.1]
  rcases turn_best σ (by rw [h.1.1]; exact Nat.lt_of_le_of_lt h.1.2.1 (by decide)) with ⟨a, q⟩ | ⟨t, -, a2, a3, a4, a5⟩
  · rw [a]
    exact ⟨fun _ j hj => q j (Nat.zero_le _) hj, fun _ => neg1_lt⟩
  · rw [a3]
    have ht : t < 2 ^ 31 := by have := h.1.2.1; rw [h.1.1] at a2; omega
    exact ⟨fun z => absurd z (nI_pos ht), fun z => absurd a4 (z t a2)⟩
theorem L_target {K : Nat} {σ : SS} {δ : DD} (h : IR K σ δ) {b c : Nat} (hb : b < d_n δ) (ha : aliveB σ (nI b) = true) (hc : c < 160) (ec : traitF σ (nI b) 1 = nI c) :
    (targetF σ (nI b) = -1 ∧ watchF σ (traitF σ (nI b) 0) (nI c) = 0) ∨ ∃ o c2, o < d_n δ ∧ targetF σ (nI b) = nI o ∧ ¬ traitF σ (nI o) 0 = traitF σ (nI b) 0 ∧ c2 < 160 ∧ traitF σ (nI o) 1 = nI c2 ∧ seenB σ (nI c2) (nI c) = true ∧ ∃ w : Nat, 1 ≤ w ∧ w ≤ 10 ∧ watchF σ (traitF σ (nI b) 0) (nI c) = nI w := by
  have hn : s_n σ = d_n δ := h.1.1
  have h10 := h.1.2.1
  have hw := watch_n σ (traitF σ (nI b) 0) (nI c)
  have hq : ∀ j, j < d_n δ → (watchQ σ (traitF σ (nI b) 0) (nI c) j = true ↔ aimQ σ (nI b) j) := by
    intro j hj
    unfold watchQ aimQ
    rw [Bool.and_eq_true, Bool.and_eq_true, Bool.not_eq_true', decide_eq_false_iff_not, h.foe hb hj, h.alive hj, ec, show traitF σ (nI j) 0 = d_R δ j 0 from h.1.tr (w := 0) hj (by omega), show traitF σ (nI b) 0 = d_R δ b 0 from h.1.tr (w := 0) hb (by omega)]
    by_cases aj : d_R δ j 1 < 0
    · exact ⟨fun z => absurd aj z.1, fun z => absurd aj z.1.1⟩
    · obtain ⟨cj, hcj, ej, -⟩ := h.cell hj aj
      rw [show traitF σ (nI j) 1 = d_R δ j 1 from h.1.tr (w := 1) hj (by omega), ej, seen_comm σ hcj hc]
      exact ⟨fun z => ⟨⟨z.1, z.2.1⟩, z.2.2⟩, fun z => ⟨z.1.1, z.1.2, z.2⟩⟩
  rcases target_best σ (nI b) (by omega) ha with ⟨a, q⟩ | ⟨o, -, a2, a3, a4, -⟩
  · refine Or.inl ⟨a, ?_⟩
    rw [hw, cnt_0.mpr (fun j hj z => q j (Nat.zero_le _) hj ((hq j (by omega)).mp z))]
    rfl
  · have ho : o < d_n δ := by omega
    have hf := (h.foe hb ho).mp a4.1
    obtain ⟨c2, hc2, e2, -⟩ := h.cell ho hf.1
    have e2' : traitF σ (nI o) 1 = nI c2 := by rw [← e2]; exact h.1.tr (w := 1) ho (by omega)
    have hs := a4.2
    rw [ec, e2', seen_comm σ hc hc2] at hs
    refine Or.inr ⟨o, c2, ho, a3, ?_, hc2, e2', hs, cntP (watchQ σ (traitF σ (nI b) 0) (nI c)) (s_n σ), ?_, by have := cnt_le (watchQ σ (traitF σ (nI b) 0) (nI c)) (s_n σ); omega, hw⟩
    · rw [show traitF σ (nI o) 0 = d_R δ o 0 from h.1.tr (w := 0) ho (by omega), show traitF σ (nI b) 0 = d_R δ b 0 from h.1.tr (w := 0) hb (by omega)]
      exact hf.2
    · rcases Nat.eq_zero_or_pos (cntP (watchQ σ (traitF σ (nI b) 0) (nI c)) (s_n σ)) with r | r
      · exact absurd ((hq o ho).mpr a4) (cnt_0.mp r o a2)
      · exact r
-- ways
theorem IR.rim {K : Nat} {σ : SS} {δ : DD} (h : IR K σ δ) : rimOk σ := fun c hc hr => by
  rw [h.1.ki hc]
  exact h.2.1.2.1 c hc hr
theorem L_way_wall {σ : SS} {b : Int32} {c x : Nat} (hk : kindF σ (nI c) = 1) (hx : x < 160) : fromL (lensF σ b (nI c)) (nI x) = -1 := by
  unfold fromL lensF measureA
  rw [if_pos hk, len_A hx]
  show maxI (-1) (-1) = -1
  decide
theorem L_way0 {K : Nat} {σ : SS} {δ : DD} (h : IR K σ δ) {b c : Nat} (ha : aliveB σ (nI b) = true) (hc : c < 160) (ec : traitF σ (nI b) 1 = nI c) (hk : kindF σ (nI c) = 0 ∨ kindF σ (nI c) = 3) : wayF σ (nI b) (nI c) = 0 := by
  have hk1 : ¬ kindF σ (nI c) = 1 := fun q => by
    rw [q] at hk
    rcases hk with r | r <;> exact absurd r (by decide)
  obtain ⟨es, hB⟩ := lens_BI (w := nI b) h.rim hc hk1
  unfold wayF
  rw [if_pos ha, ec]
  rcases way_or hB hc with ⟨-, a, -⟩ | ⟨a, -⟩
  · rw [a, hB.2.2.2.2.2.1.2]; rfl
  · exact absurd hB.2.2.2.2.2.1.1 a
/-- a way: how far it is at least, and over what -/
theorem L_way {K : Nat} {σ : SS} {δ : DD} (h : IR K σ δ) {b c x : Nat} (hb : b < d_n δ) (ha : aliveB σ (nI b) = true) (hx : x < 160) (ex : traitF σ (nI b) 1 = nI x) (hc : c < 160) : wayF σ (nI b) (nI c) = -1 ∨ ∃ v : Nat, v ≤ 320 ∧ wayF σ (nI b) (nI c) = nI v ∧ manN x c ≤ v ∧ ¬ kindF σ (nI c) = 1 ∧
    (onF σ (nI c) < 0 → ∀ N j, j < 4 → N < 160 → ¬ kindF σ (nI N) = 1 → N = nbN c j → ∃ v2 : Nat, v2 ≤ v + costN σ N ∧ v2 ≤ 320 ∧ wayF σ (nI b) (nI N) = nI v2) := by
  unfold wayF
  rw [if_pos ha, ex]
  by_cases hk : kindF σ (nI c) = 1
  · left
    exact L_way_wall hk hx
  · obtain ⟨es, hB⟩ := lens_BI (w := nI b) h.rim hc hk
    rcases way_or hB hx with ⟨r, a, a2⟩ | ⟨-, a⟩
    · refine Or.inr ⟨valL (lensF σ (nI b) (nI c)) x, a2, a, way_far h.rim hB _ x hx r rfl, hk, fun hon N j hj hN hkN eN => ?_⟩
      obtain ⟨e2, hB2⟩ := lens_BI (w := nI b) h.rim hN hkN
      have hrim : ¬ rimN N := fun q => hkN (h.rim N hN q)
      have hback : ∃ i, i < 4 ∧ c = nbN N i := by
        have hrc : ¬ rimN c := fun q => hk (h.rim c hc q)
        subst eN
        unfold rimN at hrc
        rcases (show j = 0 ∨ j = 1 ∨ j = 2 ∨ j = 3 by omega) with q | q | q | q <;> subst q
        · exact ⟨2, by omega, by show c = c - 16 + 16; omega⟩
        · exact ⟨3, by omega, by show c = c + 1 - 1; omega⟩
        · exact ⟨0, by omega, by show c = c + 16 - 16; omega⟩
        · exact ⟨1, by omega, by show c = c - 1 + 1; omega⟩
      obtain ⟨i, hi, ei⟩ := hback
      have hbl : ¬ blkN σ (nI b) c := fun ⟨j', q1, _, q3⟩ => L_free h hc hon j' (by rw [← h.1.1]; exact q1) q3
      obtain ⟨w1, w2⟩ := way_next h.rim hc hN hB hB2 hi ei hbl hk _ x hx r rfl
      rcases way_or hB2 hx with ⟨-, z, z2⟩ | ⟨z, -⟩
      · exact ⟨valL (lensF σ (nI b) (nI N)) x, w2, z2, by rw [if_pos ha]; exact z⟩
      · exact absurd w1 z
    · left
      exact a
