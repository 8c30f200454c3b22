-- ===== an action: both alike, and what is right stays right =====
theorem minI_n (a b : Nat) (ha : a < 2 ^ 31) (hb : b < 2 ^ 31) : minI (nI a) (nI b) = nI (min a b) := by
  unfold minI
  by_cases q : b < a
  · rw [if_pos (nI_lt q ha), Nat.min_eq_right (Nat.le_of_lt q)]
  · rw [if_neg (nI_nlt (Nat.le_of_not_lt q) hb), Nat.min_eq_left (Nat.le_of_not_lt q)]
theorem maxI_n (a b : Nat) (ha : a < 2 ^ 31) (hb : b < 2 ^ 31) : maxI (nI a) (nI b) = nI (max a b) := by
  unfold maxI
  by_cases q : a < b
  · rw [if_pos (nI_lt q hb), Nat.max_eq_right (Nat.le_of_lt q)]
  · rw [if_neg (nI_nlt (Nat.le_of_not_lt q) ha), Nat.max_eq_left (Nat.le_of_not_lt q)]
theorem minI_comm (x y : Int32) : minI x y = minI y x := by
  unfold minI
  by_cases q : y < x
  · rw [if_pos q, if_neg (fun z => Int32.lt_irrefl (Int32.lt_trans q z))]
  · rw [if_neg q]
    by_cases r : x < y
    · rw [if_pos r]
    · rw [if_neg r]
      exact Int32.le_antisymm (Int32.not_lt.mp q) (Int32.not_lt.mp r)
theorem maxI_comm (x y : Int32) : maxI x y = maxI y x := by
  unfold maxI
  by_cases q : y < x
  · rw [if_pos q, if_neg (fun z => Int32.lt_irrefl (Int32.lt_trans q z))]
  · rw [if_neg q]
    by_cases r : x < y
    · rw [if_pos r]
    · rw [if_neg r]
      exact Int32.le_antisymm (Int32.not_lt.mp q) (Int32.not_lt.mp r)
theorem upd_u {f : Nat → Int32} (k : Nat) (x y : Int32) : upd (upd f k x) k y = upd f k y := by
  funext j
  by_cases q : j = k
  · subst q; rw [pk_us, pk_us]
  · rw [pk_un q, pk_un q, pk_un q]
theorem upd_i (f : Nat → Int32) (k : Nat) : upd f k (f k) = f := by
  funext j
  by_cases q : j = k
  · subst q; rw [pk_us]
  · rw [pk_un q]
theorem IM.inner {σ : SS} {δ : DD} (h : IM σ δ) {c : Nat} (hc : c < 160) (hk : d_k δ c = 0 ∨ d_k δ c = 3 ∨ d_k δ c = 2) : ¬ rimN c := fun q => by
  have h1 := h.2.2.1 c hc q
  rw [h1] at hk
  rcases hk with r | r | r <;> exact absurd r (by decide)
-- rows
theorem ok_w {kd : Nat → Int32} {g : Nat → Int32} (h : okRow kd g) (v : Int32) : okRow kd (upd g 8 v) := by
  obtain ⟨h1, h2, h3, h4, h5, h6, h7⟩ := h
  refine ⟨?_, ?_, ?_, ?_, ?_, ?_, fun e he => ?_⟩
  · rw [pk_un (by decide)]; exact h1
  · rw [pk_un (by decide), pk_un (by decide), pk_un (by decide)]; exact h2
  · rw [pk_un (by decide)]; exact h3
  · rw [pk_un (by decide)]; exact h4
  · rw [pk_un (by decide)]; exact h5
  · rw [pk_un (by decide)]; exact h6
  · rw [pk_un (by omega), pk_un (by omega)]; exact h7 e he
theorem ok_m {kd : Nat → Int32} {g : Nat → Int32} (h : okRow kd g) {m : Nat} (hm : m ≤ 9) : okRow kd (upd g 7 (nI m)) := by
  obtain ⟨h1, h2, h3, h4, h5, h6, h7⟩ := h
  refine ⟨?_, ?_, ?_, ?_, ?_, ?_, fun e he => ?_⟩
  · rw [pk_un (by decide)]; exact h1
  · rw [pk_un (by decide), pk_un (by decide), pk_un (by decide)]; exact h2
  · rw [pk_un (by decide)]; exact h3
  · rw [pk_un (by decide)]; exact h4
  · rw [pk_un (by decide)]; exact h5
  · rw [pk_us]; exact ⟨m, hm, rfl⟩
  · rw [pk_un (by omega), pk_un (by omega)]; exact h7 e he
theorem ok_e {kd : Nat → Int32} {g : Nat → Int32} (h : okRow kd g) {x s t : Nat} (hs : s ≤ 9) (ht : t ≤ 20) (hst : s = 0 ↔ t = 0) : okRow kd (upd (upd g (9 + x) (nI s)) (14 + x) (nI t)) ∨ 5 ≤ x := by
  rcases Nat.lt_or_ge x 5 with hx | hx
  · left
    obtain ⟨h1, h2, h3, h4, h5, h6, h7⟩ := h
    have hn : ∀ j, j < 9 → upd (upd g (9 + x) (nI s)) (14 + x) (nI t) j = g j := fun j hj => by rw [pk_un (by omega), pk_un (by omega)]
    refine ⟨?_, ?_, ?_, ?_, ?_, ?_, fun e he => ?_⟩
    · rw [hn 0 (by omega)]; exact h1
    · rw [hn 1 (by omega), hn 2 (by omega), hn 3 (by omega)]; exact h2
    · rw [hn 4 (by omega)]; exact h3
    · rw [hn 5 (by omega)]; exact h4
    · rw [hn 6 (by omega)]; exact h5
    · rw [hn 7 (by omega)]; exact h6
    · by_cases q : e = x
      · subst q
        rw [pk_un (show 9 + e ≠ 14 + e by omega), pk_us, pk_us]
        exact ⟨s, t, rfl, rfl, hs, ht, hst⟩
      · rw [pk_un (show 9 + e ≠ 14 + x by omega), pk_un (show 9 + e ≠ 9 + x by omega), pk_un (show 14 + e ≠ 14 + x by omega), pk_un (show 14 + e ≠ 9 + x by omega)]
        exact h7 e he
  · exact Or.inr hx
theorem ok_l {kd : Nat → Int32} {g : Nat → Int32} (h : okRow kd g) (ha : ¬ g 1 < 0) {lf : Nat} (h0 : 0 < lf) (hm : ∀ mo : Nat, g 3 = nI mo → mo ≤ 60 → lf ≤ mo) : okRow kd (upd g 2 (nI lf)) := by
  obtain ⟨l0, mo, c, a1, a2, a3, a4, a5, a6, a7, a8⟩ := (ok_alive h).1 ha
  obtain ⟨h1, h2, h3, h4, h5, h6, h7⟩ := h
  refine ⟨?_, ?_, ?_, ?_, ?_, ?_, fun e he => ?_⟩
  · rw [pk_un (by decide)]; exact h1
  · rw [pk_us, pk_un (show 3 ≠ 2 by decide), pk_un (show 1 ≠ 2 by decide)]; exact ⟨lf, mo, rfl, a2, hm mo a2 a5, a5, Or.inr ⟨h0, c, a6, a7, a8⟩⟩
  · rw [pk_un (by decide)]; exact h3
  · rw [pk_un (by decide)]; exact h4
  · rw [pk_un (by decide)]; exact h5
  · rw [pk_un (by decide)]; exact h6
  · rw [pk_un (by omega), pk_un (by omega)]; exact h7 e he
theorem ok_d {kd : Nat → Int32} {g : Nat → Int32} (h : okRow kd g) : okRow kd (upd (upd g 2 0) 1 (-1)) := by
  obtain ⟨h1, ⟨lf, mo, a1, a2, a3, a4, -⟩, h3, h4, h5, h6, h7⟩ := h
  refine ⟨?_, ?_, ?_, ?_, ?_, ?_, fun e he => ?_⟩
  · rw [pk_un (by decide), pk_un (by decide)]; exact h1
  · rw [pk_us, pk_un (show 2 ≠ 1 by decide), pk_us, pk_un (show 3 ≠ 1 by decide), pk_un (show 3 ≠ 2 by decide)]; exact ⟨0, mo, rfl, a2, Nat.zero_le _, a4, Or.inl ⟨rfl, rfl⟩⟩
  · rw [pk_un (by decide), pk_un (by decide)]; exact h3
  · rw [pk_un (by decide), pk_un (by decide)]; exact h4
  · rw [pk_un (by decide), pk_un (by decide)]; exact h5
  · rw [pk_un (by decide), pk_un (by decide)]; exact h6
  · rw [pk_un (by omega), pk_un (by omega), pk_un (by omega), pk_un (by omega)]; exact h7 e he
theorem ok_c {kd : Nat → Int32} {g : Nat → Int32} (h : okRow kd g) (ha : ¬ g 1 < 0) {c : Nat} (hc : c < 160) (hk : kd c = 0 ∨ kd c = 3) : okRow kd (upd g 1 (nI c)) := by
  obtain ⟨l0, mo, c0, a1, a2, a3, a4, a5, a6, a7, a8⟩ := (ok_alive h).1 ha
  obtain ⟨h1, h2, h3, h4, h5, h6, h7⟩ := h
  refine ⟨?_, ?_, ?_, ?_, ?_, ?_, fun e he => ?_⟩
  · rw [pk_un (by decide)]; exact h1
  · rw [pk_us, pk_un (by decide), pk_un (by decide)]; exact ⟨l0, mo, a1, a2, a4, a5, Or.inr ⟨a3, c, hc, rfl, hk⟩⟩
  · rw [pk_un (by decide)]; exact h3
  · rw [pk_un (by decide)]; exact h4
  · rw [pk_un (by decide)]; exact h5
  · rw [pk_un (by decide)]; exact h6
  · rw [pk_un (by omega), pk_un (by omega)]; exact h7 e he
/-- one row is another -/
theorem okM_row {δ : DD} (h : okM δ) {b : Nat} (hb : b < d_n δ) {g : Nat → Int32} (hg : okRow (d_k δ) g) (hc : ∀ i, i < d_n δ → i ≠ b → d_R δ i 1 = g 1 → g 1 = -1) : okM (e_g δ b g) := by
  obtain ⟨h1, h2, h3, h4⟩ := h
  refine ⟨h1, h2, fun j hj => ?_, fun i j hi hj => ?_⟩
  · show okRow (d_k δ) (upR (d_R δ) b g j)
    by_cases q : j = b
    · rw [q, upR_s]; exact hg
    · rw [upR_n q]; exact h3 j hj
  · show upR (d_R δ) b g i 1 = upR (d_R δ) b g j 1 → ¬ upR (d_R δ) b g i 1 = -1 → i = j
    by_cases q : i = b <;> by_cases r : j = b
    · intro _ _; rw [q, r]
    · rw [q, upR_s, upR_n r]
      intro e1 e2
      exact absurd (hc j hj r e1.symm) e2
    · rw [r, upR_s, upR_n q]
      intro e1 e2
      have := hc i hi q e1
      rw [e1] at e2
      exact absurd this e2
    · rw [upR_n q, upR_n r]; exact h4 i j hi hj
/-- a row whose cell stays, or goes -/
theorem okM_keep {δ : DD} (h : okM δ) {b : Nat} (hb : b < d_n δ) {g : Nat → Int32} (hg : okRow (d_k δ) g) (hc : g 1 = d_R δ b 1 ∨ g 1 = -1) : okM (e_g δ b g) := okM_row h hb hg (fun i hi hne e => by
  rcases hc with q | q
  · by_cases r : g 1 = -1
    · exact r
    · rw [q] at e r
      exact absurd (h.2.2.2 i b hi hb e (by rw [e]; exact r)) hne
  · exact q)
theorem okM_kind {δ : DD} (h : okM δ) {c k : Nat} (hc : c < 160) (hr : ¬ rimN c) (hk : k ≤ 3) (hn : (k = 0 ∨ k = 3) ∨ ∀ j, j < d_n δ → ¬ d_R δ j 1 = nI c) : okM (e_k δ (upd (d_k δ) c (nI k))) := by
  obtain ⟨h1, h2, h3, h4⟩ := h
  refine ⟨fun c' hc' => ?_, fun c' hc' hr' => ?_, fun j hj => ?_, h4⟩
  · show ∃ k' : Nat, k' ≤ 3 ∧ upd (d_k δ) c (nI k) c' = nI k'
    by_cases q : c' = c
    · subst q; rw [pk_us]; exact ⟨k, hk, rfl⟩
    · rw [pk_un q]; exact h1 c' hc'
  · show upd (d_k δ) c (nI k) c' = 1
    have q : c' ≠ c := fun q => hr (q ▸ hr')
    rw [pk_un q]; exact h2 c' hc' hr'
  · obtain ⟨g1, ⟨lf, mo, a1, a2, a3, a4, a5⟩, g3⟩ := h3 j hj
    refine ⟨g1, ⟨lf, mo, a1, a2, a3, a4, ?_⟩, g3⟩
    rcases a5 with q | ⟨b1, c', b2, b3, b4⟩
    · exact Or.inl q
    · refine Or.inr ⟨b1, c', b2, b3, ?_⟩
      show upd (d_k δ) c (nI k) c' = 0 ∨ upd (d_k δ) c (nI k) c' = 3
      by_cases q : c' = c
      · subst q
        rw [pk_us]
        rcases hn with r | r
        · rcases r with r | r <;> subst r
          · exact Or.inl rfl
          · exact Or.inr rfl
        · exact absurd b3 (r j hj)
      · rw [pk_un q]; exact b4
-- what is possible
theorem poss_5 (δ : DD) (b : Nat) : possD δ b (nI 5) = if targetD δ b < 0 then false else magD δ b := by
  unfold possD
  rw [if_neg (show ¬ nI 5 = 0 by decide), if_pos (show nI 5 = 5 from rfl)]
theorem poss_67 (δ : DD) (b : Nat) {k : Nat} (h1 : 6 ≤ k) (h2 : k ≤ 7) : possD δ b (nI k) = magD δ b := by
  unfold possD
  rw [if_neg (show ¬ nI k = 0 from nI_ne0 (by omega) (by omega)), if_neg (show ¬ nI k = 5 from fun z => by have := (nI_eq (a := k) (b := 5) (by omega) (by omega)).mp z; omega), if_neg (show ¬ nI k ≤ 4 from nI_ge (a := 4) (by omega) (by omega))]
theorem step_eq : ∀ k, k < 5 → 1 ≤ k → (if nI k - 1 < 0 then 0 else if nI 4 ≤ nI k - 1 then 0 else stF (nI k - 1).toNatClampNeg) = stepD (nI k - 1) := by decide +kernel
theorem step_nb : ∀ k, k < 5 → 1 ≤ k → stepD (nI k - 1) = stF (k - 1) := by decide +kernel
/-- where a go leads -/
theorem IM.go {σ : SS} {δ : DD} (h : IM σ δ) {b k : Nat} (hb : b < d_n δ) (ha : ¬ d_R δ b 1 < 0) (h1 : 1 ≤ k) (h2 : k ≤ 4) : ∃ c c', c < 160 ∧ c' < 160 ∧ d_R δ b 1 = nI c ∧ c' = nbN c (k - 1) ∧ c ≠ c' ∧ d_R δ b 1 + stepD (nI k - 1) = nI c' ∧ towF σ (nI b) (nI k) = nI c' := by
  obtain ⟨c, hc, e, hk⟩ := h.cell hb ha
  have hr : ¬ rimN c := h.inner hc (by rcases hk with r | r; exact Or.inl r; exact Or.inr (Or.inl r))
  have e2 : d_R δ b 1 + stepD (nI k - 1) = nI (nbN c (k - 1)) := by rw [e, step_nb k (by omega) h1]; exact nb_st hr (by omega)
  refine ⟨c, nbN c (k - 1), hc, nb_in hr, e, rfl, ?_, e2, ?_⟩
  · unfold rimN at hr
    unfold nbN
    split <;> omega
  · unfold towF
    rw [step_eq k (by omega) h1, show traitF σ (nI b) 1 = d_R δ b 1 from h.1.tr (w := 1) hb (by omega)]
    exact e2
/-- who is on a cell -/
theorem IM.who {σ : SS} {δ : DD} (h : IM σ δ) {c : Nat} (hc : c < 160) : (onD δ (nI c) = -1 ∧ ∀ j, j < d_n δ → ¬ d_R δ j 1 = nI c) ∨ ∃ j, j < d_n δ ∧ onD δ (nI c) = nI j ∧ d_R δ j 1 = nI c ∧ ¬ d_R δ j 1 < 0 := by
  unfold onD
  rcases fst_or (fun j => decide (d_R δ j 1 = nI c)) (d_n δ) 0 with ⟨a, b⟩ | ⟨j, -, a2, a3, a4, -⟩
  · exact Or.inl ⟨a, fun j hj q => by
      have := b j (Nat.zero_le _) (by omega)
      rw [decide_eq_false_iff_not] at this
      exact this q⟩
  · have e : d_R δ j 1 = nI c := of_decide_eq_true a4
    exact Or.inr ⟨j, by omega, a3, e, by rw [e]; exact nI_pos (by omega)⟩
theorem IM.can {σ : SS} {δ : DD} (h : IM σ δ) {b c : Nat} (hb : b < d_n δ) (hc : c < 160) : canGoB σ (nI b) (nI c) = goB δ b (nI c) := by
  unfold canGoB goB
  rw [h.1.ki hc, h.1.on, nI_clamp (by omega)]
  by_cases q : d_k δ c = 1
  · rw [if_pos q, if_pos q]
  · rw [if_neg q, if_neg q]
    rcases h.who hc with ⟨a, -⟩ | ⟨j, a1, a2, a3, a4⟩
    · rw [a, if_pos rfl, if_pos neg1_lt]
    · have hj : j < 2 ^ 31 := Nat.lt_trans a1 (Nat.lt_of_le_of_lt h.1.2.1 (by decide))
      rw [a2, if_neg (nI_neg1 hj), if_neg (nI_pos hj), nI_clamp hj]
      have hf := h.foe hb a1
      by_cases r : d_R δ j 0 = d_R δ b 0
      · rw [if_pos r]
        cases hq : foeB σ (nI b) (nI j) with
        | true => exact absurd r (hf.mp hq).2
        | false => rfl
      · rw [if_neg r]
        exact hf.mpr ⟨a4, r⟩
theorem tgt_or {δ : DD} {b : Nat} (hn : d_n δ ≤ 10) : targetD δ b = -1 ∨ ∃ o, o < d_n δ ∧ targetD δ b = nI o ∧ ¬ d_R δ o 1 < 0 := by
  by_cases ha : d_R δ b 1 < 0
  · left; unfold targetD; rw [if_pos ha]
  · rcases targetD_best δ b (by omega) ha with ⟨a, -⟩ | ⟨j, -, a2, a3, a4, -⟩
    · exact Or.inl a
    · exact Or.inr ⟨j, a2, a3, a4.1⟩
theorem IM.poss {σ : SS} {δ : DD} (h : IM σ δ) {b k : Nat} (hb : b < d_n δ) (ha : ¬ d_R δ b 1 < 0) (hk : k ≤ 7) : possB σ (nI b) (nI k) = possD δ b (nI k) := by
  have hal : aliveB σ (nI b) = true := (h.alive hb).mpr ha
  have h7 : traitF σ (nI b) 7 = d_R δ b 7 := h.1.tr (w := 7) hb (by omega)
  have hmag : (if d_R δ b 7 < 3 then false else true) = magD δ b := by
    obtain ⟨m, hm, em⟩ := (h.2.2.2.1 b hb).2.2.2.2.2.1
    unfold magD
    rw [em]
    by_cases q : m ≤ 2
    · rw [if_pos (show nI m < 3 from nI_lt (b := 3) (by omega) (by omega)), if_pos (show nI m ≤ 2 from nI_le (b := 2) q (by omega))]
    · rw [if_neg (show ¬ nI m < 3 from nI_nlt (b := 3) (by omega) (by omega)), if_neg (show ¬ nI m ≤ 2 from nI_ge (a := 2) (by omega) (by omega))]
  unfold possB
  rw [if_pos hal]
  rcases (show k = 0 ∨ (1 ≤ k ∧ k ≤ 4) ∨ k = 5 ∨ (6 ≤ k ∧ k ≤ 7) by omega) with r | r | r | r
  · subst r
    unfold possD
    rw [if_pos (show nI 0 = 0 from rfl), if_pos (show nI 0 = 0 from rfl)]
  · obtain ⟨c, c', -, hc', -, -, -, e1, e2⟩ := h.go hb ha r.1 r.2
    unfold possD
    rw [if_neg (show ¬ nI k = 0 from nI_ne0 (by omega) (by omega)), if_neg (show ¬ nI k < 1 from nI_nlt (b := 1) r.1 (by omega)), if_neg (show ¬ (4 : Int32) < nI k from nI_nlt (a := 4) r.2 (by omega)), if_neg (show ¬ nI k = 0 from nI_ne0 (by omega) (by omega)),
      if_neg (show ¬ nI k = 5 from fun z => by have := (nI_eq (a := k) (b := 5) (by omega) (by omega)).mp z; omega), if_pos (show nI k ≤ 4 from nI_le (b := 4) r.2 (by omega)), e1, e2]
    exact h.can hb hc'
  · subst r
    rw [poss_5, if_neg (show ¬ nI 5 = 0 by decide), if_neg (show ¬ nI 5 < 1 by decide), if_pos (show (4 : Int32) < nI 5 by decide)]
    unfold magicB
    rw [h7, if_pos (show nI 5 = 5 from rfl), h.target hb, ← hmag]
    rcases tgt_or (b := b) h.1.2.1 with q | ⟨o, q1, q2, -⟩
    · rw [q, if_pos rfl, if_pos neg1_lt]
      split <;> rfl
    · have ho : o < 2 ^ 31 := Nat.lt_trans q1 (Nat.lt_of_le_of_lt h.1.2.1 (by decide))
      rw [q2, if_neg (nI_neg1 ho), if_neg (nI_pos ho)]
  · rw [poss_67 δ b r.1 r.2, if_neg (show ¬ nI k = 0 from nI_ne0 (by omega) (by omega)), if_neg (show ¬ nI k < 1 from nI_nlt (b := 1) (by omega) (by omega)), if_pos (show (4 : Int32) < nI k from nI_lt (a := 4) (by omega) (by omega))]
    unfold magicB
    rw [h7, if_neg (show ¬ nI k = 5 from fun z => by have := (nI_eq (a := k) (b := 5) (by omega) (by omega)).mp z; omega), ← hmag]
