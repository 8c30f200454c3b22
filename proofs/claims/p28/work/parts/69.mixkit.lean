-- ===== what the shadow's methods that ask the class stand on =====
theorem digT_0 {X Y V Hh : Nat} (h1 : X ≤ 15) (h2 : Y ≤ 9) (h3 : 1 ≤ V) (h4 : X + V ≤ 16) (h5 : 1 ≤ Hh) (h6 : Y + Hh ≤ 10) : digT (nI X) (nI Y) (nI V) (nI Hh) = 0 := by
  unfold digT
  rw [if_pos (show withinB (nI X) 0 15 = true from (within_d (a := X) (b := 0) (c := 15) (by omega) (by omega) (by omega)).mpr ⟨Nat.zero_le _, h1⟩), if_pos (show withinB (nI Y) 0 9 = true from (within_d (a := Y) (b := 0) (c := 9) (by omega) (by omega) (by omega)).mpr ⟨Nat.zero_le _, h2⟩),
    show (16 : Int32) - nI X = nI (16 - X) from pk_sub (a := 16) (by omega), if_pos (show withinB (nI V) 1 (nI (16 - X)) = true from (within_d (a := V) (b := 1) (c := 16 - X) (by omega) (by omega) (by omega)).mpr ⟨h3, by omega⟩),
    show (10 : Int32) - nI Y = nI (10 - Y) from pk_sub (a := 10) (by omega), if_pos (show withinB (nI Hh) 1 (nI (10 - Y)) = true from (within_d (a := Hh) (b := 1) (c := 10 - Y) (by omega) (by omega) (by omega)).mpr ⟨h5, by omega⟩)]
theorem n_pos {n : Nat} (h : ¬ nI n = 0) : 1 ≤ n := by
  rcases Nat.eq_zero_or_pos n with q | q
  · subst q; exact absurd rfl h
  · exact q
theorem not_rim {c : Nat} (hc : c < 160) (h : edgeD (nI c) = false) : ¬ rimN c := fun q => by
  rw [edge_rim c hc, decide_eq_true (show c < 16 ∨ 144 ≤ c ∨ c % 16 = 0 ∨ c % 16 = 15 from q)] at h
  cases h
theorem within_w {a b c : Nat} (h1 : b ≤ a) (h2 : a ≤ c) (hc : c < 2 ^ 31) : withinB (nI a) (nI b) (nI c) = true := (within_d (by omega) (by omega) hc).mpr ⟨h1, h2⟩
theorem onD_m1 {δ : DD} {c : Int32} (hn : d_n δ ≤ 10) : (onD δ c < 0 ↔ onD δ c = -1) := by
  rcases on_or δ c with q | ⟨j, h1, h2⟩
  · exact ⟨fun _ => q, fun _ => by rw [q]; exact neg1_lt⟩
  · exact ⟨fun z => absurd (by rw [h2] at z; exact z) (nI_pos (n := j) (by omega)), fun z => absurd (h2.symm.trans z) (nI_neg1 (by omega))⟩
theorem stops_n {k : Nat} (hk : k ≤ 3) : (stopsB (nI k) = true ↔ ¬ k % 3 = 0) := by
  rcases (show k = 0 ∨ k = 1 ∨ k = 2 ∨ k = 3 by omega) with q | q | q | q <;> subst q <;> decide
theorem set_T {K : Nat} {σ : SS} {δ : DD} (h : IR K σ δ) {c k : Nat} (hc : c < 160) (he : edgeD (nI c) = false) (hk : k ≤ 3) : (onD δ (nI c) < 0 ∨ k % 3 = 0 → setT σ (nI c) (nI k) = 0) ∧ (¬ onD δ (nI c) < 0 → ¬ k % 3 = 0 → setT σ (nI c) (nI k) = 3) := by
  have e1 : setT σ (nI c) (nI k) = setT2 σ (nI c) (nI k) := by
    unfold setT
    rw [if_pos (cell_of hc), if_pos (show withinB (nI k) 0 3 = true from within_w (b := 0) (c := 3) (Nat.zero_le _) hk (by decide)), edge_eq c hc, he, if_neg (by decide)]
  rw [e1]
  unfold setT2
  rw [h.1.on]
  have hs := stops_n hk
  have hm := onD_m1 (δ := δ) (c := nI c) h.1.2.1
  refine ⟨fun z => ?_, fun z1 z2 => ?_⟩
  · by_cases q : stopsB (nI k) = true
    · rw [if_pos q]
      rcases z with z | z
      · rw [if_pos (hm.mp z)]
      · exact absurd z (hs.mp q)
    · rw [if_neg q]
  · rw [if_pos (hs.mpr z2), if_neg (fun q => z1 (hm.mpr q))]
theorem set_may {K : Nat} {σ : SS} {δ : DD} (h : IR K σ δ) {c k : Nat} (hc : c < 160) (hk : k ≤ 3) (z : onD δ (nI c) < 0 ∨ k % 3 = 0) : (k = 0 ∨ k = 3) ∨ ∀ j, j < d_n δ → ¬ d_R δ j 1 = nI c := by
  rcases z with z | z
  · right
    rcases h.m.who hc with ⟨-, q⟩ | ⟨o, o1, o2, -⟩
    · exact q
    · rw [o2] at z
      exact absurd z (nI_pos (n := o) (by have := h.1.2.1; omega))
  · left; omega
theorem being_T {K : Nat} {σ : SS} {δ : DD} (h : IR K σ δ) {b : Nat} (hb : b < d_n δ) : beingB σ (nI b) = true := by
  have hn := h.1.2.1
  unfold beingB
  rw [h.1.1, if_neg (nI_pos (by omega)), if_neg (nI_ge hb (by omega))]
theorem become_T {K : Nat} {σ : SS} {δ : DD} (h : IR K σ δ) {b f u s : Nat} (hb : b < d_n δ) (hf : f ≤ 20) (hu : u ≤ 20) (h1 : 1 ≤ s) (h4 : s ≤ 4) : becomeT σ (nI b) (nI f) (nI u) (nI s) = 0 := by
  unfold becomeT
  rw [if_pos (being_T h hb), if_pos (show withinB (nI f) 0 20 = true from within_w (b := 0) (c := 20) (Nat.zero_le _) hf (by decide)), if_pos (show withinB (nI u) 0 20 = true from within_w (b := 0) (c := 20) (Nat.zero_le _) hu (by decide)), if_pos (show withinB (nI s) 1 4 = true from within_w (b := 1) (c := 4) h1 h4 (by decide))]
theorem lay_T {K : Nat} {σ : SS} {δ : DD} (h : IR K σ δ) {b e s t : Nat} (hb : b < d_n δ) (he : e < 5) (h1 : 1 ≤ s) (h9 : s ≤ 9) (h2 : 1 ≤ t) (h20 : t ≤ 20) : (¬ d_R δ b 1 < 0 → layT σ (nI b) (nI e) (nI s) (nI t) = 0) ∧ (d_R δ b 1 < 0 → layT σ (nI b) (nI e) (nI s) (nI t) = 3) := by
  unfold layT
  rw [if_pos (being_T h hb), if_pos (show withinB (nI e) 0 4 = true from within_w (b := 0) (c := 4) (Nat.zero_le _) (by omega) (by decide)), if_pos (show withinB (nI s) 1 9 = true from within_w (b := 1) (c := 9) h1 h9 (by decide)), if_pos (show withinB (nI t) 1 20 = true from within_w (b := 1) (c := 20) h2 h20 (by decide))]
  have ha := h.alive hb
  exact ⟨fun z => by rw [if_pos (ha.mpr z)], fun z => by rw [if_neg (fun q => ha.mp q z)]⟩
theorem IR.cells {K : Nat} {σ : SS} {δ : DD} (h : IR K σ δ) : ∀ j, j < d_n δ → ¬ d_R δ j 1 < 0 → cellB (d_R δ j 1) = true := fun j hj ha => by
  obtain ⟨c, hc, e, -⟩ := h.cell hj ha
  rw [e]
  exact cell_of hc
theorem IR.steps {K : Nat} {σ : SS} {δ : DD} (h : IR K σ δ) {b : Nat} (hb : b < d_n δ) (ha : ¬ d_R δ b 1 < 0) : ∀ d, vp_in (d_R δ b 1 + stepD d) 160 := fun d => by
  obtain ⟨c, hc, e, hk⟩ := h.cell hb ha
  obtain ⟨c', hc', e'⟩ := in_step (h.m.inner hc (by rcases hk with r | r; exact Or.inl r; exact Or.inr (Or.inl r))) hc d
  rw [e, e']
  exact vp_in_nI hc' (by decide)
theorem act_T {K : Nat} {σ : SS} {δ : DD} (h : IR K σ δ) {b k : Nat} (hb : b < d_n δ) (eb : turnD δ = nI b) (ha : ¬ d_R δ b 1 < 0) (hk : k ≤ 7) (hp : possD δ b (nI k) = true) : actT σ (nI k) = 0 := by
  unfold actT
  rw [if_pos (show withinB (nI k) 0 7 = true from within_w (b := 0) (c := 7) (Nat.zero_le _) hk (by decide)), h.turn, eb, h.m.poss hb ha hk, hp, if_pos rfl]
theorem go1_cells {K : Nat} {σ : SS} {δ : DD} (h : IR K σ δ) {b k : Nat} (hb : b < d_n δ) (ha : ¬ d_R δ b 1 < 0) (hk : k ≤ 7) (hp : possD δ b (nI k) = true) : ∀ j, j < d_n (go1 (manaD δ b (nI k)) b (nI k)) → ¬ d_R (go1 (manaD δ b (nI k)) b (nI k)) j 1 < 0 → cellB (d_R (go1 (manaD δ b (nI k)) b (nI k)) j 1) = true := by
  rcases Nat.lt_or_ge k 5 with r | r
  · obtain ⟨h1, -, -⟩ := h.m.act1 hb ha hk hp
    unfold spD at h1
    rw [sp_skip _ b (by omega)] at h1
    intro j hj hj2
    obtain ⟨c, hc, e, -⟩ := h1.cell hj hj2
    rw [e]
    exact cell_of hc
  · rw [(go_skip (manaD δ b (nI k)) b r hk).1]
    intro j hj hj2
    rw [mana_R δ b (nI k) j 1 (by decide)] at hj2 ⊢
    exact h.cells j hj hj2
theorem act_args {K : Nat} {σ : SS} {δ : DD} (h : IR K σ δ) (hK : K + 1 < 1000) {b k : Nat} (hb : b < d_n δ) (ha : ¬ d_R δ b 1 < 0) (hk : k ≤ 7) (hp : possD δ b (nI k) = true) :
    ¬ d_R δ b 6 = 0 ∧ (nI k = 5 → ¬ targetD (go1 (manaD δ b (nI k)) b (nI k)) b < 0) ∧ d_n (actD δ b (nI k)) ≤ 10 ∧ b < d_n (actD δ b (nI k)) ∧ ∃ sd : Nat, sd < 2 ∧ d_R (actD δ b (nI k)) b 0 = nI sd ∧ (d_R (actD δ b (nI k)) b 1 < 0 ∨ cellB (d_R (actD δ b (nI k)) b 1) = true) := by
  obtain ⟨h1, -, h3⟩ := h.act hK hb ha hk hp
  obtain ⟨sp, s1, s2, es⟩ := (h.m.2.2.2.1 b hb).2.2.2.2.1
  have hb' : b < d_n (actD δ b (nI k)) := by rw [h3]; exact hb
  refine ⟨by rw [es]; exact nI_ne0 (by omega) (by omega), fun e5 => ?_, h1.1.2.1, hb', ?_⟩
  · have : k = 5 := (nI_eq (a := k) (b := 5) (by omega) (by omega)).mp e5
    subst this
    rw [(go_skip (manaD δ b (nI 5)) b (by decide) (by decide)).1, tgt_congr (δ := δ) (δ' := manaD δ b (nI 5)) (b := b) rfl h.1.2.1 rfl (fun j => ⟨mana_R δ b _ j 0 (by decide), mana_R δ b _ j 1 (by decide)⟩)]
    exact (poss_mag (by decide) (by decide) hp).2 rfl
  · rcases (h1.m.2.2.2.1 b hb').1 with q | q
    · refine ⟨0, by decide, q, ?_⟩
      by_cases z : d_R (actD δ b (nI k)) b 1 < 0
      · exact Or.inl z
      · exact Or.inr (h1.cells b hb' z)
    · refine ⟨1, by decide, q, ?_⟩
      by_cases z : d_R (actD δ b (nI k)) b 1 < 0
      · exact Or.inl z
      · exact Or.inr (h1.cells b hb' z)
theorem step_next {k n : Nat} (hk : k < 8) (h : k = 0 ∨ k + (n + 1) = 8) (h0 : ¬ k = 0) : (k + 1) % 8 < 8 ∧ ((k + 1) % 8 = 0 ∨ (k + 1) % 8 + n = 8) := by omega
theorem poss_0 (δ : DD) (b : Nat) : possD δ b (nI 0) = true := by
  unfold possD
  rw [if_pos (show nI 0 = 0 from rfl)]
theorem IR.up {K : Nat} {σ : SS} {δ : DD} (h : IR K σ δ) (hK : K + 1 < 1000) : IR (K + 1) σ δ := by
  obtain ⟨h1, h2, -⟩ := h
  obtain ⟨a, c1, c2, c3, c4⟩ := (okD_iff.mp h2).2
  exact ⟨h1, okD_iff.mpr ⟨(okD_iff.mp h2).1, a, c1, c2, c3, c4.1, by have := c4.2; omega⟩, hK⟩
