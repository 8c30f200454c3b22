-- ===== an action, whole =====
theorem sp_skip (δ : DD) (b : Nat) {k : Nat} (hk : k ≤ 4) : sp7 (sp6 (sp5 δ b (nI k)) b (nI k)) b (nI k) = δ := by
  have h5 : sp5 δ b (nI k) = δ := by
    unfold sp5
    rw [if_neg (fun z => by have := (nI_eq (a := k) (b := 5) (by omega) (by omega)).mp z; omega)]
  have h6 : sp6 δ b (nI k) = δ := by
    unfold sp6
    rw [if_neg (fun z => by have := (nI_eq (a := k) (b := 6) (by omega) (by omega)).mp z; omega)]
  have h7 : sp7 δ b (nI k) = δ := by
    unfold sp7
    rw [if_neg (fun z => by have := (nI_eq (a := k) (b := 7) (by omega) (by omega)).mp z; omega)]
  rw [h5, h6, h7]
theorem sp_5 (δ : DD) (b : Nat) : sp7 (sp6 (sp5 δ b (nI 5)) b (nI 5)) b (nI 5) = e_g δ (targetD δ b).toNatClampNeg (comeR (d_R δ (targetD δ b).toNatClampNeg) 0 2 3) := by
  unfold sp7
  rw [if_neg (show ¬ nI 5 = 7 by decide)]
  unfold sp6
  rw [if_neg (show ¬ nI 5 = 6 by decide)]
  unfold sp5
  rw [if_pos (show nI 5 = 5 from rfl)]
theorem sp_6 (δ : DD) (b : Nat) : sp7 (sp6 (sp5 δ b (nI 6)) b (nI 6)) b (nI 6) = e_g δ b (comeR (d_R δ b) 3 3 4) := by
  have h5 : sp5 δ b (nI 6) = δ := by
    unfold sp5
    rw [if_neg (show ¬ nI 6 = 5 by decide)]
  rw [h5]
  unfold sp7
  rw [if_neg (show ¬ nI 6 = 7 by decide)]
  unfold sp6
  rw [if_pos (show nI 6 = 6 from rfl)]
theorem sp_7 (δ : DD) (b : Nat) : sp7 (sp6 (sp5 δ b (nI 7)) b (nI 7)) b (nI 7) = e_g δ b (comeR (d_R δ b) 1 2 4) := by
  have h5 : sp5 δ b (nI 7) = δ := by
    unfold sp5
    rw [if_neg (show ¬ nI 7 = 5 by decide)]
  have h6 : sp6 δ b (nI 7) = δ := by
    unfold sp6
    rw [if_neg (show ¬ nI 7 = 6 by decide)]
  rw [h5, h6]
  unfold sp7
  rw [if_pos (show nI 7 = 7 from rfl)]
theorem go_skip (δ : DD) (b : Nat) {k : Nat} (hk : 5 ≤ k) (hk2 : k ≤ 7) : go1 δ b (nI k) = δ ∧ go2 δ b (nI k) = 0 := by
  unfold go1 go2
  rw [if_neg (show ¬ nI k ≤ 0 from nI_ge (a := 0) (by omega) (by omega)), if_pos (show (5 : Int32) ≤ nI k from nI_le (a := 5) hk (by omega)), if_neg (show ¬ nI k ≤ 0 from nI_ge (a := 0) (by omega) (by omega)), if_pos (show (5 : Int32) ≤ nI k from nI_le (a := 5) hk (by omega))]
  exact ⟨rfl, rfl⟩
theorem poss_mag {δ : DD} {b k : Nat} (hk : 5 ≤ k) (hk2 : k ≤ 7) (hp : possD δ b (nI k) = true) : magD δ b = true ∧ (k = 5 → ¬ targetD δ b < 0) := by
  rcases (show k = 5 ∨ k = 6 ∨ k = 7 by omega) with q | q | q <;> subst q
  · rw [poss_5] at hp
    by_cases r : targetD δ b < 0
    · rw [if_pos r] at hp; cases hp
    · rw [if_neg r] at hp; exact ⟨hp, fun _ => r⟩
  · rw [poss_67 δ b (by decide) (by decide)] at hp
    exact ⟨hp, fun z => by omega⟩
  · rw [poss_67 δ b (by decide) (by decide)] at hp
    exact ⟨hp, fun z => by omega⟩
/-- what stays through the first half of an action -/
def half (δ δ1 : DD) (b : Nat) : Prop := d_n δ1 = d_n δ ∧ ¬ d_R δ1 b 1 < 0 ∧ d_R δ1 b 6 = d_R δ b 6 ∧ d_ac δ1 = d_ac δ ∧ (d_hi δ1 = d_hi δ ∨ d_hi δ1 = d_hi δ + 1)
theorem IM.spell {σ : SS} {δ : DD} (h : IM σ δ) {b o k e s t : Nat} (hb : b < d_n δ) (ha : ¬ d_R δ b 1 < 0) (hm : magD δ b = true) (hk : 5 ≤ k) (hk2 : k ≤ 7) (ho : o < d_n δ) (he : e < 5) (hs : 1 ≤ s) (hs2 : s ≤ 9) (ht : 1 ≤ t) (ht2 : t ≤ 20) :
    IM (addEffectF (manaF σ (nI b)) (nI o) (nI e) (nI s) (nI t)) (e_g (manaD δ b (nI k)) o (comeR (d_R (manaD δ b (nI k)) o) e (nI s) (nI t))) ∧ half δ (e_g (manaD δ b (nI k)) o (comeR (d_R (manaD δ b (nI k)) o) e (nI s) (nI t))) b := by
  have h1 := h.mana3 hb hk hk2 hm
  have h2 := (h1.add (o := o) (e := e) (s := s) (t := t) ho he hs hs2 ht ht2).1
  refine ⟨h2, rfl, ?_, ?_, rfl, Or.inl rfl⟩
  · by_cases q : b = o
    · subst q
      rw [e_g_R]
      unfold comeR
      rw [pk_un (by omega), pk_un (by omega), mana_R δ b _ b 1 (by decide)]
      exact ha
    · rw [e_g_Rn _ _ q, mana_R δ b _ b 1 (by decide)]
      exact ha
  · by_cases q : b = o
    · subst q
      rw [e_g_R]
      unfold comeR
      rw [pk_un (by omega), pk_un (by omega), mana_R δ b _ b 6 (by decide)]
    · rw [e_g_Rn _ _ q, mana_R δ b _ b 6 (by decide)]
theorem IM.act1 {σ : SS} {δ : DD} (h : IM σ δ) {b k : Nat} (hb : b < d_n δ) (ha : ¬ d_R δ b 1 < 0) (hk : k ≤ 7) (hp : possD δ b (nI k) = true) : IM (doF σ (nI b) (nI k)) (spD δ b (nI k)) ∧ lostF σ (nI b) (nI k) = lostD δ b (nI k) ∧ half δ (spD δ b (nI k)) b := by
  unfold spD lostD
  rcases (show k = 0 ∨ (1 ≤ k ∧ k ≤ 4) ∨ 5 ≤ k by omega) with r | r | r
  · subst r
    have e1 : go1 (manaD δ b (nI 0)) b (nI 0) = manaD δ b (nI 0) := by
      unfold go1
      rw [if_pos (show nI 0 ≤ 0 by decide)]
    have e2 : go2 (manaD δ b (nI 0)) b (nI 0) = 0 := by
      unfold go2
      rw [if_pos (show nI 0 ≤ 0 by decide)]
    have e3 : doF σ (nI b) (nI 0) = putTraitF σ (nI b) 7 (minI (traitF σ (nI b) 7 + 1) 9) := by
      unfold doF
      rw [if_pos (show nI 0 = 0 from rfl)]
    have e4 : lostF σ (nI b) (nI 0) = 0 := by
      unfold lostF
      rw [if_pos (show nI 0 = 0 from rfl)]
    rw [e1, e2, e3, e4, sp_skip _ b (Nat.zero_le 4)]
    refine ⟨h.mana0 hb, rfl, rfl, ?_, ?_, rfl, Or.inl rfl⟩
    · rw [mana_R δ b _ b 1 (by decide)]; exact ha
    · rw [mana_R δ b _ b 6 (by decide)]
  · rw [mana_go δ b r.1 r.2, sp_skip _ b r.2]
    have g1 : go1 δ b (nI k) = goD δ b (d_R δ b 1 + stepD (nI k - 1)) := by
      unfold go1
      rw [if_neg (show ¬ nI k ≤ 0 from nI_ge (a := 0) (by omega) (by omega)), if_neg (show ¬ (5 : Int32) ≤ nI k from nI_ge (b := 5) (by omega) (by omega))]
    have g2 : go2 δ b (nI k) = goT δ b (d_R δ b 1 + stepD (nI k - 1)) := by
      unfold go2
      rw [if_neg (show ¬ nI k ≤ 0 from nI_ge (a := 0) (by omega) (by omega)), if_neg (show ¬ (5 : Int32) ≤ nI k from nI_ge (b := 5) (by omega) (by omega))]
    have g3 : doF σ (nI b) (nI k) = goS σ (nI b) (towF σ (nI b) (nI k)) := by
      unfold doF
      rw [if_neg (show ¬ nI k = 0 from nI_ne0 (by omega) (by omega)), if_neg (show ¬ (4 : Int32) < nI k from nI_nlt (a := 4) r.2 (by omega))]
    have g4 : lostF σ (nI b) (nI k) = goR σ (nI b) (towF σ (nI b) (nI k)) := by
      unfold lostF
      rw [if_neg (show ¬ nI k = 0 from nI_ne0 (by omega) (by omega)), if_neg (show ¬ (4 : Int32) < nI k from nI_nlt (a := 4) r.2 (by omega))]
    have hg : goB δ b (d_R δ b 1 + stepD (nI k - 1)) = true := by
      unfold possD at hp
      rw [if_neg (show ¬ nI k = 0 from nI_ne0 (by omega) (by omega)), if_neg (show ¬ nI k = 5 from fun z => by have := (nI_eq (a := k) (b := 5) (by omega) (by omega)).mp z; omega), if_pos (show nI k ≤ 4 from nI_le (b := 4) r.2 (by omega))] at hp
      exact hp
    rw [g1, g2, g3, g4]
    obtain ⟨x1, x2, x3, x4, x5, x6, x7⟩ := h.gos hb ha r.1 r.2 hg
    exact ⟨x1, x2, x3, x4, x5 6 (by decide), x6, x7⟩
  · obtain ⟨q1, q2⟩ := go_skip (manaD δ b (nI k)) b r hk
    obtain ⟨hm, ht⟩ := poss_mag r hk hp
    rw [q1, q2]
    have hl : lostF σ (nI b) (nI k) = 0 := by
      unfold lostF
      rw [if_neg (show ¬ nI k = 0 from nI_ne0 (by omega) (by omega)), if_pos (show (4 : Int32) < nI k from nI_lt (a := 4) (by omega) (by omega))]
    have hd : doF σ (nI b) (nI k) = conjF σ (nI b) (nI k) := by
      unfold doF
      rw [if_neg (show ¬ nI k = 0 from nI_ne0 (by omega) (by omega)), if_pos (show (4 : Int32) < nI k from nI_lt (a := 4) (by omega) (by omega))]
    rw [hl, hd]
    rcases (show k = 5 ∨ k = 6 ∨ k = 7 by omega) with q | q | q <;> subst q
    · have hte := tgt_congr (δ := δ) (δ' := manaD δ b (nI 5)) (b := b) rfl h.1.2.1 rfl (fun j => ⟨mana_R δ b _ j 0 (by decide), mana_R δ b _ j 1 (by decide)⟩)
      have h1 := h.mana3 (k := 5) hb (by decide) (by decide) hm
      rcases tgt_or (b := b) h.1.2.1 with z | ⟨o, o1, o2, o3⟩
      · exact absurd (by rw [z]; exact neg1_lt) (ht rfl)
      · have ho : o < 2 ^ 31 := Nat.lt_trans o1 (Nat.lt_of_le_of_lt h.1.2.1 (by decide))
        have e2 : conjF σ (nI b) (nI 5) = addEffectF (manaF σ (nI b)) (targetF (manaF σ (nI b)) (nI b)) 0 2 3 := by
          unfold conjF
          rw [if_pos (show nI 5 = 5 from rfl)]
        rw [sp_5, e2, hte, h1.target (b := b) hb, hte, o2, nI_clamp ho]
        obtain ⟨x1, x2⟩ := h.spell (k := 5) (o := o) (e := 0) (s := 2) (t := 3) hb ha hm (by decide) (by decide) o1 (by decide) (by decide) (by decide) (by decide) (by decide)
        exact ⟨x1, rfl, x2⟩
    · obtain ⟨x1, x2⟩ := h.spell (k := 6) (o := b) (e := 3) (s := 3) (t := 4) hb ha hm (by decide) (by decide) hb (by decide) (by decide) (by decide) (by decide) (by decide)
      have e2 : conjF σ (nI b) (nI 6) = addEffectF (manaF σ (nI b)) (nI b) 3 3 4 := by
        unfold conjF
        rw [if_neg (show ¬ nI 6 = 5 by decide), if_pos (show nI 6 = 6 from rfl)]
      rw [sp_6, e2]
      exact ⟨x1, rfl, x2⟩
    · obtain ⟨x1, x2⟩ := h.spell (k := 7) (o := b) (e := 1) (s := 2) (t := 4) hb ha hm (by decide) (by decide) hb (by decide) (by decide) (by decide) (by decide) (by decide)
      have e2 : conjF σ (nI b) (nI 7) = addEffectF (manaF σ (nI b)) (nI b) 1 2 4 := by
        unfold conjF
        rw [if_neg (show ¬ nI 7 = 5 by decide), if_neg (show ¬ nI 7 = 6 by decide)]
      rw [sp_7, e2]
      exact ⟨x1, rfl, x2⟩
theorem poisR_6 (g : Nat → Int32) : poisR g 6 = g 6 := by
  unfold poisR loseR
  split
  · rfl
  · split
    · rw [pk_un (by decide), pk_un (by decide), pk_un (by decide)]
    · rw [pk_un (by decide)]
theorem healR_6 (g : Nat → Int32) : healR g 6 = g 6 := by
  unfold healR
  split
  · rfl
  · rw [pk_un (by decide)]
theorem offR_6 (g : Nat → Int32) (k : Nat) : offR g k 6 = g 6 := by
  unfold offR
  split
  · rw [pk_un (by omega), pk_un (by omega)]
  · rw [pk_un (by omega)]
theorem offRL_6 : ∀ (m k : Nat) (g : Nat → Int32), offRL m k g 6 = g 6
  | 0, _, _ => rfl
  | m + 1, k, g => by
    show offRL m (k + 1) (offR g k) 6 = g 6
    rw [offRL_6 m (k + 1) (offR g k), offR_6]
theorem wearR_6 (g : Nat → Int32) : wearR g 6 = g 6 := by
  unfold wearR
  rw [offRL_6, healR_6, poisR_6]
theorem IM.act {σ : SS} {δ : DD} (h : IM σ δ) {b k : Nat} (hb : b < d_n δ) (ha : ¬ d_R δ b 1 < 0) (hk : k ≤ 7) (hp : possD δ b (nI k) = true) : IM (perfF σ (nI b) (nI k)) (actD δ b (nI k)) ∧ lostF σ (nI b) (nI k) = lostD δ b (nI k) ∧ d_n (actD δ b (nI k)) = d_n δ ∧ d_ac (actD δ b (nI k)) = d_ac δ + 1 ∧ (d_hi (actD δ b (nI k)) = d_hi δ ∨ d_hi (actD δ b (nI k)) = d_hi δ + 1) := by
  obtain ⟨h1, hl, hn, ha1, h6, hac, hhi⟩ := h.act1 hb ha hk hp
  have hb1 : b < d_n (spD δ b (nI k)) := by rw [hn]; exact hb
  have h2 : IM (actedF (doF σ (nI b) (nI k))) (e_ac (spD δ b (nI k)) (d_ac (spD δ b (nI k)) + 1)) := ⟨rel_ac h1.1, h1.2⟩
  have h3 := h2.wear (b := b) hb1 ha1
  obtain ⟨sp, s1, s2, es⟩ := (h.2.2.2.1 b hb).2.2.2.2.1
  obtain ⟨s, t, e4, -, -, -, -⟩ := (h.2.2.2.1 b hb).2.2.2.2.2.2 4 (by omega)
  have e13 : d_R δ b 13 = nI s := e4
  have et6 : traitF (wearF (actedF (doF σ (nI b) (nI k))) (nI b)) (nI b) 6 = nI sp := by
    rw [show traitF (wearF (actedF (doF σ (nI b) (nI k))) (nI b)) (nI b) 6 = _ from h3.1.tr (w := 6) hb1 (by omega), e_g_R, wearR_6]
    exact h6.trans es
  have htick : passF (wearF (actedF (doF σ (nI b) (nI k))) (nI b)) (nI b) (slowF σ (nI b)) = putTraitF (wearF (actedF (doF σ (nI b) (nI k))) (nI b)) (nI b) 8 (wearR (d_R (spD δ b (nI k)) b) 8 + timeD (d_R δ b)) := by
    unfold passF tickF
    rw [et6, if_neg (show ¬ nI sp ≤ 0 from nI_ge (a := 0) (by omega) (by omega)), show traitF (wearF (actedF (doF σ (nI b) (nI k))) (nI b)) (nI b) 8 = wearR (d_R (spD δ b (nI k)) b) 8 from by rw [show traitF (wearF (actedF (doF σ (nI b) (nI k))) (nI b)) (nI b) 8 = _ from h3.1.tr (w := 8) hb1 (by omega), e_g_R]]
    congr 2
    unfold slowF timeD
    rw [show stackF σ (nI b) 4 = d_R δ b 13 from h.1.st (e := 4) hb (by omega), es]
    by_cases q : d_R δ b 13 ≤ 0
    · rw [if_pos q, if_pos q, if_pos rfl]
    · rw [if_neg q, if_neg q, if_neg (by decide), Int32.mul_comm]
  have h4 : IM (putTraitF (wearF (actedF (doF σ (nI b) (nI k))) (nI b)) (nI b) 8 (wearR (d_R (spD δ b (nI k)) b) 8 + timeD (d_R δ b))) (e_g (e_g (e_ac (spD δ b (nI k)) (d_ac (spD δ b (nI k)) + 1)) b (wearR (d_R (spD δ b (nI k)) b))) b (upd (d_R (e_g (e_ac (spD δ b (nI k)) (d_ac (spD δ b (nI k)) + 1)) b (wearR (d_R (spD δ b (nI k)) b))) b) 8 (wearR (d_R (spD δ b (nI k)) b) 8 + timeD (d_R δ b)))) :=
    ⟨rel_trait h3.1 (w := 8) hb1 (by omega) _, okM_keep h3.2 hb1 (ok_w (h3.2.2.2.1 b hb1) _) (Or.inl (pk_un (by decide)))⟩
  rw [e_g_R, e_g_u] at h4
  have h5 : IM (perfF σ (nI b) (nI k)) (actD δ b (nI k)) := by
    unfold perfF
    rw [htick]
    exact ⟨rel_seen h4.1 _, h4.2⟩
  exact ⟨h5, hl, hn, by show d_ac (spD δ b (nI k)) + 1 = _; rw [hac], hhi⟩
theorem IR.act {K : Nat} {σ : SS} {δ : DD} (h : IR K σ δ) (hK : K + 1 < 1000) {b k : Nat} (hb : b < d_n δ) (ha : ¬ d_R δ b 1 < 0) (hk : k ≤ 7) (hp : possD δ b (nI k) = true) : IR (K + 1) (perfF σ (nI b) (nI k)) (actD δ b (nI k)) ∧ lostF σ (nI b) (nI k) = lostD δ b (nI k) ∧ d_n (actD δ b (nI k)) = d_n δ := by
  obtain ⟨h1, h2, h3, h4, h5⟩ := h.m.act hb ha hk hp
  obtain ⟨a, z, c1, c2, c3, c4⟩ := h.2.1.2.2.2.2
  refine ⟨⟨h1.1, okD_iff.mpr ⟨h1.2, a + 1, ?_⟩, hK⟩, h2, h3⟩
  rcases h5 with q | q
  · exact ⟨z, by rw [h4, c1, nI_1], by rw [q, c2], by omega, by omega⟩
  · exact ⟨z + 1, by rw [h4, c1, nI_1], by rw [q, c2, nI_1], by omega, by omega⟩
-- what else changes a dungeon
theorem IR.setk {K : Nat} {σ : SS} {δ : DD} (h : IR K σ δ) {c k : Nat} (hc : c < 160) (hr : ¬ rimN c) (hk : k ≤ 3) (hn : (k = 0 ∨ k = 3) ∨ ∀ j, j < d_n δ → ¬ d_R δ j 1 = nI c) : IR K (putKindF σ (nI c) (nI k)) (e_k δ (upd (d_k δ) c (nI k))) := by
  have hm := okM_kind h.m.2 hc hr hk hn
  exact ⟨rel_kind h.1 hc _, okD_iff.mpr ⟨hm, (okD_iff.mp h.2.1).2⟩, h.2.2⟩
theorem ok_fgs {kd : Nat → Int32} {g : Nat → Int32} (h : okRow kd g) {f u s : Nat} (hf : f ≤ 20) (hu : u ≤ 20) (hs1 : 1 ≤ s) (hs : s ≤ 4) : okRow kd (upd (upd (upd g 4 (nI f)) 5 (nI u)) 6 (nI s)) := by
  obtain ⟨h1, h2, h3, h4, h5, h6, h7⟩ := h
  have hn : ∀ j, j < 4 ∨ 7 ≤ j → upd (upd (upd g 4 (nI f)) 5 (nI u)) 6 (nI s) j = g j := fun j hj => by rw [pk_un (by omega), pk_un (by omega), pk_un (by omega)]
  refine ⟨?_, ?_, ?_, ?_, ?_, ?_, fun e he => ?_⟩
  · rw [hn 0 (by omega)]; exact h1
  · rw [hn 1 (by omega), hn 2 (by omega), hn 3 (by omega)]; exact h2
  · rw [pk_un (by decide), pk_un (by decide), pk_us]; exact ⟨f, hf, rfl⟩
  · rw [pk_un (by decide), pk_us]; exact ⟨u, hu, rfl⟩
  · rw [pk_us]; exact ⟨s, hs1, hs, rfl⟩
  · rw [hn 7 (by omega)]; exact h6
  · rw [hn (9 + e) (by omega), hn (14 + e) (by omega)]; exact h7 e he
theorem IR.become {K : Nat} {σ : SS} {δ : DD} (h : IR K σ δ) {b f u s : Nat} (hb : b < d_n δ) (hf : f ≤ 20) (hu : u ≤ 20) (hs1 : 1 ≤ s) (hs : s ≤ 4) : IR K (becomeF σ (nI b) (nI f) (nI u) (nI s)) (e_g δ b (upd (upd (upd (d_R δ b) 4 (nI f)) 5 (nI u)) 6 (nI s))) := by
  have h1 := rel_trait (rel_trait (rel_trait h.1 (w := 4) hb (by omega) (nI f)) (w := 5) hb (by omega) (nI u)) (w := 6) hb (by omega) (nI s)
  rw [e_g_R, e_g_u, e_g_R, e_g_u] at h1
  refine ⟨h1, okD_iff.mpr ⟨okM_keep h.m.2 hb (ok_fgs (h.2.1.2.2.1 b hb) hf hu hs1 hs) (Or.inl ?_), (okD_iff.mp h.2.1).2⟩, h.2.2⟩
  rw [pk_un (by decide), pk_un (by decide), pk_un (by decide)]
theorem IR.lay {K : Nat} {σ : SS} {δ : DD} (h : IR K σ δ) {o e s t : Nat} (ho : o < d_n δ) (he : e < 5) (hs : 1 ≤ s) (hs2 : s ≤ 9) (ht : 1 ≤ t) (ht2 : t ≤ 20) : IR K (addEffectF σ (nI o) (nI e) (nI s) (nI t)) (e_g δ o (comeR (d_R δ o) e (nI s) (nI t))) ∧ stackF (addEffectF σ (nI o) (nI e) (nI s) (nI t)) (nI o) (nI e) = comeR (d_R δ o) e (nI s) (nI t) (9 + e) := by
  obtain ⟨h1, h2⟩ := h.m.add ho he hs hs2 ht ht2
  exact ⟨⟨h1.1, okD_iff.mpr ⟨h1.2, (okD_iff.mp h.2.1).2⟩, h.2.2⟩, h2⟩
