-- ===== an action, piece by piece =====
theorem IM.take {σ : SS} {δ : DD} (h : IM σ δ) {o y : Nat} (ho : o < d_n δ) (ha : ¬ d_R δ o 1 < 0) (hy : 1 ≤ y) (hy2 : y ≤ 60) : IM (takeF σ (nI o) (nI y)) (e_g δ o (loseR (d_R δ o) (nI y))) ∧ tookF σ (nI o) (nI y) = minI (d_R δ o 2) (nI y) := by
  obtain ⟨lf, mo, c, a1, a2, a3, a4, a5, a6, a7, a8⟩ := (ok_alive (h.2.2.2.1 o ho)).1 ha
  have e2 : traitF σ (nI o) 2 = nI lf := by rw [show traitF σ (nI o) 2 = d_R δ o 2 from h.1.tr (w := 2) ho (by omega), a1]
  have hmin : minI (nI y) (nI lf) = nI (min y lf) := minI_n y lf (by omega) (by omega)
  have hsub : nI lf - nI (min y lf) = nI (lf - min y lf) := pk_sub (by omega)
  have hrow := h.2.2.2.1 o ho
  refine ⟨?_, by unfold tookF; rw [e2, a1]; exact minI_comm _ _⟩
  unfold takeF
  rw [e2, hmin, hsub]
  by_cases q : lf ≤ y
  · have e0 : nI (lf - min y lf) = 0 := by rw [show lf - min y lf = 0 by omega]; rfl
    rw [e0, if_pos rfl]
    have hl : loseR (d_R δ o) (nI y) = upd (upd (d_R δ o) 2 0) 1 (-1) := by
      unfold loseR
      have hz : d_R δ o 2 - nI y ≤ 0 := by
        rw [a1]
        rw [Int32.le_iff_toInt_le, Int32.toInt_sub, nI_toInt (by omega), nI_toInt (by omega)]
        rw [Int.bmod_eq_of_le (by omega) (by omega)]
        show (lf : Int) - y ≤ (0 : Int32).toInt
        rw [show (0 : Int32).toInt = 0 from rfl]
        omega
      rw [if_pos hz, upd_u]
    have r1 := rel_trait (rel_trait h.1 (w := 2) ho (by omega) 0) (w := 1) ho (by omega) (-1)
    rw [e_g_R, e_g_u] at r1
    rw [hl]
    exact ⟨r1, okM_keep h.2 ho (ok_d hrow) (Or.inr pk_us)⟩
  · have e0 : ¬ nI (lf - min y lf) = 0 := nI_ne0 (by omega) (by omega)
    have hl : loseR (d_R δ o) (nI y) = upd (d_R δ o) 2 (nI (lf - min y lf)) := by
      unfold loseR
      rw [a1, show nI lf - nI y = nI (lf - y) from pk_sub (by omega), if_neg (show ¬ nI (lf - y) ≤ 0 from nI_ge (a := 0) (by omega) (by omega)), show lf - min y lf = lf - y by omega]
    rw [if_neg e0, hl]
    exact ⟨rel_trait h.1 (w := 2) ho (by omega) _, okM_keep h.2 ho (ok_l hrow ha (by omega) (fun mo' hm' _ => by
      have : mo' = mo := (nI_eq (by omega) (by omega)).mp (hm'.symm.trans a2)
      omega)) (Or.inl (pk_un (by decide)))⟩
theorem hit_eq {σ : SS} {δ : DD} (h : IM σ δ) {b o : Nat} (hb : b < d_n δ) (ho : o < d_n δ) (ha : ¬ d_R δ b 1 < 0) (ha2 : ¬ d_R δ o 1 < 0) : hitF σ (nI b) (nI o) = hitD δ b o ∧ ∃ y : Nat, 1 ≤ y ∧ y ≤ 60 ∧ hitD δ b o = nI y := by
  have e1 : hitF σ (nI b) (nI o) = maxI (d_R δ b 4 + d_R δ b 11 - (d_R δ o 5 + d_R δ o 12)) 1 := by
    unfold hitF
    rw [if_pos ((h.alive hb).mpr ha), if_pos ((h.alive ho).mpr ha2), show traitF σ (nI b) 4 = d_R δ b 4 from h.1.tr (w := 4) hb (by omega), show stackF σ (nI b) 2 = d_R δ b 11 from h.1.st (e := 2) hb (by omega), show traitF σ (nI o) 5 = d_R δ o 5 from h.1.tr (w := 5) ho (by omega), show stackF σ (nI o) 3 = d_R δ o 12 from h.1.st (e := 3) ho (by omega)]
  have e2 : hitD δ b o = maxI (d_R δ b 4 + d_R δ b 11 - (d_R δ o 5 + d_R δ o 12)) 1 := by
    unfold hitD
    rw [maxI_comm]
    congr 1
    rw [Int32.sub_eq_add_neg, Int32.sub_eq_add_neg, Int32.sub_eq_add_neg, Int32.neg_add, Int32.add_assoc, Int32.sub_eq_add_neg]
  refine ⟨e1.trans e2.symm, ?_⟩
  rw [e2]
  obtain ⟨f, hf, ef⟩ := (h.2.2.2.1 b hb).2.2.1
  obtain ⟨g, hg, eg⟩ := (h.2.2.2.1 o ho).2.2.2.1
  obtain ⟨s, _, es, -, hs, -⟩ := (h.2.2.2.1 b hb).2.2.2.2.2.2 2 (by omega)
  obtain ⟨s2, _, es2, -, hs2, -⟩ := (h.2.2.2.1 o ho).2.2.2.2.2.2 3 (by omega)
  have es' : d_R δ b 11 = nI s := es
  have es2' : d_R δ o 12 = nI s2 := es2
  rw [ef, es', eg, es2', nI_add, nI_add]
  by_cases q : g + s2 < f + s
  · rw [show nI (f + s) - nI (g + s2) = nI (f + s - (g + s2)) from pk_sub (by omega)]
    refine ⟨f + s - (g + s2), by omega, by omega, ?_⟩
    unfold maxI
    rw [if_neg (show ¬ nI (f + s - (g + s2)) < 1 from nI_nlt (b := 1) (by omega) (by omega))]
  · refine ⟨1, Nat.le_refl 1, by decide, ?_⟩
    unfold maxI
    have hz : nI (f + s) - nI (g + s2) < 1 := by
      rw [Int32.lt_iff_toInt_lt, Int32.toInt_sub, nI_toInt (by omega), nI_toInt (by omega)]
      rw [Int.bmod_eq_of_le (by omega) (by omega)]
      rw [show (1 : Int32).toInt = 1 from rfl]
      omega
    rw [if_pos hz]
    rfl
theorem IM.add {σ : SS} {δ : DD} (h : IM σ δ) {o e s t : Nat} (ho : o < d_n δ) (he : e < 5) (hs : 1 ≤ s) (hs2 : s ≤ 9) (ht : 1 ≤ t) (ht2 : t ≤ 20) : IM (addEffectF σ (nI o) (nI e) (nI s) (nI t)) (e_g δ o (comeR (d_R δ o) e (nI s) (nI t))) ∧ stackF (addEffectF σ (nI o) (nI e) (nI s) (nI t)) (nI o) (nI e) = comeR (d_R δ o) e (nI s) (nI t) (9 + e) := by
  obtain ⟨s0, t0, es, et, h1, h2, h3⟩ := (h.2.2.2.1 o ho).2.2.2.2.2.2 e he
  have hcome : comeR (d_R δ o) e (nI s) (nI t) = upd (upd (d_R δ o) (9 + e) (nI (min (s0 + s) 9))) (14 + e) (nI (max t0 t)) := by
    unfold comeR
    rw [pk_un (show 14 + e ≠ 9 + e by omega), es, et, nI_add, minI_comm, show minI (nI (s0 + s)) 9 = nI (min (s0 + s) 9) from minI_n (s0 + s) 9 (by omega) (by omega), maxI_n t0 t (by omega) (by omega)]
  have hadd : addEffectF σ (nI o) (nI e) (nI s) (nI t) = putEffectF σ (nI o) (nI e) (nI (min (s0 + s) 9)) (nI (max t0 t)) := by
    unfold addEffectF
    rw [h.1.st ho he, h.1.tu ho he, es, et, nI_add, show minI (nI (s0 + s)) 9 = nI (min (s0 + s) 9) from minI_n (s0 + s) 9 (by omega) (by omega), maxI_n t0 t (by omega) (by omega)]
  rw [hadd, hcome]
  have hr := rel_eff h.1 ho he (nI (min (s0 + s) 9)) (nI (max t0 t))
  refine ⟨⟨hr, okM_keep h.2 ho ?_ (Or.inl ?_)⟩, ?_⟩
  · rcases ok_e (h.2.2.2.1 o ho) (x := e) (s := min (s0 + s) 9) (t := max t0 t) (by omega) (by omega) (by omega) with q | q
    · exact q
    · omega
  · rw [pk_un (by omega), pk_un (by omega)]
  · have := hr.st (b := o) ho he
    rw [this, e_g_R]
/-- poison, rest, what wears off -/
theorem IM.pois {σ : SS} {δ : DD} (h : IM σ δ) {b : Nat} (hb : b < d_n δ) (ha : ¬ d_R δ b 1 < 0) : IM (takeF σ (nI b) (stackF σ (nI b) 0)) (e_g δ b (poisR (d_R δ b))) := by
  obtain ⟨s, t, es, et, h1, h2, h3⟩ := (h.2.2.2.1 b hb).2.2.2.2.2.2 0 (by omega)
  have e9 : d_R δ b 9 = nI s := es
  rw [show stackF σ (nI b) 0 = d_R δ b 9 from h.1.st (e := 0) hb (by omega), e9]
  unfold poisR
  rcases Nat.eq_zero_or_pos s with q | q
  · subst q
    rw [e9, if_pos (by decide), e_g_i]
    obtain ⟨lf, mo, c, a1, a2, a3, a4, a5, a6, a7, a8⟩ := (ok_alive (h.2.2.2.1 b hb)).1 ha
    have e2 : traitF σ (nI b) 2 = nI lf := by rw [show traitF σ (nI b) 2 = d_R δ b 2 from h.1.tr (w := 2) hb (by omega), a1]
    unfold takeF
    rw [e2, show minI (nI 0) (nI lf) = nI 0 from by rw [minI_n 0 lf (by omega) (by omega), Nat.min_eq_left (Nat.zero_le _)], show nI lf - nI 0 = nI lf from pk_sub (a := lf) (b := 0) (Nat.zero_le _), if_neg (nI_ne0 a3 (by omega))]
    have hr := rel_trait h.1 (w := 2) hb (by omega) (nI lf)
    have e0 : upd (d_R δ b) 2 (nI lf) = d_R δ b := by rw [← a1]; exact upd_i _ _
    rw [e0, e_g_i] at hr
    exact ⟨hr, h.2⟩
  · rw [e9, if_neg (show ¬ nI s ≤ 0 from nI_ge (a := 0) q (by omega))]
    exact (h.take hb ha q (by omega)).1
theorem IM.heal {σ : SS} {δ : DD} (h : IM σ δ) {b : Nat} (hb : b < d_n δ) : IM (restF σ (nI b)) (e_g δ b (healR (d_R δ b))) := by
  unfold restF healR
  by_cases ha : d_R δ b 1 < 0
  · rw [if_neg (fun z => (h.alive hb).mp z ha), if_pos ha, e_g_i]
    exact h
  · rw [if_pos ((h.alive hb).mpr ha), if_neg ha]
    obtain ⟨lf, mo, c, a1, a2, a3, a4, a5, a6, a7, a8⟩ := (ok_alive (h.2.2.2.1 b hb)).1 ha
    obtain ⟨s, t, es, et, h1, h2, h3⟩ := (h.2.2.2.1 b hb).2.2.2.2.2.2 1 (by omega)
    have e10 : d_R δ b 10 = nI s := es
    rw [show traitF σ (nI b) 2 = d_R δ b 2 from h.1.tr (w := 2) hb (by omega), show stackF σ (nI b) 1 = d_R δ b 10 from h.1.st (e := 1) hb (by omega), show traitF σ (nI b) 3 = d_R δ b 3 from h.1.tr (w := 3) hb (by omega), minI_comm, a1, e10, a2, nI_add, minI_n mo (lf + s) (by omega) (by omega)]
    exact ⟨rel_trait h.1 (w := 2) hb (by omega) _, okM_keep h.2 hb (ok_l (h.2.2.2.1 b hb) ha (by omega) (fun mo' hm' _ => by
      have : mo' = mo := (nI_eq (by omega) (by omega)).mp (hm'.symm.trans a2)
      omega)) (Or.inl (pk_un (by decide)))⟩
theorem off_one {σ : SS} {δ : DD} (h : IM σ δ) {b k : Nat} (hb : b < d_n δ) (hk : k < 5) : IM (putEffectF σ (nI b) (nI k) (if turnsF σ (nI b) (nI k) - 1 ≤ 0 then 0 else stackF σ (nI b) (nI k)) (maxI (turnsF σ (nI b) (nI k) - 1) 0)) (e_g δ b (offR (d_R δ b) k)) := by
  obtain ⟨s, t, es, et, h1, h2, h3⟩ := (h.2.2.2.1 b hb).2.2.2.2.2.2 k hk
  rw [h.1.st hb hk, h.1.tu hb hk, es, et]
  have hrow := h.2.2.2.1 b hb
  have key : ∀ s' t' : Nat, s' ≤ 9 → t' ≤ 20 → (s' = 0 ↔ t' = 0) → offR (d_R δ b) k = upd (upd (d_R δ b) (9 + k) (nI s')) (14 + k) (nI t') → IM (putEffectF σ (nI b) (nI k) (nI s') (nI t')) (e_g δ b (offR (d_R δ b) k)) := by
    intro s' t' g1 g2 g3 e
    rw [e]
    refine ⟨rel_eff h.1 hb hk _ _, okM_keep h.2 hb ?_ (Or.inl ?_)⟩
    · rcases ok_e hrow (x := k) g1 g2 g3 with q | q
      · exact q
      · omega
    · rw [pk_un (by omega), pk_un (by omega)]
  have hswap : ∀ x y : Int32, upd (upd (d_R δ b) (14 + k) x) (9 + k) y = upd (upd (d_R δ b) (9 + k) y) (14 + k) x := fun x y => by
    funext j
    by_cases q : j = 9 + k
    · subst q; rw [pk_us, pk_un (by omega), pk_us]
    · rw [pk_un q]
      by_cases r : j = 14 + k
      · subst r; rw [pk_us, pk_us]
      · rw [pk_un r, pk_un r, pk_un q]
  rcases Nat.lt_or_ge t 2 with q | q
  · have hle : nI t - 1 ≤ 0 := by
      rcases (show t = 0 ∨ t = 1 by omega) with r | r <;> subst r <;> decide
    have hmx : maxI (nI t - 1) 0 = nI 0 := by
      rcases (show t = 0 ∨ t = 1 by omega) with r | r <;> subst r <;> decide
    rw [if_pos hle, hmx]
    refine key 0 0 (by omega) (by omega) (by omega) ?_
    unfold offR
    rw [et, maxI_comm, hmx, if_pos (show nI 0 = 0 from rfl)]
    exact hswap _ _
  · rw [show nI t - 1 = nI (t - 1) from pk_sub (a := t) (b := 1) (by omega), if_neg (show ¬ nI (t - 1) ≤ 0 from nI_ge (a := 0) (by omega) (by omega)), show maxI (nI (t - 1)) 0 = nI (t - 1) from by rw [show (0 : Int32) = nI 0 from rfl, maxI_n (t - 1) 0 (by omega) (by omega), Nat.max_eq_left (Nat.zero_le _)]]
    refine key s (t - 1) h1 (by omega) (by omega) ?_
    unfold offR
    rw [et, show nI t - 1 = nI (t - 1) from pk_sub (a := t) (b := 1) (by omega), maxI_comm, show maxI (nI (t - 1)) 0 = nI (t - 1) from by rw [show (0 : Int32) = nI 0 from rfl, maxI_n (t - 1) 0 (by omega) (by omega), Nat.max_eq_left (Nat.zero_le _)], if_neg (nI_ne0 (by omega) (by omega)), ← hswap, ← es]
    funext j
    by_cases r : j = 9 + k
    · subst r; rw [pk_us, pk_un (by omega)]
    · rw [pk_un r]
theorem IM.off {b : Nat} : ∀ (m k : Nat) {σ : SS} {δ : DD}, IM σ δ → b < d_n δ → k + m = 5 → IM (offL (nI b) m k σ) (e_g δ b (offRL m k (d_R δ b)))
  | 0, k, σ, δ, h, hb, hk => by
    show IM σ (e_g δ b (d_R δ b))
    rw [e_g_i]
    exact h
  | m + 1, k, σ, δ, h, hb, hk => by
    have h1 := off_one h hb (show k < 5 by omega)
    have h2 := IM.off (b := b) m (k + 1) h1 hb (by omega)
    rw [e_g_R, e_g_u] at h2
    exact h2
theorem IM.wear {σ : SS} {δ : DD} (h : IM σ δ) {b : Nat} (hb : b < d_n δ) (ha : ¬ d_R δ b 1 < 0) : IM (wearF σ (nI b)) (e_g δ b (wearR (d_R δ b))) := by
  have h1 := h.pois hb ha
  have h2 := h1.heal (b := b) hb
  rw [e_g_R, e_g_u] at h2
  have h3 := IM.off (b := b) 5 0 h2 hb rfl
  rw [e_g_R, e_g_u] at h3
  exact h3
/-- mana, going, conjuring -/
theorem IM.mana0 {σ : SS} {δ : DD} (h : IM σ δ) {b : Nat} (hb : b < d_n δ) : IM (putTraitF σ (nI b) 7 (minI (traitF σ (nI b) 7 + 1) 9)) (manaD δ b 0) := by
  obtain ⟨m, hm, em⟩ := (h.2.2.2.1 b hb).2.2.2.2.2.1
  have e7 : traitF σ (nI b) 7 = nI m := by rw [show traitF σ (nI b) 7 = d_R δ b 7 from h.1.tr (w := 7) hb (by omega), em]
  unfold manaD
  rw [if_pos rfl, em, e7, nI_1, minI_comm, show minI 9 (nI (m + 1)) = nI (min 9 (m + 1)) from minI_n 9 (m + 1) (by omega) (by omega)]
  exact ⟨rel_trait h.1 (w := 7) hb (by omega) _, okM_keep h.2 hb (ok_m (h.2.2.2.1 b hb) (by omega)) (Or.inl (pk_un (by decide)))⟩
theorem mana_go (δ : DD) (b : Nat) {k : Nat} (h1 : 1 ≤ k) (h2 : k ≤ 4) : manaD δ b (nI k) = δ := by
  unfold manaD
  rw [if_neg (show ¬ nI k = 0 from nI_ne0 (by omega) (by omega)), if_pos (show nI k ≤ 4 from nI_le (b := 4) h2 (by omega)), upd_i, e_g_i]
theorem IM.mana3 {σ : SS} {δ : DD} (h : IM σ δ) {b k : Nat} (hb : b < d_n δ) (hk : 5 ≤ k) (hk2 : k ≤ 7) (hm3 : magD δ b = true) : IM (manaF σ (nI b)) (manaD δ b (nI k)) := by
  obtain ⟨m, hm, em⟩ := (h.2.2.2.1 b hb).2.2.2.2.2.1
  have e7 : traitF σ (nI b) 7 = nI m := by rw [show traitF σ (nI b) 7 = d_R δ b 7 from h.1.tr (w := 7) hb (by omega), em]
  have h3 : 3 ≤ m := by
    unfold magD at hm3
    rw [em] at hm3
    rcases Nat.lt_or_ge m 3 with q | q
    · rw [if_pos (show nI m ≤ 2 from nI_le (b := 2) (by omega) (by omega))] at hm3
      exact absurd hm3 (by decide)
    · exact q
  unfold manaD manaF
  rw [if_neg (show ¬ nI k = 0 from nI_ne0 (by omega) (by omega)), if_neg (show ¬ nI k ≤ 4 from nI_ge (a := 4) (by omega) (by omega)), em, e7, show nI m - 3 = nI (m - 3) from pk_sub (a := m) (b := 3) h3]
  exact ⟨rel_trait h.1 (w := 7) hb (by omega) _, okM_keep h.2 hb (ok_m (h.2.2.2.1 b hb) (by omega)) (Or.inl (pk_un (by decide)))⟩
theorem tgt_congr {δ δ' : DD} {b : Nat} (hn : d_n δ' = d_n δ) (h10 : d_n δ ≤ 10) (hk : d_k δ' = d_k δ) (hR : ∀ j, d_R δ' j 0 = d_R δ j 0 ∧ d_R δ' j 1 = d_R δ j 1) : targetD δ' b = targetD δ b := by
  by_cases ha : d_R δ b 1 < 0
  · unfold targetD
    rw [(hR b).2, if_pos ha, if_pos ha]
  · have h1 := targetD_best δ b (by omega) ha
    have h2 := targetD_best δ' b (by omega) (by rw [(hR b).2]; exact ha)
    rw [hn] at h2
    refine best_one (best_congr (fun i _ hi => ?_) h2) h1
    unfold aimQD aimVD
    rw [(hR i).1, (hR i).2, (hR b).1, (hR b).2, hk]
    exact ⟨Iff.rfl, fun _ => rfl⟩
theorem mana_R (δ : DD) (b : Nat) (a : Int32) (j w : Nat) (hw : w ≠ 7) : d_R (manaD δ b a) j w = d_R δ j w := by
  unfold manaD
  by_cases q : j = b
  · subst q
    rw [e_g_R, pk_un hw]
  · rw [e_g_Rn δ _ q]
theorem IM.gos {σ : SS} {δ : DD} (h : IM σ δ) {b k : Nat} (hb : b < d_n δ) (ha : ¬ d_R δ b 1 < 0) (h1 : 1 ≤ k) (h2 : k ≤ 4) (hp : goB δ b (d_R δ b 1 + stepD (nI k - 1)) = true) :
    IM (goS σ (nI b) (towF σ (nI b) (nI k))) (goD δ b (d_R δ b 1 + stepD (nI k - 1))) ∧ goR σ (nI b) (towF σ (nI b) (nI k)) = goT δ b (d_R δ b 1 + stepD (nI k - 1)) ∧ d_n (goD δ b (d_R δ b 1 + stepD (nI k - 1))) = d_n δ ∧ ¬ d_R (goD δ b (d_R δ b 1 + stepD (nI k - 1))) b 1 < 0 ∧ (∀ w, w ≠ 1 → d_R (goD δ b (d_R δ b 1 + stepD (nI k - 1))) b w = d_R δ b w) ∧
      d_ac (goD δ b (d_R δ b 1 + stepD (nI k - 1))) = d_ac δ ∧ (d_hi (goD δ b (d_R δ b 1 + stepD (nI k - 1))) = d_hi δ ∨ d_hi (goD δ b (d_R δ b 1 + stepD (nI k - 1))) = d_hi δ + 1) := by
  obtain ⟨c, c', hc, hc', e, hcn, hne, e1, e2⟩ := h.go hb ha h1 h2
  rw [e1, e2]
  rw [e1] at hp
  unfold goB at hp
  rw [nI_clamp (show c' < 2 ^ 31 by omega)] at hp
  unfold goS goD goR goT
  rw [h.1.on, h.1.ki hc', nI_clamp (show c' < 2 ^ 31 by omega)]
  have hk1 : ¬ d_k δ c' = 1 := fun q => by rw [if_pos q] at hp; exact absurd hp (by decide)
  rw [if_neg hk1] at hp
  rcases h.who hc' with ⟨a, hno⟩ | ⟨o, a1, a2, a3, a4⟩
  · rw [a, if_pos rfl, if_pos rfl, if_pos neg1_lt, if_pos neg1_lt]
    by_cases q : d_k δ c' = 2
    · rw [if_pos q, if_pos q]
      refine ⟨⟨rel_kind h.1 hc' 0, okM_kind h.2 (k := 0) hc' (h.inner hc' (Or.inr (Or.inr q))) (by omega) (Or.inl (Or.inl rfl))⟩, rfl, rfl, ha, fun w _ => rfl, rfl, Or.inl rfl⟩
    · rw [if_neg q, if_neg q]
      have hk03 : d_k δ c' = 0 ∨ d_k δ c' = 3 := by
        obtain ⟨k', hk', ek'⟩ := h.2.1 c' hc'
        rcases (show k' = 0 ∨ k' = 1 ∨ k' = 2 ∨ k' = 3 by omega) with r | r | r | r <;> subst r
        · exact Or.inl ek'
        · exact absurd ek' hk1
        · exact absurd ek' q
        · exact Or.inr ek'
      refine ⟨⟨rel_trait h.1 (w := 1) hb (by omega) _, okM_row h.2 hb (ok_c (h.2.2.2.1 b hb) ha hc' hk03) (fun i hi _ hq => ?_)⟩, rfl, rfl, ?_, fun w hw => ?_, rfl, Or.inl rfl⟩
      · rw [pk_us] at hq
        exact absurd hq (hno i hi)
      · rw [e_g_R, pk_us]; exact nI_pos (by omega)
      · rw [e_g_R, pk_un hw]
  · have ho : o < 2 ^ 31 := Nat.lt_trans a1 (Nat.lt_of_le_of_lt h.1.2.1 (by decide))
    have hob : o ≠ b := fun q => by
      subst q
      rw [e] at a3
      exact hne ((nI_eq (by omega) (by omega)).mp a3)
    rw [a2, if_neg (nI_neg1 ho), if_neg (nI_neg1 ho), if_neg (nI_pos ho), if_neg (nI_pos ho), nI_clamp ho]
    obtain ⟨g1, y, y1, y2, y3⟩ := hit_eq h hb a1 ha a4
    have g1' : hitF (hitsF σ) (nI b) (nI o) = nI y := g1.trans y3
    rw [g1', y3]
    have hh : IM (hitsF σ) (e_hi δ (d_hi δ + 1)) := ⟨rel_hi h.1, h.2⟩
    obtain ⟨t1, t2⟩ := hh.take (o := o) (y := y) a1 a4 y1 y2
    refine ⟨t1, t2, rfl, ?_, fun w hw => ?_, rfl, Or.inr rfl⟩
    · show ¬ upR (d_R δ) o (loseR (d_R δ o) (nI y)) b 1 < 0
      rw [upR_n (fun q => hob q.symm)]; exact ha
    · show upR (d_R δ) o (loseR (d_R δ o) (nI y)) b w = d_R δ b w
      rw [upR_n (fun q => hob q.symm)]
