-- ===== the shadow and the class's State: what is right of both =====
theorem fst_or (q : Nat → Bool) : ∀ (n k : Nat), (fstI q n k = -1 ∧ ∀ j, k ≤ j → j < k + n → q j = false) ∨ ∃ j, k ≤ j ∧ j < k + n ∧ fstI q n k = nI j ∧ q j = true ∧ ∀ i, k ≤ i → i < j → q i = false
  | 0, k => Or.inl ⟨rfl, fun j h1 h2 => by omega⟩
  | n + 1, k => by
    unfold fstI
    by_cases h : q k = true
    · rw [if_pos h]
      exact Or.inr ⟨k, Nat.le_refl k, by omega, rfl, h, fun i h1 h2 => by omega⟩
    · rw [if_neg h]
      have h0 : q k = false := by cases hq : q k with
        | true => exact absurd hq h
        | false => rfl
      rcases fst_or q n (k + 1) with ⟨a, b⟩ | ⟨j, a, b, c, d, e⟩
      · refine Or.inl ⟨a, fun j h1 h2 => ?_⟩
        rcases (show j = k ∨ k + 1 ≤ j by omega) with r | r
        · rw [r]; exact h0
        · exact b j r (by omega)
      · refine Or.inr ⟨j, by omega, by omega, c, d, fun i h1 h2 => ?_⟩
        rcases (show i = k ∨ k + 1 ≤ i by omega) with r | r
        · rw [r]; exact h0
        · exact e i r h2
theorem fst_congr {q q' : Nat → Bool} : ∀ (n k : Nat), (∀ j, k ≤ j → j < k + n → q j = q' j) → fstI q n k = fstI q' n k
  | 0, _, _ => rfl
  | n + 1, k, h => by
    unfold fstI
    rw [h k (Nat.le_refl k) (by omega), fst_congr n (k + 1) (fun j h1 h2 => h j (by omega) (by omega))]
theorem rd_at {f : Nat → Int32} {n j : Nat} (h : j < n) (hn : n < 2 ^ 31) (d : Int32) : rd f n d (nI j) = f j := by
  unfold rd
  rw [if_neg (nI_pos (by omega)), if_neg (nI_ge h hn), nI_clamp (by omega)]
theorem wr_at {f : Nat → Int32} {n j : Nat} (h : j < n) (hn : n < 2 ^ 31) (x : Int32) : wr f n (nI j) x = upd f j x := by
  unfold wr
  rw [if_neg (nI_pos (by omega)), if_neg (nI_ge h hn), nI_clamp (by omega)]
theorem ix9 (b w : Nat) : nI b * 9 + nI w = nI (b * 9 + w) := by
  rw [show nI b * 9 = nI (b * 9) from pk_mul b 9, nI_add]
theorem ix5 (b w : Nat) : nI b * 5 + nI w = nI (b * 5 + w) := by
  rw [show nI b * 5 = nI (b * 5) from pk_mul b 5, nI_add]
theorem trait_at (σ : SS) {b w : Nat} (hb : b < 10) (hw : w < 9) : traitF σ (nI b) (nI w) = s_tr σ (b * 9 + w) := by
  unfold traitF
  rw [ix9]
  exact rd_at (by omega) (by decide) 0
theorem stack_at (σ : SS) {b e : Nat} (hb : b < 10) (he : e < 5) : stackF σ (nI b) (nI e) = s_st σ (b * 5 + e) := by
  unfold stackF
  rw [ix5]
  exact rd_at (by omega) (by decide) 0
theorem turns_at (σ : SS) {b e : Nat} (hb : b < 10) (he : e < 5) : turnsF σ (nI b) (nI e) = s_tu σ (b * 5 + e) := by
  unfold turnsF
  rw [ix5]
  exact rd_at (by omega) (by decide) 0
theorem kind_c (σ : SS) {c : Nat} (hc : c < 160) : kindF σ (nI c) = s_ki σ c := rd_at hc (by decide) 1
/-- the shadow shows the State -/
def Rel (σ : SS) (δ : DD) : Prop := s_n σ = d_n δ ∧ d_n δ ≤ 10 ∧ (∀ c, c < 160 → s_ki σ c = d_k δ c) ∧ (∀ b, b < d_n δ → ∀ w, w < 9 → s_tr σ (b * 9 + w) = d_R δ b w) ∧
  (∀ b, b < d_n δ → ∀ e, e < 5 → s_st σ (b * 5 + e) = d_R δ b (9 + e) ∧ s_tu σ (b * 5 + e) = d_R δ b (14 + e)) ∧ s_ac σ = d_ac δ ∧ s_hi σ = d_hi δ
theorem Rel.tr {σ : SS} {δ : DD} (h : Rel σ δ) {b w : Nat} (hb : b < d_n δ) (hw : w < 9) : traitF σ (nI b) (nI w) = d_R δ b w := by
  rw [trait_at σ (Nat.lt_of_lt_of_le hb h.2.1) hw]
  exact h.2.2.2.1 b hb w hw
theorem Rel.st {σ : SS} {δ : DD} (h : Rel σ δ) {b e : Nat} (hb : b < d_n δ) (he : e < 5) : stackF σ (nI b) (nI e) = d_R δ b (9 + e) := by
  rw [stack_at σ (Nat.lt_of_lt_of_le hb h.2.1) he]
  exact (h.2.2.2.2.1 b hb e he).1
theorem Rel.tu {σ : SS} {δ : DD} (h : Rel σ δ) {b e : Nat} (hb : b < d_n δ) (he : e < 5) : turnsF σ (nI b) (nI e) = d_R δ b (14 + e) := by
  rw [turns_at σ (Nat.lt_of_lt_of_le hb h.2.1) he]
  exact (h.2.2.2.2.1 b hb e he).2
theorem Rel.ki {σ : SS} {δ : DD} (h : Rel σ δ) {c : Nat} (hc : c < 160) : kindF σ (nI c) = d_k δ c := by
  rw [kind_c σ hc]
  exact h.2.2.1 c hc
theorem Rel.on {σ : SS} {δ : DD} (h : Rel σ δ) (c : Int32) : onF σ c = onD δ c := by
  unfold onF onD
  rw [h.1]
  exact fst_congr _ _ (fun j _ hj => by rw [show traitF σ (nI j) 1 = d_R δ j 1 from h.tr (w := 1) (by omega) (by omega)])
-- how an action on the State is one on the shadow
theorem rel_trait {σ : SS} {δ : DD} (h : Rel σ δ) {b w : Nat} (hb : b < d_n δ) (hw : w < 9) (v : Int32) : Rel (putTraitF σ (nI b) (nI w) v) (e_g δ b (upd (d_R δ b) w v)) := by
  obtain ⟨h1, h2, h3, h4, h5, h6, h7⟩ := h
  have e : s_tr (putTraitF σ (nI b) (nI w) v) = upd (s_tr σ) (b * 9 + w) v := by
    show wr (s_tr σ) 90 (nI b * 9 + nI w) v = _
    rw [ix9]
    exact wr_at (by omega) (by decide) v
  refine ⟨h1, h2, h3, fun b' hb' w' hw' => ?_, fun b' hb' e' he' => ?_, h6, h7⟩
  · rw [e]
    show _ = upR (d_R δ) b (upd (d_R δ b) w v) b' w'
    by_cases q : b' = b
    · subst q
      rw [upR_s]
      by_cases q2 : w' = w
      · subst q2; rw [pk_us, pk_us]
      · rw [pk_un q2, pk_un (by omega)]; exact h4 b' hb' w' hw'
    · rw [upR_n q, pk_un (by omega)]; exact h4 b' hb' w' hw'
  · obtain ⟨a1, a2⟩ := h5 b' hb' e' he'
    show s_st σ (b' * 5 + e') = upR (d_R δ) b (upd (d_R δ b) w v) b' (9 + e') ∧ s_tu σ (b' * 5 + e') = upR (d_R δ) b (upd (d_R δ b) w v) b' (14 + e')
    by_cases q : b' = b
    · subst q
      rw [upR_s, pk_un (by omega), pk_un (by omega)]
      exact ⟨a1, a2⟩
    · rw [upR_n q]; exact ⟨a1, a2⟩
theorem rel_eff {σ : SS} {δ : DD} (h : Rel σ δ) {b e : Nat} (hb : b < d_n δ) (he : e < 5) (s t : Int32) : Rel (putEffectF σ (nI b) (nI e) s t) (e_g δ b (upd (upd (d_R δ b) (9 + e) s) (14 + e) t)) := by
  obtain ⟨h1, h2, h3, h4, h5, h6, h7⟩ := h
  have e1 : s_st (putEffectF σ (nI b) (nI e) s t) = upd (s_st σ) (b * 5 + e) s := by
    show wr (s_st σ) 50 (nI b * 5 + nI e) s = _
    rw [ix5]
    exact wr_at (by omega) (by decide) s
  have e2 : s_tu (putEffectF σ (nI b) (nI e) s t) = upd (s_tu σ) (b * 5 + e) t := by
    show wr (s_tu σ) 50 (nI b * 5 + nI e) t = _
    rw [ix5]
    exact wr_at (by omega) (by decide) t
  refine ⟨h1, h2, h3, fun b' hb' w' hw' => ?_, fun b' hb' e' he' => ?_, h6, h7⟩
  · show s_tr σ (b' * 9 + w') = upR (d_R δ) b (upd (upd (d_R δ b) (9 + e) s) (14 + e) t) b' w'
    by_cases q : b' = b
    · subst q
      rw [upR_s, pk_un (by omega), pk_un (by omega)]
      exact h4 b' hb' w' hw'
    · rw [upR_n q]; exact h4 b' hb' w' hw'
  · rw [e1, e2]
    obtain ⟨a1, a2⟩ := h5 b' hb' e' he'
    show _ = upR (d_R δ) b (upd (upd (d_R δ b) (9 + e) s) (14 + e) t) b' (9 + e') ∧ _ = upR (d_R δ) b (upd (upd (d_R δ b) (9 + e) s) (14 + e) t) b' (14 + e')
    by_cases q : b' = b
    · subst q
      rw [upR_s]
      by_cases q2 : e' = e
      · subst q2
        rw [pk_us, pk_us, pk_us, pk_un (show 9 + e' ≠ 14 + e' by omega), pk_us]
        exact ⟨rfl, rfl⟩
      · rw [pk_un (show b' * 5 + e' ≠ b' * 5 + e by omega), pk_un (show b' * 5 + e' ≠ b' * 5 + e by omega), pk_un (show 9 + e' ≠ 14 + e by omega), pk_un (show 9 + e' ≠ 9 + e by omega), pk_un (show 14 + e' ≠ 14 + e by omega), pk_un (show 14 + e' ≠ 9 + e by omega)]
        exact ⟨a1, a2⟩
    · rw [upR_n q, pk_un (show b' * 5 + e' ≠ b * 5 + e by omega), pk_un (show b' * 5 + e' ≠ b * 5 + e by omega)]
      exact ⟨a1, a2⟩
theorem rel_kind {σ : SS} {δ : DD} (h : Rel σ δ) {c : Nat} (hc : c < 160) (k : Int32) : Rel (putKindF σ (nI c) k) (e_k δ (upd (d_k δ) c k)) := by
  obtain ⟨h1, h2, h3, h4, h5, h6, h7⟩ := h
  have e : s_ki (putKindF σ (nI c) k) = upd (s_ki σ) c k := wr_at hc (by decide) k
  refine ⟨h1, h2, fun c' hc' => ?_, h4, h5, h6, h7⟩
  rw [e]
  show _ = upd (d_k δ) c k c'
  by_cases q : c' = c
  · subst q; rw [pk_us, pk_us]
  · rw [pk_un q, pk_un q]; exact h3 c' hc'
theorem rel_ac {σ : SS} {δ : DD} (h : Rel σ δ) : Rel (actedF σ) (e_ac δ (d_ac δ + 1)) := by
  obtain ⟨h1, h2, h3, h4, h5, h6, h7⟩ := h
  exact ⟨h1, h2, h3, h4, h5, by show s_ac σ + 1 = d_ac δ + 1; rw [h6], h7⟩
theorem rel_hi {σ : SS} {δ : DD} (h : Rel σ δ) : Rel (hitsF σ) (e_hi δ (d_hi δ + 1)) := by
  obtain ⟨h1, h2, h3, h4, h5, h6, h7⟩ := h
  exact ⟨h1, h2, h3, h4, h5, h6, by show s_hi σ + 1 = d_hi δ + 1; rw [h7]⟩
theorem rel_kn {σ : SS} {δ : DD} (h : Rel σ δ) (f : Nat → Int32) : Rel (w_kn σ f) δ := h
theorem rel_look (f s : Int32) {δ : DD} : ∀ (m k : Nat) (σ : SS), Rel σ δ → Rel (lookL f s m k σ) δ
  | 0, _, _, h => h
  | m + 1, k, σ, h => by
    unfold lookL
    split
    · exact rel_look f s m (k + 1) σ h
    · split
      · exact rel_look f s m (k + 1) _ (rel_kn h _)
      · exact rel_look f s m (k + 1) σ h
theorem rel_lookF {σ : SS} {δ : DD} (h : Rel σ δ) (b : Int32) : Rel (lookF σ b) δ := rel_look _ _ 160 0 σ h
theorem rel_seen {σ : SS} {δ : DD} (h : Rel σ δ) (b : Int32) : Rel (seenF σ b) δ := by
  unfold seenF
  split
  · exact rel_look _ _ 160 0 σ h
  · exact h
/-- the row as it stands, put once more -/
theorem e_g_i (δ : DD) (b : Nat) : e_g δ b (d_R δ b) = δ := by
  show (δ.1, δ.2.1, upR (d_R δ) b (d_R δ b), δ.2.2.2) = δ
  rw [upR_i]
theorem e_g_u (δ : DD) (b : Nat) (g h : Nat → Int32) : e_g (e_g δ b g) b h = e_g δ b h := by
  show (δ.1, δ.2.1, upR (upR (d_R δ) b g) b h, δ.2.2.2) = (δ.1, δ.2.1, upR (d_R δ) b h, δ.2.2.2)
  rw [upR_u]
theorem e_g_R (δ : DD) (b : Nat) (g : Nat → Int32) : d_R (e_g δ b g) b = g := upR_s _ _ _
theorem e_g_Rn (δ : DD) {b c : Nat} (g : Nat → Int32) (h : c ≠ b) : d_R (e_g δ b g) c = d_R δ c := upR_n h
/-- a being that is right, on a map of these kinds -/
def okRow (kd : Nat → Int32) (g : Nat → Int32) : Prop :=
  (g 0 = 0 ∨ g 0 = 1) ∧ (∃ lf mo : Nat, g 2 = nI lf ∧ g 3 = nI mo ∧ lf ≤ mo ∧ mo ≤ 60 ∧ ((lf = 0 ∧ g 1 = -1) ∨ (0 < lf ∧ ∃ c, c < 160 ∧ g 1 = nI c ∧ (kd c = 0 ∨ kd c = 3)))) ∧
  (∃ f : Nat, f ≤ 20 ∧ g 4 = nI f) ∧ (∃ f : Nat, f ≤ 20 ∧ g 5 = nI f) ∧ (∃ f : Nat, 1 ≤ f ∧ f ≤ 4 ∧ g 6 = nI f) ∧ (∃ f : Nat, f ≤ 9 ∧ g 7 = nI f) ∧
  (∀ e, e < 5 → ∃ s t : Nat, g (9 + e) = nI s ∧ g (14 + e) = nI t ∧ s ≤ 9 ∧ t ≤ 20 ∧ (s = 0 ↔ t = 0))
/-- a dungeon that is right, with at most K actions so far -/
def okD (K : Nat) (δ : DD) : Prop := (∀ c, c < 160 → ∃ k : Nat, k ≤ 3 ∧ d_k δ c = nI k) ∧ (∀ c, c < 160 → rimN c → d_k δ c = 1) ∧ (∀ j, j < d_n δ → okRow (d_k δ) (d_R δ j)) ∧
  (∀ i j, i < d_n δ → j < d_n δ → d_R δ i 1 = d_R δ j 1 → ¬ d_R δ i 1 = -1 → i = j) ∧ ∃ a h : Nat, d_ac δ = nI a ∧ d_hi δ = nI h ∧ h ≤ a ∧ a ≤ K
def IR (K : Nat) (σ : SS) (δ : DD) : Prop := Rel σ δ ∧ okD K δ ∧ K < 1000
/-- the map and the beings are right -/
def okM (δ : DD) : Prop := (∀ c, c < 160 → ∃ k : Nat, k ≤ 3 ∧ d_k δ c = nI k) ∧ (∀ c, c < 160 → rimN c → d_k δ c = 1) ∧ (∀ j, j < d_n δ → okRow (d_k δ) (d_R δ j)) ∧
  (∀ i j, i < d_n δ → j < d_n δ → d_R δ i 1 = d_R δ j 1 → ¬ d_R δ i 1 = -1 → i = j)
def okC (K : Nat) (δ : DD) : Prop := ∃ a h : Nat, d_ac δ = nI a ∧ d_hi δ = nI h ∧ h ≤ a ∧ a ≤ K
theorem okD_iff {K : Nat} {δ : DD} : okD K δ ↔ okM δ ∧ okC K δ := ⟨fun h => ⟨⟨h.1, h.2.1, h.2.2.1, h.2.2.2.1⟩, h.2.2.2.2⟩, fun h => ⟨h.1.1, h.1.2.1, h.1.2.2.1, h.1.2.2.2, h.2⟩⟩
def IM (σ : SS) (δ : DD) : Prop := Rel σ δ ∧ okM δ
theorem IR.m {K : Nat} {σ : SS} {δ : DD} (h : IR K σ δ) : IM σ δ := ⟨h.1, (okD_iff.mp h.2.1).1⟩
theorem nI_neg1 {n : Nat} (h : n < 2 ^ 31) : ¬ nI n = -1 := m1_ne h
/-- alive: on a cell -/
theorem ok_alive {kd : Nat → Int32} {g : Nat → Int32} (h : okRow kd g) : (¬ g 1 < 0 → ∃ lf mo c : Nat, g 2 = nI lf ∧ g 3 = nI mo ∧ 0 < lf ∧ lf ≤ mo ∧ mo ≤ 60 ∧ c < 160 ∧ g 1 = nI c ∧ (kd c = 0 ∨ kd c = 3)) ∧ (g 1 < 0 → g 1 = -1 ∧ g 2 = 0) := by
  obtain ⟨lf, mo, h1, h2, h3, h4, h5⟩ := h.2.1
  rcases h5 with ⟨a, b⟩ | ⟨a, c, b1, b2, b3⟩
  · subst a
    exact ⟨fun q => absurd (by rw [b]; decide) q, fun _ => ⟨b, h1⟩⟩
  · refine ⟨fun _ => ⟨lf, mo, c, h1, h2, a, h3, h4, b1, b2, b3⟩, fun q => ?_⟩
    rw [b2] at q
    exact absurd q (nI_pos (by omega))
theorem IM.alive {σ : SS} {δ : DD} (h : IM σ δ) {j : Nat} (hj : j < d_n δ) : (aliveB σ (nI j) = true ↔ ¬ d_R δ j 1 < 0) := by
  have hr := h.2.2.2.1 j hj
  unfold aliveB
  rw [show traitF σ (nI j) 2 = d_R δ j 2 from h.1.tr (w := 2) hj (by omega)]
  by_cases q : d_R δ j 1 < 0
  · rw [((ok_alive hr).2 q).2, if_pos (by decide)]
    exact ⟨fun z => absurd z (by decide), fun z => absurd q z⟩
  · obtain ⟨lf, mo, c, a1, a2, a3, a4, a5, -⟩ := (ok_alive hr).1 q
    rw [a1, if_neg (show ¬ nI lf ≤ 0 from nI_ge (a := 0) a3 (by omega))]
    exact ⟨fun _ => q, fun _ => rfl⟩
theorem IR.alive {K : Nat} {σ : SS} {δ : DD} (h : IR K σ δ) {j : Nat} (hj : j < d_n δ) : (aliveB σ (nI j) = true ↔ ¬ d_R δ j 1 < 0) := h.m.alive hj
-- the least of those that count: of two the one ahead
/-- t is the least of the places lo .. hi that count, by its value, then by its place; -1: none counts -/
def bestP (q : Nat → Prop) (v : Nat → Int32) (lo hi : Nat) (t : Int32) : Prop :=
  (t = -1 ∧ ∀ i, lo ≤ i → i < hi → ¬ q i) ∨ ∃ j, lo ≤ j ∧ j < hi ∧ t = nI j ∧ q j ∧ ∀ i, lo ≤ i → i < hi → q i → v j ≤ v i ∧ (i < j → v j < v i)
theorem best_one {q : Nat → Prop} {v : Nat → Int32} {lo hi : Nat} {t u : Int32} (h1 : bestP q v lo hi t) (h2 : bestP q v lo hi u) : t = u := by
  rcases h1 with ⟨a1, a2⟩ | ⟨j, a1, a2, a3, a4, a5⟩ <;> rcases h2 with ⟨b1, b2⟩ | ⟨i, b1, b2, b3, b4, b5⟩
  · rw [a1, b1]
  · exact absurd b4 (a2 i b1 b2)
  · exact absurd a4 (b2 j a1 a2)
  · have c1 := a5 i b1 b2 b4
    have c2 := b5 j a1 a2 a4
    rcases Nat.lt_trichotomy i j with r | r | r
    · exact (Int32.lt_irrefl (Int32.lt_of_lt_of_le (c1.2 r) c2.1)).elim
    · rw [a3, b3, r]
    · exact (Int32.lt_irrefl (Int32.lt_of_lt_of_le (c2.2 r) c1.1)).elim
theorem best_nil (q : Nat → Prop) (v : Nat → Int32) (k : Nat) : bestP q v k k (-1) := Or.inl ⟨rfl, fun i h1 h2 => by omega⟩
/-- one more place behind -/
theorem best_up {q : Nat → Prop} {v : Nat → Int32} {k : Nat} {t : Int32} (hk : k < 2 ^ 31) (h : bestP q v 0 k t) : (¬ q k → bestP q v 0 (k + 1) t) ∧ (q k → t = -1 → bestP q v 0 (k + 1) (nI k)) ∧ (∀ j, j < k → t = nI j → q k → (v j ≤ v k → bestP q v 0 (k + 1) t) ∧ (¬ v j ≤ v k → bestP q v 0 (k + 1) (nI k))) := by
  refine ⟨fun hn => ?_, fun hq ht => ?_, fun j hj ht hq => ⟨fun hv => ?_, fun hv => ?_⟩⟩
  · rcases h with ⟨a1, a2⟩ | ⟨j, a1, a2, a3, a4, a5⟩
    · refine Or.inl ⟨a1, fun i h1 h2 => ?_⟩
      rcases (show i < k ∨ i = k by omega) with r | r
      · exact a2 i h1 r
      · rw [r]; exact hn
    · refine Or.inr ⟨j, a1, by omega, a3, a4, fun i h1 h2 h3 => ?_⟩
      rcases (show i < k ∨ i = k by omega) with r | r
      · exact a5 i h1 r h3
      · rw [r] at h3; exact absurd h3 hn
  · rcases h with ⟨a1, a2⟩ | ⟨j, a1, a2, a3, a4, a5⟩
    · refine Or.inr ⟨k, Nat.zero_le _, by omega, rfl, hq, fun i h1 h2 h3 => ?_⟩
      rcases (show i < k ∨ i = k by omega) with r | r
      · exact absurd h3 (a2 i h1 r)
      · rw [r]; exact ⟨Int32.le_refl _, fun z => by omega⟩
    · rw [a3] at ht; exact absurd ht (nI_neg1 (by omega))
  · rcases h with ⟨a1, a2⟩ | ⟨j', a1, a2, a3, a4, a5⟩
    · rw [a1] at ht; exact absurd ht.symm (nI_neg1 (by omega))
    · have : j' = j := (nI_eq (by omega) (by omega)).mp (a3.symm.trans ht)
      subst this
      refine Or.inr ⟨j', a1, by omega, a3, a4, fun i h1 h2 h3 => ?_⟩
      rcases (show i < k ∨ i = k by omega) with r | r
      · exact a5 i h1 r h3
      · rw [r]; exact ⟨hv, fun z => by omega⟩
  · rcases h with ⟨a1, a2⟩ | ⟨j', a1, a2, a3, a4, a5⟩
    · rw [a1] at ht; exact absurd ht.symm (nI_neg1 (by omega))
    · have : j' = j := (nI_eq (by omega) (by omega)).mp (a3.symm.trans ht)
      subst this
      have hlt : v k < v j' := Int32.not_le.mp hv
      refine Or.inr ⟨k, Nat.zero_le _, by omega, rfl, hq, fun i h1 h2 h3 => ?_⟩
      rcases (show i < k ∨ i = k by omega) with r | r
      · have := (a5 i h1 r h3).1
        exact ⟨Int32.le_of_lt (Int32.lt_of_lt_of_le hlt this), fun _ => Int32.lt_of_lt_of_le hlt this⟩
      · rw [r]; exact ⟨Int32.le_refl _, fun z => by omega⟩
/-- one more place ahead -/
theorem best_dn {q : Nat → Prop} {v : Nat → Int32} {k n : Nat} {t : Int32} (hn : n < 2 ^ 31) (hkn : k < n) (h : bestP q v (k + 1) n t) : (¬ q k → bestP q v k n t) ∧ (q k → t = -1 → bestP q v k n (nI k)) ∧ (∀ j, k < j → j < n → t = nI j → q k → (v j < v k → bestP q v k n t) ∧ (¬ v j < v k → bestP q v k n (nI k))) := by
  refine ⟨fun hq => ?_, fun hq ht => ?_, fun j hj hjn ht hq => ⟨fun hv => ?_, fun hv => ?_⟩⟩
  · rcases h with ⟨a1, a2⟩ | ⟨j, a1, a2, a3, a4, a5⟩
    · refine Or.inl ⟨a1, fun i h1 h2 => ?_⟩
      rcases (show k + 1 ≤ i ∨ i = k by omega) with r | r
      · exact a2 i r h2
      · rw [r]; exact hq
    · refine Or.inr ⟨j, by omega, a2, a3, a4, fun i h1 h2 h3 => ?_⟩
      rcases (show k + 1 ≤ i ∨ i = k by omega) with r | r
      · exact a5 i r h2 h3
      · rw [r] at h3; exact absurd h3 hq
  · rcases h with ⟨a1, a2⟩ | ⟨j, a1, a2, a3, a4, a5⟩
    · refine Or.inr ⟨k, Nat.le_refl _, hkn, rfl, hq, fun i h1 h2 h3 => ?_⟩
      rcases (show k + 1 ≤ i ∨ i = k by omega) with r | r
      · exact absurd h3 (a2 i r h2)
      · rw [r]; exact ⟨Int32.le_refl _, fun z => by omega⟩
    · rw [a3] at ht; exact absurd ht (nI_neg1 (by omega))
  · rcases h with ⟨a1, a2⟩ | ⟨j', a1, a2, a3, a4, a5⟩
    · rw [a1] at ht; exact absurd ht.symm (nI_neg1 (by omega))
    · have : j' = j := (nI_eq (by omega) (by omega)).mp (a3.symm.trans ht)
      subst this
      refine Or.inr ⟨j', by omega, a2, a3, a4, fun i h1 h2 h3 => ?_⟩
      rcases (show k + 1 ≤ i ∨ i = k by omega) with r | r
      · exact a5 i r h2 h3
      · rw [r]; exact ⟨Int32.le_of_lt hv, fun _ => hv⟩
  · rcases h with ⟨a1, a2⟩ | ⟨j', a1, a2, a3, a4, a5⟩
    · rw [a1] at ht; exact absurd ht.symm (nI_neg1 (by omega))
    · have : j' = j := (nI_eq (by omega) (by omega)).mp (a3.symm.trans ht)
      subst this
      have hle : v k ≤ v j' := Int32.not_lt.mp hv
      refine Or.inr ⟨k, Nat.le_refl _, hkn, rfl, hq, fun i h1 h2 h3 => ?_⟩
      rcases (show k + 1 ≤ i ∨ i = k by omega) with r | r
      · exact ⟨Int32.le_trans hle (a5 i r h2 h3).1, fun z => by omega⟩
      · rw [r]; exact ⟨Int32.le_refl _, fun z => by omega⟩
