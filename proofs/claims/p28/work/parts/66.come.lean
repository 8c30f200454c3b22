-- ===== one more being; a room =====
def newR (s c x t : Int32) : Nat → Int32 := fun j => if j = 0 then s else if j = 1 then c else if j = 2 then x else if j = 3 then x else if j = 4 then 5 else if j = 5 then 2 else if j = 6 then 2 else if j = 7 then 3 else if j = 8 then t else 0
def timeN (δ : DD) : Int32 := if turnD δ < 0 then 0 else d_R δ (turnD δ).toNatClampNeg 8
def comeD (δ : DD) (s c x : Int32) : DD := e_nR δ (d_n δ + 1) (upR (d_R δ) (d_n δ) (newR s c x (timeN δ)))
theorem rel_row {σ : SS} {δ : DD} {b : Nat} {g g' : Nat → Int32} (h : Rel σ (e_g δ b g)) (hg : ∀ j, j < 19 → g j = g' j) : Rel σ (e_g δ b g') := by
  obtain ⟨h1, h2, h3, h4, h5, h6, h7⟩ := h
  refine ⟨h1, h2, h3, fun b' hb' w hw => ?_, fun b' hb' e he => ?_, h6, h7⟩
  · have a := h4 b' hb' w hw
    show s_tr σ (b' * 9 + w) = upR (d_R δ) b g' b' w
    have a2 : s_tr σ (b' * 9 + w) = upR (d_R δ) b g b' w := a
    by_cases q : b' = b
    · subst q; rw [upR_s] at a2 ⊢; rw [a2]; exact hg w (by omega)
    · rw [upR_n q] at a2 ⊢; exact a2
  · obtain ⟨a, c⟩ := h5 b' hb' e he
    show s_st σ (b' * 5 + e) = upR (d_R δ) b g' b' (9 + e) ∧ s_tu σ (b' * 5 + e) = upR (d_R δ) b g' b' (14 + e)
    have a2 : s_st σ (b' * 5 + e) = upR (d_R δ) b g b' (9 + e) := a
    have c2 : s_tu σ (b' * 5 + e) = upR (d_R δ) b g b' (14 + e) := c
    by_cases q : b' = b
    · subst q; rw [upR_s] at a2 c2 ⊢; rw [a2, c2]; exact ⟨hg _ (by omega), hg _ (by omega)⟩
    · rw [upR_n q] at a2 c2 ⊢; exact ⟨a2, c2⟩
/-- the row that the State holds -/
def rowS (σ : SS) (b : Nat) : Nat → Int32 := fun j => if j < 9 then s_tr σ (b * 9 + j) else if j < 14 then s_st σ (b * 5 + (j - 9)) else s_tu σ (b * 5 + (j - 14))
theorem rel_more {σ : SS} {δ : DD} (h : Rel σ δ) (hn : d_n δ < 10) : Rel (w_n σ (s_n σ + 1)) (e_nR δ (d_n δ + 1) (upR (d_R δ) (d_n δ) (rowS σ (d_n δ)))) := by
  obtain ⟨h1, h2, h3, h4, h5, h6, h7⟩ := h
  refine ⟨by show s_n σ + 1 = d_n δ + 1; rw [h1], hn, h3, fun b hb w hw => ?_, fun b hb e he => ?_, h6, h7⟩
  · show s_tr σ (b * 9 + w) = upR (d_R δ) (d_n δ) (rowS σ (d_n δ)) b w
    have hb' : b < d_n δ + 1 := hb
    by_cases q : b = d_n δ
    · subst q
      rw [upR_s]
      unfold rowS
      rw [if_pos hw]
    · rw [upR_n q]; exact h4 b (by omega) w hw
  · show s_st σ (b * 5 + e) = upR (d_R δ) (d_n δ) (rowS σ (d_n δ)) b (9 + e) ∧ s_tu σ (b * 5 + e) = upR (d_R δ) (d_n δ) (rowS σ (d_n δ)) b (14 + e)
    have hb' : b < d_n δ + 1 := hb
    by_cases q : b = d_n δ
    · subst q
      rw [upR_s]
      unfold rowS
      rw [if_neg (by omega), if_pos (by omega), if_neg (by omega), if_neg (by omega), show 9 + e - 9 = e by omega, show 14 + e - 14 = e by omega]
      exact ⟨rfl, rfl⟩
    · rw [upR_n q]; exact h5 b (by omega) e he
theorem e_g_e (δ : DD) (n : Nat) (R : RW) (b : Nat) (g : Nat → Int32) : e_g (e_nR δ n R) b g = e_nR δ n (upR R b g) := rfl
theorem rel_noEff {b : Nat} : ∀ (m k : Nat) {σ : SS} {δ : DD} {g : Nat → Int32}, Rel σ (e_g δ b g) → b < d_n δ → k + m = 5 → Rel (noEff (nI b) m k σ) (e_g δ b (fun j => if (9 + k ≤ j ∧ j < 14) ∨ (14 + k ≤ j ∧ j < 19) then 0 else g j))
  | 0, k, σ, δ, g, h, hb, hk => rel_row h (fun j hj => by rw [if_neg (by omega)])
  | m + 1, k, σ, δ, g, h, hb, hk => by
    have h1 := rel_eff h (b := b) (e := k) hb (by omega) 0 0
    rw [e_g_R, e_g_u] at h1
    have h2 := rel_noEff (b := b) m (k + 1) h1 hb (by omega)
    refine rel_row h2 (fun j hj => ?_)
    by_cases q1 : j = 14 + k
    · subst q1
      rw [if_neg (by omega), pk_us, if_pos (by omega)]
    · by_cases q2 : j = 9 + k
      · subst q2
        rw [if_neg (by omega), pk_un q1, pk_us, if_pos (by omega)]
      · rw [pk_un q1, pk_un q2]
        by_cases q3 : (9 + (k + 1) ≤ j ∧ j < 14) ∨ (14 + (k + 1) ≤ j ∧ j < 19)
        · rw [if_pos q3, if_pos (by omega)]
        · rw [if_neg q3, if_neg (by omega)]
theorem ok_new {kd : Nat → Int32} {s c x : Nat} (t : Int32) (hs : s < 2) (hc : c < 160) (hk : kd c = 0 ∨ kd c = 3) (h1 : 1 ≤ x) (h2 : x ≤ 60) : okRow kd (newR (nI s) (nI c) (nI x) t) := by
  refine ⟨?_, ⟨x, x, rfl, rfl, Nat.le_refl x, h2, Or.inr ⟨h1, c, hc, rfl, hk⟩⟩, ⟨5, by decide, rfl⟩, ⟨2, by decide, rfl⟩, ⟨2, by decide, by decide, rfl⟩, ⟨3, by decide, rfl⟩, fun e he => ⟨0, 0, ?_, ?_, by decide, by decide, Iff.rfl⟩⟩
  · show nI s = 0 ∨ nI s = 1
    rcases (show s = 0 ∨ s = 1 by omega) with q | q <;> subst q
    · exact Or.inl rfl
    · exact Or.inr rfl
  · unfold newR
    rw [if_neg (by omega), if_neg (by omega), if_neg (by omega), if_neg (by omega), if_neg (by omega), if_neg (by omega), if_neg (by omega), if_neg (by omega), if_neg (by omega)]
    rfl
  · unfold newR
    rw [if_neg (by omega), if_neg (by omega), if_neg (by omega), if_neg (by omega), if_neg (by omega), if_neg (by omega), if_neg (by omega), if_neg (by omega), if_neg (by omega)]
    rfl
theorem turnD_or {δ : DD} (hn : d_n δ ≤ 10) : turnD δ = -1 ∨ ∃ j, j < d_n δ ∧ turnD δ = nI j ∧ ¬ d_R δ j 1 < 0 := by
  rcases turnD_best δ (by omega) with ⟨a, -⟩ | ⟨j, -, a2, a3, a4, -⟩
  · exact Or.inl a
  · exact Or.inr ⟨j, a2, a3, a4⟩
theorem IR.come {K : Nat} {σ : SS} {δ : DD} (h : IR K σ δ) (hn : d_n δ < 10) {s c x : Nat} (hs : s < 2) (hc : c < 160) (hk : d_k δ c = 0 ∨ d_k δ c = 3) (hno : onD δ (nI c) = -1) (h1 : 1 ≤ x) (h2 : x ≤ 60) : IR K (addF σ (nI s) (nI c) (nI x)) (comeD δ (nI s) (nI c) (nI x)) := by
  have hb : d_n δ < d_n δ + 1 := Nat.lt_succ_self _
  have r0 := rel_more h.1 hn
  rw [← e_g_e] at r0
  have go : ∀ {τ : SS} {g : Nat → Int32} (w : Nat) (v : Int32), w < 9 → Rel τ (e_g (e_nR δ (d_n δ + 1) (d_R δ)) (d_n δ) g) → Rel (putTraitF τ (nI (d_n δ)) (nI w) v) (e_g (e_nR δ (d_n δ + 1) (d_R δ)) (d_n δ) (upd g w v)) := by
    intro τ g w v hw hr
    have := rel_trait hr (b := d_n δ) (w := w) hb hw v
    rw [e_g_R, e_g_u] at this
    exact this
  have r8 := go 7 3 (by omega) (go 6 2 (by omega) (go 5 2 (by omega) (go 4 5 (by omega) (go 3 (nI x) (by omega) (go 2 (nI x) (by omega) (go 1 (nI c) (by omega) (go 0 (nI s) (by omega) r0)))))))
  have hsn : s_n σ = d_n δ := h.1.1
  have ht : newT σ (newF0 (w_n σ (s_n σ + 1)) (nI (s_n σ)) (nI s) (nI c) (nI x)) = timeN δ := by
    unfold newT timeN
    rw [h.turn]
    rcases turnD_or (δ := δ) h.1.2.1 with q | ⟨j, q1, q2, -⟩
    · rw [q, if_pos rfl, if_pos neg1_lt]
    · have hj : j < 2 ^ 31 := by omega
      rw [q2, if_neg (nI_neg1 hj), if_neg (nI_pos hj), nI_clamp hj, hsn]
      have := r8.tr (b := j) (w := 8) (show j < d_n δ + 1 by omega) (by omega)
      rw [e_g_Rn _ _ (show j ≠ d_n δ by omega)] at this
      rw [hsn] at this
      exact this
  have r9 := go 8 (timeN δ) (by omega) r8
  have r10 := rel_noEff (b := d_n δ) 5 0 r9 hb rfl
  have r11 := rel_lookF r10
  have he : addF σ (nI s) (nI c) (nI x) = lookF (noEff (nI (d_n δ)) 5 0 (newF1 σ (nI s) (nI c) (nI x))) (nI (d_n δ)) := by unfold addF; rw [hsn]
  have he2 : newF1 σ (nI s) (nI c) (nI x) = putTraitF (newF0 (w_n σ (s_n σ + 1)) (nI (d_n δ)) (nI s) (nI c) (nI x)) (nI (d_n δ)) 8 (timeN δ) := by
    unfold newF1
    rw [ht, hsn]
  rw [he, he2]
  have hrel : Rel (lookF (noEff (nI (d_n δ)) 5 0 (putTraitF (newF0 (w_n σ (s_n σ + 1)) (nI (d_n δ)) (nI s) (nI c) (nI x)) (nI (d_n δ)) 8 (timeN δ))) (nI (d_n δ))) (comeD δ (nI s) (nI c) (nI x)) := by
    refine rel_row (r11 (nI (d_n δ))) (fun j hj => ?_)
    unfold newR
    by_cases q : (9 + 0 ≤ j ∧ j < 14) ∨ (14 + 0 ≤ j ∧ j < 19)
    · rw [if_pos q, if_neg (by omega), if_neg (by omega), if_neg (by omega), if_neg (by omega), if_neg (by omega), if_neg (by omega), if_neg (by omega), if_neg (by omega), if_neg (by omega)]
    · rw [if_neg q]
      rcases (show j = 0 ∨ j = 1 ∨ j = 2 ∨ j = 3 ∨ j = 4 ∨ j = 5 ∨ j = 6 ∨ j = 7 ∨ j = 8 by omega) with r | r | r | r | r | r | r | r | r <;> subst r <;> rfl
  refine ⟨hrel, ?_, h.2.2⟩
  obtain ⟨g1, g2, g3, g4⟩ := h.m.2
  refine okD_iff.mpr ⟨⟨g1, g2, fun j hj => ?_, fun i j hi hj => ?_⟩, (okD_iff.mp h.2.1).2⟩
  · show okRow (d_k δ) (upR (d_R δ) (d_n δ) (newR (nI s) (nI c) (nI x) (timeN δ)) j)
    have hj' : j < d_n δ + 1 := hj
    by_cases q : j = d_n δ
    · rw [q, upR_s]; exact ok_new _ hs hc hk h1 h2
    · rw [upR_n q]; exact g3 j (by omega)
  · show upR (d_R δ) (d_n δ) (newR (nI s) (nI c) (nI x) (timeN δ)) i 1 = upR (d_R δ) (d_n δ) (newR (nI s) (nI c) (nI x) (timeN δ)) j 1 → ¬ upR (d_R δ) (d_n δ) (newR (nI s) (nI c) (nI x) (timeN δ)) i 1 = -1 → i = j
    have hi' : i < d_n δ + 1 := hi
    have hj' : j < d_n δ + 1 := hj
    have hn1 : newR (nI s) (nI c) (nI x) (timeN δ) 1 = nI c := rfl
    have hfree : ∀ j, j < d_n δ → ¬ d_R δ j 1 = nI c := by
      rcases h.m.who hc with ⟨-, q⟩ | ⟨o, o1, o2, -⟩
      · exact q
      · rw [hno] at o2; exact absurd o2.symm (nI_neg1 (by omega))
    by_cases q : i = d_n δ <;> by_cases r : j = d_n δ
    · intro _ _; omega
    · rw [q, upR_s, upR_n r, hn1]
      intro e1 _
      exact absurd e1.symm (hfree j (by omega))
    · rw [r, upR_s, upR_n q, hn1]
      intro e1 _
      exact absurd e1 (hfree i (by omega))
    · rw [upR_n q, upR_n r]; exact g4 i j (by omega) (by omega)
-- a room
theorem edge_rim : ∀ c, c < 160 → edgeD (nI c) = decide (c < 16 ∨ 144 ≤ c ∨ c % 16 = 0 ∨ c % 16 = 15) := by decide +kernel
theorem edge_eq : ∀ c, c < 160 → edgeB (nI c) = edgeD (nI c) := by decide +kernel
abbrev ZZ : Type := (Nat → Int32) × Int32
def stepZ (c : Nat) (z : ZZ) : ZZ := if edgeD (nI c) = true then z else if z.1 c = 0 then z else (upd z.1 c 0, z.2 + 1)
def rowZ (r : Nat) : Nat → Nat → ZZ → ZZ
  | 0, _, z => z
  | m + 1, c, z => rowZ r m (c + 1) (stepZ (16 * r + c) z)
def rowsZ (x w : Nat) : Nat → Nat → ZZ → ZZ
  | 0, _, z => z
  | m + 1, r, z => rowsZ x w m (r + 1) (rowZ r w x z)
theorem step_comm (a b : Nat) (z : ZZ) : stepZ a (stepZ b z) = stepZ b (stepZ a z) := by
  by_cases hab : a = b
  · rw [hab]
  · by_cases ea : edgeD (nI a) = true
    · have h : ∀ z, stepZ a z = z := fun z => by unfold stepZ; rw [if_pos ea]
      rw [h, h]
    · by_cases eb : edgeD (nI b) = true
      · have h : ∀ z, stepZ b z = z := fun z => by unfold stepZ; rw [if_pos eb]
        rw [h, h]
      · by_cases ka : z.1 a = 0 <;> by_cases kb : z.1 b = 0
        · have h1 : stepZ a z = z := by unfold stepZ; rw [if_neg ea, if_pos ka]
          have h2 : stepZ b z = z := by unfold stepZ; rw [if_neg eb, if_pos kb]
          rw [h1, h2, h1]
        · have h1 : stepZ a z = z := by unfold stepZ; rw [if_neg ea, if_pos ka]
          have h2 : stepZ b z = (upd z.1 b 0, z.2 + 1) := by unfold stepZ; rw [if_neg eb, if_neg kb]
          rw [h1, h2]
          unfold stepZ
          rw [if_neg ea]
          show (if upd z.1 b 0 a = 0 then _ else _) = _
          rw [pk_un hab, if_pos ka]
        · have h1 : stepZ a z = (upd z.1 a 0, z.2 + 1) := by unfold stepZ; rw [if_neg ea, if_neg ka]
          have h2 : stepZ b z = z := by unfold stepZ; rw [if_neg eb, if_pos kb]
          rw [h2, h1]
          unfold stepZ
          rw [if_neg eb]
          show _ = (if upd z.1 a 0 b = 0 then _ else _)
          rw [pk_un (fun q => hab q.symm), if_pos kb]
        · have h1 : stepZ a z = (upd z.1 a 0, z.2 + 1) := by unfold stepZ; rw [if_neg ea, if_neg ka]
          have h2 : stepZ b z = (upd z.1 b 0, z.2 + 1) := by unfold stepZ; rw [if_neg eb, if_neg kb]
          rw [h1, h2]
          unfold stepZ
          rw [if_neg ea, if_neg eb]
          show (if upd z.1 b 0 a = 0 then _ else _) = (if upd z.1 a 0 b = 0 then _ else _)
          rw [pk_un hab, if_neg ka, pk_un (fun q => hab q.symm), if_neg kb]
          show (upd (upd z.1 b 0) a 0, z.2 + 1 + 1) = (upd (upd z.1 a 0) b 0, z.2 + 1 + 1)
          congr 1
          funext j
          by_cases q1 : j = a
          · subst q1; rw [pk_us, pk_un hab, pk_us]
          · rw [pk_un q1]
            by_cases q2 : j = b
            · subst q2; rw [pk_us, pk_us]
            · rw [pk_un q2, pk_un q2, pk_un q1]
theorem rowZ_s (r m c : Nat) (z : ZZ) : rowZ r (m + 1) c z = rowZ r m (c + 1) (stepZ (16 * r + c) z) := rfl
theorem rowsZ_s (x w m r : Nat) (z : ZZ) : rowsZ x w (m + 1) r z = rowsZ x w m (r + 1) (rowZ r w x z) := rfl
theorem row_comm (a r : Nat) : ∀ (m c : Nat) (z : ZZ), stepZ a (rowZ r m c z) = rowZ r m c (stepZ a z)
  | 0, _, _ => rfl
  | m + 1, c, z => by
    rw [rowZ_s, rowZ_s, row_comm a r m (c + 1), step_comm]
theorem digDR_Z (x : Nat) : ∀ (m r : Nat) (z : ZZ), digDR x (m + 1) r z = digDR x m (r + 1) (stepZ (16 * r + x) z) := fun _ _ _ => rfl
theorem col_row (x r : Nat) (w c : Nat) : ∀ (m r' : Nat) (z : ZZ), digDR x m r' (rowZ r w c z) = rowZ r w c (digDR x m r' z)
  | 0, _, _ => rfl
  | m + 1, r', z => by
    rw [digDR_Z, digDR_Z, row_comm, col_row x r w c m (r' + 1)]
theorem rows_col (x w : Nat) : ∀ (m r : Nat) (z : ZZ), rowsZ x (w + 1) m r z = rowsZ (x + 1) w m r (digDR x m r z)
  | 0, _, _ => rfl
  | m + 1, r, z => by
    rw [rowsZ_s, rowsZ_s, rowZ_s, rows_col x w m (r + 1), digDR_Z, col_row]
theorem rows_0 (x : Nat) : ∀ (m r : Nat) (z : ZZ), rowsZ x 0 m r z = z
  | 0, _, _ => rfl
  | m + 1, r, z => rows_0 x m (r + 1) z
theorem cols_rows (y h : Nat) : ∀ (w x : Nat) (z : ZZ), digDC y h w x z = rowsZ x w h y z
  | 0, x, z => (rows_0 x h y z).symm
  | w + 1, x, z => by
    rw [rows_col]
    exact cols_rows y h w (x + 1) (digDR x h y z)
theorem digC_Z (r : Nat) (hr : r < 10) : ∀ (m c : Nat) (σ : SS) (t : Int32), c + m ≤ 16 → digC r m c σ t = (w_ki σ (rowZ r m c (s_ki σ, t)).1, (rowZ r m c (s_ki σ, t)).2)
  | 0, c, σ, t, _ => rfl
  | m + 1, c, σ, t, hc => by
    unfold digC
    rw [cell_rc, edge_eq _ (by omega)]
    show _ = (w_ki σ (rowZ r m (c + 1) (stepZ (16 * r + c) (s_ki σ, t))).1, (rowZ r m (c + 1) (stepZ (16 * r + c) (s_ki σ, t))).2)
    by_cases e : edgeD (nI (16 * r + c)) = true
    · have h1 : stepZ (16 * r + c) (s_ki σ, t) = (s_ki σ, t) := by unfold stepZ; rw [if_pos e]
      rw [if_pos e, h1]
      exact digC_Z r hr m (c + 1) σ t (by omega)
    · rw [if_neg e, kind_c σ (by omega)]
      by_cases k : s_ki σ (16 * r + c) = 0
      · have h1 : stepZ (16 * r + c) (s_ki σ, t) = (s_ki σ, t) := by
          unfold stepZ
          rw [if_neg e]
          exact if_pos k
        rw [if_pos k, h1]
        exact digC_Z r hr m (c + 1) σ t (by omega)
      · have h1 : stepZ (16 * r + c) (s_ki σ, t) = (upd (s_ki σ) (16 * r + c) 0, t + 1) := by
          unfold stepZ
          rw [if_neg e]
          exact if_neg k
        have h2 : putKindF σ (nI (16 * r + c)) 0 = w_ki σ (upd (s_ki σ) (16 * r + c) 0) := by
          show w_ki σ (wr (s_ki σ) 160 (nI (16 * r + c)) 0) = _
          rw [wr_at (by omega) (by decide)]
        rw [if_neg k, h1, h2, digC_Z r hr m (c + 1) _ (t + 1) (by omega)]
theorem digR_Z (x w : Nat) (hx : x + w ≤ 16) : ∀ (m r : Nat) (σ : SS) (t : Int32), r + m ≤ 10 → digR x w m r σ t = (w_ki σ (rowsZ x w m r (s_ki σ, t)).1, (rowsZ x w m r (s_ki σ, t)).2)
  | 0, r, σ, t, _ => rfl
  | m + 1, r, σ, t, hr => by
    unfold digR
    rw [digC_Z r (by omega) w x σ t hx]
    exact digR_Z x w hx m (r + 1) _ _ (by omega)
def agZ (z z' : ZZ) : Prop := (∀ c, c < 160 → z.1 c = z'.1 c) ∧ z.2 = z'.2
theorem ag_step {z z' : ZZ} (h : agZ z z') {c : Nat} (hc : c < 160) : agZ (stepZ c z) (stepZ c z') := by
  unfold stepZ
  by_cases e : edgeD (nI c) = true
  · rw [if_pos e, if_pos e]; exact h
  · rw [if_neg e, if_neg e, h.1 c hc]
    by_cases k : z'.1 c = 0
    · rw [if_pos k, if_pos k]; exact h
    · rw [if_neg k, if_neg k]
      refine ⟨fun j hj => ?_, by show z.2 + 1 = z'.2 + 1; rw [h.2]⟩
      show upd z.1 c 0 j = upd z'.1 c 0 j
      by_cases q : j = c
      · subst q; rw [pk_us, pk_us]
      · rw [pk_un q, pk_un q]; exact h.1 j hj
theorem ag_row {r : Nat} (hr : r < 10) : ∀ (m c : Nat) {z z' : ZZ}, c + m ≤ 16 → agZ z z' → agZ (rowZ r m c z) (rowZ r m c z')
  | 0, _, _, _, _, h => h
  | m + 1, c, z, z', hc, h => ag_row hr m (c + 1) (by omega) (ag_step h (by omega))
theorem ag_rows (x w : Nat) (hx : x + w ≤ 16) : ∀ (m r : Nat) {z z' : ZZ}, r + m ≤ 10 → agZ z z' → agZ (rowsZ x w m r z) (rowsZ x w m r z')
  | 0, _, _, _, _, h => h
  | m + 1, r, z, z', hr, h => ag_rows x w hx m (r + 1) (by omega) (ag_row (by omega) w x hx h)
theorem ok_step {δ : DD} {z : ZZ} (h : okM (e_k δ z.1)) {c : Nat} (hc : c < 160) : okM (e_k δ (stepZ c z).1) := by
  unfold stepZ
  by_cases e : edgeD (nI c) = true
  · rw [if_pos e]; exact h
  · rw [if_neg e]
    by_cases k : z.1 c = 0
    · rw [if_pos k]; exact h
    · rw [if_neg k]
      refine okM_kind (δ := e_k δ z.1) h (k := 0) hc (fun q => ?_) (by decide) (Or.inl (Or.inl rfl))
      rw [edge_rim c hc] at e
      exact e (decide_eq_true q)
theorem ok_row {δ : DD} {r : Nat} (hr : r < 10) : ∀ (m c : Nat) {z : ZZ}, c + m ≤ 16 → okM (e_k δ z.1) → okM (e_k δ (rowZ r m c z).1)
  | 0, _, _, _, h => h
  | m + 1, c, z, hc, h => ok_row hr m (c + 1) (by omega) (ok_step h (by omega))
theorem ok_rows {δ : DD} (x w : Nat) (hx : x + w ≤ 16) : ∀ (m r : Nat) {z : ZZ}, r + m ≤ 10 → okM (e_k δ z.1) → okM (e_k δ (rowsZ x w m r z).1)
  | 0, _, _, _, h => h
  | m + 1, r, z, hr, h => ok_rows x w hx m (r + 1) (by omega) (ok_row (by omega) w x hx h)
theorem IR.dig {K : Nat} {σ : SS} {δ : DD} (h : IR K σ δ) {x y w hh : Nat} (hx : x + w ≤ 16) (hy : y + hh ≤ 10) : IR K (digF σ x y w hh).1 (e_k δ (digD δ x y w hh).1) ∧ (digF σ x y w hh).2 = (digD δ x y w hh).2 := by
  have e1 : digF σ x y w hh = _ := digR_Z x w hx hh y σ 0 hy
  have e2 : digD δ x y w hh = _ := cols_rows y hh w x (d_k δ, 0)
  have ag := ag_rows x w hx hh y hy (show agZ (s_ki σ, 0) (d_k δ, 0) from ⟨h.1.2.2.1, rfl⟩)
  have ok := ok_rows (δ := δ) x w hx hh y (z := (d_k δ, 0)) hy h.m.2
  rw [e1, e2]
  obtain ⟨g1, g2, g3, g4, g5, g6, g7⟩ := h.1
  exact ⟨⟨⟨g1, g2, ag.1, g4, g5, g6, g7⟩, okD_iff.mpr ⟨ok, (okD_iff.mp h.2.1).2⟩, h.2.2⟩, ag.2⟩
