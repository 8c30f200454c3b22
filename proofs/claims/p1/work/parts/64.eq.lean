-- ===== a fresh game: the class and the reference answer alike =====
theorem fillL_at (x : Int32) : ∀ (m k : Nat) (g : Nat → Int32) (j : Nat), k + m < 2 ^ 31 → fillL x m k g j = if k ≤ j ∧ j < k + m then x else g j
  | 0, k, g, j, _ => by rw [if_neg (by omega)]; rfl
  | m + 1, k, g, j, h => by
    show fillL x m (k + 1) (upd g (nI k).toNatClampNeg x) j = _
    rw [fillL_at x m (k + 1) _ j (by omega), nI_clamp (by omega)]
    unfold upd
    by_cases h1 : k + 1 ≤ j ∧ j < k + 1 + m
    · rw [if_pos h1, if_pos (by omega)]
    · rw [if_neg h1]
      by_cases h2 : j = k
      · rw [if_pos h2, if_pos (by omega)]
      · rw [if_neg h2, if_neg (by omega)]
theorem s0_ki {j : Nat} (h : j < 160) : s_ki s0 j = 1 := by
  show fillF z0 160 1 j = 1
  unfold fillF
  rw [fillL_at 1 160 0 z0 j (by omega), if_pos (by omega)]
theorem rd_1 {f : Nat → Int32} {n : Nat} {d i : Int32} (h : ∀ j, j < n → f j = d) : rd f n d i = d := by
  unfold rd
  by_cases h1 : i < 0
  · rw [if_pos h1]
  · rw [if_neg h1]
    by_cases h2 : nI n ≤ i
    · rw [if_pos h2]
    · rw [if_neg h2]
      obtain ⟨j, hj, rfl⟩ := nI_of h1
      rw [nI_clamp hj]
      exact h j (Nat.lt_of_not_le fun q => h2 (nI_le q hj))
theorem s0_kind (c : Int32) : kindF s0 c = 1 := rd_1 (fun _ hj => s0_ki hj)
theorem s0_on (c : Int32) : onF s0 c = -1 := rfl
theorem s0_being (b : Int32) : beingB s0 b = false := being_0 rfl b
theorem s0_seen (x y : Int32) : seenB s0 x y = decide (apartF x y ≤ 1) := by
  unfold seenB
  by_cases h : apartF x y ≤ 7
  · obtain ⟨j, hj, e⟩ := apart_le h
    rw [if_pos h, e, nI_clamp (by omega)]
    rcases Nat.lt_or_ge j 2 with q | q
    · rw [show j - 1 = 0 by omega, decide_eq_true (show nI j ≤ 1 from nI_le (a := j) (b := 1) (by omega) (by omega))]
      rfl
    · obtain ⟨i, rfl⟩ : ∃ i, j = i + 2 := ⟨j - 2, by omega⟩
      rw [show i + 2 - 1 = i + 1 by omega, decide_eq_false (show ¬ nI (i + 2) ≤ 1 from nI_ge (a := 1) (b := i + 2) (by omega) (by omega))]
      unfold seenL
      rw [s0_kind]
      rfl
  · rw [if_neg h, decide_eq_false (fun q => h (Int32.le_trans q (by decide)))]
theorem s0_known (s c : Int32) : knownB s0 s c = false := by
  unfold knownB
  by_cases h1 : c < 0
  · rw [if_pos h1]
  · rw [if_neg h1]
    by_cases h2 : nI 160 ≤ c
    · rw [if_pos h2]
    · rw [if_neg h2, if_pos (show s_kn s0 c.toNatClampNeg &&& ((1 : Int32) <<< (s &&& 31)) = 0 from Int32.zero_and)]
theorem s0_knownL (s : Int32) : ∀ (m k : Nat) (t : Int32), knownL s0 s m k t = t
  | 0, _, _ => rfl
  | m + 1, k, t => by
    unfold knownL
    rw [s0_known, if_neg (by decide)]
    exact s0_knownL s m (k + 1) t
theorem s0_cnt (j : Nat) (hj : j ≤ 8) : countF s0 0 (nI j) = manyM j := by
  rcases (show j = 0 ∨ j = 1 ∨ j = 2 ∨ j = 3 ∨ j = 4 ∨ j = 5 ∨ j = 6 ∨ j = 7 ∨ j = 8 by omega) with rfl | rfl | rfl | rfl | rfl | rfl | rfl | rfl | rfl
  · rfl
  · rfl
  · rfl
  · rfl
  · rfl
  · rfl
  · have e : countF s0 0 (nI 6) = knownF s0 0 := by
      unfold countF
      rw [if_neg (show ¬ nI 6 = 0 by decide), if_neg (show ¬ nI 6 = 1 by decide), if_neg (show ¬ nI 6 = 2 by decide), if_neg (show ¬ nI 6 = 3 by decide), if_neg (show ¬ nI 6 = 4 by decide), if_neg (show ¬ nI 6 = 5 by decide), if_pos (show nI 6 = 6 by decide)]
    rw [e]
    unfold knownF
    rw [s0_knownL]
    rfl
  · have e : countF s0 0 (nI 7) = knownF s0 1 := by
      unfold countF
      rw [if_neg (show ¬ nI 7 = 0 by decide), if_neg (show ¬ nI 7 = 1 by decide), if_neg (show ¬ nI 7 = 2 by decide), if_neg (show ¬ nI 7 = 3 by decide), if_neg (show ¬ nI 7 = 4 by decide), if_neg (show ¬ nI 7 = 5 by decide), if_neg (show ¬ nI 7 = 6 by decide), if_pos (show nI 7 = 7 by decide)]
    rw [e]
    unfold knownF
    rw [s0_knownL]
    rfl
  · rfl
theorem s0_count {x : Int32} (h : withinB x 0 8 = true) : countF s0 0 x = manyM x.toNatClampNeg := by
  obtain ⟨j, hj, rfl⟩ := within_0 (n := 8) (by decide) h
  rw [nI_clamp (by omega)]
  exact s0_cnt j hj
theorem s0_set2 (c k : Int32) : setT2 s0 c k = 0 := by
  unfold setT2
  rw [s0_on, if_pos rfl]
  split <;> rfl
theorem s0_set (x y : Int32) : setT s0 x y = setTf x y := by
  unfold setT setTf
  rw [s0_set2]
theorem side_within (s : Int32) : sideB s = withinB s 0 1 := by
  unfold sideB withinB
  by_cases h0 : s = 0
  · subst h0; decide
  · by_cases h1 : s = 1
    · subst h1; decide
    · rw [if_neg h0, if_neg h1]
      by_cases h2 : s < 0
      · rw [if_pos h2]
      · rw [if_neg h2]
        obtain ⟨j, hj, rfl⟩ := nI_of h2
        have hj2 : 1 < j := by
          rcases Nat.lt_or_ge 1 j with q | q
          · exact q
          · rcases (show j = 0 ∨ j = 1 by omega) with rfl | rfl
            · exact absurd rfl h0
            · exact absurd rfl h1
        rw [if_pos (show (1 : Int32) < nI j from nI_lt (a := 1) (b := j) hj2 hj)]
theorem s0_come (s c x : Int32) : comeT s0 s c x = comeTf s c x := by
  unfold comeT comeTf comeT2
  rw [s0_kind, if_pos (show stopsB 1 = true from rfl), side_within]
theorem s0_knows (s c : Int32) : knowsT s c = knowsTf s c := by
  unfold knowsT knowsTf
  rw [side_within]
theorem s0_watch (s c : Int32) : watchF s0 s c = 0 := rfl
theorem s0_become (b f g s : Int32) : becomeT s0 b f g s = 1 := by unfold becomeT; rw [s0_being, if_neg (by decide)]
theorem s0_lay (b e t u : Int32) : layT s0 b e t u = 1 := by unfold layT; rw [s0_being, if_neg (by decide)]
theorem s0_of (b w : Int32) : ofT s0 b w = 1 := by unfold ofT; rw [s0_being, if_neg (by decide)]
theorem s0_effect (b e : Int32) : effectT s0 b e = 1 := by unfold effectT; rw [s0_being, if_neg (by decide)]
theorem s0_target (b : Int32) : targetT s0 b = 1 := by unfold targetT; rw [s0_being, if_neg (by decide)]
theorem s0_hit (b o : Int32) : hitT s0 b o = 1 := by unfold hitT; rw [s0_being, if_neg (by decide)]
theorem s0_dgW : ∀ (m k : Nat) (d : Int64), k + m ≤ 9 → dgW s0 0 m k d = dgMW m k d
  | 0, _, _, _ => rfl
  | m + 1, k, d, h => by
    unfold dgW dgMW
    rw [s0_cnt k (by omega)]
    exact s0_dgW m (k + 1) _ (by omega)
theorem s0_dgC {g : Nat → Int32} (hg : ∀ j, j < 160 → g j = 1) : ∀ (m k : Nat) (d : Int64), k + m ≤ 160 → dgC s0 m k d = dgMC g m k d
  | 0, _, _, _ => rfl
  | m + 1, k, d, h => by
    unfold dgC dgMC
    rw [s0_kind, hg k (by omega)]
    exact s0_dgC hg m (k + 1) _ (by omega)
theorem s0_digest {g : Nat → Int32} (hg : ∀ j, j < 160 → g j = 1) : dig0 s0 0 = digM64 g := by
  unfold dig0 digM64
  rw [s0_dgW 9 0 _ (by omega), s0_dgC hg 160 0 _ (by omega)]
-- the cells that a dig makes floor
def ecL (r : Nat) : Nat → Nat → Int32 → Int32
  | 0, _, t => t
  | m + 1, c, t => ecL r m (c + 1) (if edgeB (nI (16 * r + c)) = true then t else t + 1)
def erL (x w : Nat) : Nat → Nat → Int32 → Int32
  | 0, _, t => t
  | m + 1, r, t => erL x w m (r + 1) (ecL r w x t)
theorem cell_rc (r c : Nat) : nI r * 16 + nI c = nI (16 * r + c) := by
  rw [show nI r * 16 = nI (r * 16) from pk_mul r 16, nI_add, Nat.mul_comm]
theorem put_ki {σ : SS} {j : Nat} (h : j < 160) (x : Int32) : s_ki (putKindF σ (nI j) x) = upd (s_ki σ) j x := by
  show wr (s_ki σ) 160 (nI j) x = _
  unfold wr
  rw [if_neg (nI_pos (by omega)), if_neg (nI_ge (a := j) (b := 160) h (by omega)), nI_clamp (by omega)]
theorem kind_at {σ : SS} {j : Nat} (h : j < 160) (h1 : s_ki σ j = 1) : kindF σ (nI j) = 1 := by
  unfold kindF rd
  rw [if_neg (nI_pos (by omega)), if_neg (nI_ge (a := j) (b := 160) h (by omega)), nI_clamp (by omega)]
  exact h1
theorem digC_ec (r : Nat) (hr : r < 10) : ∀ (m c : Nat) (σ : SS) (t : Int32), c + m ≤ 16 → (∀ j, 16 * r + c ≤ j → j < 160 → s_ki σ j = 1) → (digC r m c σ t).2 = ecL r m c t ∧ ∀ j, 16 * r + c + m ≤ j → j < 160 → s_ki (digC r m c σ t).1 j = 1
  | 0, c, σ, t, _, h => ⟨rfl, fun j h1 h2 => h j (by omega) h2⟩
  | m + 1, c, σ, t, hc, h => by
    unfold digC ecL
    rw [cell_rc]
    by_cases h1 : edgeB (nI (16 * r + c)) = true
    · simp only [if_pos h1]
      obtain ⟨a, b⟩ := digC_ec r hr m (c + 1) σ t (by omega) (fun j h1 h2 => h j (by omega) h2)
      exact ⟨a, fun j h1 h2 => b j (by omega) h2⟩
    · simp only [if_neg h1]
      rw [kind_at (by omega) (h (16 * r + c) (Nat.le_refl _) (by omega)), if_neg (by decide)]
      obtain ⟨a, b⟩ := digC_ec r hr m (c + 1) (putKindF σ (nI (16 * r + c)) 0) (t + 1) (by omega) (fun j h1 h2 => by
        rw [put_ki (by omega)]
        unfold upd
        rw [if_neg (by omega)]
        exact h j (by omega) h2)
      exact ⟨a, fun j h1 h2 => b j (by omega) h2⟩
theorem digR_er (x w : Nat) (hx : x + w ≤ 16) : ∀ (m r : Nat) (σ : SS) (t : Int32), r + m ≤ 10 → (∀ j, 16 * r ≤ j → j < 160 → s_ki σ j = 1) → (digR x w m r σ t).2 = erL x w m r t
  | 0, _, _, _, _, _ => rfl
  | m + 1, r, σ, t, hr, h => by
    unfold digR erL
    obtain ⟨a, b⟩ := digC_ec r (by omega) w x σ t (by omega) (fun j h1 h2 => h j (by omega) h2)
    rw [a]
    exact digR_er x w hx m (r + 1) _ _ (by omega) (fun j h1 h2 => b j (by omega) h2)
def dstep (x y w h : Int32) (k : Nat) (t : Int32) : Int32 := if edgeB (nI k) = true then t else if withinB (colI (nI k)) x (x + w - 1) = true then if withinB (rowI (nI k)) y (y + h - 1) = true then t + 1 else t else t
theorem digML_s (x y w h : Int32) (m k : Nat) (t : Int32) : digML x y w h (m + 1) k t = digML x y w h m (k + 1) (dstep x y w h k t) := by
  show (if edgeB (nI k) = true then _ else _) = _
  unfold dstep
  by_cases h1 : edgeB (nI k) = true
  · rw [if_pos h1, if_pos h1]
  · rw [if_neg h1, if_neg h1]
    by_cases h2 : withinB (colI (nI k)) x (x + w - 1) = true
    · rw [if_pos h2, if_pos h2]
      by_cases h3 : withinB (rowI (nI k)) y (y + h - 1) = true
      · rw [if_pos h3, if_pos h3]
      · rw [if_neg h3, if_neg h3]
    · rw [if_neg h2, if_neg h2]
theorem within_d {a b c : Nat} (ha : a < 2 ^ 31) (hb : b < 2 ^ 31) (hc : c < 2 ^ 31) : (withinB (nI a) (nI b) (nI c) = true) ↔ (b ≤ a ∧ a ≤ c) := by
  unfold withinB
  by_cases h1 : a < b
  · rw [if_pos (nI_lt h1 hb)]
    exact ⟨fun q => absurd q (by decide), fun q => by omega⟩
  · rw [if_neg (nI_nlt (by omega) ha)]
    by_cases h2 : c < a
    · rw [if_pos (nI_lt h2 ha)]
      exact ⟨fun q => absurd q (by decide), fun q => by omega⟩
    · rw [if_neg (nI_nlt (by omega) hc)]
      exact ⟨fun _ => by omega, fun _ => rfl⟩
theorem end_n {a b : Nat} (h : 1 ≤ b) : nI a + nI b - 1 = nI (a + b - 1) := by
  rw [nI_add]
  exact pk_sub (a := a + b) (b := 1) (by omega)
/-- one cell at row r, column c -/
theorem dstep_n {X Y V Hh r c : Nat} (hr : r < 10) (hc : c < 16) (hX : X + V ≤ 16) (hY : Y + Hh ≤ 10) (hV : 1 ≤ V) (hH : 1 ≤ Hh) (t : Int32) : dstep (nI X) (nI Y) (nI V) (nI Hh) (16 * r + c) t = if X ≤ c ∧ c < X + V ∧ Y ≤ r ∧ r < Y + Hh then (if edgeB (nI (16 * r + c)) = true then t else t + 1) else t := by
  unfold dstep
  rw [(row_col (16 * r + c) (by omega)).1, (row_col (16 * r + c) (by omega)).2, end_n hV, end_n hH, show (16 * r + c) / 16 = r by omega, show (16 * r + c) % 16 = c by omega]
  by_cases h1 : edgeB (nI (16 * r + c)) = true
  · rw [if_pos h1]
    split <;> rfl
  · rw [if_neg h1]
    by_cases h2 : X ≤ c ∧ c < X + V
    · rw [if_pos ((within_d (by omega) (by omega) (by omega)).mpr (by omega))]
      by_cases h3 : Y ≤ r ∧ r < Y + Hh
      · rw [if_pos ((within_d (by omega) (by omega) (by omega)).mpr (by omega)), if_pos (by omega), if_neg h1]
      · rw [if_neg (fun q => h3 (by have := (within_d (by omega) (by omega) (by omega)).mp q; omega)), if_neg (by omega)]
    · rw [if_neg (fun q => h2 (by have := (within_d (by omega) (by omega) (by omega)).mp q; omega)), if_neg (by omega)]
/-- a row from its column c on -/
theorem digML_row {X Y V Hh r : Nat} (hr : r < 10) (hX : X + V ≤ 16) (hY : Y + Hh ≤ 10) (hV : 1 ≤ V) (hH : 1 ≤ Hh) (n : Nat) : ∀ (m c : Nat) (t : Int32), c + m = 16 → digML (nI X) (nI Y) (nI V) (nI Hh) (m + n) (16 * r + c) t = digML (nI X) (nI Y) (nI V) (nI Hh) n (16 * (r + 1)) (if Y ≤ r ∧ r < Y + Hh then (if c ≤ X then ecL r V X t else if c < X + V then ecL r (X + V - c) c t else t) else t)
  | 0, c, t, hc => by
    rw [Nat.zero_add, show 16 * r + c = 16 * (r + 1) by omega]
    congr 1
    split
    · rw [if_neg (show ¬ c ≤ X by omega), if_neg (show ¬ c < X + V by omega)]
    · rfl
  | m + 1, c, t, hc => by
    rw [show m + 1 + n = (m + n) + 1 by omega, digML_s, dstep_n hr (by omega) hX hY hV hH, show 16 * r + c + 1 = 16 * r + (c + 1) by omega, digML_row hr hX hY hV hH n m (c + 1) _ (by omega)]
    congr 1
    by_cases hy : Y ≤ r ∧ r < Y + Hh
    · rw [if_pos hy, if_pos hy]
      by_cases h1 : c < X
      · rw [if_neg (show ¬ (X ≤ c ∧ c < X + V ∧ Y ≤ r ∧ r < Y + Hh) by omega), if_pos (show c + 1 ≤ X by omega), if_pos (show c ≤ X by omega)]
      · by_cases h2 : c < X + V
        · rw [if_pos (show X ≤ c ∧ c < X + V ∧ Y ≤ r ∧ r < Y + Hh by omega), if_neg (show ¬ c + 1 ≤ X by omega)]
          have e : ecL r (X + V - c) c t = if c + 1 < X + V then ecL r (X + V - (c + 1)) (c + 1) (if edgeB (nI (16 * r + c)) = true then t else t + 1) else (if edgeB (nI (16 * r + c)) = true then t else t + 1) := by
            rw [show X + V - c = (X + V - (c + 1)) + 1 by omega]
            show ecL r (X + V - (c + 1)) (c + 1) _ = _
            by_cases h3 : c + 1 < X + V
            · rw [if_pos h3]
            · rw [if_neg h3, show X + V - (c + 1) = 0 by omega]
              rfl
          rw [← e]
          by_cases h4 : c ≤ X
          · have : c = X := by omega
            subst this
            rw [if_pos (Nat.le_refl _), show c + V - c = V by omega]
          · rw [if_neg h4, if_pos h2]
        · rw [if_neg (show ¬ (X ≤ c ∧ c < X + V ∧ Y ≤ r ∧ r < Y + Hh) by omega), if_neg (show ¬ c + 1 ≤ X by omega), if_neg (show ¬ c + 1 < X + V by omega), if_neg (show ¬ c ≤ X by omega), if_neg (show ¬ c < X + V by omega)]
    · rw [if_neg hy, if_neg hy, if_neg (show ¬ (X ≤ c ∧ c < X + V ∧ Y ≤ r ∧ r < Y + Hh) by omega)]
theorem digML_rows {X Y V Hh : Nat} (hX : X + V ≤ 16) (hY : Y + Hh ≤ 10) (hV : 1 ≤ V) (hH : 1 ≤ Hh) : ∀ (m r : Nat) (t : Int32), r + m = 10 → digML (nI X) (nI Y) (nI V) (nI Hh) (16 * m) (16 * r) t = if r ≤ Y then erL X V Hh Y t else if r < Y + Hh then erL X V (Y + Hh - r) r t else t
  | 0, r, t, hr => by
    rw [if_neg (show ¬ r ≤ Y by omega), if_neg (show ¬ r < Y + Hh by omega)]
    rfl
  | m + 1, r, t, hr => by
    rw [show 16 * (m + 1) = 16 + 16 * m by omega]
    have h := digML_row (r := r) (by omega) hX hY hV hH (16 * m) 16 0 t (by omega)
    rw [Nat.add_zero] at h
    rw [h, if_pos (Nat.zero_le _), digML_rows hX hY hV hH m (r + 1) _ (by omega)]
    by_cases h1 : r < Y
    · rw [if_pos (show r + 1 ≤ Y by omega), if_neg (show ¬ (Y ≤ r ∧ r < Y + Hh) by omega), if_pos (show r ≤ Y by omega)]
    · by_cases h2 : r < Y + Hh
      · rw [if_neg (show ¬ r + 1 ≤ Y by omega), if_pos (show Y ≤ r ∧ r < Y + Hh by omega)]
        have e : erL X V (Y + Hh - r) r t = if r + 1 < Y + Hh then erL X V (Y + Hh - (r + 1)) (r + 1) (ecL r V X t) else ecL r V X t := by
          rw [show Y + Hh - r = (Y + Hh - (r + 1)) + 1 by omega]
          show erL X V (Y + Hh - (r + 1)) (r + 1) _ = _
          by_cases h3 : r + 1 < Y + Hh
          · rw [if_pos h3]
          · rw [if_neg h3, show Y + Hh - (r + 1) = 0 by omega]
            rfl
        rw [← e]
        by_cases h4 : r ≤ Y
        · have : r = Y := by omega
          subst this
          rw [if_pos (Nat.le_refl _), show r + Hh - r = Hh by omega]
        · rw [if_neg h4, if_pos h2]
      · rw [if_neg (show ¬ r + 1 ≤ Y by omega), if_neg (show ¬ r + 1 < Y + Hh by omega), if_neg (show ¬ (Y ≤ r ∧ r < Y + Hh) by omega), if_neg (show ¬ r ≤ Y by omega), if_neg (show ¬ r < Y + Hh by omega)]
theorem s0_dig {x y w h : Int32} (h0 : digT x y w h = 0) : (digA s0 x y w h).2 = digM x y w h 160 0 0 := by
  unfold digT at h0
  by_cases h1 : withinB x 0 15 = true
  · rw [if_pos h1] at h0
    by_cases h2 : withinB y 0 9 = true
    · rw [if_pos h2] at h0
      by_cases h3 : withinB w 1 (16 - x) = true
      · rw [if_pos h3] at h0
        by_cases h4 : withinB h 1 (10 - y) = true
        · obtain ⟨X, Y, V, Hh, rfl, rfl, rfl, rfl, hX, hY, hV, hH⟩ := dig_args h1 h2 h3 h4
          rw [digA_n s0 hX hY]
          unfold digF digM
          rw [digR_er X V hX Hh Y s0 0 (by omega) (fun j _ hj => s0_ki hj)]
          have e := digML_rows hX hY hV hH 10 0 0 rfl
          rw [if_pos (Nat.zero_le _)] at e
          exact e.symm
        · rw [if_neg h4] at h0; cases h0
      · rw [if_neg h3] at h0; cases h0
    · rw [if_neg h2] at h0; cases h0
  · rw [if_neg h1] at h0; cases h0
