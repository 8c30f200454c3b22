-- ===== the reference on a game without beings =====
abbrev qW (cI : ClassId) (h g0 v0 : Nat) (th : Int32) (g : Nat → Int32) (gm : Int32) : va_W := [(h, .inr (5, [.int th, .ref g0, .ref v0, .int gm])), (g0, .inl (cI, 683, .inl g))]
theorem cell_within (x : Int32) : withinB x 0 159 = cellB x := by
  unfold withinB cellB
  by_cases h : x < 0
  · rw [if_pos h, if_pos h]
  · rw [if_neg h, if_neg h]
    have e : (159 < x) ↔ (160 ≤ x) := by
      rw [Int32.lt_iff_toInt_lt, Int32.le_iff_toInt_le]
      have a : (159 : Int32).toInt = 159 := by decide
      have b : (160 : Int32).toInt = 160 := by decide
      omega
    by_cases h2 : 159 < x
    · rw [if_pos h2, if_pos (e.mp h2)]
    · rw [if_neg h2, if_neg (fun q => h2 (e.mpr q))]
def apartM (x y : Int32) : Int32 := maxI (absI (colI x - colI y)) (absI (rowI x - rowI y))
def roundM (k d n : Int32) : Int32 := (2 * k * d + n + 2 * n * 20) / (2 * n) - 20
theorem nz2r {j : Nat} (h1 : 1 ≤ j) (h2 : j ≤ 7) : ¬ 2 * nI j = 0 := by
  have e : (2 : Int32) * nI j = nI (2 * j) := pk_mul 2 j
  rw [e]
  exact nI_ne0 (by omega) (by omega)
theorem within_m1 (x : Int32) : withinB x 0 (-1) = false := by
  unfold withinB
  by_cases h : x < 0
  · rw [if_pos h]
  · rw [if_neg h, if_pos (Int32.lt_of_lt_of_le (by decide) (Int32.not_lt.mp h))]
theorem cell_n {x : Int32} (h : cellB x = true) : ∃ j : Nat, j < 160 ∧ x = nI j := by
  rw [← cell_within] at h
  obtain ⟨j, hj, e⟩ := within_0 (n := 159) (by decide) h
  exact ⟨j, by omega, e⟩
theorem cell_of {j : Nat} (h : j < 160) : cellB (nI j) = true := by
  unfold cellB
  rw [if_neg (nI_pos (n := j) (by omega)), if_neg (show ¬ (160 : Int32) ≤ nI j from nI_ge (a := j) (b := 160) (by omega) (by omega))]
theorem vinL {n : Nat} {x : Int32} (h1 : 160 ≤ n) (h2 : n < 2 ^ 31) (h : cellB x = true) : vp_in x n := by
  obtain ⟨j, hj, rfl⟩ := cell_n h
  exact vp_in_nI (by omega) h2
theorem kind_1 {g : Nat → Int32} (hgk : ∀ j, j < 160 → g j = 1) {x : Int32} (h : cellB x = true) : g x.toNatClampNeg = 1 := by
  obtain ⟨j, hj, rfl⟩ := cell_n h
  rw [nI_clamp (by omega)]
  exact hgk j hj
def setTf (x y : Int32) : Nat := if cellB x = true then if withinB y 0 3 = true then if edgeB x = true then if y = 1 then 0 else 2 else 0 else 2 else 1
def comeTf (s c x : Int32) : Nat := if cellB c = true then if withinB s 0 1 = true then if withinB x 1 60 = true then 3 else 2 else 2 else 1
def seesTf (x y : Int32) : Nat := if cellB x = true then if cellB y = true then 0 else 1 else 1
def knowsTf (s c : Int32) : Nat := if withinB s 0 1 = true then if cellB c = true then 0 else 2 else 1
def actTf (a : Int32) : Nat := if withinB a 0 7 = true then 2 else 1
-- the cells between two cells
theorem near1 : ∀ a, a < 16 → ∀ b, b < 16 → ∀ j, j < 8 → 2 ≤ j → absI (nI a - nI b) ≤ nI j → withinB (nI a + roundM 1 (nI b - nI a) (nI j)) (nI (min a b)) (nI (max a b)) = true := by decide +kernel
theorem near2 : ∀ a, a < 16 → ∀ b, b < 16 → ∀ j, j < 8 → 2 ≤ j → absI (nI b - nI a) ≤ nI j → withinB (nI a + nearF (nI 1 * (nI b - nI a)) (nI j)) (nI (min a b)) (nI (max a b)) = true := by decide +kernel
theorem absI_sub : ∀ a, a < 16 → ∀ b, b < 16 → absI (nI a - nI b) = absI (nI b - nI a) := by decide +kernel
theorem row_col : ∀ i, i < 160 → rowI (nI i) = nI (i / 16) ∧ colI (nI i) = nI (i % 16) := by decide +kernel
theorem max_le {a b c : Int32} (h : maxI a b = c) : a ≤ c ∧ b ≤ c := by
  unfold maxI at h
  by_cases q : a < b
  · rw [if_pos q] at h; subst h; exact ⟨Int32.le_of_lt q, Int32.le_refl b⟩
  · rw [if_neg q] at h; subst h; exact ⟨Int32.le_refl a, Int32.not_lt.mp q⟩
theorem within_n {x : Int32} {a b : Nat} (hb : b < 2 ^ 31) (h : withinB x (nI a) (nI b) = true) (ha : a ≤ b) : ∃ j : Nat, j ≤ b ∧ x = nI j := by
  obtain ⟨h1, h2⟩ := within_l h
  have h0 : ¬ x < 0 := fun q => h1 (Int32.lt_of_lt_of_le q (nI_pos' (by omega)))
  exact nI_of2 (nI_toInt hb) h0 (Int32.not_lt.mp h2)
theorem apartM_comm {x y : Int32} (hx : cellB x = true) (hy : cellB y = true) : apartM x y = apartM y x := by
  obtain ⟨i, hi, rfl⟩ := cell_n hx
  obtain ⟨k, hk, rfl⟩ := cell_n hy
  unfold apartM
  rw [(row_col i hi).1, (row_col i hi).2, (row_col k hk).1, (row_col k hk).2, absI_sub (i % 16) (by omega) (k % 16) (by omega), absI_sub (i / 16) (by omega) (k / 16) (by omega)]
theorem apartM_F {x y : Int32} (hx : cellB x = true) (hy : cellB y = true) : apartM x y = apartF x y := by
  rw [apartM_comm hx hy]; rfl
theorem apartM_le {x y : Int32} (hx : cellB x = true) (hy : cellB y = true) (h : apartM x y ≤ 7) : ∃ j : Nat, j ≤ 7 ∧ apartM x y = nI j := by
  rw [apartM_F hx hy] at h ⊢
  exact apart_le h
def clearC (x y n : Int32) : Int32 := (rowI x + roundM 1 (rowI y - rowI x) n) * 16 + colI x + roundM 1 (colI y - colI x) n
theorem clear_cell {x y : Int32} {j : Nat} (hx : cellB x = true) (hy : cellB y = true) (hj : j ≤ 7) (h2 : 2 ≤ j) (e : apartM x y = nI j) : cellB (clearC x y (nI j)) = true := by
  obtain ⟨i, hi, rfl⟩ := cell_n hx
  obtain ⟨k, hk, rfl⟩ := cell_n hy
  unfold apartM at e
  unfold clearC
  rw [(row_col i hi).1, (row_col i hi).2, (row_col k hk).1, (row_col k hk).2] at e ⊢
  obtain ⟨e1, e2⟩ := max_le e
  obtain ⟨c, hc, ec⟩ := within_n (by omega) (near1 (i % 16) (by omega) (k % 16) (by omega) j (by omega) h2 e1) (by omega)
  obtain ⟨r, hr, er⟩ := within_n (by omega) (near1 (i / 16) (by omega) (k / 16) (by omega) j (by omega) h2 e2) (by omega)
  rw [Int32.add_assoc, ec, er]
  rw [show nI r * 16 + nI c = nI (r * 16 + c) from by rw [show nI r * 16 = nI (r * 16) from pk_mul r 16, nI_add]]
  exact cell_of (by omega)
theorem n2_of {j : Nat} (h : ¬ nI j ≤ 1) : 2 ≤ j := by
  rcases Nat.lt_or_ge j 2 with q | q
  · exact absurd (nI_le (a := j) (b := 1) (by omega) (by omega)) h
  · exact q
theorem know_in {a b : Nat} (ha : a ≤ 1) (hb : b < 160) : (160 : Int32) + nI a * 160 + nI b = nI (160 + a * 160 + b) := by
  rw [show nI a * 160 = nI (a * 160) from pk_mul a 160, show (160 : Int32) + nI (a * 160) = nI (160 + a * 160) from nI_add 160 (a * 160), nI_add]
theorem know_v {x y : Int32} (h1 : withinB x 0 1 = true) (h2 : cellB y = true) : ∃ j : Nat, 160 ≤ j ∧ j < 683 ∧ 160 + x * 160 + y = nI j := by
  obtain ⟨a, ha, rfl⟩ := within_0 (n := 1) (by decide) h1
  obtain ⟨b, hb, rfl⟩ := cell_n h2
  exact ⟨160 + a * 160 + b, by omega, by omega, know_in ha hb⟩
theorem know_vin {x y : Int32} (h1 : withinB x 0 1 = true) (h2 : cellB y = true) : vp_in (160 + x * 160 + y) 683 := by
  obtain ⟨j, -, hj, e⟩ := know_v h1 h2
  rw [e]
  exact vp_in_nI hj (by decide)
theorem know_0 {g : Nat → Int32} (hgz : ∀ j, 160 ≤ j → j < 683 → g j = 0) {x y : Int32} (h1 : withinB x 0 1 = true) (h2 : cellB y = true) : g (160 + x * 160 + y).toNatClampNeg = 0 := by
  obtain ⟨j, h160, hj, e⟩ := know_v h1 h2
  rw [e, nI_clamp (by omega)]
  exact hgz j h160 hj
theorem many_w {x : Int32} {a b : Nat} (e : x = nI a) (ha : a ≤ 1) (hb : b < 160) : withinB x 0 1 = true ∧ cellB (nI b) = true := by
  subst e
  refine ⟨?_, cell_of hb⟩
  unfold withinB
  rw [if_neg (nI_pos (by omega)), if_neg (show ¬ (1 : Int32) < nI a from nI_nlt (a := 1) (b := a) (by omega) (by omega))]
theorem far_0 {a : Int32} (h : 7 < a) : 0 = bi (decide (a ≤ 1)) := by
  have : ¬ a ≤ 1 := fun q => absurd (Int32.lt_of_lt_of_le h q) (by decide)
  simp [this, bi]
def manyM (j : Nat) : Int32 := if j = 3 then -1 else 0
def dgMW : Nat → Nat → Int64 → Int64
  | 0, _, d => d
  | m + 1, k, d => dgMW m (k + 1) (d * 31 + (manyM k).toInt64)
def dgMC (g : Nat → Int32) : Nat → Nat → Int64 → Int64
  | 0, _, d => d
  | m + 1, k, d => dgMC g m (k + 1) (d * 31 + (g k).toInt64)
def digM64 (g : Nat → Int32) : Int64 := dgMC g 160 0 (dgMW 9 0 58090)
def digML (x y w h : Int32) : Nat → Nat → Int32 → Int32
  | 0, _, t => t
  | m + 1, k, t => if edgeB (nI k) = true then digML x y w h m (k + 1) t else if withinB (colI (nI k)) x (x + w - 1) = true then if withinB (rowI (nI k)) y (y + h - 1) = true then digML x y w h m (k + 1) (t + 1) else digML x y w h m (k + 1) t else digML x y w h m (k + 1) t
def digM (x y w h : Int32) : Nat → Nat → Int32 → Int32 := digML x y w h
theorem dig_put {g1 : Nat → Int32} {k : Nat} (h : ∀ j, k ≤ j → j < 160 → g1 j = 1) (hk : k < 160) {x : Int32} : ∀ j, k + 1 ≤ j → j < 160 → upd g1 (nI k).toNatClampNeg x j = 1 := fun j h1 h2 => by
  rw [nI_clamp (by omega)]
  unfold upd
  rw [if_neg (by omega)]
  exact h j (by omega) h2
theorem within_k {k : Nat} (h : k ≤ 8) : withinB (nI k) 0 8 = true := by
  unfold withinB
  rw [if_neg (nI_pos (by omega)), if_neg (show ¬ (8 : Int32) < nI k from nI_nlt (a := 8) (b := k) (by omega) (by omega))]
