-- ===== arguments of dig; a State without beings =====
theorem within_l {x y z : Int32} (h : withinB x y z = true) : ¬ x < y ∧ ¬ z < x := by
  unfold withinB at h
  by_cases h1 : x < y
  · rw [if_pos h1] at h; cases h
  · by_cases h2 : z < x
    · rw [if_neg h1, if_pos h2] at h; cases h
    · exact ⟨h1, h2⟩
theorem within_0 {x : Int32} {n : Nat} (hn : n < 2 ^ 31) (h : withinB x 0 (nI n) = true) : ∃ j : Nat, j ≤ n ∧ x = nI j := by
  obtain ⟨h1, h2⟩ := within_l h
  exact nI_of2 (nI_toInt hn) h1 (Int32.not_lt.mp h2)
theorem within_1 {x : Int32} {n : Nat} (hn : n < 2 ^ 31) (h : withinB x 1 (nI n) = true) : ∃ j : Nat, 1 ≤ j ∧ j ≤ n ∧ x = nI j := by
  obtain ⟨h1, h2⟩ := within_l h
  have h0 : ¬ x < 0 := fun q => h1 (Int32.lt_trans q (by decide))
  obtain ⟨j, hj, rfl⟩ := nI_of2 (nI_toInt hn) h0 (Int32.not_lt.mp h2)
  refine ⟨j, ?_, hj, rfl⟩
  rcases Nat.eq_zero_or_pos j with q | q
  · subst q; exact absurd (by decide) h1
  · exact q
theorem dig_args {x y w h : Int32} (h1 : withinB x 0 15 = true) (h2 : withinB y 0 9 = true) (h3 : withinB w 1 (16 - x) = true) (h4 : withinB h 1 (10 - y) = true) :
    ∃ X Y W Hh : Nat, x = nI X ∧ y = nI Y ∧ w = nI W ∧ h = nI Hh ∧ X + W ≤ 16 ∧ Y + Hh ≤ 10 ∧ 1 ≤ W ∧ 1 ≤ Hh := by
  obtain ⟨X, hX, rfl⟩ := within_0 (n := 15) (by decide) h1
  obtain ⟨Y, hY, rfl⟩ := within_0 (n := 9) (by decide) h2
  rw [show (16 : Int32) - nI X = nI (16 - X) from pk_sub (a := 16) (by omega)] at h3
  rw [show (10 : Int32) - nI Y = nI (10 - Y) from pk_sub (a := 10) (by omega)] at h4
  obtain ⟨W, hW1, hW, rfl⟩ := within_1 (by omega) h3
  obtain ⟨Hh, hH1, hH, rfl⟩ := within_1 (by omega) h4
  exact ⟨X, Y, W, Hh, rfl, rfl, rfl, rfl, by omega, by omega, hW1, hH1⟩
def digT (x y w h : Int32) : Nat := if withinB x 0 15 = true then if withinB y 0 9 = true then if withinB w 1 (16 - x) = true then if withinB h 1 (10 - y) = true then 0 else 1 else 1 else 1 else 1
def digA (σ : SS) (x y w h : Int32) : SS × Int32 := digF σ x.toNatClampNeg y.toNatClampNeg w.toNatClampNeg h.toNatClampNeg
theorem digA_n (σ : SS) {X Y W Hh : Nat} (h1 : X + W ≤ 16) (h2 : Y + Hh ≤ 10) : digA σ (nI X) (nI Y) (nI W) (nI Hh) = digF σ X Y W Hh := by
  unfold digA
  rw [nI_clamp (by omega), nI_clamp (by omega), nI_clamp (by omega), nI_clamp (by omega)]
theorem being_0 {σ : SS} (h : s_n σ = 0) (x : Int32) : beingB σ x = false := by
  unfold beingB
  split
  · rfl
  · rename_i q
    rw [h]
    rw [if_pos (show nI 0 ≤ x from Int32.not_lt.mp q)]
theorem living_0 {σ : SS} (h : s_n σ = 0) (x : Int32) : livingF σ x = 0 := by unfold livingF; rw [h]; rfl
theorem life_0 {σ : SS} (h : s_n σ = 0) (x : Int32) : lifeF σ x = 0 := by unfold lifeF; rw [h]; rfl
theorem turn_0 {σ : SS} (h : s_n σ = 0) : turnF σ = -1 := by unfold turnF; rw [h]; rfl
theorem alive_m1 (σ : SS) : aliveB σ (-1) = false := by
  have e : traitF σ (-1) 2 = 0 := by
    unfold traitF rd
    exact if_pos (by decide)
  unfold aliveB
  rw [e]
  exact if_pos (by decide)
def manyT (w : Int32) : Nat := if withinB w 0 8 = true then 0 else 1
def actT0 (a : Int32) : Nat := if withinB a 0 7 = true then 2 else 1
def followT (t : Int32) : Nat := if withinB t 1 40 = true then 0 else 1
def dgW (σ : SS) (g : Nat) : Nat → Nat → Int64 → Int64
  | 0, _, d => d
  | m + 1, k, d => dgW σ g m (k + 1) (d * 31 + (countF σ g (nI k)).toInt64)
def dgC (σ : SS) : Nat → Nat → Int64 → Int64
  | 0, _, d => d
  | m + 1, k, d => dgC σ m (k + 1) (d * 31 + (kindF σ (nI k)).toInt64)
def dig0 (σ : SS) (g : Nat) : Int64 := dgC σ 160 0 (dgW σ g 9 0 58090)
