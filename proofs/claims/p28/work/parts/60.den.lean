-- ===== the shadow: what it holds, and what its methods do, in the code's own words =====
/-- the beings: each a row of 19 -/
abbrev RW : Type := Nat → Nat → Int32
def upR (R : RW) (j : Nat) (g : Nat → Int32) : RW := fun i => if i = j then g else R i
/-- kinds, how many beings, their rows, actions, hits -/
abbrev DD : Type := (Nat → Int32) × Nat × RW × Int32 × Int32
abbrev d_k (δ : DD) : Nat → Int32 := δ.1
abbrev d_n (δ : DD) : Nat := δ.2.1
abbrev d_R (δ : DD) : RW := δ.2.2.1
abbrev d_ac (δ : DD) : Int32 := δ.2.2.2.1
abbrev d_hi (δ : DD) : Int32 := δ.2.2.2.2
abbrev e_k (δ : DD) (f : Nat → Int32) : DD := (f, δ.2)
abbrev e_nR (δ : DD) (n : Nat) (R : RW) : DD := (δ.1, n, R, δ.2.2.2)
abbrev e_R (δ : DD) (R : RW) : DD := (δ.1, δ.2.1, R, δ.2.2.2)
abbrev e_ac (δ : DD) (x : Int32) : DD := (δ.1, δ.2.1, δ.2.2.1, x, δ.2.2.2.2)
abbrev e_hi (δ : DD) (x : Int32) : DD := (δ.1, δ.2.1, δ.2.2.1, δ.2.2.2.1, x)
/-- being b's row is put -/
abbrev e_g (δ : DD) (b : Nat) (g : Nat → Int32) : DD := e_R δ (upR (d_R δ) b g)
theorem upR_s (R : RW) (j : Nat) (g : Nat → Int32) : upR R j g j = g := if_pos rfl
theorem upR_n {R : RW} {i j : Nat} {g : Nat → Int32} (h : i ≠ j) : upR R j g i = R i := if_neg h
theorem upR_u (R : RW) (j : Nat) (g h : Nat → Int32) : upR (upR R j g) j h = upR R j h := by
  funext i
  unfold upR
  by_cases q : i = j
  · rw [if_pos q, if_pos q]
  · rw [if_neg q, if_neg q, if_neg q]
theorem upR_i (R : RW) (j : Nat) : upR R j (R j) = R := by
  funext i
  unfold upR
  by_cases q : i = j
  · rw [if_pos q, q]
  · rw [if_neg q]
def onD (δ : DD) (c : Int32) : Int32 := fstI (fun j => decide (d_R δ j 1 = c)) (d_n δ) 0
def edgeD (c : Int32) : Bool := if c < 16 then true else if 144 ≤ c then true else if remI c 16 = 0 then true else if remI c 16 = 15 then true else false
def nearD (o u : Int32) : Int32 := if 0 ≤ 2 * o + u then (2 * o + u) / (2 * u) else if remI (2 * o + u) (2 * u) = 0 then (2 * o + u) / (2 * u) else (2 * o + u) / (2 * u) - 1
def cellD (x y n k : Int32) : Int32 := 16 * (rowI x + nearD (k * (rowI y - rowI x)) n) + colI x + nearD (k * (colI y - colI x)) n
def seesDL (kd : Nat → Int32) (x y n : Int32) : Nat → Nat → Bool
  | 0, _ => true
  | m + 1, k => if kd (cellD x y n (nI k)).toNatClampNeg = 1 then false else if kd (cellD x y n (nI k)).toNatClampNeg = 2 then false else seesDL kd x y n m (k + 1)
def seesD (kd : Nat → Int32) (x y : Int32) : Bool := if apartM x y ≤ 7 then seesDL kd x y (apartM x y) ((apartM x y).toNatClampNeg - 1) 1 else false
def turnDL (R : RW) : Nat → Int32 → Int32
  | 0, t => t
  | m + 1, t => turnDL R m (if R m 1 < 0 then t else if t < 0 then nI m else if R t.toNatClampNeg 8 < R m 8 then t else nI m)
def turnD (δ : DD) : Int32 := turnDL (d_R δ) (d_n δ) (-1)
def targetDL (δ : DD) (b : Nat) : Nat → Int32 → Int32
  | 0, t => t
  | m + 1, t => targetDL δ b m (if d_R δ m 1 < 0 then t else if d_R δ m 0 = d_R δ b 0 then t else if seesD (d_k δ) (d_R δ b 1) (d_R δ m 1) = true then if t < 0 then nI m else if apartM (d_R δ b 1) (d_R δ t.toNatClampNeg 1) < apartM (d_R δ b 1) (d_R δ m 1) then t else nI m else t)
def targetD (δ : DD) (b : Nat) : Int32 := if d_R δ b 1 < 0 then -1 else targetDL δ b (d_n δ) (-1)
def stepD (d : Int32) : Int32 := if d = 0 then -16 else if d = 1 then 1 else if d = 2 then 16 else -1
def hitD (δ : DD) (b o : Nat) : Int32 := maxI 1 (d_R δ b 4 + d_R δ b 11 - d_R δ o 5 - d_R δ o 12)
def magD (δ : DD) (b : Nat) : Bool := if d_R δ b 7 ≤ 2 then false else true
def goB (δ : DD) (b : Nat) (c : Int32) : Bool := if d_k δ c.toNatClampNeg = 1 then false else if onD δ c < 0 then true else if d_R δ (onD δ c).toNatClampNeg 0 = d_R δ b 0 then false else true
def possD (δ : DD) (b : Nat) (a : Int32) : Bool := if a = 0 then true else if a = 5 then if targetD δ b < 0 then false else magD δ b else if a ≤ 4 then goB δ b (d_R δ b 1 + stepD (a - 1)) else magD δ b
def loseR (g : Nat → Int32) (x : Int32) : Nat → Int32 := if g 2 - x ≤ 0 then upd (upd (upd g 2 (g 2 - x)) 2 0) 1 (-1) else upd g 2 (g 2 - x)
def comeR (g : Nat → Int32) (e : Nat) (s t : Int32) : Nat → Int32 := upd (upd g (9 + e) (minI 9 (g (9 + e) + s))) (14 + e) (maxI (upd g (9 + e) (minI 9 (g (9 + e) + s)) (14 + e)) t)
/-- what an action does, piece by piece -/
def manaD (δ : DD) (b : Nat) (a : Int32) : DD := e_g δ b (upd (d_R δ b) 7 (if a = 0 then minI 9 (d_R δ b 7 + 1) else if a ≤ 4 then d_R δ b 7 else d_R δ b 7 - 3))
def goD (δ : DD) (b : Nat) (c : Int32) : DD :=
  if onD δ c < 0 then if d_k δ c.toNatClampNeg = 2 then e_k δ (upd (d_k δ) c.toNatClampNeg 0) else e_g δ b (upd (d_R δ b) 1 c)
  else e_hi (e_g δ (onD δ c).toNatClampNeg (loseR (d_R δ (onD δ c).toNatClampNeg) (hitD δ b (onD δ c).toNatClampNeg))) (d_hi δ + 1)
def goT (δ : DD) (b : Nat) (c : Int32) : Int32 := if onD δ c < 0 then 0 else minI (d_R δ (onD δ c).toNatClampNeg 2) (hitD δ b (onD δ c).toNatClampNeg)
def go1 (δ : DD) (b : Nat) (a : Int32) : DD := if a ≤ 0 then δ else if 5 ≤ a then δ else goD δ b (d_R δ b 1 + stepD (a - 1))
def go2 (δ : DD) (b : Nat) (a : Int32) : Int32 := if a ≤ 0 then 0 else if 5 ≤ a then 0 else goT δ b (d_R δ b 1 + stepD (a - 1))
def sp5 (δ : DD) (b : Nat) (a : Int32) : DD := if a = 5 then e_g δ (targetD δ b).toNatClampNeg (comeR (d_R δ (targetD δ b).toNatClampNeg) 0 2 3) else δ
def sp6 (δ : DD) (b : Nat) (a : Int32) : DD := if a = 6 then e_g δ b (comeR (d_R δ b) 3 3 4) else δ
def sp7 (δ : DD) (b : Nat) (a : Int32) : DD := if a = 7 then e_g δ b (comeR (d_R δ b) 1 2 4) else δ
def poisR (g : Nat → Int32) : Nat → Int32 := if g 9 ≤ 0 then g else loseR g (g 9)
def healR (g : Nat → Int32) : Nat → Int32 := if g 1 < 0 then g else upd g 2 (minI (g 3) (g 2 + g 10))
def offR (g : Nat → Int32) (e : Nat) : Nat → Int32 := if maxI 0 (g (14 + e) - 1) = 0 then upd (upd g (14 + e) (maxI 0 (g (14 + e) - 1))) (9 + e) 0 else upd g (14 + e) (maxI 0 (g (14 + e) - 1))
def offRL : Nat → Nat → (Nat → Int32) → (Nat → Int32)
  | 0, _, g => g
  | m + 1, k, g => offRL m (k + 1) (offR g k)
def timeD (g : Nat → Int32) : Int32 := if g 13 ≤ 0 then 12 / g 6 else 12 / g 6 * 2
def wearR (g : Nat → Int32) : Nat → Int32 := offRL 5 0 (healR (poisR g))
def spD (δ : DD) (b : Nat) (a : Int32) : DD := sp7 (sp6 (sp5 (go1 (manaD δ b a) b a) b a) b a) b a
def actD (δ : DD) (b : Nat) (a : Int32) : DD := e_ac (e_g (spD δ b a) b (upd (wearR (d_R (spD δ b a) b)) 8 (wearR (d_R (spD δ b a) b) 8 + timeD (d_R δ b)))) (d_ac (spD δ b a) + 1)
def lostD (δ : DD) (b : Nat) (a : Int32) : Int32 := go2 (manaD δ b a) b a
/-- a room, column by column -/
def digDR (x : Nat) : Nat → Nat → (Nat → Int32) × Int32 → (Nat → Int32) × Int32
  | 0, _, z => z
  | m + 1, r, z => digDR x m (r + 1) (if edgeD (nI (16 * r + x)) = true then z else if z.1 (16 * r + x) = 0 then z else (upd z.1 (16 * r + x) 0, z.2 + 1))
def digDC (y h : Nat) : Nat → Nat → (Nat → Int32) × Int32 → (Nat → Int32) × Int32
  | 0, _, z => z
  | m + 1, c, z => digDC y h m (c + 1) (digDR c h y z)
def digD (δ : DD) (x y w h : Nat) : (Nat → Int32) × Int32 := digDC y h w x (d_k δ, 0)
-- its cells
/-- the fixed ones: the object, kinds, known (an array of two rows of truths), the array of beings -/
abbrev dW (cI cZ cG cY : ClassId) (o r : Nat → Nat) (h b : Nat) (dr : Nat) (δ : DD) (Y : RW) : va_W := [(o 0, .inr (5, [.ref h, .ref b, .int (nI dr), .ref (o 1), .ref (o 2), .ref (o 5), .int (d_ac δ), .int (d_hi δ)])), (o 1, .inl (cI, 160, .inl (d_k δ))), (o 2, .inl (cY, 2, .inr (.inr (.inr (.inr (fun j => some (o (3 + j)))))))), (o 3, .inl (cZ, 160, .inl (Y 0))), (o 4, .inl (cZ, 160, .inl (Y 1))), (o 5, .inl (cG, d_n δ, .inr (.inr (.inr (.inr (fun j => some (r j)))))))]
/-- the beings' rows -/
def bW (cI : ClassId) (r : Nat → Nat) (n : Nat) (R : RW) : va_W := (List.range n).map (fun j => (r j, .inl (cI, 19, .inl (R j))))
theorem bW_at {X : va_W} {K : Nat} (hK : X.length = K) {cI : ClassId} {r : Nat → Nat} {n : Nat} {R : RW} {j : Nat} (h : j < n) : (X ++ bW cI r n R)[K + j]? = some (r j, .inl (cI, 19, .inl (R j))) := by
  subst hK
  rw [List.getElem?_append_right (Nat.le_add_right _ _), Nat.add_sub_cancel_left]
  unfold bW
  rw [List.getElem?_map, List.getElem?_range h]
  rfl
theorem bW_set {X : va_W} {K : Nat} (hK : X.length = K) {cI : ClassId} {r : Nat → Nat} {n : Nat} {R : RW} {j : Nat} (g : Nat → Int32) : (X ++ bW cI r n R).set (K + j) (r j, .inl (cI, 19, .inl g)) = X ++ bW cI r n (upR R j g) := by
  subst hK
  rw [List.set_append_right _ _ (Nat.le_add_right _ _), Nat.add_sub_cancel_left]
  congr 1
  unfold bW
  apply List.ext_getElem?
  intro i
  rw [List.getElem?_set, List.getElem?_map, List.getElem?_map]
  by_cases q : j = i
  · subst q
    rw [if_pos rfl]
    by_cases hn : j < n
    · rw [if_pos (by rw [List.length_map, List.length_range]; exact hn), List.getElem?_range hn]
      simp [upR]
    · rw [if_neg (by rw [List.length_map, List.length_range]; exact hn)]
      rw [List.getElem?_eq_none (by rw [List.length_range]; omega)]
      rfl
  · rw [if_neg q]
    cases hi : (List.range n)[i]? with
    | none => rfl
    | some v =>
      have hl := (List.getElem?_eq_some_iff.mp hi)
      obtain ⟨h1, h2⟩ := hl
      rw [List.getElem_range] at h2
      subst h2
      simp only [Option.map_some]
      rw [upR_n (fun e => q e.symm)]
theorem bW_setP {X : va_W} {K : Nat} (hK : X.length = K) {D : va_G} {cl : List vw_C} {H : Heap} {cI : ClassId} {r : Nat → Nat} {n : Nat} {R : RW} {j : Nat} {g : Nat → Int32} (h : va_P D cl ((X ++ bW cI r n R).set (K + j) (r j, .inl (cI, 19, .inl g))) H) : va_P D cl (X ++ bW cI r n (upR R j g)) H := by
  rw [bW_set hK] at h; exact h
theorem bW_setD {X : va_W} {K : Nat} (hK : X.length = K) {A : Nat → Prop} {cI : ClassId} {r : Nat → Nat} {n : Nat} {R : RW} {j : Nat} {g : Nat → Int32} (h : va_D A ((X ++ bW cI r n R).set (K + j) (r j, .inl (cI, 19, .inl g)))) : va_D A (X ++ bW cI r n (upR R j g)) := by
  rw [bW_set hK] at h; exact h
/-- one more row -/
theorem bW_push {cI : ClassId} {r : Nat → Nat} {n q : Nat} {R : RW} {g : Nat → Int32} : bW cI r n R ++ [(q, .inl (cI, 19, .inl g))] = bW cI (fun j => if j = n then q else r j) (n + 1) (upR R n g) := by
  unfold bW
  rw [List.range_succ, List.map_append]
  congr 1
  · apply List.map_congr_left
    intro j hj
    rw [List.mem_range] at hj
    show (r j, _) = (if j = n then q else r j, _)
    rw [if_neg (show ¬ j = n by omega), upR_n (show j ≠ n by omega)]
  · simp [upR]
theorem bW_congr {cI : ClassId} {r r' : Nat → Nat} {n : Nat} {R R' : RW} (h : ∀ j, j < n → r j = r' j ∧ R j = R' j) : bW cI r n R = bW cI r' n R' := by
  unfold bW
  apply List.map_congr_left
  intro j hj
  rw [List.mem_range] at hj
  rw [(h j hj).1, (h j hj).2]
