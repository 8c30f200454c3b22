-- ===== reads, on =====
def remI (x y : Int32) : Int32 := x - x / y * y
def colI (c : Int32) : Int32 := remI c 16
def rowI (c : Int32) : Int32 := c / 16
def absI (x : Int32) : Int32 := if 0 ≤ x then x else 0 - x
def maxI (x y : Int32) : Int32 := if x < y then y else x
def minI (x y : Int32) : Int32 := if y < x then y else x
def stopsB (k : Int32) : Bool := if k = 1 then true else if k = 2 then true else false
def edgeB (c : Int32) : Bool := if colI c = 0 then true else if colI c = 15 then true else if rowI c = 0 then true else if rowI c = 9 then true else false
def apartF (x y : Int32) : Int32 := maxI (absI (colI y - colI x)) (absI (rowI y - rowI x))
def floorF (x y : Int32) : Int32 := if 0 ≤ x ^^^ y then x / y else if x / y * y = x then x / y else x / y - 1
def nearF (p w : Int32) : Int32 := if w ≤ 0 then 0 else floorF (2 * p + w) (2 * w)
def lineC (x y n k : Int32) : Int32 := x + nearF (k * (colI y - colI x)) n + 16 * nearF (k * (rowI y - rowI x)) n
def seenL (σ : SS) (x y n : Int32) : Nat → Nat → Bool
  | 0, _ => true
  | m + 1, k => if stopsB (kindF σ (lineC x y n (nI k))) = true then false else seenL σ x y n m (k + 1)
def seenB (σ : SS) (x y : Int32) : Bool := if apartF x y ≤ 7 then seenL σ x y (apartF x y) ((apartF x y).toNatClampNeg - 1) 1 else false
def knownB (σ : SS) (s c : Int32) : Bool := if c < 0 then false else if nI 160 ≤ c then false else if s_kn σ c.toNatClampNeg &&& ((1 : Int32) <<< (s &&& 31)) = 0 then false else true
def knownL (σ : SS) (s : Int32) : Nat → Nat → Int32 → Int32
  | 0, _, t => t
  | m + 1, k, t => knownL σ s m (k + 1) (if knownB σ s (nI k) = true then t + 1 else t)
def knownF (σ : SS) (s : Int32) : Int32 := knownL σ s 160 0 0
def livingL (σ : SS) (s : Int32) : Nat → Nat → Int32 → Int32
  | 0, _, t => t
  | m + 1, k, t => livingL σ s m (k + 1) (if traitF σ (nI k) 0 = s then if aliveB σ (nI k) = true then t + 1 else t else t)
def livingF (σ : SS) (s : Int32) : Int32 := livingL σ s (s_n σ) 0 0
def lifeL (σ : SS) (s : Int32) : Nat → Nat → Int32 → Int32
  | 0, _, t => t
  | m + 1, k, t => lifeL σ s m (k + 1) (if traitF σ (nI k) 0 = s then t + traitF σ (nI k) 2 else t)
def lifeF (σ : SS) (s : Int32) : Int32 := lifeL σ s (s_n σ) 0 0
def turnL (σ : SS) : Nat → Nat → Int32 → Int32
  | 0, _, t => t
  | m + 1, k, t => turnL σ m (k + 1) (if aliveB σ (nI k) = true then if t = -1 then nI k else if traitF σ t 8 ≤ traitF σ (nI k) 8 then t else nI k else t)
def turnF (σ : SS) : Int32 := turnL σ (s_n σ) 0 (-1)
def foeB (σ : SS) (b o : Int32) : Bool := if traitF σ o 2 ≤ 0 then false else if traitF σ o 0 = traitF σ b 0 then false else true
def targetL (σ : SS) (b f : Int32) : Nat → Nat → Int32 → Int32 → Int32
  | 0, _, t, _ => t
  | m + 1, k, t, z => if foeB σ b (nI k) = true then
      if z ≤ apartF f (traitF σ (nI k) 1) then targetL σ b f m (k + 1) t z
      else if seenB σ f (traitF σ (nI k) 1) = true then targetL σ b f m (k + 1) (nI k) (apartF f (traitF σ (nI k) 1)) else targetL σ b f m (k + 1) t z
    else targetL σ b f m (k + 1) t z
def targetF (σ : SS) (b : Int32) : Int32 := if aliveB σ b = true then targetL σ b (traitF σ b 1) (s_n σ) 0 (-1) 8 else -1
def firstFoeF (σ : SS) (b : Int32) : Int32 := fstI (fun j => foeB σ b (nI j)) (s_n σ) 0
def stF : Nat → Int32
  | 0 => -16
  | 1 => 1
  | 2 => 16
  | _ => -1
def besideL (σ : SS) (b : Int32) : Nat → Nat → Bool
  | 0, _ => false
  | m + 1, k => if foeB σ b (onF σ (traitF σ b 1 + stF k)) = true then true else besideL σ b m (k + 1)
def besideB (σ : SS) (b : Int32) : Bool := besideL σ b 4 0
def watchL (σ : SS) (s c : Int32) : Nat → Nat → Int32 → Int32
  | 0, _, t => t
  | m + 1, k, t => watchL σ s c m (k + 1) (if aliveB σ (nI k) = true then if traitF σ (nI k) 0 = s then t else if seenB σ (traitF σ (nI k) 1) c = true then t + 1 else t else t)
def watchF (σ : SS) (s c : Int32) : Int32 := watchL σ s c (s_n σ) 0 0
def hitF (σ : SS) (b o : Int32) : Int32 := if aliveB σ b = true then if aliveB σ o = true then maxI (traitF σ b 4 + stackF σ b 2 - (traitF σ o 5 + stackF σ o 3)) 1 else 0 else 0
theorem rem_eq (x y : Int32) : x - x / y * y = remI x y := rfl
/-- the table of steps -/
def stV (j : Nat) : Value := .int (stF j)
def preS4 (t : Nat) (U : State) : Prop := va_Z RX4 "STEPS" "[I" (.ref t) (fun _ => False) U U.heap ∧ va_T .int t 4 stV (fun _ => False) U U.heap
theorem nz2 {j : Nat} (h : ¬ nI j ≤ 0) (hj : j ≤ 7) : ¬ 2 * nI j = 0 := by
  have h1 : 0 < j := by
    rcases Nat.eq_zero_or_pos j with q | q
    · subst q; exact absurd (by decide) h
    · exact q
  have e : (2 : Int32) * nI j = nI (2 * j) := pk_mul 2 j
  rw [e]
  exact nI_ne0 (by omega) (by omega)
theorem abs_nn {x : Int32} (h : x ≠ -2147483648) : ¬ absI x < 0 := by
  unfold absI
  split
  · rename_i q
    exact fun z => absurd (Int32.lt_of_lt_of_le z q) (by simp)
  · rename_i q
    intro z
    have h1 : x.toInt < 0 := by
      have := mt (fun w => (Int32.le_iff_toInt_le (x := 0) (y := x)).mpr w) q
      simp at this; omega
    have h2 : (0 - x).toInt < 0 := by
      have := Int32.lt_iff_toInt_lt.mp z
      simpa using this
    have h3 : x.toInt ≠ -2147483648 := fun w => h (Int32.toInt_inj.mp (by rw [w]; rfl))
    have h4 : -2147483648 ≤ x.toInt := Int32.le_toInt x
    have h5 : (0 - x).toInt = 0 - x.toInt := by
      rw [Int32.toInt_sub]
      simp only [Int32.toInt_zero]
      exact Int.bmod_eq_of_le (by omega) (by omega)
    omega
theorem row_ne (x y : Int32) : rowI y - rowI x ≠ -2147483648 := by
  have hd : ∀ z : Int32, (rowI z).toInt = z.toInt.tdiv 16 := by
    intro z
    unfold rowI
    rw [Int32.toInt_div_of_ne_right z 16 (by decide)]
    rfl
  intro h
  have h1 := congrArg Int32.toInt h
  rw [Int32.toInt_sub, hd, hd] at h1
  have a1 : -2147483648 ≤ x.toInt := Int32.le_toInt x
  have a2 : x.toInt < 2147483648 := Int32.toInt_lt x
  have b1 : -2147483648 ≤ y.toInt := Int32.le_toInt y
  have b2 : y.toInt < 2147483648 := Int32.toInt_lt y
  have e1 : (x.toInt.tdiv 16).natAbs = x.toInt.natAbs / 16 := Int.natAbs_tdiv x.toInt 16
  have e2 : (y.toInt.tdiv 16).natAbs = y.toInt.natAbs / 16 := Int.natAbs_tdiv y.toInt 16
  rw [Int.bmod_eq_of_le (by omega) (by omega)] at h1
  have : ((-2147483648 : Int32)).toInt = -2147483648 := by decide
  omega
theorem apart_nn (x y : Int32) : ¬ apartF x y < 0 := by
  unfold apartF maxI
  split
  · exact abs_nn (row_ne x y)
  · rename_i q
    have h := abs_nn (row_ne x y)
    exact fun z => h (Int32.lt_of_le_of_lt (Int32.not_lt.mp q) z)
theorem apart_le {x y : Int32} (h : apartF x y ≤ 7) : ∃ j : Nat, j ≤ 7 ∧ apartF x y = nI j := nI_of2 (M := 7) (n := 7) (by decide) (apart_nn x y) h
/-- the walk of a method of a class of whose methods some are run by an entry of the machine's, but not this one -/
theorem w_ofWF {l : Launch} {y : MethodName} {ws ws' : List Cond} {rm : Room} {Pc : Array Value → State → Prop} {Qc : Array Value → State → Outcome → State → Prop} {mc ms : Nat} {free : Addr → Prop} {cc : ByteArray} {maxL : Nat} {ret : Option FieldType}
    (hy : plainFor y = true) (hw : ws = Cond.code y cc maxL ret :: ws')
    (body : ∀ p e s m args below meth c s₁, BodyLoose p l y (headSpec ws rm) cc maxL ret e s m args below meth c s₁ → c.maxLocals = maxL → Pc args s →
      W p l e (headSpec ws rm).room s m args below meth c s.heap [] 0 0 (MQ below Qc args s mc ms free) (entryFrame m args maxL)) : Met l y ws rm Pc Qc mc ms free := by
  refine MetFree.of_bodySF (code := cc) (maxLocals := maxL) (ret := ret) hy ?_ ?_
  · intro args s m h hn
    obtain ⟨meth, c, h1, h2, h3, h4, h5, h6, -, -⟩ := Cond.code_spec hn (atoms_spec (ws := ws) h _ (by rw [hw]; exact List.mem_cons_self))
    exact ⟨meth, c, h1, h2, h3, h4, h5, h6⟩
  · intro p e s m args below meth c s₁ B hml hP _
    have hh0 : s₁.heap = s.heap := by rw [B.state]; rfl
    obtain ⟨t, a1, o, b1, b2, b3⟩ := body p e s m args below meth c s₁ B hml hP s₁ hh0 (Stand.of_body B)
    exact ⟨t, o, a1, b1, b2, ⟨b3.1, b3.2⟩⟩
