-- ===== which exception: 0 none, else its place in the method's list =====
def cellT (x : Int32) : Nat := if cellB x = true then 0 else 1
def seesT (x y : Int32) : Nat := if cellB x = true then if cellB y = true then 0 else 1 else 1
def knowsT (s c : Int32) : Nat := if sideB s = true then if cellB c = true then 0 else 2 else 1
def setT2 (σ : SS) (c k : Int32) : Nat := if stopsB k = true then if onF σ c = -1 then 0 else 3 else 0
def setT (σ : SS) (c k : Int32) : Nat := if cellB c = true then if withinB k 0 3 = true then if edgeB c = true then if k = 1 then setT2 σ c k else 2 else setT2 σ c k else 2 else 1
def comeT2 (σ : SS) (c : Int32) : Nat := if stopsB (kindF σ c) = true then 3 else if onF σ c = -1 then if roomB σ = true then 0 else 3 else 3
def comeT (σ : SS) (s c x : Int32) : Nat := if cellB c = true then if sideB s = true then if withinB x 1 60 = true then comeT2 σ c else 2 else 2 else 1
def becomeT (σ : SS) (b f g s : Int32) : Nat := if beingB σ b = true then if withinB f 0 20 = true then if withinB g 0 20 = true then if withinB s 1 4 = true then 0 else 2 else 2 else 2 else 1
def becomeF (σ : SS) (b f g s : Int32) : SS := putTraitF (putTraitF (putTraitF σ b 4 f) b 5 g) b 6 s
def layT (σ : SS) (b e st tu : Int32) : Nat := if beingB σ b = true then if withinB e 0 4 = true then if withinB st 1 9 = true then if withinB tu 1 20 = true then if aliveB σ b = true then 0 else 3 else 2 else 2 else 2 else 1
def answerF (σ : SS) (b w : Int32) : Int32 := if w = 9 then if afraidB σ b = true then 1 else 0 else traitF σ b w
def ofT (σ : SS) (b w : Int32) : Nat := if beingB σ b = true then if withinB w 0 9 = true then 0 else 2 else 1
def effectT (σ : SS) (b e : Int32) : Nat := if beingB σ b = true then if withinB e 0 4 = true then 0 else 2 else 1
def effectF (σ : SS) (b e t : Int32) : Int32 := if t = 0 then stackF σ b e else turnsF σ b e
def targetT (σ : SS) (b : Int32) : Nat := if beingB σ b = true then 0 else 1
def hitT (σ : SS) (b o : Int32) : Nat := if beingB σ b = true then if beingB σ o = true then 0 else 1 else 1
def nmIA : Nat → String
  | 1 => eI
  | _ => eA
def countF (σ : SS) (g : Nat) (w : Int32) : Int32 := if w = 0 then nI (s_n σ) else if w = 1 then livingF σ 0 else if w = 2 then livingF σ 1 else if w = 3 then turnF σ else if w = 4 then s_ac σ else if w = 5 then s_hi σ else if w = 6 then knownF σ 0 else if w = 7 then knownF σ 1 else nI g
