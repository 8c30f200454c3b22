-- ===== writes =====
def putKindF (σ : SS) (c k : Int32) : SS := w_ki σ (wr (s_ki σ) 160 c k)
def putTraitF (σ : SS) (b x v : Int32) : SS := w_tr σ (wr (s_tr σ) 90 (b * 9 + x) v)
def putEffectF (σ : SS) (b x st tu : Int32) : SS := w_tu (w_st σ (wr (s_st σ) 50 (b * 5 + x) st)) (wr (s_tu σ) 50 (b * 5 + x) tu)
def addEffectF (σ : SS) (b x st tu : Int32) : SS := putEffectF σ b x (minI (stackF σ b x + st) 9) (maxI (turnsF σ b x) tu)
def digC (r : Nat) : Nat → Nat → SS → Int32 → SS × Int32
  | 0, _, σ, t => (σ, t)
  | m + 1, c, σ, t => if edgeB (nI r * 16 + nI c) = true then digC r m (c + 1) σ t
    else if kindF σ (nI r * 16 + nI c) = 0 then digC r m (c + 1) σ t
    else digC r m (c + 1) (putKindF σ (nI r * 16 + nI c) 0) (t + 1)
def digR (x w : Nat) : Nat → Nat → SS → Int32 → SS × Int32
  | 0, _, σ, t => (σ, t)
  | m + 1, r, σ, t => digR x w m (r + 1) (digC r w x σ t).1 (digC r w x σ t).2
def digF (σ : SS) (x y w h : Nat) : SS × Int32 := digR x w h y σ 0
def lookL (f s : Int32) : Nat → Nat → SS → SS
  | 0, _, σ => σ
  | m + 1, k, σ => if knownB σ s (nI k) = true then lookL f s m (k + 1) σ
    else if seenB σ f (nI k) = true then lookL f s m (k + 1) (w_kn σ (upd (s_kn σ) (nI k).toNatClampNeg (s_kn σ (nI k).toNatClampNeg ||| ((1 : Int32) <<< (s &&& 31)))))
    else lookL f s m (k + 1) σ
def lookF (σ : SS) (b : Int32) : SS := lookL (traitF σ b 1) (traitF σ b 0) 160 0 σ
def noEff (b : Int32) : Nat → Nat → SS → SS
  | 0, _, σ => σ
  | m + 1, k, σ => noEff b m (k + 1) (putEffectF σ b (nI k) 0 0)
def takeF (σ : SS) (b x : Int32) : SS := if traitF σ b 2 - minI x (traitF σ b 2) = 0 then putTraitF (putTraitF σ b 2 (traitF σ b 2 - minI x (traitF σ b 2))) b 1 (-1) else putTraitF σ b 2 (traitF σ b 2 - minI x (traitF σ b 2))
def newF0 (σ : SS) (b s c x : Int32) : SS := putTraitF (putTraitF (putTraitF (putTraitF (putTraitF (putTraitF (putTraitF (putTraitF σ b 0 s) b 1 c) b 2 x) b 3 x) b 4 5) b 5 2) b 6 2) b 7 3
def newT (σ τ : SS) : Int32 := if turnF σ = -1 then 0 else traitF τ (turnF σ) 8
def newF1 (σ : SS) (s c x : Int32) : SS := putTraitF (newF0 (w_n σ (s_n σ + 1)) (nI (s_n σ)) s c x) (nI (s_n σ)) 8 (newT σ (newF0 (w_n σ (s_n σ + 1)) (nI (s_n σ)) s c x))
def addF (σ : SS) (s c x : Int32) : SS := lookF (noEff (nI (s_n σ)) 5 0 (newF1 σ s c x)) (nI (s_n σ))
def tookF (σ : SS) (b x : Int32) : Int32 := minI x (traitF σ b 2)
def newNo (σ : SS) (_ _ _ : Int32) : Int32 := nI (s_n σ)
