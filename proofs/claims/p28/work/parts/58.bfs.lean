-- ===== the ways: what the lengths are =====
/-- a cell of the rim -/
def rimN (c : Nat) : Prop := c < 16 ∨ 144 ≤ c ∨ c % 16 = 0 ∨ c % 16 = 15
def nbN (x k : Nat) : Nat := match k with
  | 0 => x - 16
  | 1 => x + 1
  | 2 => x + 16
  | _ => x - 1
theorem nb_in {x k : Nat} (h : ¬ rimN x) : nbN x k < 160 := by
  unfold rimN at h
  unfold nbN
  split <;> omega
theorem nb_st {x k : Nat} (h : ¬ rimN x) (hk : k < 4) : nI x + stF k = nI (nbN x k) := by
  unfold rimN at h
  rcases (show k = 0 ∨ k = 1 ∨ k = 2 ∨ k = 3 by omega) with rfl | rfl | rfl | rfl
  · show nI x + (-16) = nI (x - 16)
    have := pk_sub (a := x) (b := 16) (by omega)
    rw [← this]
    rw [Int32.sub_eq_add_neg]
    rfl
  · exact nI_add x 1
  · exact nI_add x 16
  · show nI x + (-1) = nI (x - 1)
    have := pk_sub (a := x) (b := 1) (by omega)
    rw [← this]
    rw [Int32.sub_eq_add_neg]
    rfl
/-- kinds that are right: the rim is wall -/
def rimOk (σ : SS) : Prop := ∀ c, c < 160 → rimN c → kindF σ (nI c) = 1
theorem kind_out {σ : SS} {x : Int32} (h : ¬ kindF σ x = 1) : ∃ c, c < 160 ∧ x = nI c := by
  rcases pk_ix x (n := 160) (by decide) with q | q | q
  · exact absurd (by unfold kindF rd; rw [if_pos q]) h
  · refine absurd ?_ h
    unfold kindF rd
    by_cases q0 : x < 0
    · rw [if_pos q0]
    · rw [if_neg q0, if_pos q]
  · exact q
def costN (σ : SS) (x : Nat) : Nat := if kindF σ (nI x) = 0 then 1 else 2
theorem nodup_len : ∀ (n : Nat) (l : List Nat), l.Nodup → (∀ x ∈ l, x < n) → l.length ≤ n
  | 0, l, _, h => by
    cases l with
    | nil => exact Nat.le_refl 0
    | cons a t => exact absurd (h a List.mem_cons_self) (Nat.not_lt_zero a)
  | n + 1, l, hn, h => by
    by_cases q : n ∈ l
    · have h1 := nodup_len n (l.erase n) (hn.erase n) (fun x hx => by
        have h2 := (hn.mem_erase_iff).mp hx
        have h3 := h x h2.2
        have h4 := h2.1
        omega)
      rw [List.length_erase_of_mem q] at h1
      omega
    · have h1 := nodup_len n l hn (fun x hx => by
        have h3 := h x hx
        have : x ≠ n := fun e => q (e ▸ hx)
        omega)
      omega
/-- a length as a number -/
def valL (L : Nat → Int32) (x : Nat) : Nat := (L x).toNatClampNeg
/-- where the search stands: L the lengths, es the entries of the queue, k of them done; g the goal, Bl the cells of others -/
def BI (σ : SS) (g : Nat) (Bl : Nat → Prop) (L : Nat → Int32) (es : List Nat) (k : Nat) : Prop :=
  es.Nodup ∧ k ≤ es.length ∧
  (∀ e ∈ es, e < 320 ∧ ¬ kindF σ (nI (e / 2)) = 1 ∧ (e % 2 = 1 → ¬ kindF σ (nI (e / 2)) = 0)) ∧
  (∀ x : Nat, x < 160 → 2 * x ∈ es → L x = nI (valL L x) ∧ valL L x ≤ 320 ∧ (¬ Bl x ∨ x = g)) ∧
  (∀ x : Nat, x < 160 → ¬ 2 * x ∈ es → (Bl x → L x = -2) ∧ (¬ Bl x → L x = -1)) ∧
  (2 * g ∈ es ∧ valL L g = 0) ∧
  (∀ x : Nat, x < 160 → 2 * x ∈ es → x ≠ g → ∃ y j : Nat, y < 160 ∧ j < 4 ∧ 2 * y ∈ es ∧ x = nbN y j ∧ valL L x = valL L y + costN σ y) ∧
  ((∀ i j ei ej : Nat, i ≤ j → es[i]? = some ei → es[j]? = some ej → valL L (ei / 2) + ei % 2 ≤ valL L (ej / 2) + ej % 2) ∧
   (∀ j ej : Nat, es[j]? = some ej → valL L (ej / 2) + ej % 2 ≤ j) ∧
   (∀ j ej ek : Nat, k ≤ j → es[j]? = some ej → es[k]? = some ek → valL L (ej / 2) + ej % 2 ≤ valL L (ek / 2) + ek % 2 + 1)) ∧
  (∀ x : Nat, 2 * x + 1 ∈ es → ∃ i : Nat, i < k ∧ es[i]? = some (2 * x)) ∧
  (∀ i x : Nat, i < k → es[i]? = some (2 * x) → ¬ kindF σ (nI x) = 0 → 2 * x + 1 ∈ es) ∧
  (∀ i e : Nat, i < k → es[i]? = some e → (e % 2 = 1 ∨ kindF σ (nI (e / 2)) = 0) → ∀ j : Nat, j < 4 → ¬ kindF σ (nI (nbN (e / 2) j)) = 1 → (¬ Bl (nbN (e / 2) j) ∨ nbN (e / 2) j = g) →
    2 * nbN (e / 2) j ∈ es ∧ valL L (nbN (e / 2) j) ≤ valL L (e / 2) + costN σ (e / 2))
theorem bi_ne {σ : SS} {g : Nat} {Bl : Nat → Prop} {L : Nat → Int32} {es : List Nat} {k Y : Nat} (hB : BI σ g Bl L es k) (hY : ¬ 2 * Y ∈ es) {e : Nat} (he : e ∈ es) : e / 2 ≠ Y := by
  intro q
  rcases (show e = 2 * Y ∨ e = 2 * Y + 1 by omega) with r | r
  · exact hY (r ▸ he)
  · obtain ⟨i, -, hi⟩ := hB.2.2.2.2.2.2.2.2.1 Y (r ▸ he)
    exact hY (List.mem_of_getElem? hi)
theorem val_ne {L : Nat → Int32} {Y x : Nat} {v : Int32} (h : x ≠ Y) : valL (upd L Y v) x = valL L x := by
  unfold valL
  rw [pk_un h]
theorem val_eq {L : Nat → Int32} {Y v : Nat} (h : v < 2 ^ 31) : valL (upd L Y (nI v)) Y = v := by
  unfold valL
  rw [pk_us, nI_clamp h]
theorem app_some {es : List Nat} {a i e : Nat} (h : (es ++ [a])[i]? = some e) : (i < es.length ∧ es[i]? = some e) ∨ (i = es.length ∧ e = a) := by
  have hl := (List.getElem?_eq_some_iff.mp h).1
  simp only [List.length_append, List.length_cons, List.length_nil] at hl
  by_cases q : i < es.length
  · rw [List.getElem?_append_left q] at h
    exact Or.inl ⟨q, h⟩
  · have : i = es.length := by omega
    subst this
    rw [List.getElem?_append_right (Nat.le_refl _), Nat.sub_self] at h
    exact Or.inr ⟨rfl, (Option.some.inj h).symm⟩
theorem some_app {es : List Nat} {a i e : Nat} (h : es[i]? = some e) : (es ++ [a])[i]? = some e := by
  rw [List.getElem?_append_left (List.getElem?_eq_some_iff.mp h).1]
  exact h
/-- a new cell is reached -/
theorem bi_push {σ : SS} {g : Nat} {Bl : Nat → Prop} {L : Nat → Int32} {es : List Nat} {k e Y v j0 : Nat} (hB : BI σ g Bl L es k) (he : es[k]? = some e) (hY : Y < 160) (hbl : ¬ Bl Y) (hn : ¬ 2 * Y ∈ es) (hw : ¬ kindF σ (nI Y) = 1)
    (hv : v = valL L (e / 2) + e % 2 + 1) (hc : v = valL L (e / 2) + costN σ (e / 2)) (hj : j0 < 4) (hnb : Y = nbN (e / 2) j0) (hu : 2 * (e / 2) ∈ es) : BI σ g Bl (upd L Y (nI v)) (es ++ [2 * Y]) k := by
  have hne : ∀ {a : Nat}, a ∈ es → a / 2 ≠ Y := fun h => bi_ne hB hn h
  obtain ⟨h1, h2, h3, h4, h5, h6, h7, ⟨h8, h9, h10⟩, h11, h12, h13⟩ := hB
  have hem : e ∈ es := List.mem_of_getElem? he
  have hlen : es.length ≤ 320 := nodup_len 320 es h1 (fun x hx => (h3 x hx).1)
  have hk : k < es.length := (List.getElem?_eq_some_iff.mp he).1
  have hkey := h9 k e he
  have hv320 : v ≤ 320 := by omega
  have hX : e / 2 ≠ Y := hne hem
  have hg : g ≠ Y := fun q => hn (q ▸ h6.1)
  have hx2 : ∀ x, 2 * x ∈ es → x ≠ Y := fun x hx q => hn (q ▸ hx)
  refine ⟨?_, by simp; omega, ?_, ?_, ?_, ?_, ?_, ⟨?_, ?_, ?_⟩, ?_, ?_, ?_⟩
  · rw [List.nodup_append]
    exact ⟨h1, by simp, fun a ha b hb q => by
      rw [List.mem_singleton] at hb
      exact hn (hb ▸ q ▸ ha)⟩
  · intro a ha
    rcases List.mem_append.mp ha with q | q
    · exact h3 a q
    · rw [List.mem_singleton.mp q]
      exact ⟨by omega, by rw [show 2 * Y / 2 = Y by omega]; exact hw, fun z => by omega⟩
  · intro x hx hm
    by_cases q : x = Y
    · subst q
      rw [val_eq (by omega), pk_us]
      exact ⟨rfl, hv320, Or.inl hbl⟩
    · rw [val_ne q, pk_un q]
      refine h4 x hx ?_
      rcases List.mem_append.mp hm with r | r
      · exact r
      · rw [List.mem_singleton] at r; omega
  · intro x hx hm
    have q : x ≠ Y := fun z => hm (z ▸ List.mem_append_right _ (List.mem_singleton.mpr rfl))
    rw [pk_un q]
    exact h5 x hx (fun z => hm (List.mem_append_left _ z))
  · exact ⟨List.mem_append_left _ h6.1, by rw [val_ne hg]; exact h6.2⟩
  · intro x hx hm hxg
    by_cases q : x = Y
    · subst q
      refine ⟨e / 2, j0, by have := (h3 e hem).1; omega, hj, List.mem_append_left _ hu, hnb, ?_⟩
      rw [val_eq (by omega), val_ne hX]
      exact hc
    · have hm' : 2 * x ∈ es := by
        rcases List.mem_append.mp hm with r | r
        · exact r
        · rw [List.mem_singleton] at r; omega
      obtain ⟨y, j, a1, a2, a3, a4, a5⟩ := h7 x hx hm' hxg
      exact ⟨y, j, a1, a2, List.mem_append_left _ a3, a4, by rw [val_ne q, val_ne (hx2 y a3)]; exact a5⟩
  · intro i j ei ej hij hi hj'
    rcases app_some hi with ⟨i1, i2⟩ | ⟨i1, i2⟩ <;> rcases app_some hj' with ⟨j1, j2⟩ | ⟨j1, j2⟩
    · rw [val_ne (hne (List.mem_of_getElem? i2)), val_ne (hne (List.mem_of_getElem? j2))]
      exact h8 i j ei ej hij i2 j2
    · subst j2
      rw [val_ne (hne (List.mem_of_getElem? i2)), show 2 * Y / 2 = Y by omega, val_eq (by omega)]
      rcases Nat.le_total i k with r | r
      · have := h8 i k ei e r i2 he; omega
      · have := h10 i ei e r i2 he; omega
    · omega
    · subst i2; subst j2; omega
  · intro j ej hj'
    rcases app_some hj' with ⟨j1, j2⟩ | ⟨j1, j2⟩
    · rw [val_ne (hne (List.mem_of_getElem? j2))]; exact h9 j ej j2
    · subst j2; rw [show 2 * Y / 2 = Y by omega, val_eq (by omega)]; omega
  · intro j ej ek hkj hj' hk'
    have hk2 : es[k]? = some ek := by
      rcases app_some hk' with ⟨k1, k2⟩ | ⟨k1, k2⟩
      · exact k2
      · omega
    have hee : ek = e := Option.some.inj (hk2.symm.trans he)
    subst hee
    rw [val_ne hX]
    rcases app_some hj' with ⟨j1, j2⟩ | ⟨j1, j2⟩
    · rw [val_ne (hne (List.mem_of_getElem? j2))]; exact h10 j ej ek hkj j2 he
    · subst j2; rw [show 2 * Y / 2 = Y by omega, val_eq (by omega)]; omega
  · intro x hx
    have hx' : 2 * x + 1 ∈ es := by
      rcases List.mem_append.mp hx with r | r
      · exact r
      · rw [List.mem_singleton] at r; omega
    obtain ⟨i, a1, a2⟩ := h11 x hx'
    exact ⟨i, a1, some_app a2⟩
  · intro i x hi hx hk0
    rcases app_some hx with ⟨_, r⟩ | ⟨r, _⟩
    · exact List.mem_append_left _ (h12 i x hi r hk0)
    · omega
  · intro i a hi ha hcond j hj4 hkw hbl
    rcases app_some ha with ⟨_, r⟩ | ⟨r, _⟩
    · obtain ⟨b1, b2⟩ := h13 i a hi r hcond j hj4 hkw hbl
      exact ⟨List.mem_append_left _ b1, by rw [val_ne (hx2 _ b1), val_ne (hne (List.mem_of_getElem? r))]; exact b2⟩
    · omega
/-- a cell that takes 2 waits -/
theorem bi_wait {σ : SS} {g : Nat} {Bl : Nat → Prop} {L : Nat → Int32} {es : List Nat} {k X : Nat} (hB : BI σ g Bl L es k) (he : es[k]? = some (2 * X)) (hk0 : ¬ kindF σ (nI X) = 0) : BI σ g Bl L (es ++ [2 * X + 1]) (k + 1) := by
  obtain ⟨h1, h2, h3, h4, h5, h6, h7, ⟨h8, h9, h10⟩, h11, h12, h13⟩ := hB
  have hem : 2 * X ∈ es := List.mem_of_getElem? he
  have hk : k < es.length := (List.getElem?_eq_some_iff.mp he).1
  have hkey := h9 k _ he
  have hnot : ¬ 2 * X + 1 ∈ es := fun q => by
    obtain ⟨i, a1, a2⟩ := h11 X q
    have := (List.getElem?_inj (show i < es.length by omega) h1).mp (a2.trans he.symm)
    omega
  have hd : (2 * X + 1) / 2 = X := by omega
  have hd2 : 2 * X / 2 = X := by omega
  rw [hd2] at hkey
  refine ⟨?_, by simp; omega, ?_, ?_, ?_, ⟨List.mem_append_left _ h6.1, h6.2⟩, ?_, ⟨?_, ?_, ?_⟩, ?_, ?_, ?_⟩
  · rw [List.nodup_append]
    exact ⟨h1, by simp, fun a ha b hb q => by
      rw [List.mem_singleton] at hb
      exact hnot (hb ▸ q ▸ ha)⟩
  · intro a ha
    rcases List.mem_append.mp ha with q | q
    · exact h3 a q
    · rw [List.mem_singleton.mp q]
      have := (h3 _ hem)
      rw [hd2] at this
      exact ⟨by omega, by rw [hd]; exact this.2.1, fun _ => by rw [hd]; exact hk0⟩
  · intro x hx hm
    refine h4 x hx ?_
    rcases List.mem_append.mp hm with r | r
    · exact r
    · rw [List.mem_singleton] at r; omega
  · intro x hx hm
    exact h5 x hx (fun z => hm (List.mem_append_left _ z))
  · intro x hx hm hxg
    have hm' : 2 * x ∈ es := by
      rcases List.mem_append.mp hm with r | r
      · exact r
      · rw [List.mem_singleton] at r; omega
    obtain ⟨y, j, a1, a2, a3, a4, a5⟩ := h7 x hx hm' hxg
    exact ⟨y, j, a1, a2, List.mem_append_left _ a3, a4, a5⟩
  · intro i j ei ej hij hi hj'
    rcases app_some hi with ⟨i1, i2⟩ | ⟨i1, i2⟩ <;> rcases app_some hj' with ⟨j1, j2⟩ | ⟨j1, j2⟩
    · exact h8 i j ei ej hij i2 j2
    · subst j2
      rw [hd]
      rcases Nat.le_total i k with r | r
      · have := h8 i k ei _ r i2 he; rw [hd2] at this; omega
      · have := h10 i ei _ r i2 he; rw [hd2] at this; omega
    · omega
    · subst i2; subst j2; omega
  · intro j ej hj'
    rcases app_some hj' with ⟨j1, j2⟩ | ⟨j1, j2⟩
    · exact h9 j ej j2
    · subst j2; rw [hd]; omega
  · intro j ej ek hkj hj' hk'
    have key2 : valL L X ≤ valL L (ek / 2) + ek % 2 := by
      rcases app_some hk' with ⟨k1, k2⟩ | ⟨k1, k2⟩
      · have := h8 k (k + 1) _ ek (by omega) he k2; rw [hd2] at this; omega
      · subst k2; rw [hd]; omega
    rcases app_some hj' with ⟨j1, j2⟩ | ⟨j1, j2⟩
    · have := h10 j ej _ (by omega) j2 he; rw [hd2] at this; omega
    · subst j2; rw [hd]; omega
  · intro x hx
    rcases List.mem_append.mp hx with r | r
    · obtain ⟨i, a1, a2⟩ := h11 x r
      exact ⟨i, by omega, some_app a2⟩
    · rw [List.mem_singleton] at r
      have : x = X := by omega
      subst this
      exact ⟨k, by omega, some_app he⟩
  · intro i x hi hx hk1
    rcases app_some hx with ⟨_, r⟩ | ⟨r, s⟩
    · by_cases q : i = k
      · subst q
        have : x = X := by have := Option.some.inj (r.symm.trans he); omega
        subst this
        exact List.mem_append_right _ (List.mem_singleton.mpr rfl)
      · exact List.mem_append_left _ (h12 i x (by omega) r hk1)
    · omega
  · intro i a hi ha hcond j hj4 hkw hbl
    rcases app_some ha with ⟨_, r⟩ | ⟨r, _⟩
    · by_cases q : i = k
      · subst q
        have : a = 2 * X := Option.some.inj (r.symm.trans he)
        subst this
        rw [hd2] at hcond
        rcases hcond with z | z
        · omega
        · exact absurd z hk0
      · obtain ⟨b1, b2⟩ := h13 i a (by omega) r hcond j hj4 hkw hbl
        exact ⟨List.mem_append_left _ b1, b2⟩
    · omega
/-- an entry whose neighbours are done -/
theorem bi_next {σ : SS} {g : Nat} {Bl : Nat → Prop} {L : Nat → Int32} {es : List Nat} {k e : Nat} (hB : BI σ g Bl L es k) (he : es[k]? = some e) (hx : e % 2 = 1 ∨ kindF σ (nI (e / 2)) = 0)
    (hd : ∀ j, j < 4 → ¬ kindF σ (nI (nbN (e / 2) j)) = 1 → (¬ Bl (nbN (e / 2) j) ∨ nbN (e / 2) j = g) → 2 * nbN (e / 2) j ∈ es ∧ valL L (nbN (e / 2) j) ≤ valL L (e / 2) + costN σ (e / 2)) : BI σ g Bl L es (k + 1) := by
  obtain ⟨h1, h2, h3, h4, h5, h6, h7, ⟨h8, h9, h10⟩, h11, h12, h13⟩ := hB
  have hk : k < es.length := (List.getElem?_eq_some_iff.mp he).1
  refine ⟨h1, by omega, h3, h4, h5, h6, h7, ⟨h8, h9, ?_⟩, ?_, ?_, ?_⟩
  · intro j ej ek hkj hj' hk'
    have a1 := h10 j ej e (by omega) hj' he
    have a2 := h8 k (k + 1) e ek (by omega) he hk'
    omega
  · intro x hx'
    obtain ⟨i, a1, a2⟩ := h11 x hx'
    exact ⟨i, by omega, a2⟩
  · intro i x hi hx' hk0
    by_cases q : i = k
    · subst q
      have : e = 2 * x := Option.some.inj (he.symm.trans hx')
      subst this
      rcases hx with z | z
      · omega
      · rw [show 2 * x / 2 = x by omega] at z; exact absurd z hk0
    · exact h12 i x (by omega) hx' hk0
  · intro i a hi ha hcond j hj4 hkw hbl
    by_cases q : i = k
    · subst q
      have : a = e := Option.some.inj (ha.symm.trans he)
      subst this
      exact hd j hj4 hkw hbl
    · exact h13 i a (by omega) ha hcond j hj4 hkw hbl

theorem bi_len {σ : SS} {g : Nat} {Bl : Nat → Prop} {L : Nat → Int32} {es : List Nat} {k : Nat} (hB : BI σ g Bl L es k) : es.length ≤ 320 := nodup_len 320 es hB.1 (fun x hx => (hB.2.2.1 x hx).1)
/-- the neighbours before j are done -/
def doneN (σ : SS) (g : Nat) (Bl : Nat → Prop) (L : Nat → Int32) (es : List Nat) (X v j : Nat) : Prop := ∀ i, i < j → ¬ kindF σ (nI (nbN X i)) = 1 → (¬ Bl (nbN X i) ∨ nbN X i = g) → 2 * nbN X i ∈ es ∧ valL L (nbN X i) ≤ v
theorem len_A {L : Nat → Int32} {Y : Nat} (h : Y < 160) : lenA L (nI Y) = L Y := by
  unfold lenA rd
  rw [if_neg (nI_pos (by omega)), if_neg (nI_ge (a := Y) (b := 160) h (by omega)), nI_clamp (by omega)]
theorem put_A {L : Nat → Int32} {q : List Int32} {Y : Nat} (h : Y < 160) (x : Int32) : putA (L, q) (nI Y) x = (upd L Y x, q) := by
  unfold putA wr
  rw [if_neg (nI_pos (by omega)), if_neg (nI_ge (a := Y) (b := 160) h (by omega)), nI_clamp (by omega)]
theorem enq_A {L : Nat → Int32} {es : List Nat} (h : es.length < 320) (n : Nat) : enqA (L, es.map nI) (nI n) = (L, (es ++ [n]).map nI) := by
  unfold enqA
  rw [if_pos (show (es.map nI).length < 320 by rw [List.length_map]; exact h)]
  rw [List.map_append]
  rfl
theorem m1_ne {n : Nat} (h : n < 2 ^ 31) : ¬ nI n = -1 := fun q => by
  have h1 := nI_pos (n := n) h
  rw [q] at h1
  exact h1 (by decide)
theorem bi_reach {σ : SS} {g : Nat} {Bl : Nat → Prop} {k e v : Nat} (hR : rimOk σ) (hx : e % 2 = 1 ∨ kindF σ (nI (e / 2)) = 0) : ∀ (m j : Nat) (L : Nat → Int32) (es : List Nat), j + m = 4 → BI σ g Bl L es k → es[k]? = some e → valL L (e / 2) + costN σ (e / 2) = v → doneN σ g Bl L es (e / 2) v j →
    ∃ (L' : Nat → Int32) (es' : List Nat), BI σ g Bl L' es' k ∧ es'[k]? = some e ∧ valL L' (e / 2) + costN σ (e / 2) = v ∧ doneN σ g Bl L' es' (e / 2) v 4 ∧ reachAL σ (nI (e / 2)) (nI v) m j (L, es.map nI) = (L', es'.map nI)
  | 0, j, L, es, hj, hB, he, hv, hd => ⟨L, es, hB, he, hv, by rw [show (4 : Nat) = j by omega]; exact hd, rfl⟩
  | m + 1, j, L, es, hj, hB, he, hv, hd => by
    have hem : e ∈ es := List.mem_of_getElem? he
    have h3 := hB.2.2.1 e hem
    have hX : e / 2 < 160 := by omega
    have hrim : ¬ rimN (e / 2) := fun q => h3.2.1 (hR _ hX q)
    have hY : nbN (e / 2) j < 160 := nb_in hrim
    have hst := nb_st hrim (show j < 4 by omega)
    have h4 := hB.2.2.2.1
    have h5 := hB.2.2.2.2.1
    have hg := hB.2.2.2.2.2.1
    have h8 := hB.2.2.2.2.2.2.2.1
    have h11 := hB.2.2.2.2.2.2.2.2.1
    have hcost : costN σ (e / 2) = e % 2 + 1 := by
      unfold costN
      rcases hx with q | q
      · rw [if_neg (h3.2.2 q), q]
      · rw [if_pos q]
        rcases (show e % 2 = 0 ∨ e % 2 = 1 by omega) with r | r
        · rw [r]
        · exact absurd q (h3.2.2 r)
    have hu : 2 * (e / 2) ∈ es := by
      rcases (show e % 2 = 0 ∨ e % 2 = 1 by omega) with r | r
      · rw [show 2 * (e / 2) = e by omega]; exact hem
      · obtain ⟨i, -, hi⟩ := h11 (e / 2) (by rw [show 2 * (e / 2) + 1 = e by omega]; exact hem)
        exact List.mem_of_getElem? hi
    have hval : valL L (e / 2) ≤ 320 := (h4 _ hX hu).2.1
    unfold reachAL
    rw [hst]
    generalize hYe : nbN (e / 2) j = Y at hY hst ⊢
    have hstep : ∀ (L1 : Nat → Int32) (es1 : List Nat), BI σ g Bl L1 es1 k → es1[k]? = some e → valL L1 (e / 2) + costN σ (e / 2) = v → doneN σ g Bl L1 es1 (e / 2) v (j + 1) →
        ∃ (L' : Nat → Int32) (es' : List Nat), BI σ g Bl L' es' k ∧ es'[k]? = some e ∧ valL L' (e / 2) + costN σ (e / 2) = v ∧ doneN σ g Bl L' es' (e / 2) v 4 ∧ reachAL σ (nI (e / 2)) (nI v) m (j + 1) (L1, es1.map nI) = (L', es'.map nI) := fun L1 es1 b1 b2 b3 b4 => bi_reach hR hx m (j + 1) L1 es1 (by omega) b1 b2 b3 b4
    show ∃ (L' : Nat → Int32) (es' : List Nat), BI σ g Bl L' es' k ∧ es'[k]? = some e ∧ valL L' (e / 2) + costN σ (e / 2) = v ∧ doneN σ g Bl L' es' (e / 2) v 4 ∧ reachAL σ (nI (e / 2)) (nI v) m (j + 1) (if lenA L (nI Y) = -1 then if kindF σ (nI Y) = 1 then (L, es.map nI) else enqA (putA (L, es.map nI) (nI Y) (nI v)) (2 * nI Y) else (L, es.map nI)) = (L', es'.map nI)
    rw [len_A hY]
    by_cases hL : L Y = -1
    · have hn : ¬ 2 * Y ∈ es := fun q => by
        have := h4 Y hY q
        rw [this.1] at hL
        exact m1_ne (by omega) hL
      rw [if_pos hL]
      by_cases hw : kindF σ (nI Y) = 1
      · rw [if_pos hw]
        refine hstep L es hB he hv (fun i hi hk hb => ?_)
        rcases (show i < j ∨ i = j by omega) with r | r
        · exact hd i r hk hb
        · subst r; rw [hYe] at hk; exact absurd hw hk
      · rw [if_neg hw]
        have hbl : ¬ Bl Y := fun q => by
          have := (h5 Y hY hn).1 q
          rw [this] at hL
          exact absurd hL (by decide)
        have hP := bi_push hB he hY hbl hn hw (show v = valL L (e / 2) + e % 2 + 1 by omega) hv.symm (show j < 4 by omega) hYe.symm hu
        have hl := bi_len hP
        simp only [List.length_append, List.length_cons, List.length_nil] at hl
        rw [put_A hY, show (2 : Int32) * nI Y = nI (2 * Y) from pk_mul 2 Y, enq_A (by omega)]
        have hXY : e / 2 ≠ Y := bi_ne hB hn hem
        refine hstep _ _ hP (some_app he) (by rw [val_ne hXY]; exact hv) (fun i hi hk hb => ?_)
        rcases (show i < j ∨ i = j by omega) with r | r
        · obtain ⟨a1, a2⟩ := hd i r hk hb
          have : nbN (e / 2) i ≠ Y := fun q => hn (q ▸ a1)
          exact ⟨List.mem_append_left _ a1, by rw [val_ne this]; exact a2⟩
        · subst r
          rw [hYe]
          exact ⟨List.mem_append_right _ (List.mem_singleton.mpr rfl), by rw [val_eq (by omega)]; exact Nat.le_refl v⟩
    · rw [if_neg hL]
      refine hstep L es hB he hv (fun i hi hk hb => ?_)
      rcases (show i < j ∨ i = j by omega) with r | r
      · exact hd i r hk hb
      · subst r
        rw [hYe] at hb ⊢
        have hin : 2 * Y ∈ es := by
          by_cases q : 2 * Y ∈ es
          · exact q
          · exfalso
            rcases hb with b | b
            · exact hL ((h5 Y hY q).2 b)
            · exact q (b ▸ hg.1)
        refine ⟨hin, ?_⟩
        obtain ⟨n, hn, hn2⟩ := List.getElem_of_mem hin
        have hn3 : es[n]? = some (2 * Y) := by rw [List.getElem?_eq_getElem hn, hn2]
        have key : valL L (2 * Y / 2) + 2 * Y % 2 ≤ valL L (e / 2) + e % 2 + 1 := by
          rcases Nat.le_total n k with r | r
          · have := h8.1 n k _ e r hn3 he; omega
          · exact h8.2.2 n _ e r hn3 he
        rw [show 2 * Y / 2 = Y by omega] at key
        omega
theorem rem2 : ∀ n, n < 320 → remI (nI n) 2 = nI (n % 2) ∧ nI n / 2 = nI (n / 2) := by decide +kernel
/-- one entry -/
theorem bi_entry {σ : SS} {g : Nat} {Bl : Nat → Prop} {L : Nat → Int32} {es : List Nat} {k e : Nat} (hR : rimOk σ) (hB : BI σ g Bl L es k) (he : es[k]? = some e) : ∃ (L' : Nat → Int32) (es' : List Nat), BI σ g Bl L' es' (k + 1) ∧ entryA σ (L, es.map nI) (nI e) = (L', es'.map nI) := by
  have hem : e ∈ es := List.mem_of_getElem? he
  have h3 := hB.2.2.1 e hem
  have hX : e / 2 < 160 := by omega
  have h4 := hB.2.2.2.1
  have h11 := hB.2.2.2.2.2.2.2.2.1
  have hu : 2 * (e / 2) ∈ es := by
    rcases (show e % 2 = 0 ∨ e % 2 = 1 by omega) with r | r
    · rw [show 2 * (e / 2) = e by omega]; exact hem
    · obtain ⟨i, -, hi⟩ := h11 (e / 2) (by rw [show 2 * (e / 2) + 1 = e by omega]; exact hem)
      exact List.mem_of_getElem? hi
  have hL := h4 _ hX hu
  have go : ∀ v, valL L (e / 2) + costN σ (e / 2) = v → (e % 2 = 1 ∨ kindF σ (nI (e / 2)) = 0) → ∃ (L' : Nat → Int32) (es' : List Nat), BI σ g Bl L' es' (k + 1) ∧ reachA σ (L, es.map nI) (nI (e / 2)) (nI v) = (L', es'.map nI) := by
    intro v hv hx
    obtain ⟨L', es', b1, b2, b3, b4, b5⟩ := bi_reach hR hx 4 0 L es rfl hB he hv (fun i hi => absurd hi (Nat.not_lt_zero i))
    exact ⟨L', es', bi_next b1 b2 hx (fun i hi hk hb => by
      have := b4 i hi hk hb
      exact ⟨this.1, by omega⟩), b5⟩
  unfold entryA
  rw [(rem2 e h3.1).1, (rem2 e h3.1).2]
  by_cases hk0 : kindF σ (nI (e / 2)) = 0
  · rw [if_pos hk0]
    show ∃ (L' : Nat → Int32) (es' : List Nat), BI σ g Bl L' es' (k + 1) ∧ reachA σ (L, es.map nI) (nI (e / 2)) (lenA L (nI (e / 2)) + 1) = (L', es'.map nI)
    rw [len_A hX, hL.1, nI_1]
    exact go _ (by unfold costN; rw [if_pos hk0]) (Or.inr hk0)
  · rw [if_neg hk0]
    rcases (show e % 2 = 1 ∨ e % 2 = 0 by omega) with r | r
    · rw [if_pos (show nI (e % 2) = 1 by rw [r]; rfl)]
      show ∃ (L' : Nat → Int32) (es' : List Nat), BI σ g Bl L' es' (k + 1) ∧ reachA σ (L, es.map nI) (nI (e / 2)) (lenA L (nI (e / 2)) + 2) = (L', es'.map nI)
      rw [len_A hX, hL.1, show nI (valL L (e / 2)) + 2 = nI (valL L (e / 2) + 2) from nI_add _ 2]
      exact go _ (by unfold costN; rw [if_neg hk0]) (Or.inl r)
    · rw [if_neg (show ¬ nI (e % 2) = 1 by rw [r]; decide)]
      have he2 : es[k]? = some (2 * (e / 2)) := by rw [show 2 * (e / 2) = e by omega]; exact he
      have hP := bi_wait hB he2 hk0
      have hl := bi_len hP
      simp only [List.length_append, List.length_cons, List.length_nil] at hl
      refine ⟨L, es ++ [2 * (e / 2) + 1], hP, ?_⟩
      rw [show (2 : Int32) * nI (e / 2) + 1 = nI (2 * (e / 2) + 1) by rw [show (2 : Int32) * nI (e / 2) = nI (2 * (e / 2)) from pk_mul 2 (e / 2), nI_1]]
      exact enq_A (by omega) _
theorem bi_spread {σ : SS} {g : Nat} {Bl : Nat → Prop} (hR : rimOk σ) : ∀ (m k : Nat) (L : Nat → Int32) (es : List Nat), k + m = 320 → BI σ g Bl L es k → ∃ (L' : Nat → Int32) (es' : List Nat), BI σ g Bl L' es' es'.length ∧ spreadA σ m k (L, es.map nI) = (L', es'.map nI)
  | 0, k, L, es, hk, hB => by
    have h1 := bi_len hB
    have h2 := hB.2.1
    exact ⟨L, es, by rw [show es.length = k by omega]; exact hB, rfl⟩
  | m + 1, k, L, es, hk, hB => by
    have h2 := hB.2.1
    unfold spreadA
    cases he : es[k]? with
    | none =>
      have h1 : es.length ≤ k := List.getElem?_eq_none_iff.mp he
      refine ⟨L, es, by rw [show es.length = k by omega]; exact hB, ?_⟩
      simp only [List.getElem?_map, he, Option.map_none]
    | some e =>
      obtain ⟨L1, es1, b1, b2⟩ := bi_entry hR hB he
      obtain ⟨L', es', c1, c2⟩ := bi_spread hR m (k + 1) L1 es1 (by omega) b1
      refine ⟨L', es', c1, ?_⟩
      simp only [List.getElem?_map, he, Option.map_some]
      rw [b2]
      exact c2
/-- the cells of others than w -/
def blkN (σ : SS) (w : Int32) (x : Nat) : Prop := ∃ j, j < s_n σ ∧ nI j ≠ w ∧ traitF σ (nI j) 1 = nI x
theorem wr_m2 {L : Nat → Int32} {t v : Int32} {x : Nat} (hx : x < 160) : (t = nI x → wr L 160 t v x = v) ∧ (t ≠ nI x → wr L 160 t v x = L x) := by
  refine ⟨fun q => ?_, fun q => ?_⟩
  · subst q
    unfold wr
    rw [if_neg (nI_pos (by omega)), if_neg (nI_ge (a := x) (b := 160) hx (by omega)), nI_clamp (by omega), pk_us]
  · unfold wr
    rcases pk_ix t (n := 160) (by decide) with r | r | ⟨i, hi, rfl⟩
    · rw [if_pos r]
    · by_cases q0 : t < 0
      · rw [if_pos q0]
      · rw [if_neg q0, if_pos r]
    · rw [if_neg (nI_pos (by omega)), if_neg (nI_ge (a := i) (b := 160) hi (by omega)), nI_clamp (by omega)]
      exact pk_un (fun e => q (by rw [e]))
theorem block_at (σ : SS) (w : Int32) (x : Nat) (hx : x < 160) : ∀ (m k : Nat) (L : Nat → Int32), (((∃ j, k ≤ j ∧ j < k + m ∧ nI j ≠ w ∧ traitF σ (nI j) 1 = nI x) → blockA σ w m k L x = -2)) ∧ ((¬ ∃ j, k ≤ j ∧ j < k + m ∧ nI j ≠ w ∧ traitF σ (nI j) 1 = nI x) → blockA σ w m k L x = L x)
  | 0, k, L => ⟨fun ⟨j, h1, h2, _⟩ => by omega, fun _ => rfl⟩
  | m + 1, k, L => by
    obtain ⟨a, b⟩ := block_at σ w x hx m (k + 1) (if nI k = w then L else wr L 160 (traitF σ (nI k) 1) (-2))
    have e : blockA σ w (m + 1) k L x = blockA σ w m (k + 1) (if nI k = w then L else wr L 160 (traitF σ (nI k) 1) (-2)) x := rfl
    rw [e]
    by_cases q : ∃ j, k + 1 ≤ j ∧ j < k + 1 + m ∧ nI j ≠ w ∧ traitF σ (nI j) 1 = nI x
    · refine ⟨fun _ => a q, fun z => ?_⟩
      obtain ⟨j, h1, h2, h3, h4⟩ := q
      exact absurd ⟨j, by omega, by omega, h3, h4⟩ z
    · rw [b q]
      by_cases hw : nI k = w
      · rw [if_pos hw]
        refine ⟨fun ⟨j, h1, h2, h3, h4⟩ => ?_, fun _ => rfl⟩
        rcases (show j = k ∨ k + 1 ≤ j by omega) with r | r
        · subst r; exact absurd hw h3
        · exact absurd ⟨j, r, by omega, h3, h4⟩ q
      · rw [if_neg hw]
        refine ⟨fun ⟨j, h1, h2, h3, h4⟩ => ?_, fun z => ?_⟩
        · rcases (show j = k ∨ k + 1 ≤ j by omega) with r | r
          · subst r; exact (wr_m2 hx).1 h4
          · exact absurd ⟨j, r, by omega, h3, h4⟩ q
        · exact (wr_m2 hx).2 (fun h => z ⟨k, Nat.le_refl _, by omega, hw, h⟩)
/-- what the lengths are, when the goal is no wall -/
theorem lens_BI {σ : SS} {w : Int32} {G : Nat} (hR : rimOk σ) (hG : G < 160) (hk : ¬ kindF σ (nI G) = 1) : ∃ es : List Nat, BI σ G (blkN σ w) (lensF σ w (nI G)) es es.length := by
  have h0 : BI σ G (blkN σ w) (upd (blockA σ w (s_n σ) 0 (fun _ => -1)) G 0) [2 * G] 0 := by
    have hv : valL (upd (blockA σ w (s_n σ) 0 (fun _ => -1)) G 0) G = 0 := val_eq (v := 0) (by decide)
    have hd : 2 * G / 2 = G := by omega
    refine ⟨by simp, Nat.zero_le _, ?_, ?_, ?_, ⟨List.mem_singleton.mpr rfl, hv⟩, ?_, ⟨?_, ?_, ?_⟩, ?_, ?_, ?_⟩
    · intro e he
      rw [List.mem_singleton] at he
      subst he
      exact ⟨by omega, by rw [hd]; exact hk, fun z => by omega⟩
    · intro x hx hm
      have : x = G := by rw [List.mem_singleton] at hm; omega
      subst this
      rw [hv, pk_us]
      exact ⟨rfl, by decide, Or.inr rfl⟩
    · intro x hx hm
      have hxG : x ≠ G := fun q => hm (by rw [q]; exact List.mem_singleton.mpr rfl)
      rw [pk_un hxG]
      obtain ⟨a, b⟩ := block_at σ w x hx (s_n σ) 0 (fun _ => -1)
      refine ⟨fun ⟨j, h1, h2, h3⟩ => a ⟨j, Nat.zero_le _, by omega, h2, h3⟩, fun z => b (fun ⟨j, h1, h2, h3, h4⟩ => z ⟨j, by omega, h3, h4⟩)⟩
    · intro x hx hm hxG
      rw [List.mem_singleton] at hm
      omega
    · intro i j ei ej hij hi hj
      have h1 := List.mem_of_getElem? hi
      have h2 := List.mem_of_getElem? hj
      rw [List.mem_singleton] at h1 h2
      subst h1; subst h2
      exact Nat.le_refl _
    · intro j ej hj
      have h2 := List.mem_of_getElem? hj
      rw [List.mem_singleton] at h2
      subst h2
      rw [hd, hv]; omega
    · intro j ej ek hkj hj hk'
      have h1 := List.mem_of_getElem? hj
      have h2 := List.mem_of_getElem? hk'
      rw [List.mem_singleton] at h1 h2
      subst h1; subst h2
      omega
    · intro x hx
      rw [List.mem_singleton] at hx
      omega
    · intro i x hi
      exact absurd hi (Nat.not_lt_zero i)
    · intro i e hi
      exact absurd hi (Nat.not_lt_zero i)
  obtain ⟨L', es', b1, b2⟩ := bi_spread hR 320 0 _ _ rfl h0
  refine ⟨es', ?_⟩
  have e : lensF σ w (nI G) = L' := by
    unfold lensF measureA
    rw [if_neg hk]
    have e1 : wr (blockA σ w (s_n σ) 0 (fun _ => -1)) 160 (nI G) 0 = upd (blockA σ w (s_n σ) 0 (fun _ => -1)) G 0 := by
      unfold wr
      rw [if_neg (nI_pos (by omega)), if_neg (nI_ge (a := G) (b := 160) hG (by omega)), nI_clamp (by omega)]
    have e2 : [(2 : Int32) * nI G] = [2 * G].map nI := by
      rw [show (2 : Int32) * nI G = nI (2 * G) from pk_mul 2 G]
      rfl
    rw [e1, e2, b2]
  rw [e]
  exact b1
-- what follows for the ways
theorem way_or {σ : SS} {w : Int32} {G : Nat} {es : List Nat} (hB : BI σ G (blkN σ w) (lensF σ w (nI G)) es es.length) {x : Nat} (hx : x < 160) : (2 * x ∈ es ∧ fromL (lensF σ w (nI G)) (nI x) = nI (valL (lensF σ w (nI G)) x) ∧ valL (lensF σ w (nI G)) x ≤ 320) ∨ (¬ 2 * x ∈ es ∧ fromL (lensF σ w (nI G)) (nI x) = -1) := by
  unfold fromL
  rw [len_A hx]
  by_cases q : 2 * x ∈ es
  · obtain ⟨h1, h2, -⟩ := hB.2.2.2.1 x hx q
    refine Or.inl ⟨q, ?_, h2⟩
    rw [h1]
    unfold maxI
    rw [if_neg (fun z => nI_pos (n := valL (lensF σ w (nI G)) x) (by omega) (Int32.lt_trans z (by decide)))]
  · obtain ⟨h1, h2⟩ := hB.2.2.2.2.1 x hx q
    refine Or.inr ⟨q, ?_⟩
    by_cases b : blkN σ w x
    · rw [h1 b]; decide
    · rw [h2 b]; decide
theorem way_step {σ : SS} {w : Int32} {G : Nat} {es : List Nat} (hB : BI σ G (blkN σ w) (lensF σ w (nI G)) es es.length) {X j : Nat} (hX : X < 160) (hr : 2 * X ∈ es) (hj : j < 4) (hk : ¬ kindF σ (nI (nbN X j)) = 1) (hb : ¬ blkN σ w (nbN X j) ∨ nbN X j = G) : 2 * nbN X j ∈ es ∧ valL (lensF σ w (nI G)) (nbN X j) ≤ valL (lensF σ w (nI G)) X + costN σ X := by
  obtain ⟨h1, h2, h3, h4, h5, h6, h7, h8, h11, h12, h13⟩ := hB
  obtain ⟨n, hn, hn2⟩ := List.getElem_of_mem hr
  have hn3 : es[n]? = some (2 * X) := by rw [List.getElem?_eq_getElem hn, hn2]
  have hd : 2 * X / 2 = X := by omega
  by_cases hk0 : kindF σ (nI X) = 0
  · have := h13 n (2 * X) hn hn3 (by rw [hd]; exact Or.inr hk0) j hj (by rw [hd]; exact hk) (by rw [hd]; exact hb)
    rw [hd] at this
    exact this
  · have hm := h12 n X hn hn3 hk0
    obtain ⟨i, hi, hi2⟩ := List.getElem_of_mem hm
    have hi3 : es[i]? = some (2 * X + 1) := by rw [List.getElem?_eq_getElem hi, hi2]
    have hd2 : (2 * X + 1) / 2 = X := by omega
    have := h13 i (2 * X + 1) hi hi3 (Or.inl (by omega)) j hj (by rw [hd2]; exact hk) (by rw [hd2]; exact hb)
    rw [hd2] at this
    exact this
def apN (x y : Nat) : Nat := (if x ≤ y then y - x else x - y)
/-- how far two cells are -/
def manN (x y : Nat) : Nat := apN (x / 16) (y / 16) + apN (x % 16) (y % 16)
theorem man_nb {y j G : Nat} (h : ¬ rimN y) (hy : y < 160) : manN (nbN y j) G ≤ manN y G + 1 := by
  unfold rimN at h
  unfold nbN manN apN
  split <;> (repeat' split) <;> omega
theorem way_far {σ : SS} {w : Int32} {G : Nat} {es : List Nat} (hR : rimOk σ) (hB : BI σ G (blkN σ w) (lensF σ w (nI G)) es es.length) : ∀ (n x : Nat), x < 160 → 2 * x ∈ es → valL (lensF σ w (nI G)) x = n → manN x G ≤ n := by
  intro n
  induction n using Nat.strongRecOn with
  | _ n ih =>
    intro x hx hr hv
    by_cases hG : x = G
    · subst hG
      unfold manN apN
      rw [if_pos (Nat.le_refl _), if_pos (Nat.le_refl _)]
      omega
    · obtain ⟨y, j, y1, y2, y3, y4, y5⟩ := hB.2.2.2.2.2.2.1 x hx hr hG
      have h3 := hB.2.2.1 _ y3
      rw [show 2 * y / 2 = y by omega] at h3
      have hrim : ¬ rimN y := fun q => h3.2.1 (hR y y1 q)
      have hc : 1 ≤ costN σ y := by unfold costN; split <;> omega
      have h6 := ih (valL (lensF σ w (nI G)) y) (by omega) y y1 y3 rfl
      have h7 := man_nb (j := j) (G := G) hrim y1
      rw [← y4] at h7
      omega
/-- ways to two cells that are next to each other -/
theorem way_next {σ : SS} {w : Int32} {C N : Nat} {e1 e2 : List Nat} {j : Nat} (hR : rimOk σ) (hC : C < 160) (hN : N < 160) (h1 : BI σ C (blkN σ w) (lensF σ w (nI C)) e1 e1.length) (h2 : BI σ N (blkN σ w) (lensF σ w (nI N)) e2 e2.length) (hj : j < 4) (hn : C = nbN N j) (hb : ¬ blkN σ w C) (hk : ¬ kindF σ (nI C) = 1) :
    ∀ (n x : Nat), x < 160 → 2 * x ∈ e1 → valL (lensF σ w (nI C)) x = n → 2 * x ∈ e2 ∧ valL (lensF σ w (nI N)) x ≤ n + costN σ N := by
  intro n
  induction n using Nat.strongRecOn with
  | _ n ih =>
    intro x hx hr hv
    by_cases hG : x = C
    · have h := way_step h2 hN h2.2.2.2.2.2.1.1 hj (by rw [← hn]; exact hk) (Or.inl (by rw [← hn]; exact hb))
      rw [← hn, h2.2.2.2.2.2.1.2] at h
      rw [hG]
      exact ⟨h.1, by omega⟩
    · obtain ⟨y, i, y1, y2, y3, y4, y5⟩ := h1.2.2.2.2.2.2.1 x hx hr hG
      have hc : 1 ≤ costN σ y := by unfold costN; split <;> omega
      obtain ⟨a1, a2⟩ := ih (valL (lensF σ w (nI C)) y) (by omega) y y1 y3 rfl
      have hxk : ¬ kindF σ (nI x) = 1 := by
        have := h1.2.2.1 _ hr
        rw [show 2 * x / 2 = x by omega] at this
        exact this.2.1
      have hxb : ¬ blkN σ w x := by
        rcases (h1.2.2.2.1 x hx hr).2.2 with q | q
        · exact q
        · exact absurd q hG
      have h := way_step h2 y1 a1 y2 (by rw [← y4]; exact hxk) (Or.inl (by rw [← y4]; exact hxb))
      rw [← y4] at h
      exact ⟨h.1, by omega⟩
