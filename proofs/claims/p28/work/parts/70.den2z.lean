-- ===== the shadow's object stays where it is =====
def oz (o o' : Nat → Nat) : Nat → Nat := fun k => if k = 0 then o 0 else o' k
theorem oz_eq {o o' : Nat → Nat} (h : o' 0 = o 0) : oz o o' = o' := by
  funext k
  unfold oz
  by_cases q : k = 0
  · rw [if_pos q, q, h]
  · rw [if_neg q]
