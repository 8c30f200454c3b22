-- ===== words of one list among another's, word by word =====
theorem gI_nil {big : List Cond} : GoodIn big [] := fun w h => by cases h
theorem gI_cons {big ws : List Cond} {w : Cond} (h : w ∈ big ∧ ((w.onTables && w.keeps) = true ∨ ∃ ty, w = .arrayClass ty)) (hs : GoodIn big ws) : GoodIn big (w :: ws) := fun v hv => (List.mem_cons.mp hv).elim (fun e => e ▸ h) (hs v)
