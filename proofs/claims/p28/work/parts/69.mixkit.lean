-- ===== what the shadow's methods that ask the class stand on =====
theorem digT_0 {X Y V Hh : Nat} (h1 : X ≤ 15) (h2 : Y ≤ 9) (h3 : 1 ≤ V) (h4 : X + V ≤ 16) (h5 : 1 ≤ Hh) (h6 : Y + Hh ≤ 10) : digT (nI X) (nI Y) (nI V) (nI Hh) = 0 := by
  unfold digT
  rw [if_pos (show withinB (nI X) 0 15 = true from (within_d (a := X) (b := 0) (c := 15) (by omega) (by omega) (by omega)).mpr ⟨Nat.zero_le _, h1⟩), if_pos (show withinB (nI Y) 0 9 = true from (within_d (a := Y) (b := 0) (c := 9) (by omega) (by omega) (by omega)).mpr ⟨Nat.zero_le _, h2⟩),
    show (16 : Int32) - nI X = nI (16 - X) from pk_sub (a := 16) (by omega), if_pos (show withinB (nI V) 1 (nI (16 - X)) = true from (within_d (a := V) (b := 1) (c := 16 - X) (by omega) (by omega) (by omega)).mpr ⟨h3, by omega⟩),
    show (10 : Int32) - nI Y = nI (10 - Y) from pk_sub (a := 10) (by omega), if_pos (show withinB (nI Hh) 1 (nI (10 - Y)) = true from (within_d (a := Hh) (b := 1) (c := 10 - Y) (by omega) (by omega) (by omega)).mpr ⟨h5, by omega⟩)]
