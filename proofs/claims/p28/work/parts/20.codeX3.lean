theorem dX3_init_0 : decode cX3_init 0 = .ok (.aload_n 0, 1) := by decide +kernel
theorem dX3_init_1 : decode cX3_init 1 = .ok (.invokespecial 3, 3) := by decide +kernel
theorem dX3_init_4 : decode cX3_init 4 = .ok (.aload_n 0, 1) := by decide +kernel
theorem dX3_init_5 : decode cX3_init 5 = .ok (.sipush 160, 3) := by decide +kernel
theorem dX3_init_8 : decode cX3_init 8 = .ok (.newarray .int, 2) := by decide +kernel
theorem dX3_init_10 : decode cX3_init 10 = .ok (.putfield 9, 3) := by decide +kernel
theorem dX3_init_13 : decode cX3_init 13 = .ok (.aload_n 0, 1) := by decide +kernel
theorem dX3_init_14 : decode cX3_init 14 = .ok (.sipush 320, 3) := by decide +kernel
theorem dX3_init_17 : decode cX3_init 17 = .ok (.newarray .int, 2) := by decide +kernel
theorem dX3_init_19 : decode cX3_init 19 = .ok (.putfield 15, 3) := by decide +kernel
theorem dX3_init_22 : decode cX3_init 22 = .ok (.return_, 1) := by decide +kernel
set_option maxRecDepth 20000 in
theorem ggX3_measure_J7_fill_53178 : GoodIn wsX3_measure wsJ7_fill_53178 := (gI_cons ⟨(List.mem_cons_of_mem _ (List.mem_append_left _ (List.mem_append_left _ (List.mem_append_left _ (List.mem_of_getElem? (i := 5) rfl))))), (Or.inl rfl)⟩ gI_nil)
set_option maxRecDepth 20000 in
theorem gX3_measure_J7_fill_53178 : GoodIn wsX3_measure (va_wsS RX3 18 yJ7_fill_53178 wsJ7_fill_53178) := goodIn_app (gI_cons ⟨(List.mem_cons_of_mem _ (List.mem_append_left _ (List.mem_append_left _ (List.mem_append_left _ (List.mem_of_getElem? (i := 2) rfl))))), (Or.inl rfl)⟩ (gI_cons ⟨(List.mem_cons_of_mem _ (List.mem_append_left _ (List.mem_append_left _ (List.mem_append_left _ (List.mem_of_getElem? (i := 3) rfl))))), (Or.inl rfl)⟩ (gI_cons ⟨(List.mem_cons_of_mem _ (List.mem_append_left _ (List.mem_append_left _ (List.mem_append_left _ (List.mem_of_getElem? (i := 4) rfl))))), (Or.inl rfl)⟩ gI_nil))) ggX3_measure_J7_fill_53178
set_option maxRecDepth 20000 in
theorem ggX3_measure_X2_kindAt : GoodIn wsX3_measure wsX2_kindAt := (gI_cons ⟨(List.mem_cons_of_mem _ (List.mem_append_left _ (List.mem_append_left _ (List.mem_append_left _ (List.mem_of_getElem? (i := 10) rfl))))), (Or.inl rfl)⟩ (goodIn_app (gI_cons ⟨(List.mem_cons_of_mem _ (List.mem_append_left _ (List.mem_append_left _ (List.mem_append_left _ (List.mem_of_getElem? (i := 11) rfl))))), (Or.inl rfl)⟩ gI_nil) (goodIn_sub (fun _ h => (List.mem_cons_of_mem _ (List.mem_append_right _ h))) (by decide +kernel))))
set_option maxRecDepth 20000 in
theorem gX3_measure_X2_kindAt : GoodIn wsX3_measure (wsV RX3 28 RX2 yX2_kindAt wsX2_kindAt) := goodIn_app (gI_cons ⟨(List.mem_cons_of_mem _ (List.mem_append_left _ (List.mem_append_left _ (List.mem_append_left _ (List.mem_of_getElem? (i := 6) rfl))))), (Or.inl rfl)⟩ (gI_cons ⟨(List.mem_cons_of_mem _ (List.mem_append_left _ (List.mem_append_left _ (List.mem_append_left _ (List.mem_of_getElem? (i := 7) rfl))))), (Or.inl rfl)⟩ (gI_cons ⟨(List.mem_cons_of_mem _ (List.mem_append_left _ (List.mem_append_left _ (List.mem_append_left _ (List.mem_of_getElem? (i := 8) rfl))))), (Or.inl rfl)⟩ (gI_cons ⟨(List.mem_cons_of_mem _ (List.mem_append_left _ (List.mem_append_left _ (List.mem_append_left _ (List.mem_of_getElem? (i := 9) rfl))))), (Or.inl rfl)⟩ gI_nil)))) ggX3_measure_X2_kindAt
set_option maxRecDepth 20000 in
theorem ggX3_measure_X2_trait : GoodIn wsX3_measure wsX2_trait := (gI_cons ⟨(List.mem_cons_of_mem _ (List.mem_append_left _ (List.mem_append_left _ (List.mem_append_left _ (List.mem_of_getElem? (i := 15) rfl))))), (Or.inl rfl)⟩ (goodIn_app (gI_cons ⟨(List.mem_cons_of_mem _ (List.mem_append_left _ (List.mem_append_left _ (List.mem_append_left _ (List.mem_of_getElem? (i := 16) rfl))))), (Or.inl rfl)⟩ gI_nil) (goodIn_sub (fun _ h => (List.mem_cons_of_mem _ (List.mem_append_right _ h))) (by decide +kernel))))
set_option maxRecDepth 20000 in
theorem gX3_measure_X2_trait : GoodIn wsX3_measure (wsV RX3 37 RX2 yX2_trait wsX2_trait) := goodIn_app (gI_cons ⟨(List.mem_cons_of_mem _ (List.mem_append_left _ (List.mem_append_left _ (List.mem_append_left _ (List.mem_of_getElem? (i := 12) rfl))))), (Or.inl rfl)⟩ (gI_cons ⟨(List.mem_cons_of_mem _ (List.mem_append_left _ (List.mem_append_left _ (List.mem_append_left _ (List.mem_of_getElem? (i := 13) rfl))))), (Or.inl rfl)⟩ (gI_cons ⟨(List.mem_cons_of_mem _ (List.mem_append_left _ (List.mem_append_left _ (List.mem_append_left _ (List.mem_of_getElem? (i := 14) rfl))))), (Or.inl rfl)⟩ (gI_cons ⟨(List.mem_cons_of_mem _ (List.mem_append_left _ (List.mem_append_left _ (List.mem_append_left _ (List.mem_of_getElem? (i := 9) rfl))))), (Or.inl rfl)⟩ gI_nil)))) ggX3_measure_X2_trait
set_option maxRecDepth 20000 in
theorem ggX3_measure_X3_putLength : GoodIn wsX3_measure wsX3_putLength := (gI_cons ⟨(List.mem_cons_of_mem _ (List.mem_append_left _ (List.mem_append_left _ (List.mem_append_left _ (List.mem_of_getElem? (i := 21) rfl))))), (Or.inl rfl)⟩ (goodIn_app (gI_cons ⟨(List.mem_cons_of_mem _ (List.mem_append_left _ (List.mem_append_left _ (List.mem_append_left _ (List.mem_of_getElem? (i := 0) rfl))))), (Or.inl rfl)⟩ gI_nil) (goodIn_sub (fun _ h => (List.mem_cons_of_mem _ (List.mem_append_left _ (List.mem_append_right _ h)))) (by decide +kernel))))
set_option maxRecDepth 20000 in
theorem gX3_measure_X3_putLength : GoodIn wsX3_measure (wsV RX3 41 RX3 yX3_putLength wsX3_putLength) := goodIn_app (gI_cons ⟨(List.mem_cons_of_mem _ (List.mem_append_left _ (List.mem_append_left _ (List.mem_append_left _ (List.mem_of_getElem? (i := 17) rfl))))), (Or.inl rfl)⟩ (gI_cons ⟨(List.mem_cons_of_mem _ (List.mem_append_left _ (List.mem_append_left _ (List.mem_append_left _ (List.mem_of_getElem? (i := 18) rfl))))), (Or.inl rfl)⟩ (gI_cons ⟨(List.mem_cons_of_mem _ (List.mem_append_left _ (List.mem_append_left _ (List.mem_append_left _ (List.mem_of_getElem? (i := 19) rfl))))), (Or.inl rfl)⟩ (gI_cons ⟨(List.mem_cons_of_mem _ (List.mem_append_left _ (List.mem_append_left _ (List.mem_append_left _ (List.mem_of_getElem? (i := 20) rfl))))), (Or.inl rfl)⟩ gI_nil)))) ggX3_measure_X3_putLength
set_option maxRecDepth 20000 in
theorem ggX3_measure_X3_enqueue : GoodIn wsX3_measure wsX3_enqueue := (gI_cons ⟨(List.mem_cons_of_mem _ (List.mem_append_left _ (List.mem_append_left _ (List.mem_append_right _ (List.mem_of_getElem? (i := 1) rfl))))), (Or.inl rfl)⟩ (goodIn_app (gI_cons ⟨(List.mem_cons_of_mem _ (List.mem_append_left _ (List.mem_append_left _ (List.mem_append_left _ (List.mem_of_getElem? (i := 1) rfl))))), (Or.inl rfl)⟩ (gI_cons ⟨(List.mem_cons_of_mem _ (List.mem_append_left _ (List.mem_append_left _ (List.mem_append_right _ (List.mem_of_getElem? (i := 2) rfl))))), (Or.inl rfl)⟩ gI_nil)) (goodIn_sub (fun _ h => (List.mem_cons_of_mem _ (List.mem_append_left _ (List.mem_append_right _ h)))) (by decide +kernel))))
set_option maxRecDepth 20000 in
theorem gX3_measure_X3_enqueue : GoodIn wsX3_measure (wsV RX3 45 RX3 yX3_enqueue wsX3_enqueue) := goodIn_app (gI_cons ⟨(List.mem_cons_of_mem _ (List.mem_append_left _ (List.mem_append_left _ (List.mem_append_left _ (List.mem_of_getElem? (i := 22) rfl))))), (Or.inl rfl)⟩ (gI_cons ⟨(List.mem_cons_of_mem _ (List.mem_append_left _ (List.mem_append_left _ (List.mem_append_left _ (List.mem_of_getElem? (i := 23) rfl))))), (Or.inl rfl)⟩ (gI_cons ⟨(List.mem_cons_of_mem _ (List.mem_append_left _ (List.mem_append_left _ (List.mem_append_right _ (List.mem_of_getElem? (i := 0) rfl))))), (Or.inl rfl)⟩ (gI_cons ⟨(List.mem_cons_of_mem _ (List.mem_append_left _ (List.mem_append_left _ (List.mem_append_left _ (List.mem_of_getElem? (i := 20) rfl))))), (Or.inl rfl)⟩ gI_nil)))) ggX3_measure_X3_enqueue
set_option maxRecDepth 20000 in
theorem ggX3_measure_X3_spread : GoodIn wsX3_measure wsX3_spread := (gI_cons ⟨(List.mem_cons_of_mem _ (List.mem_append_left _ (List.mem_append_left _ (List.mem_append_right _ (List.mem_of_getElem? (i := 6) rfl))))), (Or.inl rfl)⟩ (goodIn_app (goodIn_app (goodIn_app (show GoodIn _ wsX3_spread_r1 from (gI_cons ⟨(List.mem_cons_of_mem _ (List.mem_append_left _ (List.mem_append_left _ (List.mem_append_left _ (List.mem_of_getElem? (i := 1) rfl))))), (Or.inl rfl)⟩ (gI_cons ⟨(List.mem_cons_of_mem _ (List.mem_append_left _ (List.mem_append_left _ (List.mem_append_right _ (List.mem_of_getElem? (i := 2) rfl))))), (Or.inl rfl)⟩ (gI_cons ⟨(List.mem_cons_of_mem _ (List.mem_append_left _ (List.mem_append_left _ (List.mem_append_left _ (List.mem_of_getElem? (i := 6) rfl))))), (Or.inl rfl)⟩ (gI_cons ⟨(List.mem_cons_of_mem _ (List.mem_append_left _ (List.mem_append_left _ (List.mem_append_left _ (List.mem_of_getElem? (i := 7) rfl))))), (Or.inl rfl)⟩ (gI_cons ⟨(List.mem_cons_of_mem _ (List.mem_append_left _ (List.mem_append_left _ (List.mem_append_left _ (List.mem_of_getElem? (i := 8) rfl))))), (Or.inl rfl)⟩ (gI_cons ⟨(List.mem_cons_of_mem _ (List.mem_append_left _ (List.mem_append_left _ (List.mem_append_left _ (List.mem_of_getElem? (i := 9) rfl))))), (Or.inl rfl)⟩ (gI_cons ⟨(List.mem_cons_of_mem _ (List.mem_append_left _ (List.mem_append_left _ (List.mem_append_left _ (List.mem_of_getElem? (i := 10) rfl))))), (Or.inl rfl)⟩ (gI_cons ⟨(List.mem_cons_of_mem _ (List.mem_append_left _ (List.mem_append_left _ (List.mem_append_left _ (List.mem_of_getElem? (i := 11) rfl))))), (Or.inl rfl)⟩ (gI_cons ⟨(List.mem_cons_of_mem _ (List.mem_append_left _ (List.mem_append_left _ (List.mem_append_left _ (List.mem_of_getElem? (i := 22) rfl))))), (Or.inl rfl)⟩ (gI_cons ⟨(List.mem_cons_of_mem _ (List.mem_append_left _ (List.mem_append_left _ (List.mem_append_left _ (List.mem_of_getElem? (i := 23) rfl))))), (Or.inl rfl)⟩ (gI_cons ⟨(List.mem_cons_of_mem _ (List.mem_append_left _ (List.mem_append_left _ (List.mem_append_right _ (List.mem_of_getElem? (i := 0) rfl))))), (Or.inl rfl)⟩ (gI_cons ⟨(List.mem_cons_of_mem _ (List.mem_append_left _ (List.mem_append_left _ (List.mem_append_left _ (List.mem_of_getElem? (i := 20) rfl))))), (Or.inl rfl)⟩ (gI_cons ⟨(List.mem_cons_of_mem _ (List.mem_append_left _ (List.mem_append_left _ (List.mem_append_right _ (List.mem_of_getElem? (i := 1) rfl))))), (Or.inl rfl)⟩ (gI_cons ⟨(List.mem_cons_of_mem _ (List.mem_append_left _ (List.mem_append_left _ (List.mem_append_right _ (List.mem_of_getElem? (i := 7) rfl))))), (Or.inl rfl)⟩ (gI_cons ⟨(List.mem_cons_of_mem _ (List.mem_append_left _ (List.mem_append_left _ (List.mem_append_right _ (List.mem_of_getElem? (i := 8) rfl))))), (Or.inl rfl)⟩ (gI_cons ⟨(List.mem_cons_of_mem _ (List.mem_append_left _ (List.mem_append_left _ (List.mem_append_right _ (List.mem_of_getElem? (i := 9) rfl))))), (Or.inl rfl)⟩ (gI_cons ⟨(List.mem_cons_of_mem _ (List.mem_append_left _ (List.mem_append_left _ (List.mem_append_right _ (List.mem_of_getElem? (i := 10) rfl))))), (Or.inl rfl)⟩ (gI_cons ⟨(List.mem_cons_of_mem _ (List.mem_append_left _ (List.mem_append_left _ (List.mem_append_left _ (List.mem_of_getElem? (i := 0) rfl))))), (Or.inl rfl)⟩ (gI_cons ⟨(List.mem_cons_of_mem _ (List.mem_append_left _ (List.mem_append_left _ (List.mem_append_right _ (List.mem_of_getElem? (i := 11) rfl))))), (Or.inl rfl)⟩ (gI_cons ⟨(List.mem_cons_of_mem _ (List.mem_append_left _ (List.mem_append_left _ (List.mem_append_right _ (List.mem_of_getElem? (i := 12) rfl))))), (Or.inl rfl)⟩ (gI_cons ⟨(List.mem_cons_of_mem _ (List.mem_append_left _ (List.mem_append_left _ (List.mem_append_right _ (List.mem_of_getElem? (i := 13) rfl))))), (Or.inl rfl)⟩ (gI_cons ⟨(List.mem_cons_of_mem _ (List.mem_append_left _ (List.mem_append_left _ (List.mem_append_right _ (List.mem_of_getElem? (i := 14) rfl))))), (Or.inl rfl)⟩ (gI_cons ⟨(List.mem_cons_of_mem _ (List.mem_append_left _ (List.mem_append_left _ (List.mem_append_left _ (List.mem_of_getElem? (i := 17) rfl))))), (Or.inl rfl)⟩ (gI_cons ⟨(List.mem_cons_of_mem _ (List.mem_append_left _ (List.mem_append_left _ (List.mem_append_left _ (List.mem_of_getElem? (i := 18) rfl))))), (Or.inl rfl)⟩ gI_nil))))))))))))))))))))))))) (show GoodIn _ wsX3_spread_r2 from (gI_cons ⟨(List.mem_cons_of_mem _ (List.mem_append_left _ (List.mem_append_left _ (List.mem_append_left _ (List.mem_of_getElem? (i := 19) rfl))))), (Or.inl rfl)⟩ (gI_cons ⟨(List.mem_cons_of_mem _ (List.mem_append_left _ (List.mem_append_left _ (List.mem_append_left _ (List.mem_of_getElem? (i := 21) rfl))))), (Or.inl rfl)⟩ gI_nil)))) (goodIn_sub (fun _ h => (List.mem_cons_of_mem _ (List.mem_append_left _ (List.mem_append_right _ h)))) (by decide +kernel))) (goodIn_sub (fun _ h => (List.mem_cons_of_mem _ (List.mem_append_right _ h))) (by decide +kernel))))
set_option maxRecDepth 20000 in
theorem gX3_measure_X3_spread : GoodIn wsX3_measure (wsV RX3 49 RX3 yX3_spread wsX3_spread) := goodIn_app (gI_cons ⟨(List.mem_cons_of_mem _ (List.mem_append_left _ (List.mem_append_left _ (List.mem_append_right _ (List.mem_of_getElem? (i := 3) rfl))))), (Or.inl rfl)⟩ (gI_cons ⟨(List.mem_cons_of_mem _ (List.mem_append_left _ (List.mem_append_left _ (List.mem_append_right _ (List.mem_of_getElem? (i := 4) rfl))))), (Or.inl rfl)⟩ (gI_cons ⟨(List.mem_cons_of_mem _ (List.mem_append_left _ (List.mem_append_left _ (List.mem_append_right _ (List.mem_of_getElem? (i := 5) rfl))))), (Or.inl rfl)⟩ (gI_cons ⟨(List.mem_cons_of_mem _ (List.mem_append_left _ (List.mem_append_left _ (List.mem_append_left _ (List.mem_of_getElem? (i := 20) rfl))))), (Or.inl rfl)⟩ gI_nil)))) ggX3_measure_X3_spread
theorem dX3_measure_0 : decode cX3_measure 0 = .ok (.aload_n 0, 1) := by decide +kernel
theorem dX3_measure_1 : decode cX3_measure 1 = .ok (.getfield 9, 3) := by decide +kernel
theorem dX3_measure_4 : decode cX3_measure 4 = .ok (.iconst (-1), 1) := by decide +kernel
theorem dX3_measure_5 : decode cX3_measure 5 = .ok (.invokestatic 18, 3) := by decide +kernel
theorem dX3_measure_8 : decode cX3_measure 8 = .ok (.aload_n 0, 1) := by decide +kernel
theorem dX3_measure_9 : decode cX3_measure 9 = .ok (.iconst 0, 1) := by decide +kernel
theorem dX3_measure_10 : decode cX3_measure 10 = .ok (.putfield 24, 3) := by decide +kernel
theorem dX3_measure_13 : decode cX3_measure 13 = .ok (.aload_n 1, 1) := by decide +kernel
theorem dX3_measure_14 : decode cX3_measure 14 = .ok (.iload_n 3, 1) := by decide +kernel
theorem dX3_measure_15 : decode cX3_measure 15 = .ok (.invokevirtual 28, 3) := by decide +kernel
theorem dX3_measure_18 : decode cX3_measure 18 = .ok (.iconst 1, 1) := by decide +kernel
theorem dX3_measure_19 : decode cX3_measure 19 = .ok (.if_icmp .ne 4, 3) := by decide +kernel
theorem dX3_measure_22 : decode cX3_measure 22 = .ok (.return_, 1) := by decide +kernel
theorem dX3_measure_23 : decode cX3_measure 23 = .ok (.iconst 0, 1) := by decide +kernel
theorem dX3_measure_24 : decode cX3_measure 24 = .ok (.istore 4, 2) := by decide +kernel
theorem dX3_measure_26 : decode cX3_measure 26 = .ok (.iload 4, 2) := by decide +kernel
theorem dX3_measure_28 : decode cX3_measure 28 = .ok (.aload_n 1, 1) := by decide +kernel
theorem dX3_measure_29 : decode cX3_measure 29 = .ok (.getfield 34, 3) := by decide +kernel
theorem dX3_measure_32 : decode cX3_measure 32 = .ok (.if_icmp .ge 28, 3) := by decide +kernel
theorem dX3_measure_35 : decode cX3_measure 35 = .ok (.iload 4, 2) := by decide +kernel
theorem dX3_measure_37 : decode cX3_measure 37 = .ok (.iload_n 2, 1) := by decide +kernel
theorem dX3_measure_38 : decode cX3_measure 38 = .ok (.if_icmp .eq 16, 3) := by decide +kernel
theorem dX3_measure_41 : decode cX3_measure 41 = .ok (.aload_n 0, 1) := by decide +kernel
theorem dX3_measure_42 : decode cX3_measure 42 = .ok (.aload_n 1, 1) := by decide +kernel
theorem dX3_measure_43 : decode cX3_measure 43 = .ok (.iload 4, 2) := by decide +kernel
theorem dX3_measure_45 : decode cX3_measure 45 = .ok (.iconst 1, 1) := by decide +kernel
theorem dX3_measure_46 : decode cX3_measure 46 = .ok (.invokevirtual 37, 3) := by decide +kernel
theorem dX3_measure_49 : decode cX3_measure 49 = .ok (.bipush (-2), 2) := by decide +kernel
theorem dX3_measure_51 : decode cX3_measure 51 = .ok (.invokevirtual 41, 3) := by decide +kernel
theorem dX3_measure_54 : decode cX3_measure 54 = .ok (.iinc 4 1, 3) := by decide +kernel
theorem dX3_measure_57 : decode cX3_measure 57 = .ok (.goto (-31), 3) := by decide +kernel
theorem dX3_measure_60 : decode cX3_measure 60 = .ok (.aload_n 0, 1) := by decide +kernel
theorem dX3_measure_61 : decode cX3_measure 61 = .ok (.iload_n 3, 1) := by decide +kernel
theorem dX3_measure_62 : decode cX3_measure 62 = .ok (.iconst 0, 1) := by decide +kernel
theorem dX3_measure_63 : decode cX3_measure 63 = .ok (.invokevirtual 41, 3) := by decide +kernel
theorem dX3_measure_66 : decode cX3_measure 66 = .ok (.aload_n 0, 1) := by decide +kernel
theorem dX3_measure_67 : decode cX3_measure 67 = .ok (.iconst 2, 1) := by decide +kernel
theorem dX3_measure_68 : decode cX3_measure 68 = .ok (.iload_n 3, 1) := by decide +kernel
theorem dX3_measure_69 : decode cX3_measure 69 = .ok (.imul, 1) := by decide +kernel
theorem dX3_measure_70 : decode cX3_measure 70 = .ok (.invokevirtual 45, 3) := by decide +kernel
theorem dX3_measure_73 : decode cX3_measure 73 = .ok (.aload_n 0, 1) := by decide +kernel
theorem dX3_measure_74 : decode cX3_measure 74 = .ok (.aload_n 1, 1) := by decide +kernel
theorem dX3_measure_75 : decode cX3_measure 75 = .ok (.invokevirtual 49, 3) := by decide +kernel
theorem dX3_measure_78 : decode cX3_measure 78 = .ok (.return_, 1) := by decide +kernel
set_option maxRecDepth 20000 in
theorem ggX3_from_X3_lengthAt : GoodIn wsX3_from wsX3_lengthAt := (gI_cons ⟨(List.mem_cons_of_mem _ (List.mem_append_left _ (List.mem_of_getElem? (i := 8) rfl))), (Or.inl rfl)⟩ (goodIn_app (gI_cons ⟨(List.mem_cons_of_mem _ (List.mem_append_left _ (List.mem_of_getElem? (i := 9) rfl))), (Or.inl rfl)⟩ gI_nil) (goodIn_sub (fun _ h => (List.mem_cons_of_mem _ (List.mem_append_right _ h))) (by decide +kernel))))
set_option maxRecDepth 20000 in
theorem gX3_from_X3_lengthAt : GoodIn wsX3_from (wsV RX3 53 RX3 yX3_lengthAt wsX3_lengthAt) := goodIn_app (gI_cons ⟨(List.mem_cons_of_mem _ (List.mem_append_left _ (List.mem_of_getElem? (i := 4) rfl))), (Or.inl rfl)⟩ (gI_cons ⟨(List.mem_cons_of_mem _ (List.mem_append_left _ (List.mem_of_getElem? (i := 5) rfl))), (Or.inl rfl)⟩ (gI_cons ⟨(List.mem_cons_of_mem _ (List.mem_append_left _ (List.mem_of_getElem? (i := 6) rfl))), (Or.inl rfl)⟩ (gI_cons ⟨(List.mem_cons_of_mem _ (List.mem_append_left _ (List.mem_of_getElem? (i := 7) rfl))), (Or.inl rfl)⟩ gI_nil)))) ggX3_from_X3_lengthAt
theorem dX3_from_0 : decode cX3_from 0 = .ok (.aload_n 0, 1) := by decide +kernel
theorem dX3_from_1 : decode cX3_from 1 = .ok (.iload_n 1, 1) := by decide +kernel
theorem dX3_from_2 : decode cX3_from 2 = .ok (.invokevirtual 53, 3) := by decide +kernel
theorem dX3_from_5 : decode cX3_from 5 = .ok (.iconst (-1), 1) := by decide +kernel
theorem dX3_from_6 : decode cX3_from 6 = .ok (.invokestatic 56, 3) := by decide +kernel
theorem dX3_from_9 : decode cX3_from 9 = .ok (.ireturn, 1) := by decide +kernel
set_option maxRecDepth 20000 in
theorem ggX3_spread_X2_kindAt : GoodIn wsX3_spread wsX2_kindAt := (gI_cons ⟨(List.mem_cons_of_mem _ (List.mem_append_left _ (List.mem_append_left _ (List.mem_append_left _ (List.mem_of_getElem? (i := 6) rfl))))), (Or.inl rfl)⟩ (goodIn_app (gI_cons ⟨(List.mem_cons_of_mem _ (List.mem_append_left _ (List.mem_append_left _ (List.mem_append_left _ (List.mem_of_getElem? (i := 7) rfl))))), (Or.inl rfl)⟩ gI_nil) (goodIn_sub (fun _ h => (List.mem_cons_of_mem _ (List.mem_append_right _ h))) (by decide +kernel))))
set_option maxRecDepth 20000 in
theorem gX3_spread_X2_kindAt : GoodIn wsX3_spread (wsV RX3 28 RX2 yX2_kindAt wsX2_kindAt) := goodIn_app (gI_cons ⟨(List.mem_cons_of_mem _ (List.mem_append_left _ (List.mem_append_left _ (List.mem_append_left _ (List.mem_of_getElem? (i := 2) rfl))))), (Or.inl rfl)⟩ (gI_cons ⟨(List.mem_cons_of_mem _ (List.mem_append_left _ (List.mem_append_left _ (List.mem_append_left _ (List.mem_of_getElem? (i := 3) rfl))))), (Or.inl rfl)⟩ (gI_cons ⟨(List.mem_cons_of_mem _ (List.mem_append_left _ (List.mem_append_left _ (List.mem_append_left _ (List.mem_of_getElem? (i := 4) rfl))))), (Or.inl rfl)⟩ (gI_cons ⟨(List.mem_cons_of_mem _ (List.mem_append_left _ (List.mem_append_left _ (List.mem_append_left _ (List.mem_of_getElem? (i := 5) rfl))))), (Or.inl rfl)⟩ gI_nil)))) ggX3_spread_X2_kindAt
set_option maxRecDepth 20000 in
theorem ggX3_spread_X3_enqueue : GoodIn wsX3_spread wsX3_enqueue := (gI_cons ⟨(List.mem_cons_of_mem _ (List.mem_append_left _ (List.mem_append_left _ (List.mem_append_left _ (List.mem_of_getElem? (i := 12) rfl))))), (Or.inl rfl)⟩ (goodIn_app (gI_cons ⟨(List.mem_cons_of_mem _ (List.mem_append_left _ (List.mem_append_left _ (List.mem_append_left _ (List.mem_of_getElem? (i := 0) rfl))))), (Or.inl rfl)⟩ (gI_cons ⟨(List.mem_cons_of_mem _ (List.mem_append_left _ (List.mem_append_left _ (List.mem_append_left _ (List.mem_of_getElem? (i := 1) rfl))))), (Or.inl rfl)⟩ gI_nil)) (goodIn_sub (fun _ h => (List.mem_cons_of_mem _ (List.mem_append_left _ (List.mem_append_right _ h)))) (by decide +kernel))))
set_option maxRecDepth 20000 in
theorem gX3_spread_X3_enqueue : GoodIn wsX3_spread (wsV RX3 45 RX3 yX3_enqueue wsX3_enqueue) := goodIn_app (gI_cons ⟨(List.mem_cons_of_mem _ (List.mem_append_left _ (List.mem_append_left _ (List.mem_append_left _ (List.mem_of_getElem? (i := 8) rfl))))), (Or.inl rfl)⟩ (gI_cons ⟨(List.mem_cons_of_mem _ (List.mem_append_left _ (List.mem_append_left _ (List.mem_append_left _ (List.mem_of_getElem? (i := 9) rfl))))), (Or.inl rfl)⟩ (gI_cons ⟨(List.mem_cons_of_mem _ (List.mem_append_left _ (List.mem_append_left _ (List.mem_append_left _ (List.mem_of_getElem? (i := 10) rfl))))), (Or.inl rfl)⟩ (gI_cons ⟨(List.mem_cons_of_mem _ (List.mem_append_left _ (List.mem_append_left _ (List.mem_append_left _ (List.mem_of_getElem? (i := 11) rfl))))), (Or.inl rfl)⟩ gI_nil)))) ggX3_spread_X3_enqueue
set_option maxRecDepth 20000 in
theorem ggX3_spread_X3_lengthAt : GoodIn wsX3_spread wsX3_lengthAt := (gI_cons ⟨(List.mem_cons_of_mem _ (List.mem_append_left _ (List.mem_append_left _ (List.mem_append_left _ (List.mem_of_getElem? (i := 16) rfl))))), (Or.inl rfl)⟩ (goodIn_app (gI_cons ⟨(List.mem_cons_of_mem _ (List.mem_append_left _ (List.mem_append_left _ (List.mem_append_left _ (List.mem_of_getElem? (i := 17) rfl))))), (Or.inl rfl)⟩ gI_nil) (goodIn_sub (fun _ h => (List.mem_cons_of_mem _ (List.mem_append_left _ (List.mem_append_right _ h)))) (by decide +kernel))))
set_option maxRecDepth 20000 in
theorem gX3_spread_X3_lengthAt : GoodIn wsX3_spread (wsV RX3 53 RX3 yX3_lengthAt wsX3_lengthAt) := goodIn_app (gI_cons ⟨(List.mem_cons_of_mem _ (List.mem_append_left _ (List.mem_append_left _ (List.mem_append_left _ (List.mem_of_getElem? (i := 13) rfl))))), (Or.inl rfl)⟩ (gI_cons ⟨(List.mem_cons_of_mem _ (List.mem_append_left _ (List.mem_append_left _ (List.mem_append_left _ (List.mem_of_getElem? (i := 14) rfl))))), (Or.inl rfl)⟩ (gI_cons ⟨(List.mem_cons_of_mem _ (List.mem_append_left _ (List.mem_append_left _ (List.mem_append_left _ (List.mem_of_getElem? (i := 15) rfl))))), (Or.inl rfl)⟩ (gI_cons ⟨(List.mem_cons_of_mem _ (List.mem_append_left _ (List.mem_append_left _ (List.mem_append_left _ (List.mem_of_getElem? (i := 11) rfl))))), (Or.inl rfl)⟩ gI_nil)))) ggX3_spread_X3_lengthAt
set_option maxRecDepth 20000 in
theorem ggX3_spread_X3_reachAround : GoodIn wsX3_spread wsX3_reachAround := (gI_cons ⟨(List.mem_cons_of_mem _ (List.mem_append_left _ (List.mem_append_left _ (List.mem_append_left _ (List.mem_of_getElem? (i := 21) rfl))))), (Or.inl rfl)⟩ (goodIn_app (goodIn_app (gI_cons ⟨(List.mem_cons_of_mem _ (List.mem_append_left _ (List.mem_append_left _ (List.mem_append_left _ (List.mem_of_getElem? (i := 13) rfl))))), (Or.inl rfl)⟩ (gI_cons ⟨(List.mem_cons_of_mem _ (List.mem_append_left _ (List.mem_append_left _ (List.mem_append_left _ (List.mem_of_getElem? (i := 14) rfl))))), (Or.inl rfl)⟩ (gI_cons ⟨(List.mem_cons_of_mem _ (List.mem_append_left _ (List.mem_append_left _ (List.mem_append_left _ (List.mem_of_getElem? (i := 15) rfl))))), (Or.inl rfl)⟩ (gI_cons ⟨(List.mem_cons_of_mem _ (List.mem_append_left _ (List.mem_append_left _ (List.mem_append_left _ (List.mem_of_getElem? (i := 11) rfl))))), (Or.inl rfl)⟩ (gI_cons ⟨(List.mem_cons_of_mem _ (List.mem_append_left _ (List.mem_append_left _ (List.mem_append_left _ (List.mem_of_getElem? (i := 16) rfl))))), (Or.inl rfl)⟩ (gI_cons ⟨(List.mem_cons_of_mem _ (List.mem_append_left _ (List.mem_append_left _ (List.mem_append_left _ (List.mem_of_getElem? (i := 17) rfl))))), (Or.inl rfl)⟩ (gI_cons ⟨(List.mem_cons_of_mem _ (List.mem_append_left _ (List.mem_append_left _ (List.mem_append_left _ (List.mem_of_getElem? (i := 2) rfl))))), (Or.inl rfl)⟩ (gI_cons ⟨(List.mem_cons_of_mem _ (List.mem_append_left _ (List.mem_append_left _ (List.mem_append_left _ (List.mem_of_getElem? (i := 3) rfl))))), (Or.inl rfl)⟩ (gI_cons ⟨(List.mem_cons_of_mem _ (List.mem_append_left _ (List.mem_append_left _ (List.mem_append_left _ (List.mem_of_getElem? (i := 4) rfl))))), (Or.inl rfl)⟩ (gI_cons ⟨(List.mem_cons_of_mem _ (List.mem_append_left _ (List.mem_append_left _ (List.mem_append_left _ (List.mem_of_getElem? (i := 5) rfl))))), (Or.inl rfl)⟩ (gI_cons ⟨(List.mem_cons_of_mem _ (List.mem_append_left _ (List.mem_append_left _ (List.mem_append_left _ (List.mem_of_getElem? (i := 6) rfl))))), (Or.inl rfl)⟩ (gI_cons ⟨(List.mem_cons_of_mem _ (List.mem_append_left _ (List.mem_append_left _ (List.mem_append_left _ (List.mem_of_getElem? (i := 7) rfl))))), (Or.inl rfl)⟩ (gI_cons ⟨(List.mem_cons_of_mem _ (List.mem_append_left _ (List.mem_append_left _ (List.mem_append_left _ (List.mem_of_getElem? (i := 22) rfl))))), (Or.inl rfl)⟩ (gI_cons ⟨(List.mem_cons_of_mem _ (List.mem_append_left _ (List.mem_append_left _ (List.mem_append_left _ (List.mem_of_getElem? (i := 23) rfl))))), (Or.inl rfl)⟩ (gI_cons ⟨(List.mem_cons_of_mem _ (List.mem_append_left _ (List.mem_append_left _ (List.mem_append_right _ (List.mem_of_getElem? (i := 0) rfl))))), (Or.inl rfl)⟩ (gI_cons ⟨(List.mem_cons_of_mem _ (List.mem_append_left _ (List.mem_append_left _ (List.mem_append_right _ (List.mem_of_getElem? (i := 1) rfl))))), (Or.inl rfl)⟩ (gI_cons ⟨(List.mem_cons_of_mem _ (List.mem_append_left _ (List.mem_append_left _ (List.mem_append_left _ (List.mem_of_getElem? (i := 8) rfl))))), (Or.inl rfl)⟩ (gI_cons ⟨(List.mem_cons_of_mem _ (List.mem_append_left _ (List.mem_append_left _ (List.mem_append_left _ (List.mem_of_getElem? (i := 9) rfl))))), (Or.inl rfl)⟩ (gI_cons ⟨(List.mem_cons_of_mem _ (List.mem_append_left _ (List.mem_append_left _ (List.mem_append_left _ (List.mem_of_getElem? (i := 10) rfl))))), (Or.inl rfl)⟩ (gI_cons ⟨(List.mem_cons_of_mem _ (List.mem_append_left _ (List.mem_append_left _ (List.mem_append_left _ (List.mem_of_getElem? (i := 12) rfl))))), (Or.inl rfl)⟩ (gI_cons ⟨(List.mem_cons_of_mem _ (List.mem_append_left _ (List.mem_append_left _ (List.mem_append_left _ (List.mem_of_getElem? (i := 0) rfl))))), (Or.inl rfl)⟩ (gI_cons ⟨(List.mem_cons_of_mem _ (List.mem_append_left _ (List.mem_append_left _ (List.mem_append_left _ (List.mem_of_getElem? (i := 1) rfl))))), (Or.inl rfl)⟩ gI_nil)))))))))))))))))))))) (goodIn_sub (fun _ h => (List.mem_cons_of_mem _ (List.mem_append_left _ (List.mem_append_right _ h)))) (by decide +kernel))) (goodIn_sub (fun _ h => (List.mem_cons_of_mem _ (List.mem_append_right _ h))) (by decide +kernel))))
set_option maxRecDepth 20000 in
theorem gX3_spread_X3_reachAround : GoodIn wsX3_spread (wsV RX3 61 RX3 yX3_reachAround wsX3_reachAround) := goodIn_app (gI_cons ⟨(List.mem_cons_of_mem _ (List.mem_append_left _ (List.mem_append_left _ (List.mem_append_left _ (List.mem_of_getElem? (i := 18) rfl))))), (Or.inl rfl)⟩ (gI_cons ⟨(List.mem_cons_of_mem _ (List.mem_append_left _ (List.mem_append_left _ (List.mem_append_left _ (List.mem_of_getElem? (i := 19) rfl))))), (Or.inl rfl)⟩ (gI_cons ⟨(List.mem_cons_of_mem _ (List.mem_append_left _ (List.mem_append_left _ (List.mem_append_left _ (List.mem_of_getElem? (i := 20) rfl))))), (Or.inl rfl)⟩ (gI_cons ⟨(List.mem_cons_of_mem _ (List.mem_append_left _ (List.mem_append_left _ (List.mem_append_left _ (List.mem_of_getElem? (i := 11) rfl))))), (Or.inl rfl)⟩ gI_nil)))) ggX3_spread_X3_reachAround
theorem dX3_spread_0 : decode cX3_spread 0 = .ok (.iconst 0, 1) := by decide +kernel
theorem dX3_spread_1 : decode cX3_spread 1 = .ok (.istore_n 2, 1) := by decide +kernel
theorem dX3_spread_2 : decode cX3_spread 2 = .ok (.iload_n 2, 1) := by decide +kernel
theorem dX3_spread_3 : decode cX3_spread 3 = .ok (.aload_n 0, 1) := by decide +kernel
theorem dX3_spread_4 : decode cX3_spread 4 = .ok (.getfield 24, 3) := by decide +kernel
theorem dX3_spread_7 : decode cX3_spread 7 = .ok (.if_icmp .ge 105, 3) := by decide +kernel
theorem dX3_spread_10 : decode cX3_spread 10 = .ok (.iload_n 2, 1) := by decide +kernel
theorem dX3_spread_11 : decode cX3_spread 11 = .ok (.aload_n 0, 1) := by decide +kernel
theorem dX3_spread_12 : decode cX3_spread 12 = .ok (.getfield 15, 3) := by decide +kernel
theorem dX3_spread_15 : decode cX3_spread 15 = .ok (.arraylength, 1) := by decide +kernel
theorem dX3_spread_16 : decode cX3_spread 16 = .ok (.if_icmp .ge 96, 3) := by decide +kernel
theorem dX3_spread_19 : decode cX3_spread 19 = .ok (.aload_n 0, 1) := by decide +kernel
theorem dX3_spread_20 : decode cX3_spread 20 = .ok (.getfield 15, 3) := by decide +kernel
theorem dX3_spread_23 : decode cX3_spread 23 = .ok (.iload_n 2, 1) := by decide +kernel
theorem dX3_spread_24 : decode cX3_spread 24 = .ok (.iaload, 1) := by decide +kernel
theorem dX3_spread_25 : decode cX3_spread 25 = .ok (.iconst 2, 1) := by decide +kernel
theorem dX3_spread_26 : decode cX3_spread 26 = .ok (.idiv, 1) := by decide +kernel
theorem dX3_spread_27 : decode cX3_spread 27 = .ok (.istore_n 3, 1) := by decide +kernel
theorem dX3_spread_28 : decode cX3_spread 28 = .ok (.aload_n 0, 1) := by decide +kernel
theorem dX3_spread_29 : decode cX3_spread 29 = .ok (.getfield 15, 3) := by decide +kernel
theorem dX3_spread_32 : decode cX3_spread 32 = .ok (.iload_n 2, 1) := by decide +kernel
theorem dX3_spread_33 : decode cX3_spread 33 = .ok (.iaload, 1) := by decide +kernel
theorem dX3_spread_34 : decode cX3_spread 34 = .ok (.iconst 2, 1) := by decide +kernel
theorem dX3_spread_35 : decode cX3_spread 35 = .ok (.irem, 1) := by decide +kernel
theorem dX3_spread_36 : decode cX3_spread 36 = .ok (.iconst 1, 1) := by decide +kernel
theorem dX3_spread_37 : decode cX3_spread 37 = .ok (.if_icmp .ne 7, 3) := by decide +kernel
theorem dX3_spread_40 : decode cX3_spread 40 = .ok (.iconst 1, 1) := by decide +kernel
theorem dX3_spread_41 : decode cX3_spread 41 = .ok (.goto 4, 3) := by decide +kernel
theorem dX3_spread_44 : decode cX3_spread 44 = .ok (.iconst 0, 1) := by decide +kernel
theorem dX3_spread_45 : decode cX3_spread 45 = .ok (.istore 4, 2) := by decide +kernel
theorem dX3_spread_47 : decode cX3_spread 47 = .ok (.aload_n 1, 1) := by decide +kernel
theorem dX3_spread_48 : decode cX3_spread 48 = .ok (.iload_n 3, 1) := by decide +kernel
theorem dX3_spread_49 : decode cX3_spread 49 = .ok (.invokevirtual 28, 3) := by decide +kernel
theorem dX3_spread_52 : decode cX3_spread 52 = .ok (.ifCond .eq 7, 3) := by decide +kernel
theorem dX3_spread_55 : decode cX3_spread 55 = .ok (.iconst 1, 1) := by decide +kernel
theorem dX3_spread_56 : decode cX3_spread 56 = .ok (.goto 4, 3) := by decide +kernel
theorem dX3_spread_59 : decode cX3_spread 59 = .ok (.iconst 0, 1) := by decide +kernel
theorem dX3_spread_60 : decode cX3_spread 60 = .ok (.istore 5, 2) := by decide +kernel
theorem dX3_spread_62 : decode cX3_spread 62 = .ok (.iload 5, 2) := by decide +kernel
theorem dX3_spread_64 : decode cX3_spread 64 = .ok (.ifCond .eq 20, 3) := by decide +kernel
theorem dX3_spread_67 : decode cX3_spread 67 = .ok (.iload 4, 2) := by decide +kernel
theorem dX3_spread_69 : decode cX3_spread 69 = .ok (.ifCond .ne 15, 3) := by decide +kernel
theorem dX3_spread_72 : decode cX3_spread 72 = .ok (.aload_n 0, 1) := by decide +kernel
theorem dX3_spread_73 : decode cX3_spread 73 = .ok (.iconst 2, 1) := by decide +kernel
theorem dX3_spread_74 : decode cX3_spread 74 = .ok (.iload_n 3, 1) := by decide +kernel
theorem dX3_spread_75 : decode cX3_spread 75 = .ok (.imul, 1) := by decide +kernel
theorem dX3_spread_76 : decode cX3_spread 76 = .ok (.iconst 1, 1) := by decide +kernel
theorem dX3_spread_77 : decode cX3_spread 77 = .ok (.iadd, 1) := by decide +kernel
theorem dX3_spread_78 : decode cX3_spread 78 = .ok (.invokevirtual 45, 3) := by decide +kernel
theorem dX3_spread_81 : decode cX3_spread 81 = .ok (.goto 25, 3) := by decide +kernel
theorem dX3_spread_84 : decode cX3_spread 84 = .ok (.aload_n 0, 1) := by decide +kernel
theorem dX3_spread_85 : decode cX3_spread 85 = .ok (.aload_n 1, 1) := by decide +kernel
theorem dX3_spread_86 : decode cX3_spread 86 = .ok (.iload_n 3, 1) := by decide +kernel
theorem dX3_spread_87 : decode cX3_spread 87 = .ok (.aload_n 0, 1) := by decide +kernel
theorem dX3_spread_88 : decode cX3_spread 88 = .ok (.iload_n 3, 1) := by decide +kernel
theorem dX3_spread_89 : decode cX3_spread 89 = .ok (.invokevirtual 53, 3) := by decide +kernel
theorem dX3_spread_92 : decode cX3_spread 92 = .ok (.iload 5, 2) := by decide +kernel
theorem dX3_spread_94 : decode cX3_spread 94 = .ok (.ifCond .eq 7, 3) := by decide +kernel
theorem dX3_spread_97 : decode cX3_spread 97 = .ok (.iconst 2, 1) := by decide +kernel
theorem dX3_spread_98 : decode cX3_spread 98 = .ok (.goto 4, 3) := by decide +kernel
theorem dX3_spread_101 : decode cX3_spread 101 = .ok (.iconst 1, 1) := by decide +kernel
theorem dX3_spread_102 : decode cX3_spread 102 = .ok (.iadd, 1) := by decide +kernel
theorem dX3_spread_103 : decode cX3_spread 103 = .ok (.invokevirtual 61, 3) := by decide +kernel
theorem dX3_spread_106 : decode cX3_spread 106 = .ok (.iinc 2 1, 3) := by decide +kernel
theorem dX3_spread_109 : decode cX3_spread 109 = .ok (.goto (-107), 3) := by decide +kernel
theorem dX3_spread_112 : decode cX3_spread 112 = .ok (.return_, 1) := by decide +kernel
set_option maxRecDepth 20000 in
theorem ggX3_reachAround_X3_lengthAt : GoodIn wsX3_reachAround wsX3_lengthAt := (gI_cons ⟨(List.mem_cons_of_mem _ (List.mem_append_left _ (List.mem_append_left _ (List.mem_of_getElem? (i := 4) rfl)))), (Or.inl rfl)⟩ (goodIn_app (gI_cons ⟨(List.mem_cons_of_mem _ (List.mem_append_left _ (List.mem_append_left _ (List.mem_of_getElem? (i := 5) rfl)))), (Or.inl rfl)⟩ gI_nil) (goodIn_sub (fun _ h => (List.mem_cons_of_mem _ (List.mem_append_left _ (List.mem_append_right _ h)))) (by decide +kernel))))
set_option maxRecDepth 20000 in
theorem gX3_reachAround_X3_lengthAt : GoodIn wsX3_reachAround (wsV RX3 53 RX3 yX3_lengthAt wsX3_lengthAt) := goodIn_app (gI_cons ⟨(List.mem_cons_of_mem _ (List.mem_append_left _ (List.mem_append_left _ (List.mem_of_getElem? (i := 0) rfl)))), (Or.inl rfl)⟩ (gI_cons ⟨(List.mem_cons_of_mem _ (List.mem_append_left _ (List.mem_append_left _ (List.mem_of_getElem? (i := 1) rfl)))), (Or.inl rfl)⟩ (gI_cons ⟨(List.mem_cons_of_mem _ (List.mem_append_left _ (List.mem_append_left _ (List.mem_of_getElem? (i := 2) rfl)))), (Or.inl rfl)⟩ (gI_cons ⟨(List.mem_cons_of_mem _ (List.mem_append_left _ (List.mem_append_left _ (List.mem_of_getElem? (i := 3) rfl)))), (Or.inl rfl)⟩ gI_nil)))) ggX3_reachAround_X3_lengthAt
set_option maxRecDepth 20000 in
theorem ggX3_reachAround_X2_kindAt : GoodIn wsX3_reachAround wsX2_kindAt := (gI_cons ⟨(List.mem_cons_of_mem _ (List.mem_append_left _ (List.mem_append_left _ (List.mem_of_getElem? (i := 10) rfl)))), (Or.inl rfl)⟩ (goodIn_app (gI_cons ⟨(List.mem_cons_of_mem _ (List.mem_append_left _ (List.mem_append_left _ (List.mem_of_getElem? (i := 11) rfl)))), (Or.inl rfl)⟩ gI_nil) (goodIn_sub (fun _ h => (List.mem_cons_of_mem _ (List.mem_append_right _ h))) (by decide +kernel))))
set_option maxRecDepth 20000 in
theorem gX3_reachAround_X2_kindAt : GoodIn wsX3_reachAround (wsV RX3 28 RX2 yX2_kindAt wsX2_kindAt) := goodIn_app (gI_cons ⟨(List.mem_cons_of_mem _ (List.mem_append_left _ (List.mem_append_left _ (List.mem_of_getElem? (i := 6) rfl)))), (Or.inl rfl)⟩ (gI_cons ⟨(List.mem_cons_of_mem _ (List.mem_append_left _ (List.mem_append_left _ (List.mem_of_getElem? (i := 7) rfl)))), (Or.inl rfl)⟩ (gI_cons ⟨(List.mem_cons_of_mem _ (List.mem_append_left _ (List.mem_append_left _ (List.mem_of_getElem? (i := 8) rfl)))), (Or.inl rfl)⟩ (gI_cons ⟨(List.mem_cons_of_mem _ (List.mem_append_left _ (List.mem_append_left _ (List.mem_of_getElem? (i := 9) rfl)))), (Or.inl rfl)⟩ gI_nil)))) ggX3_reachAround_X2_kindAt
set_option maxRecDepth 20000 in
theorem ggX3_reachAround_X3_putLength : GoodIn wsX3_reachAround wsX3_putLength := (gI_cons ⟨(List.mem_cons_of_mem _ (List.mem_append_left _ (List.mem_append_left _ (List.mem_of_getElem? (i := 15) rfl)))), (Or.inl rfl)⟩ (goodIn_app (gI_cons ⟨(List.mem_cons_of_mem _ (List.mem_append_left _ (List.mem_append_left _ (List.mem_of_getElem? (i := 5) rfl)))), (Or.inl rfl)⟩ gI_nil) (goodIn_sub (fun _ h => (List.mem_cons_of_mem _ (List.mem_append_left _ (List.mem_append_right _ h)))) (by decide +kernel))))
set_option maxRecDepth 20000 in
theorem gX3_reachAround_X3_putLength : GoodIn wsX3_reachAround (wsV RX3 41 RX3 yX3_putLength wsX3_putLength) := goodIn_app (gI_cons ⟨(List.mem_cons_of_mem _ (List.mem_append_left _ (List.mem_append_left _ (List.mem_of_getElem? (i := 12) rfl)))), (Or.inl rfl)⟩ (gI_cons ⟨(List.mem_cons_of_mem _ (List.mem_append_left _ (List.mem_append_left _ (List.mem_of_getElem? (i := 13) rfl)))), (Or.inl rfl)⟩ (gI_cons ⟨(List.mem_cons_of_mem _ (List.mem_append_left _ (List.mem_append_left _ (List.mem_of_getElem? (i := 14) rfl)))), (Or.inl rfl)⟩ (gI_cons ⟨(List.mem_cons_of_mem _ (List.mem_append_left _ (List.mem_append_left _ (List.mem_of_getElem? (i := 3) rfl)))), (Or.inl rfl)⟩ gI_nil)))) ggX3_reachAround_X3_putLength
set_option maxRecDepth 20000 in
theorem ggX3_reachAround_X3_enqueue : GoodIn wsX3_reachAround wsX3_enqueue := (gI_cons ⟨(List.mem_cons_of_mem _ (List.mem_append_left _ (List.mem_append_left _ (List.mem_of_getElem? (i := 19) rfl)))), (Or.inl rfl)⟩ (goodIn_app (gI_cons ⟨(List.mem_cons_of_mem _ (List.mem_append_left _ (List.mem_append_left _ (List.mem_of_getElem? (i := 20) rfl)))), (Or.inl rfl)⟩ (gI_cons ⟨(List.mem_cons_of_mem _ (List.mem_append_left _ (List.mem_append_left _ (List.mem_of_getElem? (i := 21) rfl)))), (Or.inl rfl)⟩ gI_nil)) (goodIn_sub (fun _ h => (List.mem_cons_of_mem _ (List.mem_append_left _ (List.mem_append_right _ h)))) (by decide +kernel))))
set_option maxRecDepth 20000 in
theorem gX3_reachAround_X3_enqueue : GoodIn wsX3_reachAround (wsV RX3 45 RX3 yX3_enqueue wsX3_enqueue) := goodIn_app (gI_cons ⟨(List.mem_cons_of_mem _ (List.mem_append_left _ (List.mem_append_left _ (List.mem_of_getElem? (i := 16) rfl)))), (Or.inl rfl)⟩ (gI_cons ⟨(List.mem_cons_of_mem _ (List.mem_append_left _ (List.mem_append_left _ (List.mem_of_getElem? (i := 17) rfl)))), (Or.inl rfl)⟩ (gI_cons ⟨(List.mem_cons_of_mem _ (List.mem_append_left _ (List.mem_append_left _ (List.mem_of_getElem? (i := 18) rfl)))), (Or.inl rfl)⟩ (gI_cons ⟨(List.mem_cons_of_mem _ (List.mem_append_left _ (List.mem_append_left _ (List.mem_of_getElem? (i := 3) rfl)))), (Or.inl rfl)⟩ gI_nil)))) ggX3_reachAround_X3_enqueue
theorem dX3_reachAround_0 : decode cX3_reachAround 0 = .ok (.iconst 0, 1) := by decide +kernel
theorem dX3_reachAround_1 : decode cX3_reachAround 1 = .ok (.istore 4, 2) := by decide +kernel
theorem dX3_reachAround_3 : decode cX3_reachAround 3 = .ok (.iload 4, 2) := by decide +kernel
theorem dX3_reachAround_5 : decode cX3_reachAround 5 = .ok (.getstatic 65, 3) := by decide +kernel
theorem dX3_reachAround_8 : decode cX3_reachAround 8 = .ok (.arraylength, 1) := by decide +kernel
theorem dX3_reachAround_9 : decode cX3_reachAround 9 = .ok (.if_icmp .ge 54, 3) := by decide +kernel
theorem dX3_reachAround_12 : decode cX3_reachAround 12 = .ok (.iload_n 2, 1) := by decide +kernel
theorem dX3_reachAround_13 : decode cX3_reachAround 13 = .ok (.getstatic 65, 3) := by decide +kernel
theorem dX3_reachAround_16 : decode cX3_reachAround 16 = .ok (.iload 4, 2) := by decide +kernel
theorem dX3_reachAround_18 : decode cX3_reachAround 18 = .ok (.iaload, 1) := by decide +kernel
theorem dX3_reachAround_19 : decode cX3_reachAround 19 = .ok (.iadd, 1) := by decide +kernel
theorem dX3_reachAround_20 : decode cX3_reachAround 20 = .ok (.istore 5, 2) := by decide +kernel
theorem dX3_reachAround_22 : decode cX3_reachAround 22 = .ok (.aload_n 0, 1) := by decide +kernel
theorem dX3_reachAround_23 : decode cX3_reachAround 23 = .ok (.iload 5, 2) := by decide +kernel
theorem dX3_reachAround_25 : decode cX3_reachAround 25 = .ok (.invokevirtual 53, 3) := by decide +kernel
theorem dX3_reachAround_28 : decode cX3_reachAround 28 = .ok (.iconst (-1), 1) := by decide +kernel
theorem dX3_reachAround_29 : decode cX3_reachAround 29 = .ok (.if_icmp .ne 28, 3) := by decide +kernel
theorem dX3_reachAround_32 : decode cX3_reachAround 32 = .ok (.aload_n 1, 1) := by decide +kernel
theorem dX3_reachAround_33 : decode cX3_reachAround 33 = .ok (.iload 5, 2) := by decide +kernel
theorem dX3_reachAround_35 : decode cX3_reachAround 35 = .ok (.invokevirtual 28, 3) := by decide +kernel
theorem dX3_reachAround_38 : decode cX3_reachAround 38 = .ok (.iconst 1, 1) := by decide +kernel
theorem dX3_reachAround_39 : decode cX3_reachAround 39 = .ok (.if_icmp .eq 18, 3) := by decide +kernel
theorem dX3_reachAround_42 : decode cX3_reachAround 42 = .ok (.aload_n 0, 1) := by decide +kernel
theorem dX3_reachAround_43 : decode cX3_reachAround 43 = .ok (.iload 5, 2) := by decide +kernel
theorem dX3_reachAround_45 : decode cX3_reachAround 45 = .ok (.iload_n 3, 1) := by decide +kernel
theorem dX3_reachAround_46 : decode cX3_reachAround 46 = .ok (.invokevirtual 41, 3) := by decide +kernel
theorem dX3_reachAround_49 : decode cX3_reachAround 49 = .ok (.aload_n 0, 1) := by decide +kernel
theorem dX3_reachAround_50 : decode cX3_reachAround 50 = .ok (.iconst 2, 1) := by decide +kernel
theorem dX3_reachAround_51 : decode cX3_reachAround 51 = .ok (.iload 5, 2) := by decide +kernel
theorem dX3_reachAround_53 : decode cX3_reachAround 53 = .ok (.imul, 1) := by decide +kernel
theorem dX3_reachAround_54 : decode cX3_reachAround 54 = .ok (.invokevirtual 45, 3) := by decide +kernel
theorem dX3_reachAround_57 : decode cX3_reachAround 57 = .ok (.iinc 4 1, 3) := by decide +kernel
theorem dX3_reachAround_60 : decode cX3_reachAround 60 = .ok (.goto (-57), 3) := by decide +kernel
theorem dX3_reachAround_63 : decode cX3_reachAround 63 = .ok (.return_, 1) := by decide +kernel
theorem dX3_enqueue_0 : decode cX3_enqueue 0 = .ok (.aload_n 0, 1) := by decide +kernel
theorem dX3_enqueue_1 : decode cX3_enqueue 1 = .ok (.getfield 24, 3) := by decide +kernel
theorem dX3_enqueue_4 : decode cX3_enqueue 4 = .ok (.ifCond .lt 35, 3) := by decide +kernel
theorem dX3_enqueue_7 : decode cX3_enqueue 7 = .ok (.aload_n 0, 1) := by decide +kernel
theorem dX3_enqueue_8 : decode cX3_enqueue 8 = .ok (.getfield 24, 3) := by decide +kernel
theorem dX3_enqueue_11 : decode cX3_enqueue 11 = .ok (.aload_n 0, 1) := by decide +kernel
theorem dX3_enqueue_12 : decode cX3_enqueue 12 = .ok (.getfield 15, 3) := by decide +kernel
theorem dX3_enqueue_15 : decode cX3_enqueue 15 = .ok (.arraylength, 1) := by decide +kernel
theorem dX3_enqueue_16 : decode cX3_enqueue 16 = .ok (.if_icmp .ge 23, 3) := by decide +kernel
theorem dX3_enqueue_19 : decode cX3_enqueue 19 = .ok (.aload_n 0, 1) := by decide +kernel
theorem dX3_enqueue_20 : decode cX3_enqueue 20 = .ok (.getfield 15, 3) := by decide +kernel
theorem dX3_enqueue_23 : decode cX3_enqueue 23 = .ok (.aload_n 0, 1) := by decide +kernel
theorem dX3_enqueue_24 : decode cX3_enqueue 24 = .ok (.getfield 24, 3) := by decide +kernel
theorem dX3_enqueue_27 : decode cX3_enqueue 27 = .ok (.iload_n 1, 1) := by decide +kernel
theorem dX3_enqueue_28 : decode cX3_enqueue 28 = .ok (.iastore, 1) := by decide +kernel
theorem dX3_enqueue_29 : decode cX3_enqueue 29 = .ok (.aload_n 0, 1) := by decide +kernel
theorem dX3_enqueue_30 : decode cX3_enqueue 30 = .ok (.dup, 1) := by decide +kernel
theorem dX3_enqueue_31 : decode cX3_enqueue 31 = .ok (.getfield 24, 3) := by decide +kernel
theorem dX3_enqueue_34 : decode cX3_enqueue 34 = .ok (.iconst 1, 1) := by decide +kernel
theorem dX3_enqueue_35 : decode cX3_enqueue 35 = .ok (.iadd, 1) := by decide +kernel
theorem dX3_enqueue_36 : decode cX3_enqueue 36 = .ok (.putfield 24, 3) := by decide +kernel
theorem dX3_enqueue_39 : decode cX3_enqueue 39 = .ok (.return_, 1) := by decide +kernel
theorem dX3_lengthAt_0 : decode cX3_lengthAt 0 = .ok (.iload_n 1, 1) := by decide +kernel
theorem dX3_lengthAt_1 : decode cX3_lengthAt 1 = .ok (.ifCond .lt 21, 3) := by decide +kernel
theorem dX3_lengthAt_4 : decode cX3_lengthAt 4 = .ok (.iload_n 1, 1) := by decide +kernel
theorem dX3_lengthAt_5 : decode cX3_lengthAt 5 = .ok (.aload_n 0, 1) := by decide +kernel
theorem dX3_lengthAt_6 : decode cX3_lengthAt 6 = .ok (.getfield 9, 3) := by decide +kernel
theorem dX3_lengthAt_9 : decode cX3_lengthAt 9 = .ok (.arraylength, 1) := by decide +kernel
theorem dX3_lengthAt_10 : decode cX3_lengthAt 10 = .ok (.if_icmp .ge 12, 3) := by decide +kernel
theorem dX3_lengthAt_13 : decode cX3_lengthAt 13 = .ok (.aload_n 0, 1) := by decide +kernel
theorem dX3_lengthAt_14 : decode cX3_lengthAt 14 = .ok (.getfield 9, 3) := by decide +kernel
theorem dX3_lengthAt_17 : decode cX3_lengthAt 17 = .ok (.iload_n 1, 1) := by decide +kernel
theorem dX3_lengthAt_18 : decode cX3_lengthAt 18 = .ok (.iaload, 1) := by decide +kernel
theorem dX3_lengthAt_19 : decode cX3_lengthAt 19 = .ok (.goto 5, 3) := by decide +kernel
theorem dX3_lengthAt_22 : decode cX3_lengthAt 22 = .ok (.bipush (-2), 2) := by decide +kernel
theorem dX3_lengthAt_24 : decode cX3_lengthAt 24 = .ok (.ireturn, 1) := by decide +kernel
theorem dX3_putLength_0 : decode cX3_putLength 0 = .ok (.iload_n 1, 1) := by decide +kernel
theorem dX3_putLength_1 : decode cX3_putLength 1 = .ok (.ifCond .lt 19, 3) := by decide +kernel
theorem dX3_putLength_4 : decode cX3_putLength 4 = .ok (.iload_n 1, 1) := by decide +kernel
theorem dX3_putLength_5 : decode cX3_putLength 5 = .ok (.aload_n 0, 1) := by decide +kernel
theorem dX3_putLength_6 : decode cX3_putLength 6 = .ok (.getfield 9, 3) := by decide +kernel
theorem dX3_putLength_9 : decode cX3_putLength 9 = .ok (.arraylength, 1) := by decide +kernel
theorem dX3_putLength_10 : decode cX3_putLength 10 = .ok (.if_icmp .ge 10, 3) := by decide +kernel
theorem dX3_putLength_13 : decode cX3_putLength 13 = .ok (.aload_n 0, 1) := by decide +kernel
theorem dX3_putLength_14 : decode cX3_putLength 14 = .ok (.getfield 9, 3) := by decide +kernel
theorem dX3_putLength_17 : decode cX3_putLength 17 = .ok (.iload_n 1, 1) := by decide +kernel
theorem dX3_putLength_18 : decode cX3_putLength 18 = .ok (.iload_n 2, 1) := by decide +kernel
theorem dX3_putLength_19 : decode cX3_putLength 19 = .ok (.iastore, 1) := by decide +kernel
theorem dX3_putLength_20 : decode cX3_putLength 20 = .ok (.return_, 1) := by decide +kernel
