-- ===== further words of the law =====
theorem tb_643 : tb_G (.classLink RL 9 RX5) := ⟨tbI3 (List.mem_of_getElem? (i := 143) rfl), (Or.inl rfl)⟩
theorem tb_644 : tb_G (.instantiable RX5 8) := ⟨tbI3 (List.mem_of_getElem? (i := 144) rfl), (Or.inl rfl)⟩
theorem tb_645 : tb_G (.methodLink RL 11 yX5_init) := ⟨tbI3 (List.mem_of_getElem? (i := 145) rfl), (Or.inl rfl)⟩
theorem tb_646 : tb_G (.instanceMethod yX5_init) := ⟨tbI3 (List.mem_of_getElem? (i := 146) rfl), (Or.inl rfl)⟩
theorem tb_647 : tb_G (.fieldLink RL 14 "WarrenLaw$Den" "m" "LWarren;") := ⟨tbI3 (List.mem_of_getElem? (i := 222) rfl), (Or.inl rfl)⟩
theorem tb_648 : tb_G (.methodLink RL 81 Lib.Math.abs.name) := ⟨tbI4 (List.mem_of_getElem? (i := 152) rfl), (Or.inl rfl)⟩
theorem tb_649 : tb_G (.constantDouble RL 95 (4602678819172646912)) := ⟨tbI4 (List.mem_of_getElem? (i := 153) rfl), (Or.inl rfl)⟩
theorem w9_0 : (Cond.classLink RL 9 RX5) ∈ lw_tbl := tb_643.1
theorem w9_1 : (Cond.instantiable RX5 8) ∈ lw_tbl := tb_644.1
theorem w9_2 : (Cond.initialized RX5) ∈ lw_tbl := tb_92.1
theorem w9_3 : (Cond.methodLink RL 11 yX5_init) ∈ lw_tbl := tb_645.1
theorem w9_4 : (Cond.instanceMethod yX5_init) ∈ lw_tbl := tb_646.1
theorem w9_5 : (Cond.fieldLink RL 14 "WarrenLaw$Den" "m" "LWarren;") ∈ lw_tbl := tb_647.1
theorem w9_6 : (Cond.methodLink RL 81 Lib.Math.abs.name) ∈ lw_tbl := tb_648.1
theorem w9_7 : (Cond.static Lib.Math.abs.name) ∈ lw_tbl := tb_220.1
theorem w9_8 : (Cond.initialized "java/lang/Math") ∈ lw_tbl := tb_210.1
theorem w9_9 : (Cond.code Lib.Math.abs.name Lib.Math.abs.code 1 (some .int)) ∈ lw_tbl := tb_219.1
theorem w9_10 : (Cond.constantDouble RL 95 (4602678819172646912)) ∈ lw_tbl := tb_649.1
