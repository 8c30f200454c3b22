-- ===== the law's words, out of the tables one by one =====
theorem tbI1 {w : Cond} (h : w ∈ tables_1_1) : w ∈ lw_tbl := List.mem_append_right _ (List.mem_append_left _ h)
theorem tbI2 {w : Cond} (h : w ∈ tables_1_2) : w ∈ lw_tbl := List.mem_append_right _ (List.mem_append_right _ (List.mem_append_left _ h))
theorem tbI3 {w : Cond} (h : w ∈ tables_1_3) : w ∈ lw_tbl := List.mem_append_right _ (List.mem_append_right _ (List.mem_append_right _ (List.mem_append_left _ h)))
theorem tbI4 {w : Cond} (h : w ∈ tables_1_4) : w ∈ lw_tbl := List.mem_append_right _ (List.mem_append_right _ (List.mem_append_right _ (List.mem_append_right _ h)))
theorem tbP1 {q : MethodName × Nat} (h : q ∈ lw_privs_1) : Cond.selects q.1.cls q.1 q.1 ∈ lw_tbl := List.mem_append_left _ (List.mem_map.mpr ⟨q, h, rfl⟩)
abbrev tb_G (w : Cond) : Prop := w ∈ lw_tbl ∧ ((w.onTables && w.keeps) = true ∨ ∃ ty, w = .arrayClass ty)
set_option maxRecDepth 20000 in
theorem tb_x0 : GoodIn lw_tbl (u_ws RX0 TX0 2) := goodIn_sub (by decide +kernel) (by decide +kernel)
set_option maxRecDepth 20000 in
theorem tbL_wsX00 : GoodIn lw_tbl wsX00 := tb_x0
set_option maxRecDepth 20000 in
theorem tb_x1 : GoodIn lw_tbl (u_ws RX2 TX2 8) := goodIn_sub (by decide +kernel) (by decide +kernel)
set_option maxRecDepth 20000 in
theorem tbL_wsX20 : GoodIn lw_tbl wsX20 := tb_x1
set_option maxRecDepth 20000 in
theorem tb_x2 : GoodIn lw_tbl (u_ws RX3 TX3 3) := goodIn_sub (by decide +kernel) (by decide +kernel)
set_option maxRecDepth 20000 in
theorem tbL_wsX30 : GoodIn lw_tbl wsX30 := tb_x2
set_option maxRecDepth 20000 in
theorem tb_x3 : GoodIn lw_tbl (u_ws RX4 TX4 4) := goodIn_sub (by decide +kernel) (by decide +kernel)
set_option maxRecDepth 20000 in
theorem tbL_wsX40 : GoodIn lw_tbl wsX40 := tb_x3
set_option maxRecDepth 20000 in
theorem tb_x4 : GoodIn lw_tbl (u_ws RX5 TX5 8) := goodIn_sub (by decide +kernel) (by decide +kernel)
set_option maxRecDepth 20000 in
theorem tbL_wsX50 : GoodIn lw_tbl wsX50 := tb_x4
set_option maxRecDepth 20000 in
theorem tb_x5 : GoodIn lw_tbl (u_ws RJx4a65c TJx4a65c 3) := goodIn_sub (by decide +kernel) (by decide +kernel)
set_option maxRecDepth 20000 in
theorem tbL_wsJx4a65c0 : GoodIn lw_tbl wsJx4a65c0 := tb_x5
theorem tb_0 : tb_G (.code yX5_init cX5_init 4 none) := ⟨tbI3 (List.mem_of_getElem? (i := 147) rfl), (Or.inl rfl)⟩
theorem tb_1 : tb_G (Cond.fieldLink RX4 12 "Warren" "state" "LWarren$State;") := ⟨tbI3 (List.mem_of_getElem? (i := 204) rfl), (Or.inl rfl)⟩
theorem tb_2 : tb_G (Cond.initialized RX2) := ⟨tbI1 (List.mem_of_getElem? (i := 3) rfl), (Or.inl rfl)⟩
theorem tb_3 : tb_G (Cond.instantiable RX2 8) := ⟨tbI2 (List.mem_of_getElem? (i := 217) rfl), (Or.inl rfl)⟩
theorem tb_4 : tb_G (Cond.classLink RX4 9 RX2) := ⟨tbI2 (List.mem_of_getElem? (i := 216) rfl), (Or.inl rfl)⟩
theorem tb_5 : tb_G (Cond.methodLink RX4 3 objectInit) := ⟨tbI3 (List.mem_of_getElem? (i := 153) rfl), (Or.inl rfl)⟩
theorem tb_6 : tb_G (Cond.code yX4_init cX4_init 1 none) := ⟨tbI3 (List.mem_of_getElem? (i := 152) rfl), (Or.inl rfl)⟩
theorem tb_7 : tb_G (Cond.instanceMethod yX4_init) := ⟨tbI3 (List.mem_of_getElem? (i := 151) rfl), (Or.inl rfl)⟩
theorem tb_8 : tb_G (Cond.methodLink RX5 9 yX4_init) := ⟨tbI3 (List.mem_of_getElem? (i := 150) rfl), (Or.inl rfl)⟩
theorem tb_9 : tb_G (Cond.fieldLink RX5 33 "WarrenLaw$Den" "draws" "I") := ⟨tbI3 (List.mem_of_getElem? (i := 224) rfl), (Or.inl rfl)⟩
theorem tb_10 : tb_G (Cond.fieldLink RX5 30 "WarrenLaw$Den" "s" "[I") := ⟨tbI3 (List.mem_of_getElem? (i := 223) rfl), (Or.inl rfl)⟩
theorem tb_11 : tb_G (Cond.fieldLink RX5 26 "WarrenLaw$Den" "beings" "[[I") := ⟨tbI3 (List.mem_of_getElem? (i := 227) rfl), (Or.inl rfl)⟩
theorem tb_12 : tb_G (Cond.classLink RX5 25 "[I") := ⟨tbI3 (List.mem_of_getElem? (i := 219) rfl), (Or.inl rfl)⟩
theorem tb_13 : tb_G (Cond.fieldLink RX5 22 "WarrenLaw$Den" "known" "[[Z") := ⟨tbI3 (List.mem_of_getElem? (i := 226) rfl), (Or.inl rfl)⟩
theorem tb_14 : tb_G (Cond.arrayClass .boolean) := ⟨tbI4 (List.mem_of_getElem? (i := 7) rfl), (Or.inr ⟨_, rfl⟩)⟩
theorem tb_15 : tb_G (Cond.classLink RX5 20 "[[Z") := ⟨tbI3 (List.mem_of_getElem? (i := 217) rfl), (Or.inl rfl)⟩
theorem tb_16 : tb_G (Cond.fieldLink RX5 16 "WarrenLaw$Den" "kinds" "[I") := ⟨tbI3 (List.mem_of_getElem? (i := 225) rfl), (Or.inl rfl)⟩
theorem tb_17 : tb_G (Cond.arrayClass .int) := ⟨tbI3 (List.mem_of_getElem? (i := 14) rfl), (Or.inr ⟨_, rfl⟩)⟩
theorem tb_18 : tb_G (Cond.fieldLink RX5 10 "WarrenLaw$Den" "m" "LWarren;") := ⟨tbI3 (List.mem_of_getElem? (i := 221) rfl), (Or.inl rfl)⟩
theorem tb_19 : tb_G (Cond.initialized RX4) := ⟨tbI1 (List.mem_of_getElem? (i := 2) rfl), (Or.inl rfl)⟩
theorem tb_20 : tb_G (Cond.instantiable RX4 4) := ⟨tbI1 (List.mem_of_getElem? (i := 189) rfl), (Or.inl rfl)⟩
theorem tb_21 : tb_G (Cond.classLink RX5 7 RX4) := ⟨tbI3 (List.mem_of_getElem? (i := 149) rfl), (Or.inl rfl)⟩
theorem tb_22 : tb_G (Cond.code objectInit ⟨#[0xb1]⟩ 1 none) := ⟨tbI1 (List.mem_of_getElem? (i := 56) rfl), (Or.inl rfl)⟩
theorem tb_23 : tb_G (Cond.instanceMethod objectInit) := ⟨tbI1 (List.mem_of_getElem? (i := 55) rfl), (Or.inl rfl)⟩
theorem tb_24 : tb_G (Cond.methodLink RX5 1 objectInit) := ⟨tbI3 (List.mem_of_getElem? (i := 148) rfl), (Or.inl rfl)⟩
set_option maxRecDepth 20000 in
theorem tbL_wsX5_init_r1 : GoodIn lw_tbl wsX5_init_r1 := (gI_cons tb_24 (gI_cons tb_23 (gI_cons tb_22 (gI_cons tb_21 (gI_cons tb_20 (gI_cons tb_19 (gI_cons tb_18 (gI_cons tb_17 (gI_cons tb_16 (gI_cons tb_15 (gI_cons tb_14 (gI_cons tb_13 (gI_cons tb_12 (gI_cons tb_11 (gI_cons tb_10 (gI_cons tb_9 (gI_cons tb_8 (gI_cons tb_7 (gI_cons tb_6 (gI_cons tb_5 (gI_cons tb_4 (gI_cons tb_3 (gI_cons tb_2 (gI_cons tb_1 gI_nil))))))))))))))))))))))))
theorem tb_25 : tb_G (Cond.instanceMethod yJx4a65c_init_da8c8) := ⟨tbI3 (List.mem_of_getElem? (i := 156) rfl), (Or.inl rfl)⟩
theorem tb_26 : tb_G (Cond.methodLink RX4 21 yJx4a65c_init_da8c8) := ⟨tbI3 (List.mem_of_getElem? (i := 155) rfl), (Or.inl rfl)⟩
theorem tb_27 : tb_G (Cond.code yJ7_fill_53178 cJ7_fill_53178 4 none) := ⟨tbI2 (List.mem_of_getElem? (i := 41) rfl), (Or.inl rfl)⟩
theorem tb_28 : tb_G (Cond.initialized RJ7) := ⟨tbI1 (List.mem_of_getElem? (i := 4) rfl), (Or.inl rfl)⟩
theorem tb_29 : tb_G (Cond.static yJ7_fill_53178) := ⟨tbI2 (List.mem_of_getElem? (i := 40) rfl), (Or.inl rfl)⟩
theorem tb_30 : tb_G (Cond.methodLink RX2 27 yJ7_fill_53178) := ⟨tbI2 (List.mem_of_getElem? (i := 222) rfl), (Or.inl rfl)⟩
theorem tb_31 : tb_G (Cond.fieldLink RX2 24 "Warren$State" "turns" "[I") := ⟨tbI2 (List.mem_of_getElem? (i := 227) rfl), (Or.inl rfl)⟩
theorem tb_32 : tb_G (Cond.fieldLink RX2 21 "Warren$State" "stacks" "[I") := ⟨tbI2 (List.mem_of_getElem? (i := 226) rfl), (Or.inl rfl)⟩
theorem tb_33 : tb_G (Cond.fieldLink RX2 18 "Warren$State" "traits" "[I") := ⟨tbI2 (List.mem_of_getElem? (i := 225) rfl), (Or.inl rfl)⟩
theorem tb_34 : tb_G (Cond.fieldLink RX2 15 "Warren$State" "known" "[I") := ⟨tbI2 (List.mem_of_getElem? (i := 224) rfl), (Or.inl rfl)⟩
theorem tb_35 : tb_G (Cond.fieldLink RX2 9 "Warren$State" "kinds" "[I") := ⟨tbI2 (List.mem_of_getElem? (i := 223) rfl), (Or.inl rfl)⟩
theorem tb_36 : tb_G (Cond.methodLink RX2 3 objectInit) := ⟨tbI2 (List.mem_of_getElem? (i := 221) rfl), (Or.inl rfl)⟩
theorem tb_37 : tb_G (Cond.code yX2_init cX2_init 1 none) := ⟨tbI2 (List.mem_of_getElem? (i := 220) rfl), (Or.inl rfl)⟩
theorem tb_38 : tb_G (Cond.instanceMethod yX2_init) := ⟨tbI2 (List.mem_of_getElem? (i := 219) rfl), (Or.inl rfl)⟩
theorem tb_39 : tb_G (Cond.methodLink RX4 11 yX2_init) := ⟨tbI2 (List.mem_of_getElem? (i := 218) rfl), (Or.inl rfl)⟩
theorem tb_40 : tb_G (Cond.fieldLink RX4 29 "Warren" "mind" "LWarren$Mind;") := ⟨tbI3 (List.mem_of_getElem? (i := 207) rfl), (Or.inl rfl)⟩
theorem tb_41 : tb_G (Cond.initialized RX0) := ⟨tbI1 (List.mem_of_getElem? (i := 8) rfl), (Or.inl rfl)⟩
theorem tb_42 : tb_G (Cond.instantiable RX0 2) := ⟨tbI2 (List.mem_of_getElem? (i := 86) rfl), (Or.inl rfl)⟩
theorem tb_43 : tb_G (Cond.classLink RX4 26 RX0) := ⟨tbI3 (List.mem_of_getElem? (i := 177) rfl), (Or.inl rfl)⟩
theorem tb_44 : tb_G (Cond.fieldLink RX4 22 "Warren" "saved" "Ljava/util/List;") := ⟨tbI3 (List.mem_of_getElem? (i := 206) rfl), (Or.inl rfl)⟩
theorem tb_45 : tb_G (Cond.initialized RJx4a65c) := ⟨tbI1 (List.mem_of_getElem? (i := 7) rfl), (Or.inl rfl)⟩
theorem tb_46 : tb_G (Cond.instantiable RJx4a65c 3) := ⟨tbI3 (List.mem_of_getElem? (i := 34) rfl), (Or.inl rfl)⟩
theorem tb_47 : tb_G (Cond.classLink RX4 19 RJx4a65c) := ⟨tbI3 (List.mem_of_getElem? (i := 154) rfl), (Or.inl rfl)⟩
theorem tb_48 : tb_G (Cond.fieldLink RX4 16 "Warren" "trial" "LWarren$State;") := ⟨tbI3 (List.mem_of_getElem? (i := 205) rfl), (Or.inl rfl)⟩
set_option maxRecDepth 20000 in
theorem tbL_wsX5_init_r2 : GoodIn lw_tbl wsX5_init_r2 := (gI_cons tb_48 (gI_cons tb_47 (gI_cons tb_46 (gI_cons tb_45 (gI_cons tb_44 (gI_cons tb_43 (gI_cons tb_42 (gI_cons tb_41 (gI_cons tb_40 (gI_cons tb_39 (gI_cons tb_38 (gI_cons tb_37 (gI_cons tb_36 (gI_cons tb_35 (gI_cons tb_34 (gI_cons tb_33 (gI_cons tb_32 (gI_cons tb_31 (gI_cons tb_30 (gI_cons tb_29 (gI_cons tb_28 (gI_cons tb_27 (gI_cons tb_26 (gI_cons tb_25 gI_nil))))))))))))))))))))))))
theorem tb_49 : tb_G (Cond.methodLink RX3 3 objectInit) := ⟨tbI3 (List.mem_of_getElem? (i := 186) rfl), (Or.inl rfl)⟩
theorem tb_50 : tb_G (Cond.code yX3_init cX3_init 1 none) := ⟨tbI3 (List.mem_of_getElem? (i := 185) rfl), (Or.inl rfl)⟩
theorem tb_51 : tb_G (Cond.instanceMethod yX3_init) := ⟨tbI3 (List.mem_of_getElem? (i := 184) rfl), (Or.inl rfl)⟩
theorem tb_52 : tb_G (Cond.fieldLink RX0 18 "Warren$Mind" "worths" "[I") := ⟨tbI3 (List.mem_of_getElem? (i := 198) rfl), (Or.inl rfl)⟩
theorem tb_53 : tb_G (Cond.fieldLink RX0 12 "Warren$Mind" "ways" "LWarren$Ways;") := ⟨tbI3 (List.mem_of_getElem? (i := 197) rfl), (Or.inl rfl)⟩
theorem tb_54 : tb_G (Cond.initialized RX3) := ⟨tbI1 (List.mem_of_getElem? (i := 9) rfl), (Or.inl rfl)⟩
theorem tb_55 : tb_G (Cond.instantiable RX3 3) := ⟨tbI2 (List.mem_of_getElem? (i := 47) rfl), (Or.inl rfl)⟩
theorem tb_56 : tb_G (Cond.classLink RX0 9 RX3) := ⟨tbI3 (List.mem_of_getElem? (i := 182) rfl), (Or.inl rfl)⟩
theorem tb_57 : tb_G (Cond.methodLink RX0 3 objectInit) := ⟨tbI3 (List.mem_of_getElem? (i := 181) rfl), (Or.inl rfl)⟩
theorem tb_58 : tb_G (Cond.code yX0_init cX0_init 1 none) := ⟨tbI3 (List.mem_of_getElem? (i := 180) rfl), (Or.inl rfl)⟩
theorem tb_59 : tb_G (Cond.instanceMethod yX0_init) := ⟨tbI3 (List.mem_of_getElem? (i := 179) rfl), (Or.inl rfl)⟩
theorem tb_60 : tb_G (Cond.methodLink RJxa1e45 1 objectInit) := ⟨tbI3 (List.mem_of_getElem? (i := 164) rfl), (Or.inl rfl)⟩
theorem tb_61 : tb_G (Cond.code yJxa1e45_init_da8c8 cJxa1e45_init_da8c8 1 none) := ⟨tbI3 (List.mem_of_getElem? (i := 163) rfl), (Or.inl rfl)⟩
theorem tb_62 : tb_G (Cond.initialized RJxa1e45) := ⟨tbI1 (List.mem_of_getElem? (i := 5) rfl), (Or.inl rfl)⟩
theorem tb_63 : tb_G (Cond.instanceMethod yJxa1e45_init_da8c8) := ⟨tbI3 (List.mem_of_getElem? (i := 162) rfl), (Or.inl rfl)⟩
theorem tb_64 : tb_G (Cond.methodLink RJxc12de 1 yJxa1e45_init_da8c8) := ⟨tbI3 (List.mem_of_getElem? (i := 161) rfl), (Or.inl rfl)⟩
theorem tb_65 : tb_G (Cond.fieldLink RJxc12de 7 "java/util/AbstractList" "modCount" "I") := ⟨tbI3 (List.mem_of_getElem? (i := 167) rfl), (Or.inl rfl)⟩
theorem tb_66 : tb_G (Cond.code yJxc12de_init_da8c8 cJxc12de_init_da8c8 1 none) := ⟨tbI3 (List.mem_of_getElem? (i := 160) rfl), (Or.inl rfl)⟩
theorem tb_67 : tb_G (Cond.initialized RJxc12de) := ⟨tbI1 (List.mem_of_getElem? (i := 6) rfl), (Or.inl rfl)⟩
theorem tb_68 : tb_G (Cond.instanceMethod yJxc12de_init_da8c8) := ⟨tbI3 (List.mem_of_getElem? (i := 159) rfl), (Or.inl rfl)⟩
theorem tb_69 : tb_G (Cond.methodLink RJx4a65c 1 yJxc12de_init_da8c8) := ⟨tbI3 (List.mem_of_getElem? (i := 158) rfl), (Or.inl rfl)⟩
theorem tb_70 : tb_G (Cond.fieldLink RJx4a65c 9 "java/util/ArrayList" "elementData" "[Ljava/lang/Object;") := ⟨tbI3 (List.mem_of_getElem? (i := 165) rfl), (Or.inl rfl)⟩
theorem tb_71 : tb_G (Cond.fieldLink RJx4a65c 39 "java/util/ArrayList" "DEFAULTCAPACITY_EMPTY_ELEMENTDATA" "[Ljava/lang/Object;") := ⟨tbI3 (List.mem_of_getElem? (i := 44) rfl), (Or.inl rfl)⟩
theorem tb_72 : tb_G (Cond.code yJx4a65c_init_da8c8 cJx4a65c_init_da8c8 1 none) := ⟨tbI3 (List.mem_of_getElem? (i := 157) rfl), (Or.inl rfl)⟩
set_option maxRecDepth 20000 in
theorem tbL_wsX5_init_r3 : GoodIn lw_tbl wsX5_init_r3 := (gI_cons tb_72 (gI_cons tb_71 (gI_cons tb_70 (gI_cons tb_69 (gI_cons tb_68 (gI_cons tb_67 (gI_cons tb_66 (gI_cons tb_65 (gI_cons tb_64 (gI_cons tb_63 (gI_cons tb_62 (gI_cons tb_61 (gI_cons tb_60 (gI_cons tb_59 (gI_cons tb_58 (gI_cons tb_57 (gI_cons tb_56 (gI_cons tb_55 (gI_cons tb_54 (gI_cons tb_53 (gI_cons tb_52 (gI_cons tb_51 (gI_cons tb_50 (gI_cons tb_49 gI_nil))))))))))))))))))))))))
theorem tb_73 : tb_G (Cond.fieldLink RX3 15 "Warren$Ways" "queue" "[I") := ⟨tbI3 (List.mem_of_getElem? (i := 188) rfl), (Or.inl rfl)⟩
theorem tb_74 : tb_G (Cond.fieldLink RX3 9 "Warren$Ways" "lengths" "[I") := ⟨tbI3 (List.mem_of_getElem? (i := 187) rfl), (Or.inl rfl)⟩
set_option maxRecDepth 20000 in
theorem tbL_wsX5_init_r4 : GoodIn lw_tbl wsX5_init_r4 := (gI_cons tb_74 (gI_cons tb_73 gI_nil))
set_option maxRecDepth 20000 in
theorem tbL_wsX5_init : GoodIn lw_tbl wsX5_init := (gI_cons tb_0 (goodIn_app (goodIn_app (goodIn_app (goodIn_app (goodIn_app (goodIn_app (goodIn_app tbL_wsX5_init_r1 (goodIn_app tbL_wsX5_init_r2 (goodIn_app tbL_wsX5_init_r3 tbL_wsX5_init_r4))) tbL_wsX40) tbL_wsX50) tbL_wsX20) tbL_wsJx4a65c0) tbL_wsX00) tbL_wsX30))
theorem tb_75 : tb_G (.code yX5_found cX5_found 3 (some .boolean)) := ⟨tbI4 (List.mem_of_getElem? (i := 65) rfl), (Or.inl rfl)⟩
theorem tb_76 : tb_G (Cond.methodLink RX5 55 yX4_dig) := ⟨tbI4 (List.mem_of_getElem? (i := 70) rfl), (Or.inl rfl)⟩
theorem tb_77 : tb_G (Cond.code yX5_isEdge cX5_isEdge 1 (some .boolean)) := ⟨tbI4 (List.mem_of_getElem? (i := 32) rfl), (Or.inl rfl)⟩
theorem tb_78 : tb_G (Cond.static yX5_isEdge) := ⟨tbI4 (List.mem_of_getElem? (i := 31) rfl), (Or.inl rfl)⟩
theorem tb_79 : tb_G (Cond.methodLink RX5 51 yX5_isEdge) := ⟨tbI4 (List.mem_of_getElem? (i := 30) rfl), (Or.inl rfl)⟩
theorem tb_80 : tb_G (Cond.constant RL 7 (2147483647)) := ⟨tbI4 (List.mem_of_getElem? (i := 19) rfl), (Or.inl rfl)⟩
theorem tb_81 : tb_G (Cond.code yL_below cL_below 2 (some .int)) := ⟨tbI4 (List.mem_of_getElem? (i := 18) rfl), (Or.inl rfl)⟩
theorem tb_82 : tb_G (Cond.static yL_below) := ⟨tbI4 (List.mem_of_getElem? (i := 17) rfl), (Or.inl rfl)⟩
theorem tb_83 : tb_G (Cond.constant RL 8 (790386105)) := ⟨tbI4 (List.mem_of_getElem? (i := 15) rfl), (Or.inl rfl)⟩
theorem tb_84 : tb_G (Cond.code yL_cell cL_cell 2 (some .int)) := ⟨tbI4 (List.mem_of_getElem? (i := 14) rfl), (Or.inl rfl)⟩
theorem tb_85 : tb_G (Cond.initialized RL) := ⟨tbI1 (List.mem_of_getElem? (i := 0) rfl), (Or.inl rfl)⟩
theorem tb_86 : tb_G (Cond.static yL_cell) := ⟨tbI4 (List.mem_of_getElem? (i := 13) rfl), (Or.inl rfl)⟩
theorem tb_87 : tb_G (Cond.code yX5_draw cX5_draw 3 (some .int)) := ⟨tbI4 (List.mem_of_getElem? (i := 11) rfl), (Or.inl rfl)⟩
theorem tb_88 : tb_G (Cond.selects RX5 yX5_draw yX5_draw) := ⟨tbI4 (List.mem_of_getElem? (i := 10) rfl), (Or.inl rfl)⟩
theorem tb_89 : tb_G (Cond.instanceMethod yX5_draw) := ⟨tbI4 (List.mem_of_getElem? (i := 9) rfl), (Or.inl rfl)⟩
theorem tb_90 : tb_G (Cond.methodLink RX5 47 yX5_draw) := ⟨tbI4 (List.mem_of_getElem? (i := 25) rfl), (Or.inl rfl)⟩
theorem tb_91 : tb_G (Cond.code yX5_dig cX5_dig 9 (some .boolean)) := ⟨tbI4 (List.mem_of_getElem? (i := 69) rfl), (Or.inl rfl)⟩
theorem tb_92 : tb_G (Cond.initialized RX5) := ⟨tbI1 (List.mem_of_getElem? (i := 1) rfl), (Or.inl rfl)⟩
theorem tb_93 : tb_G (Cond.selects RX5 yX5_dig yX5_dig) := ⟨tbI4 (List.mem_of_getElem? (i := 68) rfl), (Or.inl rfl)⟩
theorem tb_94 : tb_G (Cond.instanceMethod yX5_dig) := ⟨tbI4 (List.mem_of_getElem? (i := 67) rfl), (Or.inl rfl)⟩
theorem tb_95 : tb_G (Cond.methodLink RX5 148 yX5_dig) := ⟨tbI4 (List.mem_of_getElem? (i := 66) rfl), (Or.inl rfl)⟩
set_option maxRecDepth 20000 in
theorem tbL_wsX5_found_r1 : GoodIn lw_tbl wsX5_found_r1 := (gI_cons tb_95 (gI_cons tb_94 (gI_cons tb_93 (gI_cons tb_92 (gI_cons tb_91 (gI_cons tb_16 (gI_cons tb_18 (gI_cons tb_90 (gI_cons tb_89 (gI_cons tb_88 (gI_cons tb_87 (gI_cons tb_10 (gI_cons tb_9 (gI_cons tb_86 (gI_cons tb_85 (gI_cons tb_84 (gI_cons tb_83 (gI_cons tb_82 (gI_cons tb_81 (gI_cons tb_80 (gI_cons tb_79 (gI_cons tb_78 (gI_cons tb_77 (gI_cons tb_76 gI_nil))))))))))))))))))))))))
theorem tb_96 : tb_G (Cond.instanceMethod yX2_putKind) := ⟨tbI1 (List.mem_of_getElem? (i := 111) rfl), (Or.inl rfl)⟩
theorem tb_97 : tb_G (Cond.methodLink RX2 57 yX2_putKind) := ⟨tbI1 (List.mem_of_getElem? (i := 110) rfl), (Or.inl rfl)⟩
theorem tb_98 : tb_G (Cond.code yX2_kindAt cX2_kindAt 2 (some .int)) := ⟨tbI1 (List.mem_of_getElem? (i := 109) rfl), (Or.inl rfl)⟩
theorem tb_99 : tb_G (Cond.selects RX2 yX2_kindAt yX2_kindAt) := ⟨tbI1 (List.mem_of_getElem? (i := 108) rfl), (Or.inl rfl)⟩
theorem tb_100 : tb_G (Cond.instanceMethod yX2_kindAt) := ⟨tbI1 (List.mem_of_getElem? (i := 107) rfl), (Or.inl rfl)⟩
theorem tb_101 : tb_G (Cond.methodLink RX2 53 yX2_kindAt) := ⟨tbI1 (List.mem_of_getElem? (i := 106) rfl), (Or.inl rfl)⟩
theorem tb_102 : tb_G (Cond.code yX4_isEdge cX4_isEdge 3 (some .boolean)) := ⟨tbI1 (List.mem_of_getElem? (i := 105) rfl), (Or.inl rfl)⟩
theorem tb_103 : tb_G (Cond.static yX4_isEdge) := ⟨tbI1 (List.mem_of_getElem? (i := 104) rfl), (Or.inl rfl)⟩
theorem tb_104 : tb_G (Cond.code yX2_digRoom cX2_digRoom 9 (some .int)) := ⟨tbI1 (List.mem_of_getElem? (i := 102) rfl), (Or.inl rfl)⟩
theorem tb_105 : tb_G (Cond.selects RX2 yX2_digRoom yX2_digRoom) := ⟨tbI1 (List.mem_of_getElem? (i := 101) rfl), (Or.inl rfl)⟩
theorem tb_106 : tb_G (Cond.instanceMethod yX2_digRoom) := ⟨tbI1 (List.mem_of_getElem? (i := 100) rfl), (Or.inl rfl)⟩
theorem tb_107 : tb_G (Cond.methodLink RX4 44 yX2_digRoom) := ⟨tbI1 (List.mem_of_getElem? (i := 99) rfl), (Or.inl rfl)⟩
theorem tb_108 : tb_G (Cond.code yX4_isWithin cX4_isWithin 3 (some .boolean)) := ⟨tbI1 (List.mem_of_getElem? (i := 28) rfl), (Or.inl rfl)⟩
theorem tb_109 : tb_G (Cond.static yX4_isWithin) := ⟨tbI1 (List.mem_of_getElem? (i := 27) rfl), (Or.inl rfl)⟩
theorem tb_110 : tb_G (Cond.methodLink RX4 33 yX4_isWithin) := ⟨tbI1 (List.mem_of_getElem? (i := 26) rfl), (Or.inl rfl)⟩
theorem tb_111 : tb_G (Cond.initialized "java/lang/IllegalArgumentException") := ⟨tbI1 (List.mem_of_getElem? (i := 13) rfl), (Or.inl rfl)⟩
theorem tb_112 : tb_G (Cond.classLink RX4 37 "java/lang/IllegalArgumentException") := ⟨tbI1 (List.mem_of_getElem? (i := 29) rfl), (Or.inl rfl)⟩
theorem tb_113 : tb_G (Cond.code yX4_dig cX4_dig 5 (some .int)) := ⟨tbI1 (List.mem_of_getElem? (i := 25) rfl), (Or.inl rfl)⟩
theorem tb_114 : tb_G (Cond.selects RX4 yX4_dig yX4_dig) := ⟨tbI1 (List.mem_of_getElem? (i := 24) rfl), (Or.inl rfl)⟩
theorem tb_115 : tb_G (Cond.instanceMethod yX4_dig) := ⟨tbI1 (List.mem_of_getElem? (i := 23) rfl), (Or.inl rfl)⟩
set_option maxRecDepth 20000 in
theorem tbL_wsX5_found_r2 : GoodIn lw_tbl wsX5_found_r2 := (gI_cons tb_115 (gI_cons tb_114 (gI_cons tb_19 (gI_cons tb_113 (gI_cons tb_112 (gI_cons tb_111 (gI_cons tb_1 (gI_cons tb_110 (gI_cons tb_109 (gI_cons tb_108 (gI_cons tb_107 (gI_cons tb_106 (gI_cons tb_105 (gI_cons tb_2 (gI_cons tb_104 (gI_cons tb_103 (gI_cons tb_102 (gI_cons tb_101 (gI_cons tb_100 (gI_cons tb_99 (gI_cons tb_98 (gI_cons tb_35 (gI_cons tb_97 (gI_cons tb_96 gI_nil))))))))))))))))))))))))
theorem tb_116 : tb_G (Cond.methodLink RX4 57 yX4_isEdge) := ⟨tbI4 (List.mem_of_getElem? (i := 37) rfl), (Or.inl rfl)⟩
theorem tb_117 : tb_G (Cond.code yX4_isCell cX4_isCell 1 (some .boolean)) := ⟨tbI1 (List.mem_of_getElem? (i := 120) rfl), (Or.inl rfl)⟩
theorem tb_118 : tb_G (Cond.static yX4_isCell) := ⟨tbI1 (List.mem_of_getElem? (i := 119) rfl), (Or.inl rfl)⟩
theorem tb_119 : tb_G (Cond.methodLink RX4 48 yX4_isCell) := ⟨tbI1 (List.mem_of_getElem? (i := 118) rfl), (Or.inl rfl)⟩
theorem tb_120 : tb_G (Cond.initialized "java/lang/IllegalStateException") := ⟨tbI1 (List.mem_of_getElem? (i := 15) rfl), (Or.inl rfl)⟩
theorem tb_121 : tb_G (Cond.classLink RX4 69 "java/lang/IllegalStateException") := ⟨tbI2 (List.mem_of_getElem? (i := 200) rfl), (Or.inl rfl)⟩
theorem tb_122 : tb_G (Cond.initialized "java/lang/IndexOutOfBoundsException") := ⟨tbI1 (List.mem_of_getElem? (i := 14) rfl), (Or.inl rfl)⟩
theorem tb_123 : tb_G (Cond.classLink RX4 52 "java/lang/IndexOutOfBoundsException") := ⟨tbI1 (List.mem_of_getElem? (i := 121) rfl), (Or.inl rfl)⟩
theorem tb_124 : tb_G (Cond.code yX4_set cX4_set 4 (some .int)) := ⟨tbI4 (List.mem_of_getElem? (i := 36) rfl), (Or.inl rfl)⟩
theorem tb_125 : tb_G (Cond.selects RX4 yX4_set yX4_set) := ⟨tbI4 (List.mem_of_getElem? (i := 35) rfl), (Or.inl rfl)⟩
theorem tb_126 : tb_G (Cond.instanceMethod yX4_set) := ⟨tbI4 (List.mem_of_getElem? (i := 34) rfl), (Or.inl rfl)⟩
theorem tb_127 : tb_G (Cond.methodLink RX5 62 yX4_set) := ⟨tbI4 (List.mem_of_getElem? (i := 33) rfl), (Or.inl rfl)⟩
theorem tb_128 : tb_G (Cond.code yX5_on cX5_on 3 (some .int)) := ⟨tbI4 (List.mem_of_getElem? (i := 29) rfl), (Or.inl rfl)⟩
theorem tb_129 : tb_G (Cond.selects RX5 yX5_on yX5_on) := ⟨tbI4 (List.mem_of_getElem? (i := 28) rfl), (Or.inl rfl)⟩
theorem tb_130 : tb_G (Cond.instanceMethod yX5_on) := ⟨tbI4 (List.mem_of_getElem? (i := 27) rfl), (Or.inl rfl)⟩
theorem tb_131 : tb_G (Cond.methodLink RX5 59 yX5_on) := ⟨tbI4 (List.mem_of_getElem? (i := 26) rfl), (Or.inl rfl)⟩
theorem tb_132 : tb_G (Cond.classLink RX5 65 "java/lang/IllegalStateException") := ⟨tbI4 (List.mem_of_getElem? (i := 24) rfl), (Or.inl rfl)⟩
theorem tb_133 : tb_G (Cond.codeWith yX5_set cX5_set 6 (some .boolean) [(45, 61, 90, 65), (62, 89, 90, 65)]) := ⟨tbI4 (List.mem_of_getElem? (i := 23) rfl), (Or.inl rfl)⟩
theorem tb_134 : tb_G (Cond.selects RX5 yX5_set yX5_set) := ⟨tbI4 (List.mem_of_getElem? (i := 22) rfl), (Or.inl rfl)⟩
theorem tb_135 : tb_G (Cond.instanceMethod yX5_set) := ⟨tbI4 (List.mem_of_getElem? (i := 21) rfl), (Or.inl rfl)⟩
theorem tb_136 : tb_G (Cond.methodLink RX5 151 yX5_set) := ⟨tbI4 (List.mem_of_getElem? (i := 71) rfl), (Or.inl rfl)⟩
theorem tb_137 : tb_G (Cond.code yX2_putKind cX2_putKind 3 none) := ⟨tbI1 (List.mem_of_getElem? (i := 113) rfl), (Or.inl rfl)⟩
theorem tb_138 : tb_G (Cond.selects RX2 yX2_putKind yX2_putKind) := ⟨tbI1 (List.mem_of_getElem? (i := 112) rfl), (Or.inl rfl)⟩
set_option maxRecDepth 20000 in
theorem tbL_wsX5_found_r3 : GoodIn lw_tbl wsX5_found_r3 := (gI_cons tb_138 (gI_cons tb_137 (gI_cons tb_136 (gI_cons tb_135 (gI_cons tb_134 (gI_cons tb_133 (gI_cons tb_132 (gI_cons tb_131 (gI_cons tb_130 (gI_cons tb_129 (gI_cons tb_128 (gI_cons tb_11 (gI_cons tb_127 (gI_cons tb_126 (gI_cons tb_125 (gI_cons tb_124 (gI_cons tb_123 (gI_cons tb_122 (gI_cons tb_121 (gI_cons tb_120 (gI_cons tb_119 (gI_cons tb_118 (gI_cons tb_117 (gI_cons tb_116 gI_nil))))))))))))))))))))))))
theorem tb_139 : tb_G (Cond.initialized "java/lang/System") := ⟨tbI1 (List.mem_of_getElem? (i := 17) rfl), (Or.inl rfl)⟩
theorem tb_140 : tb_G (Cond.static arraycopyName) := ⟨tbI3 (List.mem_of_getElem? (i := 20) rfl), (Or.inl rfl)⟩
theorem tb_141 : tb_G (Cond.native arraycopyName) := ⟨tbI3 (List.mem_of_getElem? (i := 21) rfl), (Or.inl rfl)⟩
theorem tb_142 : tb_G (Cond.methodLink RX5 93 arraycopyName) := ⟨tbI4 (List.mem_of_getElem? (i := 96) rfl), (Or.inl rfl)⟩
theorem tb_143 : tb_G (Cond.codeWith yX5_come cX5_come 10 (some .boolean) [(123, 141, 290, 65), (142, 289, 290, 65)]) := ⟨tbI4 (List.mem_of_getElem? (i := 75) rfl), (Or.inl rfl)⟩
theorem tb_144 : tb_G (Cond.selects RX5 yX5_come yX5_come) := ⟨tbI4 (List.mem_of_getElem? (i := 74) rfl), (Or.inl rfl)⟩
theorem tb_145 : tb_G (Cond.instanceMethod yX5_come) := ⟨tbI4 (List.mem_of_getElem? (i := 73) rfl), (Or.inl rfl)⟩
theorem tb_146 : tb_G (Cond.methodLink RX5 153 yX5_come) := ⟨tbI4 (List.mem_of_getElem? (i := 72) rfl), (Or.inl rfl)⟩
theorem tb_147 : tb_G (Cond.methodLink RX4 77 yX2_putKind) := ⟨tbI4 (List.mem_of_getElem? (i := 41) rfl), (Or.inl rfl)⟩
theorem tb_148 : tb_G (Cond.methodLink RX4 74 yX2_kindAt) := ⟨tbI1 (List.mem_of_getElem? (i := 137) rfl), (Or.inl rfl)⟩
theorem tb_149 : tb_G (Cond.code yX2_trait cX2_trait 4 (some .int)) := ⟨tbI1 (List.mem_of_getElem? (i := 149) rfl), (Or.inl rfl)⟩
theorem tb_150 : tb_G (Cond.selects RX2 yX2_trait yX2_trait) := ⟨tbI1 (List.mem_of_getElem? (i := 148) rfl), (Or.inl rfl)⟩
theorem tb_151 : tb_G (Cond.instanceMethod yX2_trait) := ⟨tbI1 (List.mem_of_getElem? (i := 147) rfl), (Or.inl rfl)⟩
theorem tb_152 : tb_G (Cond.methodLink RX2 86 yX2_trait) := ⟨tbI1 (List.mem_of_getElem? (i := 146) rfl), (Or.inl rfl)⟩
theorem tb_153 : tb_G (Cond.fieldLink RX2 39 "Warren$State" "beings" "I") := ⟨tbI2 (List.mem_of_getElem? (i := 229) rfl), (Or.inl rfl)⟩
theorem tb_154 : tb_G (Cond.code yX2_whoIsOn cX2_whoIsOn 3 (some .int)) := ⟨tbI1 (List.mem_of_getElem? (i := 145) rfl), (Or.inl rfl)⟩
theorem tb_155 : tb_G (Cond.selects RX2 yX2_whoIsOn yX2_whoIsOn) := ⟨tbI1 (List.mem_of_getElem? (i := 144) rfl), (Or.inl rfl)⟩
theorem tb_156 : tb_G (Cond.instanceMethod yX2_whoIsOn) := ⟨tbI1 (List.mem_of_getElem? (i := 143) rfl), (Or.inl rfl)⟩
theorem tb_157 : tb_G (Cond.methodLink RX4 65 yX2_whoIsOn) := ⟨tbI1 (List.mem_of_getElem? (i := 142) rfl), (Or.inl rfl)⟩
theorem tb_158 : tb_G (Cond.code yX4_stopsSight cX4_stopsSight 1 (some .boolean)) := ⟨tbI1 (List.mem_of_getElem? (i := 175) rfl), (Or.inl rfl)⟩
theorem tb_159 : tb_G (Cond.static yX4_stopsSight) := ⟨tbI1 (List.mem_of_getElem? (i := 174) rfl), (Or.inl rfl)⟩
theorem tb_160 : tb_G (Cond.methodLink RX4 62 yX4_stopsSight) := ⟨tbI4 (List.mem_of_getElem? (i := 39) rfl), (Or.inl rfl)⟩
set_option maxRecDepth 20000 in
theorem tbL_wsX5_found_r4 : GoodIn lw_tbl wsX5_found_r4 := (gI_cons tb_160 (gI_cons tb_159 (gI_cons tb_158 (gI_cons tb_157 (gI_cons tb_156 (gI_cons tb_155 (gI_cons tb_154 (gI_cons tb_153 (gI_cons tb_152 (gI_cons tb_151 (gI_cons tb_150 (gI_cons tb_149 (gI_cons tb_33 (gI_cons tb_148 (gI_cons tb_147 (gI_cons tb_146 (gI_cons tb_145 (gI_cons tb_144 (gI_cons tb_143 (gI_cons tb_17 (gI_cons tb_142 (gI_cons tb_141 (gI_cons tb_140 (gI_cons tb_139 gI_nil))))))))))))))))))))))))
theorem tb_161 : tb_G (Cond.code yX2_whoseTurn cX2_whoseTurn 3 (some .int)) := ⟨tbI1 (List.mem_of_getElem? (i := 229) rfl), (Or.inl rfl)⟩
theorem tb_162 : tb_G (Cond.selects RX2 yX2_whoseTurn yX2_whoseTurn) := ⟨tbI1 (List.mem_of_getElem? (i := 228) rfl), (Or.inl rfl)⟩
theorem tb_163 : tb_G (Cond.instanceMethod yX2_whoseTurn) := ⟨tbI1 (List.mem_of_getElem? (i := 227) rfl), (Or.inl rfl)⟩
theorem tb_164 : tb_G (Cond.methodLink RX2 105 yX2_whoseTurn) := ⟨tbI4 (List.mem_of_getElem? (i := 94) rfl), (Or.inl rfl)⟩
theorem tb_165 : tb_G (Cond.code yX2_addBeing cX2_addBeing 7 (some .int)) := ⟨tbI4 (List.mem_of_getElem? (i := 93) rfl), (Or.inl rfl)⟩
theorem tb_166 : tb_G (Cond.selects RX2 yX2_addBeing yX2_addBeing) := ⟨tbI4 (List.mem_of_getElem? (i := 92) rfl), (Or.inl rfl)⟩
theorem tb_167 : tb_G (Cond.instanceMethod yX2_addBeing) := ⟨tbI4 (List.mem_of_getElem? (i := 91) rfl), (Or.inl rfl)⟩
theorem tb_168 : tb_G (Cond.methodLink RX4 101 yX2_addBeing) := ⟨tbI4 (List.mem_of_getElem? (i := 90) rfl), (Or.inl rfl)⟩
theorem tb_169 : tb_G (Cond.code yX2_hasRoom cX2_hasRoom 1 (some .boolean)) := ⟨tbI4 (List.mem_of_getElem? (i := 88) rfl), (Or.inl rfl)⟩
theorem tb_170 : tb_G (Cond.selects RX2 yX2_hasRoom yX2_hasRoom) := ⟨tbI4 (List.mem_of_getElem? (i := 87) rfl), (Or.inl rfl)⟩
theorem tb_171 : tb_G (Cond.instanceMethod yX2_hasRoom) := ⟨tbI4 (List.mem_of_getElem? (i := 86) rfl), (Or.inl rfl)⟩
theorem tb_172 : tb_G (Cond.methodLink RX4 95 yX2_hasRoom) := ⟨tbI4 (List.mem_of_getElem? (i := 85) rfl), (Or.inl rfl)⟩
theorem tb_173 : tb_G (Cond.code yX4_isSide cX4_isSide 1 (some .boolean)) := ⟨tbI3 (List.mem_of_getElem? (i := 123) rfl), (Or.inl rfl)⟩
theorem tb_174 : tb_G (Cond.static yX4_isSide) := ⟨tbI3 (List.mem_of_getElem? (i := 122) rfl), (Or.inl rfl)⟩
theorem tb_175 : tb_G (Cond.methodLink RX4 85 yX4_isSide) := ⟨tbI3 (List.mem_of_getElem? (i := 121) rfl), (Or.inl rfl)⟩
theorem tb_176 : tb_G (Cond.code yX4_come cX4_come 4 (some .int)) := ⟨tbI4 (List.mem_of_getElem? (i := 83) rfl), (Or.inl rfl)⟩
theorem tb_177 : tb_G (Cond.selects RX4 yX4_come yX4_come) := ⟨tbI4 (List.mem_of_getElem? (i := 82) rfl), (Or.inl rfl)⟩
theorem tb_178 : tb_G (Cond.instanceMethod yX4_come) := ⟨tbI4 (List.mem_of_getElem? (i := 81) rfl), (Or.inl rfl)⟩
theorem tb_179 : tb_G (Cond.methodLink RX5 89 yX4_come) := ⟨tbI4 (List.mem_of_getElem? (i := 80) rfl), (Or.inl rfl)⟩
theorem tb_180 : tb_G (Cond.code yX5_turn cX5_turn 3 (some .int)) := ⟨tbI4 (List.mem_of_getElem? (i := 79) rfl), (Or.inl rfl)⟩
theorem tb_181 : tb_G (Cond.selects RX5 yX5_turn yX5_turn) := ⟨tbI4 (List.mem_of_getElem? (i := 78) rfl), (Or.inl rfl)⟩
theorem tb_182 : tb_G (Cond.instanceMethod yX5_turn) := ⟨tbI4 (List.mem_of_getElem? (i := 77) rfl), (Or.inl rfl)⟩
theorem tb_183 : tb_G (Cond.methodLink RX5 85 yX5_turn) := ⟨tbI4 (List.mem_of_getElem? (i := 76) rfl), (Or.inl rfl)⟩
set_option maxRecDepth 20000 in
theorem tbL_wsX5_found_r5 : GoodIn lw_tbl wsX5_found_r5 := (gI_cons tb_12 (gI_cons tb_183 (gI_cons tb_182 (gI_cons tb_181 (gI_cons tb_180 (gI_cons tb_179 (gI_cons tb_178 (gI_cons tb_177 (gI_cons tb_176 (gI_cons tb_175 (gI_cons tb_174 (gI_cons tb_173 (gI_cons tb_172 (gI_cons tb_171 (gI_cons tb_170 (gI_cons tb_169 (gI_cons tb_168 (gI_cons tb_167 (gI_cons tb_166 (gI_cons tb_165 (gI_cons tb_164 (gI_cons tb_163 (gI_cons tb_162 (gI_cons tb_161 gI_nil))))))))))))))))))))))))
theorem tb_184 : tb_G (Cond.methodLink RX2 89 yX2_isSeenFrom) := ⟨tbI2 (List.mem_of_getElem? (i := 29) rfl), (Or.inl rfl)⟩
theorem tb_185 : tb_G (Cond.code yX2_isKnown cX2_isKnown 3 (some .boolean)) := ⟨tbI1 (List.mem_of_getElem? (i := 237) rfl), (Or.inl rfl)⟩
theorem tb_186 : tb_G (Cond.selects RX2 yX2_isKnown yX2_isKnown) := ⟨tbI1 (List.mem_of_getElem? (i := 236) rfl), (Or.inl rfl)⟩
theorem tb_187 : tb_G (Cond.instanceMethod yX2_isKnown) := ⟨tbI1 (List.mem_of_getElem? (i := 235) rfl), (Or.inl rfl)⟩
theorem tb_188 : tb_G (Cond.methodLink RX2 82 yX2_isKnown) := ⟨tbI1 (List.mem_of_getElem? (i := 234) rfl), (Or.inl rfl)⟩
theorem tb_189 : tb_G (Cond.code yX2_look cX2_look 5 none) := ⟨tbI2 (List.mem_of_getElem? (i := 167) rfl), (Or.inl rfl)⟩
theorem tb_190 : tb_G (Cond.selects RX2 yX2_look yX2_look) := ⟨tbI2 (List.mem_of_getElem? (i := 166) rfl), (Or.inl rfl)⟩
theorem tb_191 : tb_G (Cond.instanceMethod yX2_look) := ⟨tbI2 (List.mem_of_getElem? (i := 165) rfl), (Or.inl rfl)⟩
theorem tb_192 : tb_G (Cond.methodLink RX2 113 yX2_look) := ⟨tbI4 (List.mem_of_getElem? (i := 95) rfl), (Or.inl rfl)⟩
theorem tb_193 : tb_G (Cond.code yX2_putEffect cX2_putEffect 6 none) := ⟨tbI2 (List.mem_of_getElem? (i := 154) rfl), (Or.inl rfl)⟩
theorem tb_194 : tb_G (Cond.selects RX2 yX2_putEffect yX2_putEffect) := ⟨tbI2 (List.mem_of_getElem? (i := 153) rfl), (Or.inl rfl)⟩
theorem tb_195 : tb_G (Cond.instanceMethod yX2_putEffect) := ⟨tbI2 (List.mem_of_getElem? (i := 152) rfl), (Or.inl rfl)⟩
theorem tb_196 : tb_G (Cond.methodLink RX2 101 yX2_putEffect) := ⟨tbI2 (List.mem_of_getElem? (i := 151) rfl), (Or.inl rfl)⟩
theorem tb_197 : tb_G (Cond.code yX2_putTrait cX2_putTrait 5 none) := ⟨tbI2 (List.mem_of_getElem? (i := 131) rfl), (Or.inl rfl)⟩
theorem tb_198 : tb_G (Cond.selects RX2 yX2_putTrait yX2_putTrait) := ⟨tbI2 (List.mem_of_getElem? (i := 130) rfl), (Or.inl rfl)⟩
theorem tb_199 : tb_G (Cond.instanceMethod yX2_putTrait) := ⟨tbI2 (List.mem_of_getElem? (i := 129) rfl), (Or.inl rfl)⟩
theorem tb_200 : tb_G (Cond.methodLink RX2 109 yX2_putTrait) := ⟨tbI2 (List.mem_of_getElem? (i := 141) rfl), (Or.inl rfl)⟩
theorem tb_201 : tb_G (Cond.code yX2_isAlive cX2_isAlive 2 (some .boolean)) := ⟨tbI1 (List.mem_of_getElem? (i := 225) rfl), (Or.inl rfl)⟩
theorem tb_202 : tb_G (Cond.selects RX2 yX2_isAlive yX2_isAlive) := ⟨tbI1 (List.mem_of_getElem? (i := 224) rfl), (Or.inl rfl)⟩
theorem tb_203 : tb_G (Cond.instanceMethod yX2_isAlive) := ⟨tbI1 (List.mem_of_getElem? (i := 223) rfl), (Or.inl rfl)⟩
theorem tb_204 : tb_G (Cond.methodLink RX2 117 yX2_isAlive) := ⟨tbI1 (List.mem_of_getElem? (i := 222) rfl), (Or.inl rfl)⟩
set_option maxRecDepth 20000 in
theorem tbL_wsX5_found_r6 : GoodIn lw_tbl wsX5_found_r6 := (gI_cons tb_204 (gI_cons tb_203 (gI_cons tb_202 (gI_cons tb_201 (gI_cons tb_200 (gI_cons tb_199 (gI_cons tb_198 (gI_cons tb_197 (gI_cons tb_196 (gI_cons tb_195 (gI_cons tb_194 (gI_cons tb_193 (gI_cons tb_32 (gI_cons tb_31 (gI_cons tb_192 (gI_cons tb_191 (gI_cons tb_190 (gI_cons tb_189 (gI_cons tb_34 (gI_cons tb_188 (gI_cons tb_187 (gI_cons tb_186 (gI_cons tb_185 (gI_cons tb_184 gI_nil))))))))))))))))))))))))
theorem tb_205 : tb_G (Cond.code yX5_look cX5_look 4 none) := ⟨tbI4 (List.mem_of_getElem? (i := 100) rfl), (Or.inl rfl)⟩
theorem tb_206 : tb_G (Cond.selects RX5 yX5_look yX5_look) := ⟨tbI4 (List.mem_of_getElem? (i := 99) rfl), (Or.inl rfl)⟩
theorem tb_207 : tb_G (Cond.instanceMethod yX5_look) := ⟨tbI4 (List.mem_of_getElem? (i := 98) rfl), (Or.inl rfl)⟩
theorem tb_208 : tb_G (Cond.methodLink RX5 99 yX5_look) := ⟨tbI4 (List.mem_of_getElem? (i := 97) rfl), (Or.inl rfl)⟩
theorem tb_209 : tb_G (Cond.code yJ9_floorDiv_7cf53 cJ9_floorDiv_7cf53 3 (some .int)) := ⟨tbI1 (List.mem_of_getElem? (i := 172) rfl), (Or.inl rfl)⟩
theorem tb_210 : tb_G (Cond.initialized RJ9) := ⟨tbI1 (List.mem_of_getElem? (i := 16) rfl), (Or.inl rfl)⟩
theorem tb_211 : tb_G (Cond.static yJ9_floorDiv_7cf53) := ⟨tbI1 (List.mem_of_getElem? (i := 171) rfl), (Or.inl rfl)⟩
theorem tb_212 : tb_G (Cond.methodLink RX2 70 yJ9_floorDiv_7cf53) := ⟨tbI1 (List.mem_of_getElem? (i := 170) rfl), (Or.inl rfl)⟩
theorem tb_213 : tb_G (Cond.code yX2_nearest cX2_nearest 2 (some .int)) := ⟨tbI1 (List.mem_of_getElem? (i := 169) rfl), (Or.inl rfl)⟩
theorem tb_214 : tb_G (Cond.static yX2_nearest) := ⟨tbI1 (List.mem_of_getElem? (i := 168) rfl), (Or.inl rfl)⟩
theorem tb_215 : tb_G (Cond.methodLink RX2 76 yX2_nearest) := ⟨tbI1 (List.mem_of_getElem? (i := 167) rfl), (Or.inl rfl)⟩
theorem tb_216 : tb_G (Cond.code Lib.Math.max.name Lib.Math.max.code 2 (some .int)) := ⟨tbI1 (List.mem_of_getElem? (i := 166) rfl), (Or.inl rfl)⟩
theorem tb_217 : tb_G (Cond.static Lib.Math.max.name) := ⟨tbI1 (List.mem_of_getElem? (i := 165) rfl), (Or.inl rfl)⟩
theorem tb_218 : tb_G (Cond.methodLink RX2 66 Lib.Math.max.name) := ⟨tbI1 (List.mem_of_getElem? (i := 164) rfl), (Or.inl rfl)⟩
theorem tb_219 : tb_G (Cond.code Lib.Math.abs.name Lib.Math.abs.code 1 (some .int)) := ⟨tbI1 (List.mem_of_getElem? (i := 163) rfl), (Or.inl rfl)⟩
theorem tb_220 : tb_G (Cond.static Lib.Math.abs.name) := ⟨tbI1 (List.mem_of_getElem? (i := 162) rfl), (Or.inl rfl)⟩
theorem tb_221 : tb_G (Cond.methodLink RX2 61 Lib.Math.abs.name) := ⟨tbI1 (List.mem_of_getElem? (i := 161) rfl), (Or.inl rfl)⟩
theorem tb_222 : tb_G (Cond.code yX2_apart cX2_apart 4 (some .int)) := ⟨tbI1 (List.mem_of_getElem? (i := 160) rfl), (Or.inl rfl)⟩
theorem tb_223 : tb_G (Cond.static yX2_apart) := ⟨tbI1 (List.mem_of_getElem? (i := 159) rfl), (Or.inl rfl)⟩
theorem tb_224 : tb_G (Cond.methodLink RX2 73 yX2_apart) := ⟨tbI1 (List.mem_of_getElem? (i := 158) rfl), (Or.inl rfl)⟩
theorem tb_225 : tb_G (Cond.code yX2_isSeenFrom cX2_isSeenFrom 8 (some .boolean)) := ⟨tbI1 (List.mem_of_getElem? (i := 157) rfl), (Or.inl rfl)⟩
theorem tb_226 : tb_G (Cond.selects RX2 yX2_isSeenFrom yX2_isSeenFrom) := ⟨tbI1 (List.mem_of_getElem? (i := 156) rfl), (Or.inl rfl)⟩
theorem tb_227 : tb_G (Cond.instanceMethod yX2_isSeenFrom) := ⟨tbI1 (List.mem_of_getElem? (i := 155) rfl), (Or.inl rfl)⟩
set_option maxRecDepth 20000 in
theorem tbL_wsX5_found_r7 : GoodIn lw_tbl wsX5_found_r7 := (gI_cons tb_227 (gI_cons tb_226 (gI_cons tb_225 (gI_cons tb_224 (gI_cons tb_223 (gI_cons tb_222 (gI_cons tb_221 (gI_cons tb_220 (gI_cons tb_210 (gI_cons tb_219 (gI_cons tb_218 (gI_cons tb_217 (gI_cons tb_216 (gI_cons tb_215 (gI_cons tb_214 (gI_cons tb_213 (gI_cons tb_212 (gI_cons tb_211 (gI_cons tb_210 (gI_cons tb_209 (gI_cons tb_208 (gI_cons tb_207 (gI_cons tb_206 (gI_cons tb_205 gI_nil))))))))))))))))))))))))
theorem tb_228 : tb_G (Cond.selects RX2 yX2_isBeing yX2_isBeing) := ⟨tbI1 (List.mem_of_getElem? (i := 182) rfl), (Or.inl rfl)⟩
theorem tb_229 : tb_G (Cond.instanceMethod yX2_isBeing) := ⟨tbI1 (List.mem_of_getElem? (i := 181) rfl), (Or.inl rfl)⟩
theorem tb_230 : tb_G (Cond.methodLink RX4 105 yX2_isBeing) := ⟨tbI1 (List.mem_of_getElem? (i := 180) rfl), (Or.inl rfl)⟩
theorem tb_231 : tb_G (Cond.code yX4_become cX4_become 6 (some .int)) := ⟨tbI4 (List.mem_of_getElem? (i := 119) rfl), (Or.inl rfl)⟩
theorem tb_232 : tb_G (Cond.selects RX4 yX4_become yX4_become) := ⟨tbI4 (List.mem_of_getElem? (i := 118) rfl), (Or.inl rfl)⟩
theorem tb_233 : tb_G (Cond.instanceMethod yX4_become) := ⟨tbI4 (List.mem_of_getElem? (i := 117) rfl), (Or.inl rfl)⟩
theorem tb_234 : tb_G (Cond.methodLink RX5 103 yX4_become) := ⟨tbI4 (List.mem_of_getElem? (i := 116) rfl), (Or.inl rfl)⟩
theorem tb_235 : tb_G (Cond.code yX5_become cX5_become 4 (some .boolean)) := ⟨tbI4 (List.mem_of_getElem? (i := 115) rfl), (Or.inl rfl)⟩
theorem tb_236 : tb_G (Cond.selects RX5 yX5_become yX5_become) := ⟨tbI4 (List.mem_of_getElem? (i := 114) rfl), (Or.inl rfl)⟩
theorem tb_237 : tb_G (Cond.instanceMethod yX5_become) := ⟨tbI4 (List.mem_of_getElem? (i := 113) rfl), (Or.inl rfl)⟩
theorem tb_238 : tb_G (Cond.methodLink RX5 155 yX5_become) := ⟨tbI4 (List.mem_of_getElem? (i := 112) rfl), (Or.inl rfl)⟩
theorem tb_239 : tb_G (Cond.code yX5_nearest cX5_nearest 4 (some .int)) := ⟨tbI4 (List.mem_of_getElem? (i := 111) rfl), (Or.inl rfl)⟩
theorem tb_240 : tb_G (Cond.static yX5_nearest) := ⟨tbI4 (List.mem_of_getElem? (i := 110) rfl), (Or.inl rfl)⟩
theorem tb_241 : tb_G (Cond.methodLink RX5 78 yX5_nearest) := ⟨tbI4 (List.mem_of_getElem? (i := 109) rfl), (Or.inl rfl)⟩
theorem tb_242 : tb_G (Cond.methodLink RX5 72 Lib.Math.max.name) := ⟨tbI4 (List.mem_of_getElem? (i := 58) rfl), (Or.inl rfl)⟩
theorem tb_243 : tb_G (Cond.methodLink RX5 67 Lib.Math.abs.name) := ⟨tbI4 (List.mem_of_getElem? (i := 108) rfl), (Or.inl rfl)⟩
theorem tb_244 : tb_G (Cond.code yX5_apart cX5_apart 2 (some .int)) := ⟨tbI4 (List.mem_of_getElem? (i := 107) rfl), (Or.inl rfl)⟩
theorem tb_245 : tb_G (Cond.static yX5_apart) := ⟨tbI4 (List.mem_of_getElem? (i := 106) rfl), (Or.inl rfl)⟩
theorem tb_246 : tb_G (Cond.methodLink RX5 75 yX5_apart) := ⟨tbI4 (List.mem_of_getElem? (i := 105) rfl), (Or.inl rfl)⟩
theorem tb_247 : tb_G (Cond.code yX5_sees cX5_sees 6 (some .boolean)) := ⟨tbI4 (List.mem_of_getElem? (i := 104) rfl), (Or.inl rfl)⟩
theorem tb_248 : tb_G (Cond.selects RX5 yX5_sees yX5_sees) := ⟨tbI4 (List.mem_of_getElem? (i := 103) rfl), (Or.inl rfl)⟩
theorem tb_249 : tb_G (Cond.instanceMethod yX5_sees) := ⟨tbI4 (List.mem_of_getElem? (i := 102) rfl), (Or.inl rfl)⟩
theorem tb_250 : tb_G (Cond.methodLink RX5 81 yX5_sees) := ⟨tbI4 (List.mem_of_getElem? (i := 101) rfl), (Or.inl rfl)⟩
set_option maxRecDepth 20000 in
theorem tbL_wsX5_found_r8 : GoodIn lw_tbl wsX5_found_r8 := (gI_cons tb_13 (gI_cons tb_250 (gI_cons tb_249 (gI_cons tb_248 (gI_cons tb_247 (gI_cons tb_246 (gI_cons tb_245 (gI_cons tb_244 (gI_cons tb_243 (gI_cons tb_242 (gI_cons tb_241 (gI_cons tb_240 (gI_cons tb_239 (gI_cons tb_238 (gI_cons tb_237 (gI_cons tb_236 (gI_cons tb_235 (gI_cons tb_234 (gI_cons tb_233 (gI_cons tb_232 (gI_cons tb_231 (gI_cons tb_230 (gI_cons tb_229 (gI_cons tb_228 gI_nil))))))))))))))))))))))))
theorem tb_251 : tb_G (Cond.methodLink RX4 116 yX2_putTrait) := ⟨tbI4 (List.mem_of_getElem? (i := 121) rfl), (Or.inl rfl)⟩
theorem tb_252 : tb_G (Cond.methodLink RX4 112 yX2_trait) := ⟨tbI1 (List.mem_of_getElem? (i := 195) rfl), (Or.inl rfl)⟩
theorem tb_253 : tb_G (Cond.code yX2_isBeing cX2_isBeing 2 (some .boolean)) := ⟨tbI1 (List.mem_of_getElem? (i := 183) rfl), (Or.inl rfl)⟩
set_option maxRecDepth 20000 in
theorem tbL_wsX5_found_r9 : GoodIn lw_tbl wsX5_found_r9 := (gI_cons tb_253 (gI_cons tb_252 (gI_cons tb_251 gI_nil)))
set_option maxRecDepth 20000 in
theorem tb_x6 : GoodIn lw_tbl ((vx_atS RX4 41 "java/lang/IllegalArgumentException" ["java/lang/RuntimeException", "java/lang/Exception"]).filter goodWord) := goodIn_sub (by decide +kernel) (by decide +kernel)
set_option maxRecDepth 20000 in
theorem tb_x7 : GoodIn lw_tbl ((vx_atS RX4 56 "java/lang/IndexOutOfBoundsException" ["java/lang/RuntimeException", "java/lang/Exception"]).filter goodWord) := goodIn_sub (by decide +kernel) (by decide +kernel)
set_option maxRecDepth 20000 in
theorem tb_x8 : GoodIn lw_tbl ((vx_atS RX4 73 "java/lang/IllegalStateException" ["java/lang/RuntimeException", "java/lang/Exception"]).filter goodWord) := goodIn_sub (by decide +kernel) (by decide +kernel)
set_option maxRecDepth 20000 in
theorem tbL_wsX5_found : GoodIn lw_tbl wsX5_found := (gI_cons tb_75 (goodIn_app (goodIn_app (goodIn_app (goodIn_app (goodIn_app (goodIn_app (goodIn_app tbL_wsX5_found_r1 (goodIn_app tbL_wsX5_found_r2 (goodIn_app tbL_wsX5_found_r3 (goodIn_app tbL_wsX5_found_r4 (goodIn_app tbL_wsX5_found_r5 (goodIn_app tbL_wsX5_found_r6 (goodIn_app tbL_wsX5_found_r7 (goodIn_app tbL_wsX5_found_r8 tbL_wsX5_found_r9)))))))) tbL_wsX50) tbL_wsX40) tbL_wsX20) tb_x6) tb_x7) tb_x8))
theorem tb_254 : tb_G (.selects RX5 yX5_found yX5_found) := ⟨tbI4 (List.mem_of_getElem? (i := 64) rfl), (Or.inl rfl)⟩
theorem tb_255 : tb_G (.instanceMethod yX5_found) := ⟨tbI4 (List.mem_of_getElem? (i := 63) rfl), (Or.inl rfl)⟩
theorem tb_256 : tb_G (.methodLink RL 18 yX5_found) := ⟨tbI4 (List.mem_of_getElem? (i := 62) rfl), (Or.inl rfl)⟩
theorem tb_257 : tb_G (.codeWith yX5_lay cX5_lay 6 (some .boolean) [(44, 70, 106, 65), (71, 105, 106, 65)]) := ⟨tbI4 (List.mem_of_getElem? (i := 45) rfl), (Or.inl rfl)⟩
theorem tb_258 : tb_G (Cond.code yX4_lay cX4_lay 5 (some .int)) := ⟨tbI4 (List.mem_of_getElem? (i := 49) rfl), (Or.inl rfl)⟩
theorem tb_259 : tb_G (Cond.selects RX4 yX4_lay yX4_lay) := ⟨tbI4 (List.mem_of_getElem? (i := 48) rfl), (Or.inl rfl)⟩
theorem tb_260 : tb_G (Cond.instanceMethod yX4_lay) := ⟨tbI4 (List.mem_of_getElem? (i := 47) rfl), (Or.inl rfl)⟩
theorem tb_261 : tb_G (Cond.methodLink RX5 109 yX4_lay) := ⟨tbI4 (List.mem_of_getElem? (i := 46) rfl), (Or.inl rfl)⟩
set_option maxRecDepth 20000 in
theorem tbL_wsX5_lay_r1 : GoodIn lw_tbl wsX5_lay_r1 := (gI_cons tb_132 (gI_cons tb_11 (gI_cons tb_18 (gI_cons tb_90 (gI_cons tb_89 (gI_cons tb_88 (gI_cons tb_92 (gI_cons tb_87 (gI_cons tb_10 (gI_cons tb_9 (gI_cons tb_86 (gI_cons tb_85 (gI_cons tb_84 (gI_cons tb_83 (gI_cons tb_82 (gI_cons tb_81 (gI_cons tb_80 (gI_cons tb_261 (gI_cons tb_260 (gI_cons tb_259 (gI_cons tb_19 (gI_cons tb_258 (gI_cons tb_123 (gI_cons tb_122 gI_nil))))))))))))))))))))))))
theorem tb_262 : tb_G (Cond.methodLink RX4 127 yX2_addEffect) := ⟨tbI4 (List.mem_of_getElem? (i := 53) rfl), (Or.inl rfl)⟩
theorem tb_263 : tb_G (Cond.methodLink RX4 122 yX2_isAlive) := ⟨tbI4 (List.mem_of_getElem? (i := 51) rfl), (Or.inl rfl)⟩
set_option maxRecDepth 20000 in
theorem tbL_wsX5_lay_r2 : GoodIn lw_tbl wsX5_lay_r2 := (gI_cons tb_112 (gI_cons tb_111 (gI_cons tb_121 (gI_cons tb_120 (gI_cons tb_1 (gI_cons tb_230 (gI_cons tb_229 (gI_cons tb_228 (gI_cons tb_2 (gI_cons tb_253 (gI_cons tb_153 (gI_cons tb_110 (gI_cons tb_109 (gI_cons tb_108 (gI_cons tb_263 (gI_cons tb_203 (gI_cons tb_202 (gI_cons tb_201 (gI_cons tb_152 (gI_cons tb_151 (gI_cons tb_150 (gI_cons tb_149 (gI_cons tb_33 (gI_cons tb_262 gI_nil))))))))))))))))))))))))
theorem tb_264 : tb_G (Cond.code yX2_turnsOf cX2_turnsOf 4 (some .int)) := ⟨tbI1 (List.mem_of_getElem? (i := 204) rfl), (Or.inl rfl)⟩
theorem tb_265 : tb_G (Cond.selects RX2 yX2_turnsOf yX2_turnsOf) := ⟨tbI1 (List.mem_of_getElem? (i := 203) rfl), (Or.inl rfl)⟩
theorem tb_266 : tb_G (Cond.instanceMethod yX2_turnsOf) := ⟨tbI1 (List.mem_of_getElem? (i := 202) rfl), (Or.inl rfl)⟩
theorem tb_267 : tb_G (Cond.methodLink RX2 98 yX2_turnsOf) := ⟨tbI2 (List.mem_of_getElem? (i := 150) rfl), (Or.inl rfl)⟩
theorem tb_268 : tb_G (Cond.code yX2_stackOf cX2_stackOf 4 (some .int)) := ⟨tbI1 (List.mem_of_getElem? (i := 208) rfl), (Or.inl rfl)⟩
theorem tb_269 : tb_G (Cond.selects RX2 yX2_stackOf yX2_stackOf) := ⟨tbI1 (List.mem_of_getElem? (i := 207) rfl), (Or.inl rfl)⟩
theorem tb_270 : tb_G (Cond.instanceMethod yX2_stackOf) := ⟨tbI1 (List.mem_of_getElem? (i := 206) rfl), (Or.inl rfl)⟩
theorem tb_271 : tb_G (Cond.methodLink RX2 92 yX2_stackOf) := ⟨tbI2 (List.mem_of_getElem? (i := 110) rfl), (Or.inl rfl)⟩
theorem tb_272 : tb_G (Cond.code Lib.Math.min.name Lib.Math.min.code 2 (some .int)) := ⟨tbI2 (List.mem_of_getElem? (i := 127) rfl), (Or.inl rfl)⟩
theorem tb_273 : tb_G (Cond.static Lib.Math.min.name) := ⟨tbI2 (List.mem_of_getElem? (i := 126) rfl), (Or.inl rfl)⟩
theorem tb_274 : tb_G (Cond.methodLink RX2 95 Lib.Math.min.name) := ⟨tbI2 (List.mem_of_getElem? (i := 140) rfl), (Or.inl rfl)⟩
theorem tb_275 : tb_G (Cond.code yX2_addEffect cX2_addEffect 5 none) := ⟨tbI2 (List.mem_of_getElem? (i := 149) rfl), (Or.inl rfl)⟩
theorem tb_276 : tb_G (Cond.selects RX2 yX2_addEffect yX2_addEffect) := ⟨tbI2 (List.mem_of_getElem? (i := 148) rfl), (Or.inl rfl)⟩
theorem tb_277 : tb_G (Cond.instanceMethod yX2_addEffect) := ⟨tbI2 (List.mem_of_getElem? (i := 147) rfl), (Or.inl rfl)⟩
set_option maxRecDepth 20000 in
theorem tbL_wsX5_lay_r3 : GoodIn lw_tbl wsX5_lay_r3 := (gI_cons tb_277 (gI_cons tb_276 (gI_cons tb_275 (gI_cons tb_274 (gI_cons tb_273 (gI_cons tb_210 (gI_cons tb_272 (gI_cons tb_218 (gI_cons tb_217 (gI_cons tb_216 (gI_cons tb_271 (gI_cons tb_270 (gI_cons tb_269 (gI_cons tb_268 (gI_cons tb_32 (gI_cons tb_267 (gI_cons tb_266 (gI_cons tb_265 (gI_cons tb_264 (gI_cons tb_31 (gI_cons tb_196 (gI_cons tb_195 (gI_cons tb_194 (gI_cons tb_193 gI_nil))))))))))))))))))))))))
theorem tb_278 : tb_G (Cond.methodLink RX5 106 Lib.Math.min.name) := ⟨tbI4 (List.mem_of_getElem? (i := 57) rfl), (Or.inl rfl)⟩
theorem tb_279 : tb_G (Cond.code yX5_comeOn cX5_comeOn 4 none) := ⟨tbI4 (List.mem_of_getElem? (i := 56) rfl), (Or.inl rfl)⟩
theorem tb_280 : tb_G (Cond.static yX5_comeOn) := ⟨tbI4 (List.mem_of_getElem? (i := 55) rfl), (Or.inl rfl)⟩
theorem tb_281 : tb_G (Cond.methodLink RX5 112 yX5_comeOn) := ⟨tbI4 (List.mem_of_getElem? (i := 54) rfl), (Or.inl rfl)⟩
theorem tb_282 : tb_G (Cond.methodLink RX4 131 yX2_stackOf) := ⟨tbI1 (List.mem_of_getElem? (i := 205) rfl), (Or.inl rfl)⟩
set_option maxRecDepth 20000 in
theorem tbL_wsX5_lay_r4 : GoodIn lw_tbl wsX5_lay_r4 := (gI_cons tb_282 (gI_cons tb_281 (gI_cons tb_280 (gI_cons tb_279 (gI_cons tb_278 (gI_cons tb_242 gI_nil))))))
set_option maxRecDepth 20000 in
theorem tbL_wsX5_lay : GoodIn lw_tbl wsX5_lay := (gI_cons tb_257 (goodIn_app (goodIn_app (goodIn_app (goodIn_app (goodIn_app (goodIn_app (goodIn_app tbL_wsX5_lay_r1 (goodIn_app tbL_wsX5_lay_r2 (goodIn_app tbL_wsX5_lay_r3 tbL_wsX5_lay_r4))) tbL_wsX50) tbL_wsX40) tbL_wsX20) tb_x7) tb_x6) tb_x8))
theorem tb_283 : tb_G (.selects RX5 yX5_lay yX5_lay) := ⟨tbI4 (List.mem_of_getElem? (i := 44) rfl), (Or.inl rfl)⟩
theorem tb_284 : tb_G (.instanceMethod yX5_lay) := ⟨tbI4 (List.mem_of_getElem? (i := 43) rfl), (Or.inl rfl)⟩
theorem tb_285 : tb_G (.methodLink RL 22 yX5_lay) := ⟨tbI4 (List.mem_of_getElem? (i := 42) rfl), (Or.inl rfl)⟩
theorem tb_286 : tb_G (.code yX5_step_ cX5_step_ 4 (some .boolean)) := ⟨tbI4 (List.mem_of_getElem? (i := 125) rfl), (Or.inl rfl)⟩
theorem tb_287 : tb_G (Cond.code yX5_isPossible cX5_isPossible 5 (some .boolean)) := ⟨tbI4 (List.mem_of_getElem? (i := 129) rfl), (Or.inl rfl)⟩
theorem tb_288 : tb_G (Cond.selects RX5 yX5_isPossible yX5_isPossible) := ⟨tbI4 (List.mem_of_getElem? (i := 128) rfl), (Or.inl rfl)⟩
theorem tb_289 : tb_G (Cond.instanceMethod yX5_isPossible) := ⟨tbI4 (List.mem_of_getElem? (i := 127) rfl), (Or.inl rfl)⟩
theorem tb_290 : tb_G (Cond.methodLink RX5 135 yX5_isPossible) := ⟨tbI4 (List.mem_of_getElem? (i := 126) rfl), (Or.inl rfl)⟩
set_option maxRecDepth 20000 in
theorem tbL_wsX5_step__r1 : GoodIn lw_tbl wsX5_step__r1 := (gI_cons tb_18 (gI_cons tb_183 (gI_cons tb_182 (gI_cons tb_181 (gI_cons tb_92 (gI_cons tb_180 (gI_cons tb_11 (gI_cons tb_90 (gI_cons tb_89 (gI_cons tb_88 (gI_cons tb_87 (gI_cons tb_10 (gI_cons tb_9 (gI_cons tb_86 (gI_cons tb_85 (gI_cons tb_84 (gI_cons tb_83 (gI_cons tb_82 (gI_cons tb_81 (gI_cons tb_80 (gI_cons tb_290 (gI_cons tb_289 (gI_cons tb_288 (gI_cons tb_287 gI_nil))))))))))))))))))))))))
theorem tb_291 : tb_G (Cond.static yX5_step) := ⟨tbI4 (List.mem_of_getElem? (i := 60) rfl), (Or.inl rfl)⟩
theorem tb_292 : tb_G (Cond.methodLink RX5 119 yX5_step) := ⟨tbI4 (List.mem_of_getElem? (i := 134) rfl), (Or.inl rfl)⟩
theorem tb_293 : tb_G (Cond.code yX5_target cX5_target 6 (some .int)) := ⟨tbI4 (List.mem_of_getElem? (i := 133) rfl), (Or.inl rfl)⟩
theorem tb_294 : tb_G (Cond.selects RX5 yX5_target yX5_target) := ⟨tbI4 (List.mem_of_getElem? (i := 132) rfl), (Or.inl rfl)⟩
theorem tb_295 : tb_G (Cond.instanceMethod yX5_target) := ⟨tbI4 (List.mem_of_getElem? (i := 131) rfl), (Or.inl rfl)⟩
theorem tb_296 : tb_G (Cond.methodLink RX5 116 yX5_target) := ⟨tbI4 (List.mem_of_getElem? (i := 130) rfl), (Or.inl rfl)⟩
set_option maxRecDepth 20000 in
theorem tbL_wsX5_step__r2 : GoodIn lw_tbl wsX5_step__r2 := (gI_cons tb_16 (gI_cons tb_296 (gI_cons tb_295 (gI_cons tb_294 (gI_cons tb_293 (gI_cons tb_250 (gI_cons tb_249 (gI_cons tb_248 (gI_cons tb_247 (gI_cons tb_246 (gI_cons tb_245 (gI_cons tb_244 (gI_cons tb_243 (gI_cons tb_220 (gI_cons tb_210 (gI_cons tb_219 (gI_cons tb_242 (gI_cons tb_217 (gI_cons tb_216 (gI_cons tb_241 (gI_cons tb_240 (gI_cons tb_239 (gI_cons tb_292 (gI_cons tb_291 gI_nil))))))))))))))))))))))))
theorem tb_297 : tb_G (Cond.methodLink RX4 151 yX2_whoseTurn) := ⟨tbI1 (List.mem_of_getElem? (i := 226) rfl), (Or.inl rfl)⟩
theorem tb_298 : tb_G (Cond.code yX4_act cX4_act 3 (some .int)) := ⟨tbI4 (List.mem_of_getElem? (i := 138) rfl), (Or.inl rfl)⟩
theorem tb_299 : tb_G (Cond.selects RX4 yX4_act yX4_act) := ⟨tbI4 (List.mem_of_getElem? (i := 137) rfl), (Or.inl rfl)⟩
theorem tb_300 : tb_G (Cond.instanceMethod yX4_act) := ⟨tbI4 (List.mem_of_getElem? (i := 136) rfl), (Or.inl rfl)⟩
theorem tb_301 : tb_G (Cond.methodLink RX5 157 yX4_act) := ⟨tbI4 (List.mem_of_getElem? (i := 135) rfl), (Or.inl rfl)⟩
theorem tb_302 : tb_G (Cond.code yX5_step cX5_step 1 (some .int)) := ⟨tbI4 (List.mem_of_getElem? (i := 61) rfl), (Or.inl rfl)⟩
set_option maxRecDepth 20000 in
theorem tbL_wsX5_step__r3 : GoodIn lw_tbl wsX5_step__r3 := (gI_cons tb_302 (gI_cons tb_131 (gI_cons tb_130 (gI_cons tb_129 (gI_cons tb_128 (gI_cons tb_301 (gI_cons tb_300 (gI_cons tb_299 (gI_cons tb_19 (gI_cons tb_298 (gI_cons tb_112 (gI_cons tb_111 (gI_cons tb_121 (gI_cons tb_120 (gI_cons tb_1 (gI_cons tb_110 (gI_cons tb_109 (gI_cons tb_108 (gI_cons tb_297 (gI_cons tb_163 (gI_cons tb_162 (gI_cons tb_2 (gI_cons tb_161 (gI_cons tb_153 gI_nil))))))))))))))))))))))))
theorem tb_303 : tb_G (Cond.methodLink RX1 33 yX2_kindAt) := ⟨tbI2 (List.mem_of_getElem? (i := 79) rfl), (Or.inl rfl)⟩
theorem tb_304 : tb_G (Cond.code yX1_canGo cX1_canGo 4 (some .boolean)) := ⟨tbI2 (List.mem_of_getElem? (i := 78) rfl), (Or.inl rfl)⟩
theorem tb_305 : tb_G (Cond.static yX1_canGo) := ⟨tbI2 (List.mem_of_getElem? (i := 77) rfl), (Or.inl rfl)⟩
theorem tb_306 : tb_G (Cond.methodLink RX1 21 yX1_canGo) := ⟨tbI2 (List.mem_of_getElem? (i := 76) rfl), (Or.inl rfl)⟩
theorem tb_307 : tb_G (Cond.methodLink RX1 25 yX2_trait) := ⟨tbI2 (List.mem_of_getElem? (i := 75) rfl), (Or.inl rfl)⟩
theorem tb_308 : tb_G (Cond.code yX1_cellTowards cX1_cellTowards 5 (some .int)) := ⟨tbI2 (List.mem_of_getElem? (i := 73) rfl), (Or.inl rfl)⟩
theorem tb_309 : tb_G (Cond.static yX1_cellTowards) := ⟨tbI2 (List.mem_of_getElem? (i := 72) rfl), (Or.inl rfl)⟩
theorem tb_310 : tb_G (Cond.methodLink RX1 15 yX1_cellTowards) := ⟨tbI2 (List.mem_of_getElem? (i := 71) rfl), (Or.inl rfl)⟩
theorem tb_311 : tb_G (Cond.methodLink RX1 9 yX2_isAlive) := ⟨tbI2 (List.mem_of_getElem? (i := 70) rfl), (Or.inl rfl)⟩
theorem tb_312 : tb_G (Cond.code yX1_isPossible cX1_isPossible 3 (some .boolean)) := ⟨tbI2 (List.mem_of_getElem? (i := 69) rfl), (Or.inl rfl)⟩
theorem tb_313 : tb_G (Cond.initialized RX1) := ⟨tbI1 (List.mem_of_getElem? (i := 18) rfl), (Or.inl rfl)⟩
theorem tb_314 : tb_G (Cond.static yX1_isPossible) := ⟨tbI2 (List.mem_of_getElem? (i := 68) rfl), (Or.inl rfl)⟩
theorem tb_315 : tb_G (Cond.methodLink RX4 155 yX1_isPossible) := ⟨tbI4 (List.mem_of_getElem? (i := 139) rfl), (Or.inl rfl)⟩
set_option maxRecDepth 20000 in
theorem tbL_wsX5_step__r4 : GoodIn lw_tbl wsX5_step__r4 := (gI_cons tb_204 (gI_cons tb_203 (gI_cons tb_202 (gI_cons tb_201 (gI_cons tb_152 (gI_cons tb_151 (gI_cons tb_150 (gI_cons tb_149 (gI_cons tb_33 (gI_cons tb_315 (gI_cons tb_314 (gI_cons tb_313 (gI_cons tb_312 (gI_cons tb_311 (gI_cons tb_310 (gI_cons tb_309 (gI_cons tb_308 (gI_cons tb_307 (gI_cons tb_306 (gI_cons tb_305 (gI_cons tb_304 (gI_cons tb_303 (gI_cons tb_100 (gI_cons tb_99 gI_nil))))))))))))))))))))))))
theorem tb_316 : tb_G (Cond.methodLink RX2 120 yX2_isFoe) := ⟨tbI2 (List.mem_of_getElem? (i := 25) rfl), (Or.inl rfl)⟩
theorem tb_317 : tb_G (Cond.code yX2_targetOf cX2_targetOf 7 (some .int)) := ⟨tbI2 (List.mem_of_getElem? (i := 24) rfl), (Or.inl rfl)⟩
theorem tb_318 : tb_G (Cond.selects RX2 yX2_targetOf yX2_targetOf) := ⟨tbI2 (List.mem_of_getElem? (i := 23) rfl), (Or.inl rfl)⟩
theorem tb_319 : tb_G (Cond.instanceMethod yX2_targetOf) := ⟨tbI2 (List.mem_of_getElem? (i := 22) rfl), (Or.inl rfl)⟩
theorem tb_320 : tb_G (Cond.methodLink RX1 29 yX2_targetOf) := ⟨tbI2 (List.mem_of_getElem? (i := 82) rfl), (Or.inl rfl)⟩
theorem tb_321 : tb_G (Cond.code yX2_isFoe cX2_isFoe 3 (some .boolean)) := ⟨tbI2 (List.mem_of_getElem? (i := 28) rfl), (Or.inl rfl)⟩
theorem tb_322 : tb_G (Cond.selects RX2 yX2_isFoe yX2_isFoe) := ⟨tbI2 (List.mem_of_getElem? (i := 27) rfl), (Or.inl rfl)⟩
theorem tb_323 : tb_G (Cond.instanceMethod yX2_isFoe) := ⟨tbI2 (List.mem_of_getElem? (i := 26) rfl), (Or.inl rfl)⟩
theorem tb_324 : tb_G (Cond.methodLink RX1 39 yX2_isFoe) := ⟨tbI2 (List.mem_of_getElem? (i := 81) rfl), (Or.inl rfl)⟩
theorem tb_325 : tb_G (Cond.methodLink RX1 36 yX2_whoIsOn) := ⟨tbI2 (List.mem_of_getElem? (i := 80) rfl), (Or.inl rfl)⟩
set_option maxRecDepth 20000 in
theorem tbL_wsX5_step__r5 : GoodIn lw_tbl wsX5_step__r5 := (gI_cons tb_98 (gI_cons tb_35 (gI_cons tb_325 (gI_cons tb_156 (gI_cons tb_155 (gI_cons tb_154 (gI_cons tb_324 (gI_cons tb_323 (gI_cons tb_322 (gI_cons tb_321 (gI_cons tb_320 (gI_cons tb_319 (gI_cons tb_318 (gI_cons tb_317 (gI_cons tb_316 (gI_cons tb_224 (gI_cons tb_223 (gI_cons tb_222 (gI_cons tb_221 (gI_cons tb_218 (gI_cons tb_184 (gI_cons tb_227 (gI_cons tb_226 (gI_cons tb_225 gI_nil))))))))))))))))))))))))
theorem tb_326 : tb_G (Cond.methodLink RX1 55 yX2_putTrait) := ⟨tbI2 (List.mem_of_getElem? (i := 128) rfl), (Or.inl rfl)⟩
theorem tb_327 : tb_G (Cond.methodLink RX1 47 yX2_stackOf) := ⟨tbI2 (List.mem_of_getElem? (i := 124) rfl), (Or.inl rfl)⟩
theorem tb_328 : tb_G (Cond.methodLink RX1 50 Lib.Math.min.name) := ⟨tbI2 (List.mem_of_getElem? (i := 125) rfl), (Or.inl rfl)⟩
theorem tb_329 : tb_G (Cond.code yX1_perform cX1_perform 5 (some .int)) := ⟨tbI2 (List.mem_of_getElem? (i := 123) rfl), (Or.inl rfl)⟩
theorem tb_330 : tb_G (Cond.static yX1_perform) := ⟨tbI2 (List.mem_of_getElem? (i := 122) rfl), (Or.inl rfl)⟩
theorem tb_331 : tb_G (Cond.methodLink RX4 163 yX1_perform) := ⟨tbI2 (List.mem_of_getElem? (i := 121) rfl), (Or.inl rfl)⟩
set_option maxRecDepth 20000 in
theorem tbL_wsX5_step__r6 : GoodIn lw_tbl wsX5_step__r6 := (gI_cons tb_215 (gI_cons tb_214 (gI_cons tb_213 (gI_cons tb_212 (gI_cons tb_211 (gI_cons tb_210 (gI_cons tb_209 (gI_cons tb_101 (gI_cons tb_159 (gI_cons tb_158 (gI_cons tb_331 (gI_cons tb_330 (gI_cons tb_329 (gI_cons tb_328 (gI_cons tb_273 (gI_cons tb_272 (gI_cons tb_327 (gI_cons tb_270 (gI_cons tb_269 (gI_cons tb_268 (gI_cons tb_32 (gI_cons tb_326 (gI_cons tb_199 (gI_cons tb_198 gI_nil))))))))))))))))))))))))
theorem tb_332 : tb_G (Cond.methodLink RX1 95 yX2_addEffect) := ⟨tbI2 (List.mem_of_getElem? (i := 146) rfl), (Or.inl rfl)⟩
theorem tb_333 : tb_G (Cond.code yX1_conjure cX1_conjure 3 none) := ⟨tbI2 (List.mem_of_getElem? (i := 145) rfl), (Or.inl rfl)⟩
theorem tb_334 : tb_G (Cond.static yX1_conjure) := ⟨tbI2 (List.mem_of_getElem? (i := 144) rfl), (Or.inl rfl)⟩
theorem tb_335 : tb_G (Cond.methodLink RX1 62 yX1_conjure) := ⟨tbI2 (List.mem_of_getElem? (i := 143) rfl), (Or.inl rfl)⟩
theorem tb_336 : tb_G (Cond.methodLink RX1 91 yX2_putKind) := ⟨tbI2 (List.mem_of_getElem? (i := 142) rfl), (Or.inl rfl)⟩
theorem tb_337 : tb_G (Cond.code yX2_takeLife cX2_takeLife 5 (some .int)) := ⟨tbI2 (List.mem_of_getElem? (i := 139) rfl), (Or.inl rfl)⟩
theorem tb_338 : tb_G (Cond.selects RX2 yX2_takeLife yX2_takeLife) := ⟨tbI2 (List.mem_of_getElem? (i := 138) rfl), (Or.inl rfl)⟩
theorem tb_339 : tb_G (Cond.instanceMethod yX2_takeLife) := ⟨tbI2 (List.mem_of_getElem? (i := 137) rfl), (Or.inl rfl)⟩
theorem tb_340 : tb_G (Cond.methodLink RX1 88 yX2_takeLife) := ⟨tbI2 (List.mem_of_getElem? (i := 136) rfl), (Or.inl rfl)⟩
theorem tb_341 : tb_G (Cond.code yX2_hitOf cX2_hitOf 5 (some .int)) := ⟨tbI2 (List.mem_of_getElem? (i := 109) rfl), (Or.inl rfl)⟩
theorem tb_342 : tb_G (Cond.selects RX2 yX2_hitOf yX2_hitOf) := ⟨tbI2 (List.mem_of_getElem? (i := 108) rfl), (Or.inl rfl)⟩
theorem tb_343 : tb_G (Cond.instanceMethod yX2_hitOf) := ⟨tbI2 (List.mem_of_getElem? (i := 107) rfl), (Or.inl rfl)⟩
theorem tb_344 : tb_G (Cond.methodLink RX1 85 yX2_hitOf) := ⟨tbI2 (List.mem_of_getElem? (i := 135) rfl), (Or.inl rfl)⟩
theorem tb_345 : tb_G (Cond.code yX1_go cX1_go 4 (some .int)) := ⟨tbI2 (List.mem_of_getElem? (i := 134) rfl), (Or.inl rfl)⟩
theorem tb_346 : tb_G (Cond.static yX1_go) := ⟨tbI2 (List.mem_of_getElem? (i := 133) rfl), (Or.inl rfl)⟩
theorem tb_347 : tb_G (Cond.methodLink RX1 59 yX1_go) := ⟨tbI2 (List.mem_of_getElem? (i := 132) rfl), (Or.inl rfl)⟩
set_option maxRecDepth 20000 in
theorem tbL_wsX5_step__r7 : GoodIn lw_tbl wsX5_step__r7 := (gI_cons tb_197 (gI_cons tb_347 (gI_cons tb_346 (gI_cons tb_345 (gI_cons tb_344 (gI_cons tb_343 (gI_cons tb_342 (gI_cons tb_341 (gI_cons tb_271 (gI_cons tb_340 (gI_cons tb_339 (gI_cons tb_338 (gI_cons tb_337 (gI_cons tb_274 (gI_cons tb_200 (gI_cons tb_336 (gI_cons tb_96 (gI_cons tb_138 (gI_cons tb_137 (gI_cons tb_335 (gI_cons tb_334 (gI_cons tb_333 (gI_cons tb_332 (gI_cons tb_277 gI_nil))))))))))))))))))))))))
theorem tb_348 : tb_G (Cond.methodLink RX1 78 yX2_look) := ⟨tbI2 (List.mem_of_getElem? (i := 164) rfl), (Or.inl rfl)⟩
theorem tb_349 : tb_G (Cond.code yX1_passTime cX1_passTime 5 none) := ⟨tbI2 (List.mem_of_getElem? (i := 163) rfl), (Or.inl rfl)⟩
theorem tb_350 : tb_G (Cond.static yX1_passTime) := ⟨tbI2 (List.mem_of_getElem? (i := 162) rfl), (Or.inl rfl)⟩
theorem tb_351 : tb_G (Cond.methodLink RX1 74 yX1_passTime) := ⟨tbI2 (List.mem_of_getElem? (i := 161) rfl), (Or.inl rfl)⟩
theorem tb_352 : tb_G (Cond.methodLink RX1 105 yX2_putEffect) := ⟨tbI2 (List.mem_of_getElem? (i := 160) rfl), (Or.inl rfl)⟩
theorem tb_353 : tb_G (Cond.methodLink RX1 99 yX2_turnsOf) := ⟨tbI2 (List.mem_of_getElem? (i := 158) rfl), (Or.inl rfl)⟩
theorem tb_354 : tb_G (Cond.methodLink RX1 102 Lib.Math.max.name) := ⟨tbI2 (List.mem_of_getElem? (i := 159) rfl), (Or.inl rfl)⟩
theorem tb_355 : tb_G (Cond.code yX1_wearOff cX1_wearOff 4 none) := ⟨tbI2 (List.mem_of_getElem? (i := 157) rfl), (Or.inl rfl)⟩
theorem tb_356 : tb_G (Cond.static yX1_wearOff) := ⟨tbI2 (List.mem_of_getElem? (i := 156) rfl), (Or.inl rfl)⟩
theorem tb_357 : tb_G (Cond.methodLink RX1 70 yX1_wearOff) := ⟨tbI2 (List.mem_of_getElem? (i := 155) rfl), (Or.inl rfl)⟩
set_option maxRecDepth 20000 in
theorem tbL_wsX5_step__r8 : GoodIn lw_tbl wsX5_step__r8 := (gI_cons tb_276 (gI_cons tb_275 (gI_cons tb_267 (gI_cons tb_266 (gI_cons tb_265 (gI_cons tb_264 (gI_cons tb_31 (gI_cons tb_196 (gI_cons tb_195 (gI_cons tb_194 (gI_cons tb_193 (gI_cons tb_357 (gI_cons tb_356 (gI_cons tb_355 (gI_cons tb_354 (gI_cons tb_353 (gI_cons tb_352 (gI_cons tb_351 (gI_cons tb_350 (gI_cons tb_349 (gI_cons tb_348 (gI_cons tb_191 (gI_cons tb_190 (gI_cons tb_189 gI_nil))))))))))))))))))))))))
theorem tb_358 : tb_G (Cond.code yX5_lose cX5_lose 2 none) := ⟨tbI4 (List.mem_of_getElem? (i := 151) rfl), (Or.inl rfl)⟩
theorem tb_359 : tb_G (Cond.static yX5_lose) := ⟨tbI4 (List.mem_of_getElem? (i := 150) rfl), (Or.inl rfl)⟩
theorem tb_360 : tb_G (Cond.methodLink RX5 125 yX5_lose) := ⟨tbI4 (List.mem_of_getElem? (i := 149) rfl), (Or.inl rfl)⟩
theorem tb_361 : tb_G (Cond.code yX5_hit cX5_hit 3 (some .int)) := ⟨tbI4 (List.mem_of_getElem? (i := 148) rfl), (Or.inl rfl)⟩
theorem tb_362 : tb_G (Cond.selects RX5 yX5_hit yX5_hit) := ⟨tbI4 (List.mem_of_getElem? (i := 147) rfl), (Or.inl rfl)⟩
theorem tb_363 : tb_G (Cond.instanceMethod yX5_hit) := ⟨tbI4 (List.mem_of_getElem? (i := 146) rfl), (Or.inl rfl)⟩
theorem tb_364 : tb_G (Cond.methodLink RX5 122 yX5_hit) := ⟨tbI4 (List.mem_of_getElem? (i := 145) rfl), (Or.inl rfl)⟩
theorem tb_365 : tb_G (Cond.fieldLink RX5 132 "WarrenLaw$Den" "actions" "I") := ⟨tbI3 (List.mem_of_getElem? (i := 228) rfl), (Or.inl rfl)⟩
theorem tb_366 : tb_G (Cond.fieldLink RX5 129 "WarrenLaw$Den" "hits" "I") := ⟨tbI3 (List.mem_of_getElem? (i := 229) rfl), (Or.inl rfl)⟩
theorem tb_367 : tb_G (Cond.code yX5_act cX5_act 8 (some .int)) := ⟨tbI4 (List.mem_of_getElem? (i := 144) rfl), (Or.inl rfl)⟩
theorem tb_368 : tb_G (Cond.selects RX5 yX5_act yX5_act) := ⟨tbI4 (List.mem_of_getElem? (i := 143) rfl), (Or.inl rfl)⟩
theorem tb_369 : tb_G (Cond.instanceMethod yX5_act) := ⟨tbI4 (List.mem_of_getElem? (i := 142) rfl), (Or.inl rfl)⟩
theorem tb_370 : tb_G (Cond.methodLink RX5 160 yX5_act) := ⟨tbI4 (List.mem_of_getElem? (i := 141) rfl), (Or.inl rfl)⟩
set_option maxRecDepth 20000 in
theorem tbL_wsX5_step__r9 : GoodIn lw_tbl wsX5_step__r9 := (gI_cons tb_34 (gI_cons tb_188 (gI_cons tb_187 (gI_cons tb_186 (gI_cons tb_185 (gI_cons tb_370 (gI_cons tb_369 (gI_cons tb_368 (gI_cons tb_367 (gI_cons tb_278 (gI_cons tb_366 (gI_cons tb_365 (gI_cons tb_364 (gI_cons tb_363 (gI_cons tb_362 (gI_cons tb_361 (gI_cons tb_360 (gI_cons tb_359 (gI_cons tb_358 (gI_cons tb_281 (gI_cons tb_280 (gI_cons tb_279 (gI_cons tb_208 (gI_cons tb_207 gI_nil))))))))))))))))))))))))
set_option maxRecDepth 20000 in
theorem tbL_wsX5_step__r10 : GoodIn lw_tbl wsX5_step__r10 := (gI_cons tb_206 (gI_cons tb_205 (gI_cons tb_13 gI_nil)))
set_option maxRecDepth 20000 in
theorem tbL_wsX5_step_ : GoodIn lw_tbl wsX5_step_ := (gI_cons tb_286 (goodIn_app (goodIn_app (goodIn_app (goodIn_app (goodIn_app (goodIn_app tbL_wsX5_step__r1 (goodIn_app tbL_wsX5_step__r2 (goodIn_app tbL_wsX5_step__r3 (goodIn_app tbL_wsX5_step__r4 (goodIn_app tbL_wsX5_step__r5 (goodIn_app tbL_wsX5_step__r6 (goodIn_app tbL_wsX5_step__r7 (goodIn_app tbL_wsX5_step__r8 (goodIn_app tbL_wsX5_step__r9 tbL_wsX5_step__r10))))))))) tbL_wsX50) tbL_wsX40) tbL_wsX20) tb_x6) tb_x8))
theorem tb_371 : tb_G (.selects RX5 yX5_step_ yX5_step_) := ⟨tbI4 (List.mem_of_getElem? (i := 124) rfl), (Or.inl rfl)⟩
theorem tb_372 : tb_G (.instanceMethod yX5_step_) := ⟨tbI4 (List.mem_of_getElem? (i := 123) rfl), (Or.inl rfl)⟩
theorem tb_373 : tb_G (.methodLink RL 26 yX5_step_) := ⟨tbI4 (List.mem_of_getElem? (i := 122) rfl), (Or.inl rfl)⟩
set_option maxRecDepth 20000 in
theorem tbL_wsX5_set_r1 : GoodIn lw_tbl wsX5_set_r1 := (gI_cons tb_132 (gI_cons tb_18 (gI_cons tb_16 (gI_cons tb_90 (gI_cons tb_89 (gI_cons tb_88 (gI_cons tb_92 (gI_cons tb_87 (gI_cons tb_10 (gI_cons tb_9 (gI_cons tb_86 (gI_cons tb_85 (gI_cons tb_84 (gI_cons tb_83 (gI_cons tb_82 (gI_cons tb_81 (gI_cons tb_80 (gI_cons tb_131 (gI_cons tb_130 (gI_cons tb_129 (gI_cons tb_128 (gI_cons tb_11 (gI_cons tb_79 (gI_cons tb_78 gI_nil))))))))))))))))))))))))
set_option maxRecDepth 20000 in
theorem tbL_wsX5_set_r2 : GoodIn lw_tbl wsX5_set_r2 := (gI_cons tb_77 (gI_cons tb_127 (gI_cons tb_126 (gI_cons tb_125 (gI_cons tb_19 (gI_cons tb_124 (gI_cons tb_123 (gI_cons tb_122 (gI_cons tb_112 (gI_cons tb_111 (gI_cons tb_121 (gI_cons tb_120 (gI_cons tb_1 (gI_cons tb_119 (gI_cons tb_118 (gI_cons tb_117 (gI_cons tb_110 (gI_cons tb_109 (gI_cons tb_108 (gI_cons tb_116 (gI_cons tb_103 (gI_cons tb_102 (gI_cons tb_160 (gI_cons tb_159 gI_nil))))))))))))))))))))))))
set_option maxRecDepth 20000 in
theorem tbL_wsX5_set_r3 : GoodIn lw_tbl wsX5_set_r3 := (gI_cons tb_158 (gI_cons tb_157 (gI_cons tb_156 (gI_cons tb_155 (gI_cons tb_2 (gI_cons tb_154 (gI_cons tb_153 (gI_cons tb_152 (gI_cons tb_151 (gI_cons tb_150 (gI_cons tb_149 (gI_cons tb_33 (gI_cons tb_148 (gI_cons tb_100 (gI_cons tb_99 (gI_cons tb_98 (gI_cons tb_35 (gI_cons tb_147 (gI_cons tb_96 (gI_cons tb_138 (gI_cons tb_137 gI_nil)))))))))))))))))))))
set_option maxRecDepth 20000 in
theorem tbL_wsX5_set : GoodIn lw_tbl wsX5_set := (gI_cons tb_133 (goodIn_app (goodIn_app (goodIn_app (goodIn_app (goodIn_app (goodIn_app (goodIn_app tbL_wsX5_set_r1 (goodIn_app tbL_wsX5_set_r2 tbL_wsX5_set_r3)) tbL_wsX50) tbL_wsX40) tbL_wsX20) tb_x7) tb_x6) tb_x8))
theorem tb_374 : tb_G (.methodLink RL 29 yX5_set) := ⟨tbI4 (List.mem_of_getElem? (i := 20) rfl), (Or.inl rfl)⟩
theorem tb_375 : tb_G (.code yX4_digest cX4_digest 4 (some .long)) := ⟨tbI3 (List.mem_of_getElem? (i := 136) rfl), (Or.inl rfl)⟩
theorem tb_376 : tb_G (Cond.code yX2_living cX2_living 4 (some .int)) := ⟨tbI1 (List.mem_of_getElem? (i := 221) rfl), (Or.inl rfl)⟩
theorem tb_377 : tb_G (Cond.selects RX2 yX2_living yX2_living) := ⟨tbI1 (List.mem_of_getElem? (i := 220) rfl), (Or.inl rfl)⟩
theorem tb_378 : tb_G (Cond.instanceMethod yX2_living) := ⟨tbI1 (List.mem_of_getElem? (i := 219) rfl), (Or.inl rfl)⟩
theorem tb_379 : tb_G (Cond.methodLink RX4 211 yX2_living) := ⟨tbI1 (List.mem_of_getElem? (i := 218) rfl), (Or.inl rfl)⟩
theorem tb_380 : tb_G (Cond.code yX4_countOf cX4_countOf 2 (some .int)) := ⟨tbI1 (List.mem_of_getElem? (i := 217) rfl), (Or.inl rfl)⟩
theorem tb_381 : tb_G (Cond.selects RX4 yX4_countOf yX4_countOf) := ⟨tbP1 (List.mem_of_getElem? (i := 2) rfl), (Or.inl rfl)⟩
theorem tb_382 : tb_G (Cond.instanceMethod yX4_countOf) := ⟨tbI1 (List.mem_of_getElem? (i := 216) rfl), (Or.inl rfl)⟩
theorem tb_383 : tb_G (Cond.methodLink RX4 146 yX4_countOf) := ⟨tbI1 (List.mem_of_getElem? (i := 214) rfl), (Or.inl rfl)⟩
theorem tb_384 : tb_G (Cond.constantLong RX4 225 (31)) := ⟨tbI3 (List.mem_of_getElem? (i := 138) rfl), (Or.inl rfl)⟩
theorem tb_385 : tb_G (Cond.constantLong RX4 223 (58090)) := ⟨tbI3 (List.mem_of_getElem? (i := 137) rfl), (Or.inl rfl)⟩
set_option maxRecDepth 20000 in
theorem tbL_wsX4_digest_r1 : GoodIn lw_tbl wsX4_digest_r1 := (gI_cons tb_385 (gI_cons tb_384 (gI_cons tb_1 (gI_cons tb_383 (gI_cons tb_382 (gI_cons tb_381 (gI_cons tb_19 (gI_cons tb_380 (gI_cons tb_44 (gI_cons tb_379 (gI_cons tb_378 (gI_cons tb_377 (gI_cons tb_2 (gI_cons tb_376 (gI_cons tb_153 (gI_cons tb_152 (gI_cons tb_151 (gI_cons tb_150 (gI_cons tb_149 (gI_cons tb_33 (gI_cons tb_204 (gI_cons tb_203 (gI_cons tb_202 (gI_cons tb_201 gI_nil))))))))))))))))))))))))
theorem tb_386 : tb_G (Cond.fieldLink RJx4a65c 48 "java/util/ArrayList" "size" "I") := ⟨tbI3 (List.mem_of_getElem? (i := 166) rfl), (Or.inl rfl)⟩
theorem tb_387 : tb_G (Cond.code yJx4a65c_size_8abf5 cJx4a65c_size_8abf5 1 (some .int)) := ⟨tbI2 (List.mem_of_getElem? (i := 7) rfl), (Or.inl rfl)⟩
theorem tb_388 : tb_G (Cond.instanceMethod yJx4a65c_size_8abf5) := ⟨tbI2 (List.mem_of_getElem? (i := 5) rfl), (Or.inl rfl)⟩
theorem tb_389 : tb_G (Cond.selects RJx4a65c ⟨"java/util/List", "size", "()I"⟩ yJx4a65c_size_8abf5) := ⟨tbI2 (List.mem_of_getElem? (i := 3) rfl), (Or.inl rfl)⟩
theorem tb_390 : tb_G (Cond.methodLink RX4 190 ⟨"java/util/List", "size", "()I"⟩) := ⟨tbI1 (List.mem_of_getElem? (i := 239) rfl), (Or.inl rfl)⟩
theorem tb_391 : tb_G (Cond.code yX2_knownCells cX2_knownCells 4 (some .int)) := ⟨tbI1 (List.mem_of_getElem? (i := 233) rfl), (Or.inl rfl)⟩
theorem tb_392 : tb_G (Cond.selects RX2 yX2_knownCells yX2_knownCells) := ⟨tbI1 (List.mem_of_getElem? (i := 232) rfl), (Or.inl rfl)⟩
theorem tb_393 : tb_G (Cond.instanceMethod yX2_knownCells) := ⟨tbI1 (List.mem_of_getElem? (i := 231) rfl), (Or.inl rfl)⟩
theorem tb_394 : tb_G (Cond.methodLink RX4 244 yX2_knownCells) := ⟨tbI1 (List.mem_of_getElem? (i := 230) rfl), (Or.inl rfl)⟩
set_option maxRecDepth 20000 in
theorem tbL_wsX4_digest_r2 : GoodIn lw_tbl wsX4_digest_r2 := (gI_cons tb_297 (gI_cons tb_163 (gI_cons tb_162 (gI_cons tb_161 (gI_cons tb_394 (gI_cons tb_393 (gI_cons tb_392 (gI_cons tb_391 (gI_cons tb_34 (gI_cons tb_188 (gI_cons tb_187 (gI_cons tb_186 (gI_cons tb_185 (gI_cons tb_390 (gI_cons tb_389 (gI_cons tb_388 (gI_cons tb_45 (gI_cons tb_387 (gI_cons tb_386 (gI_cons tb_148 (gI_cons tb_100 (gI_cons tb_99 (gI_cons tb_98 (gI_cons tb_35 gI_nil))))))))))))))))))))))))
theorem tb_395 : tb_G (Cond.methodLink RX4 141 yX2_turnsOf) := ⟨tbI1 (List.mem_of_getElem? (i := 201) rfl), (Or.inl rfl)⟩
theorem tb_396 : tb_G (Cond.code yX2_isAfraid cX2_isAfraid 2 (some .boolean)) := ⟨tbI1 (List.mem_of_getElem? (i := 194) rfl), (Or.inl rfl)⟩
theorem tb_397 : tb_G (Cond.selects RX2 yX2_isAfraid yX2_isAfraid) := ⟨tbI1 (List.mem_of_getElem? (i := 193) rfl), (Or.inl rfl)⟩
theorem tb_398 : tb_G (Cond.instanceMethod yX2_isAfraid) := ⟨tbI1 (List.mem_of_getElem? (i := 192) rfl), (Or.inl rfl)⟩
theorem tb_399 : tb_G (Cond.methodLink RX4 231 yX2_isAfraid) := ⟨tbI1 (List.mem_of_getElem? (i := 191) rfl), (Or.inl rfl)⟩
theorem tb_400 : tb_G (Cond.code yX4_answerOf cX4_answerOf 3 (some .int)) := ⟨tbI1 (List.mem_of_getElem? (i := 190) rfl), (Or.inl rfl)⟩
theorem tb_401 : tb_G (Cond.selects RX4 yX4_answerOf yX4_answerOf) := ⟨tbP1 (List.mem_of_getElem? (i := 1) rfl), (Or.inl rfl)⟩
theorem tb_402 : tb_G (Cond.instanceMethod yX4_answerOf) := ⟨tbI1 (List.mem_of_getElem? (i := 188) rfl), (Or.inl rfl)⟩
theorem tb_403 : tb_G (Cond.methodLink RX4 136 yX4_answerOf) := ⟨tbI1 (List.mem_of_getElem? (i := 186) rfl), (Or.inl rfl)⟩
theorem tb_404 : tb_G (Cond.code yX4_digestOf cX4_digestOf 7 (some .long)) := ⟨tbI3 (List.mem_of_getElem? (i := 142) rfl), (Or.inl rfl)⟩
theorem tb_405 : tb_G (Cond.selects RX4 yX4_digestOf yX4_digestOf) := ⟨tbP1 (List.mem_of_getElem? (i := 15) rfl), (Or.inl rfl)⟩
theorem tb_406 : tb_G (Cond.instanceMethod yX4_digestOf) := ⟨tbI3 (List.mem_of_getElem? (i := 141) rfl), (Or.inl rfl)⟩
theorem tb_407 : tb_G (Cond.methodLink RX4 227 yX4_digestOf) := ⟨tbI3 (List.mem_of_getElem? (i := 139) rfl), (Or.inl rfl)⟩
set_option maxRecDepth 20000 in
theorem tbL_wsX4_digest_r3 : GoodIn lw_tbl wsX4_digest_r3 := (gI_cons tb_230 (gI_cons tb_229 (gI_cons tb_228 (gI_cons tb_253 (gI_cons tb_407 (gI_cons tb_406 (gI_cons tb_405 (gI_cons tb_404 (gI_cons tb_40 (gI_cons tb_403 (gI_cons tb_402 (gI_cons tb_401 (gI_cons tb_400 (gI_cons tb_399 (gI_cons tb_398 (gI_cons tb_397 (gI_cons tb_396 (gI_cons tb_252 (gI_cons tb_282 (gI_cons tb_270 (gI_cons tb_269 (gI_cons tb_268 (gI_cons tb_32 (gI_cons tb_395 gI_nil))))))))))))))))))))))))
theorem tb_408 : tb_G (Cond.methodLink RX0 40 yX2_targetOf) := ⟨tbI2 (List.mem_of_getElem? (i := 21) rfl), (Or.inl rfl)⟩
theorem tb_409 : tb_G (Cond.code yX0_weigh cX0_weigh 7 none) := ⟨tbI2 (List.mem_of_getElem? (i := 20) rfl), (Or.inl rfl)⟩
theorem tb_410 : tb_G (Cond.selects RX0 yX0_weigh yX0_weigh) := ⟨tbI2 (List.mem_of_getElem? (i := 19) rfl), (Or.inl rfl)⟩
theorem tb_411 : tb_G (Cond.instanceMethod yX0_weigh) := ⟨tbI2 (List.mem_of_getElem? (i := 18) rfl), (Or.inl rfl)⟩
theorem tb_412 : tb_G (Cond.methodLink RX4 180 yX0_weigh) := ⟨tbI2 (List.mem_of_getElem? (i := 17) rfl), (Or.inl rfl)⟩
set_option maxRecDepth 20000 in
theorem tbL_wsX4_digest_r4 : GoodIn lw_tbl wsX4_digest_r4 := (gI_cons tb_266 (gI_cons tb_265 (gI_cons tb_264 (gI_cons tb_31 (gI_cons tb_412 (gI_cons tb_411 (gI_cons tb_410 (gI_cons tb_41 (gI_cons tb_409 (gI_cons tb_53 (gI_cons tb_52 (gI_cons tb_408 (gI_cons tb_319 (gI_cons tb_318 (gI_cons tb_317 (gI_cons tb_316 (gI_cons tb_323 (gI_cons tb_322 (gI_cons tb_321 (gI_cons tb_224 (gI_cons tb_223 (gI_cons tb_222 (gI_cons tb_221 (gI_cons tb_220 gI_nil))))))))))))))))))))))))
theorem tb_413 : tb_G (Cond.methodLink RX0 32 yX2_trait) := ⟨tbI2 (List.mem_of_getElem? (i := 34) rfl), (Or.inl rfl)⟩
theorem tb_414 : tb_G (Cond.code yX2_firstFoe cX2_firstFoe 3 (some .int)) := ⟨tbI2 (List.mem_of_getElem? (i := 33) rfl), (Or.inl rfl)⟩
theorem tb_415 : tb_G (Cond.selects RX2 yX2_firstFoe yX2_firstFoe) := ⟨tbI2 (List.mem_of_getElem? (i := 32) rfl), (Or.inl rfl)⟩
theorem tb_416 : tb_G (Cond.instanceMethod yX2_firstFoe) := ⟨tbI2 (List.mem_of_getElem? (i := 31) rfl), (Or.inl rfl)⟩
theorem tb_417 : tb_G (Cond.methodLink RX0 43 yX2_firstFoe) := ⟨tbI2 (List.mem_of_getElem? (i := 30) rfl), (Or.inl rfl)⟩
set_option maxRecDepth 20000 in
theorem tbL_wsX4_digest_r5 : GoodIn lw_tbl wsX4_digest_r5 := (gI_cons tb_210 (gI_cons tb_219 (gI_cons tb_218 (gI_cons tb_217 (gI_cons tb_216 (gI_cons tb_184 (gI_cons tb_227 (gI_cons tb_226 (gI_cons tb_225 (gI_cons tb_215 (gI_cons tb_214 (gI_cons tb_213 (gI_cons tb_212 (gI_cons tb_211 (gI_cons tb_210 (gI_cons tb_209 (gI_cons tb_101 (gI_cons tb_159 (gI_cons tb_158 (gI_cons tb_417 (gI_cons tb_416 (gI_cons tb_415 (gI_cons tb_414 (gI_cons tb_413 gI_nil))))))))))))))))))))))))
theorem tb_418 : tb_G (Cond.instanceMethod yX3_spread) := ⟨tbI2 (List.mem_of_getElem? (i := 55) rfl), (Or.inl rfl)⟩
theorem tb_419 : tb_G (Cond.methodLink RX3 49 yX3_spread) := ⟨tbI2 (List.mem_of_getElem? (i := 53) rfl), (Or.inl rfl)⟩
theorem tb_420 : tb_G (Cond.code yX3_enqueue cX3_enqueue 2 none) := ⟨tbI2 (List.mem_of_getElem? (i := 52) rfl), (Or.inl rfl)⟩
theorem tb_421 : tb_G (Cond.selects RX3 yX3_enqueue yX3_enqueue) := ⟨tbP1 (List.mem_of_getElem? (i := 5) rfl), (Or.inl rfl)⟩
theorem tb_422 : tb_G (Cond.instanceMethod yX3_enqueue) := ⟨tbI2 (List.mem_of_getElem? (i := 51) rfl), (Or.inl rfl)⟩
theorem tb_423 : tb_G (Cond.methodLink RX3 45 yX3_enqueue) := ⟨tbI2 (List.mem_of_getElem? (i := 49) rfl), (Or.inl rfl)⟩
theorem tb_424 : tb_G (Cond.code yX3_putLength cX3_putLength 3 none) := ⟨tbI2 (List.mem_of_getElem? (i := 48) rfl), (Or.inl rfl)⟩
theorem tb_425 : tb_G (Cond.selects RX3 yX3_putLength yX3_putLength) := ⟨tbP1 (List.mem_of_getElem? (i := 4) rfl), (Or.inl rfl)⟩
theorem tb_426 : tb_G (Cond.instanceMethod yX3_putLength) := ⟨tbI2 (List.mem_of_getElem? (i := 46) rfl), (Or.inl rfl)⟩
theorem tb_427 : tb_G (Cond.methodLink RX3 41 yX3_putLength) := ⟨tbI2 (List.mem_of_getElem? (i := 44) rfl), (Or.inl rfl)⟩
theorem tb_428 : tb_G (Cond.methodLink RX3 37 yX2_trait) := ⟨tbI2 (List.mem_of_getElem? (i := 43) rfl), (Or.inl rfl)⟩
theorem tb_429 : tb_G (Cond.methodLink RX3 28 yX2_kindAt) := ⟨tbI2 (List.mem_of_getElem? (i := 42) rfl), (Or.inl rfl)⟩
theorem tb_430 : tb_G (Cond.methodLink RX3 18 yJ7_fill_53178) := ⟨tbI2 (List.mem_of_getElem? (i := 39) rfl), (Or.inl rfl)⟩
theorem tb_431 : tb_G (Cond.fieldLink RX3 24 "Warren$Ways" "queued" "I") := ⟨tbI3 (List.mem_of_getElem? (i := 189) rfl), (Or.inl rfl)⟩
theorem tb_432 : tb_G (Cond.code yX3_measure cX3_measure 5 none) := ⟨tbI2 (List.mem_of_getElem? (i := 38) rfl), (Or.inl rfl)⟩
theorem tb_433 : tb_G (Cond.selects RX3 yX3_measure yX3_measure) := ⟨tbI2 (List.mem_of_getElem? (i := 37) rfl), (Or.inl rfl)⟩
theorem tb_434 : tb_G (Cond.instanceMethod yX3_measure) := ⟨tbI2 (List.mem_of_getElem? (i := 36) rfl), (Or.inl rfl)⟩
theorem tb_435 : tb_G (Cond.methodLink RX0 28 yX3_measure) := ⟨tbI2 (List.mem_of_getElem? (i := 35) rfl), (Or.inl rfl)⟩
set_option maxRecDepth 20000 in
theorem tbL_wsX4_digest_r6 : GoodIn lw_tbl wsX4_digest_r6 := (gI_cons tb_435 (gI_cons tb_434 (gI_cons tb_433 (gI_cons tb_54 (gI_cons tb_432 (gI_cons tb_74 (gI_cons tb_431 (gI_cons tb_430 (gI_cons tb_29 (gI_cons tb_28 (gI_cons tb_27 (gI_cons tb_429 (gI_cons tb_428 (gI_cons tb_427 (gI_cons tb_426 (gI_cons tb_425 (gI_cons tb_424 (gI_cons tb_423 (gI_cons tb_422 (gI_cons tb_421 (gI_cons tb_420 (gI_cons tb_73 (gI_cons tb_419 (gI_cons tb_418 gI_nil))))))))))))))))))))))))
theorem tb_436 : tb_G (Cond.methodLink RX0 46 yX1_isPossible) := ⟨tbI2 (List.mem_of_getElem? (i := 67) rfl), (Or.inl rfl)⟩
theorem tb_437 : tb_G (Cond.code yX3_reachAround cX3_reachAround 6 none) := ⟨tbI2 (List.mem_of_getElem? (i := 64) rfl), (Or.inl rfl)⟩
theorem tb_438 : tb_G (Cond.selects RX3 yX3_reachAround yX3_reachAround) := ⟨tbP1 (List.mem_of_getElem? (i := 8) rfl), (Or.inl rfl)⟩
theorem tb_439 : tb_G (Cond.instanceMethod yX3_reachAround) := ⟨tbI2 (List.mem_of_getElem? (i := 63) rfl), (Or.inl rfl)⟩
theorem tb_440 : tb_G (Cond.methodLink RX3 61 yX3_reachAround) := ⟨tbI2 (List.mem_of_getElem? (i := 61) rfl), (Or.inl rfl)⟩
theorem tb_441 : tb_G (Cond.code yX3_lengthAt cX3_lengthAt 2 (some .int)) := ⟨tbI2 (List.mem_of_getElem? (i := 60) rfl), (Or.inl rfl)⟩
theorem tb_442 : tb_G (Cond.selects RX3 yX3_lengthAt yX3_lengthAt) := ⟨tbP1 (List.mem_of_getElem? (i := 7) rfl), (Or.inl rfl)⟩
theorem tb_443 : tb_G (Cond.instanceMethod yX3_lengthAt) := ⟨tbI2 (List.mem_of_getElem? (i := 59) rfl), (Or.inl rfl)⟩
theorem tb_444 : tb_G (Cond.methodLink RX3 53 yX3_lengthAt) := ⟨tbI2 (List.mem_of_getElem? (i := 57) rfl), (Or.inl rfl)⟩
theorem tb_445 : tb_G (Cond.code yX3_spread cX3_spread 6 none) := ⟨tbI2 (List.mem_of_getElem? (i := 56) rfl), (Or.inl rfl)⟩
theorem tb_446 : tb_G (Cond.selects RX3 yX3_spread yX3_spread) := ⟨tbP1 (List.mem_of_getElem? (i := 6) rfl), (Or.inl rfl)⟩
set_option maxRecDepth 20000 in
theorem tbL_wsX4_digest_r7 : GoodIn lw_tbl wsX4_digest_r7 := (gI_cons tb_446 (gI_cons tb_445 (gI_cons tb_444 (gI_cons tb_443 (gI_cons tb_442 (gI_cons tb_441 (gI_cons tb_440 (gI_cons tb_439 (gI_cons tb_438 (gI_cons tb_437 (gI_cons tb_436 (gI_cons tb_314 (gI_cons tb_313 (gI_cons tb_312 (gI_cons tb_311 (gI_cons tb_310 (gI_cons tb_309 (gI_cons tb_308 (gI_cons tb_307 (gI_cons tb_306 (gI_cons tb_305 (gI_cons tb_304 (gI_cons tb_303 (gI_cons tb_325 gI_nil))))))))))))))))))))))))
theorem tb_447 : tb_G (Cond.selects RX0 yX0_worthOfGo yX0_worthOfGo) := ⟨tbP1 (List.mem_of_getElem? (i := 11) rfl), (Or.inl rfl)⟩
theorem tb_448 : tb_G (Cond.instanceMethod yX0_worthOfGo) := ⟨tbI2 (List.mem_of_getElem? (i := 103) rfl), (Or.inl rfl)⟩
theorem tb_449 : tb_G (Cond.methodLink RX0 67 yX0_worthOfGo) := ⟨tbI2 (List.mem_of_getElem? (i := 101) rfl), (Or.inl rfl)⟩
theorem tb_450 : tb_G (Cond.methodLink RX0 63 yX1_cellTowards) := ⟨tbI2 (List.mem_of_getElem? (i := 100) rfl), (Or.inl rfl)⟩
theorem tb_451 : tb_G (Cond.methodLink RX2 126 yX2_whoIsOn) := ⟨tbI2 (List.mem_of_getElem? (i := 99) rfl), (Or.inl rfl)⟩
theorem tb_452 : tb_G (Cond.code yX2_hasFoeBeside cX2_hasFoeBeside 3 (some .boolean)) := ⟨tbI2 (List.mem_of_getElem? (i := 97) rfl), (Or.inl rfl)⟩
theorem tb_453 : tb_G (Cond.selects RX2 yX2_hasFoeBeside yX2_hasFoeBeside) := ⟨tbI2 (List.mem_of_getElem? (i := 96) rfl), (Or.inl rfl)⟩
theorem tb_454 : tb_G (Cond.instanceMethod yX2_hasFoeBeside) := ⟨tbI2 (List.mem_of_getElem? (i := 95) rfl), (Or.inl rfl)⟩
theorem tb_455 : tb_G (Cond.methodLink RX0 73 yX2_hasFoeBeside) := ⟨tbI2 (List.mem_of_getElem? (i := 94) rfl), (Or.inl rfl)⟩
theorem tb_456 : tb_G (Cond.methodLink RX0 70 yX2_isAfraid) := ⟨tbI2 (List.mem_of_getElem? (i := 93) rfl), (Or.inl rfl)⟩
theorem tb_457 : tb_G (Cond.code yX0_worthOfGuard cX0_worthOfGuard 4 (some .int)) := ⟨tbI2 (List.mem_of_getElem? (i := 92) rfl), (Or.inl rfl)⟩
theorem tb_458 : tb_G (Cond.selects RX0 yX0_worthOfGuard yX0_worthOfGuard) := ⟨tbP1 (List.mem_of_getElem? (i := 10) rfl), (Or.inl rfl)⟩
theorem tb_459 : tb_G (Cond.instanceMethod yX0_worthOfGuard) := ⟨tbI2 (List.mem_of_getElem? (i := 91) rfl), (Or.inl rfl)⟩
theorem tb_460 : tb_G (Cond.methodLink RX0 59 yX0_worthOfGuard) := ⟨tbI2 (List.mem_of_getElem? (i := 89) rfl), (Or.inl rfl)⟩
theorem tb_461 : tb_G (Cond.methodLink RX0 56 yX2_stackOf) := ⟨tbI2 (List.mem_of_getElem? (i := 88) rfl), (Or.inl rfl)⟩
theorem tb_462 : tb_G (Cond.code yX0_worthIfPossible cX0_worthIfPossible 5 (some .int)) := ⟨tbI2 (List.mem_of_getElem? (i := 87) rfl), (Or.inl rfl)⟩
theorem tb_463 : tb_G (Cond.selects RX0 yX0_worthIfPossible yX0_worthIfPossible) := ⟨tbP1 (List.mem_of_getElem? (i := 9) rfl), (Or.inl rfl)⟩
theorem tb_464 : tb_G (Cond.instanceMethod yX0_worthIfPossible) := ⟨tbI2 (List.mem_of_getElem? (i := 85) rfl), (Or.inl rfl)⟩
theorem tb_465 : tb_G (Cond.methodLink RX0 52 yX0_worthIfPossible) := ⟨tbI2 (List.mem_of_getElem? (i := 83) rfl), (Or.inl rfl)⟩
set_option maxRecDepth 20000 in
theorem tbL_wsX4_digest_r8 : GoodIn lw_tbl wsX4_digest_r8 := (gI_cons tb_156 (gI_cons tb_155 (gI_cons tb_154 (gI_cons tb_324 (gI_cons tb_320 (gI_cons tb_465 (gI_cons tb_464 (gI_cons tb_463 (gI_cons tb_462 (gI_cons tb_461 (gI_cons tb_460 (gI_cons tb_459 (gI_cons tb_458 (gI_cons tb_457 (gI_cons tb_456 (gI_cons tb_455 (gI_cons tb_454 (gI_cons tb_453 (gI_cons tb_452 (gI_cons tb_451 (gI_cons tb_450 (gI_cons tb_449 (gI_cons tb_448 (gI_cons tb_447 gI_nil))))))))))))))))))))))))
theorem tb_466 : tb_G (Cond.instanceMethod yX2_watchersOf) := ⟨tbI3 (List.mem_of_getElem? (i := 126) rfl), (Or.inl rfl)⟩
theorem tb_467 : tb_G (Cond.methodLink RX4 220 yX2_watchersOf) := ⟨tbI3 (List.mem_of_getElem? (i := 125) rfl), (Or.inl rfl)⟩
theorem tb_468 : tb_G (Cond.code yX0_worthOf cX0_worthOf 2 (some .int)) := ⟨tbI2 (List.mem_of_getElem? (i := 191) rfl), (Or.inl rfl)⟩
theorem tb_469 : tb_G (Cond.selects RX0 yX0_worthOf yX0_worthOf) := ⟨tbI2 (List.mem_of_getElem? (i := 190) rfl), (Or.inl rfl)⟩
theorem tb_470 : tb_G (Cond.instanceMethod yX0_worthOf) := ⟨tbI2 (List.mem_of_getElem? (i := 189) rfl), (Or.inl rfl)⟩
theorem tb_471 : tb_G (Cond.methodLink RX4 184 yX0_worthOf) := ⟨tbI2 (List.mem_of_getElem? (i := 188) rfl), (Or.inl rfl)⟩
theorem tb_472 : tb_G (Cond.code yX0_best cX0_best 4 (some .int)) := ⟨tbI2 (List.mem_of_getElem? (i := 120) rfl), (Or.inl rfl)⟩
theorem tb_473 : tb_G (Cond.selects RX0 yX0_best yX0_best) := ⟨tbI2 (List.mem_of_getElem? (i := 119) rfl), (Or.inl rfl)⟩
theorem tb_474 : tb_G (Cond.instanceMethod yX0_best) := ⟨tbI2 (List.mem_of_getElem? (i := 118) rfl), (Or.inl rfl)⟩
theorem tb_475 : tb_G (Cond.methodLink RX4 187 yX0_best) := ⟨tbI2 (List.mem_of_getElem? (i := 117) rfl), (Or.inl rfl)⟩
theorem tb_476 : tb_G (Cond.methodLink RX4 172 yX2_targetOf) := ⟨tbI2 (List.mem_of_getElem? (i := 172) rfl), (Or.inl rfl)⟩
theorem tb_477 : tb_G (Cond.methodLink RX3 56 Lib.Math.max.name) := ⟨tbI2 (List.mem_of_getElem? (i := 116) rfl), (Or.inl rfl)⟩
theorem tb_478 : tb_G (Cond.code yX3_from cX3_from 2 (some .int)) := ⟨tbI2 (List.mem_of_getElem? (i := 115) rfl), (Or.inl rfl)⟩
theorem tb_479 : tb_G (Cond.selects RX3 yX3_from yX3_from) := ⟨tbI2 (List.mem_of_getElem? (i := 114) rfl), (Or.inl rfl)⟩
theorem tb_480 : tb_G (Cond.instanceMethod yX3_from) := ⟨tbI2 (List.mem_of_getElem? (i := 113) rfl), (Or.inl rfl)⟩
theorem tb_481 : tb_G (Cond.methodLink RX0 36 yX3_from) := ⟨tbI2 (List.mem_of_getElem? (i := 112) rfl), (Or.inl rfl)⟩
theorem tb_482 : tb_G (Cond.methodLink RX0 82 yX2_kindAt) := ⟨tbI2 (List.mem_of_getElem? (i := 111) rfl), (Or.inl rfl)⟩
theorem tb_483 : tb_G (Cond.methodLink RX0 79 yX2_hitOf) := ⟨tbI2 (List.mem_of_getElem? (i := 106) rfl), (Or.inl rfl)⟩
theorem tb_484 : tb_G (Cond.methodLink RX0 76 yX2_whoIsOn) := ⟨tbI2 (List.mem_of_getElem? (i := 105) rfl), (Or.inl rfl)⟩
theorem tb_485 : tb_G (Cond.code yX0_worthOfGo cX0_worthOfGo 7 (some .int)) := ⟨tbI2 (List.mem_of_getElem? (i := 104) rfl), (Or.inl rfl)⟩
set_option maxRecDepth 20000 in
theorem tbL_wsX4_digest_r9 : GoodIn lw_tbl wsX4_digest_r9 := (gI_cons tb_485 (gI_cons tb_484 (gI_cons tb_483 (gI_cons tb_343 (gI_cons tb_342 (gI_cons tb_341 (gI_cons tb_271 (gI_cons tb_482 (gI_cons tb_481 (gI_cons tb_480 (gI_cons tb_479 (gI_cons tb_478 (gI_cons tb_477 (gI_cons tb_476 (gI_cons tb_475 (gI_cons tb_474 (gI_cons tb_473 (gI_cons tb_472 (gI_cons tb_471 (gI_cons tb_470 (gI_cons tb_469 (gI_cons tb_468 (gI_cons tb_467 (gI_cons tb_466 gI_nil))))))))))))))))))))))))
theorem tb_486 : tb_G (Cond.code yX2_watchersOf cX2_watchersOf 5 (some .int)) := ⟨tbI3 (List.mem_of_getElem? (i := 128) rfl), (Or.inl rfl)⟩
theorem tb_487 : tb_G (Cond.selects RX2 yX2_watchersOf yX2_watchersOf) := ⟨tbI3 (List.mem_of_getElem? (i := 127) rfl), (Or.inl rfl)⟩
set_option maxRecDepth 20000 in
theorem tbL_wsX4_digest_r10 : GoodIn lw_tbl wsX4_digest_r10 := (gI_cons tb_487 (gI_cons tb_486 gI_nil))
set_option maxRecDepth 20000 in
theorem tbL_wsX4_digest : GoodIn lw_tbl wsX4_digest := (gI_cons tb_375 (goodIn_app (goodIn_app (goodIn_app (goodIn_app (goodIn_app (goodIn_app tbL_wsX4_digest_r1 (goodIn_app tbL_wsX4_digest_r2 (goodIn_app tbL_wsX4_digest_r3 (goodIn_app tbL_wsX4_digest_r4 (goodIn_app tbL_wsX4_digest_r5 (goodIn_app tbL_wsX4_digest_r6 (goodIn_app tbL_wsX4_digest_r7 (goodIn_app tbL_wsX4_digest_r8 (goodIn_app tbL_wsX4_digest_r9 tbL_wsX4_digest_r10))))))))) tbL_wsX40) tbL_wsX20) tbL_wsJx4a65c0) tbL_wsX00) tbL_wsX30))
theorem tb_488 : tb_G (.selects RX4 yX4_digest yX4_digest) := ⟨tbI3 (List.mem_of_getElem? (i := 135) rfl), (Or.inl rfl)⟩
theorem tb_489 : tb_G (.instanceMethod yX4_digest) := ⟨tbI3 (List.mem_of_getElem? (i := 134) rfl), (Or.inl rfl)⟩
theorem tb_490 : tb_G (.methodLink RL 32 yX4_digest) := ⟨tbI3 (List.mem_of_getElem? (i := 133) rfl), (Or.inl rfl)⟩
theorem tb_491 : tb_G (.code yX4_many cX4_many 2 (some .int)) := ⟨tbI1 (List.mem_of_getElem? (i := 212) rfl), (Or.inl rfl)⟩
set_option maxRecDepth 20000 in
theorem tbL_wsX4_many_r1 : GoodIn lw_tbl wsX4_many_r1 := (gI_cons tb_112 (gI_cons tb_111 (gI_cons tb_110 (gI_cons tb_109 (gI_cons tb_19 (gI_cons tb_108 (gI_cons tb_383 (gI_cons tb_382 (gI_cons tb_381 (gI_cons tb_380 (gI_cons tb_1 (gI_cons tb_44 (gI_cons tb_379 (gI_cons tb_378 (gI_cons tb_377 (gI_cons tb_2 (gI_cons tb_376 (gI_cons tb_153 (gI_cons tb_152 (gI_cons tb_151 (gI_cons tb_150 (gI_cons tb_149 (gI_cons tb_33 (gI_cons tb_204 gI_nil))))))))))))))))))))))))
set_option maxRecDepth 20000 in
theorem tbL_wsX4_many_r2 : GoodIn lw_tbl wsX4_many_r2 := (gI_cons tb_203 (gI_cons tb_202 (gI_cons tb_201 (gI_cons tb_297 (gI_cons tb_163 (gI_cons tb_162 (gI_cons tb_161 (gI_cons tb_394 (gI_cons tb_393 (gI_cons tb_392 (gI_cons tb_391 (gI_cons tb_34 (gI_cons tb_188 (gI_cons tb_187 (gI_cons tb_186 (gI_cons tb_185 (gI_cons tb_390 (gI_cons tb_389 (gI_cons tb_388 (gI_cons tb_45 (gI_cons tb_387 (gI_cons tb_386 gI_nil))))))))))))))))))))))
set_option maxRecDepth 20000 in
theorem tbL_wsX4_many : GoodIn lw_tbl wsX4_many := (gI_cons tb_491 (goodIn_app (goodIn_app (goodIn_app (goodIn_app (goodIn_app tbL_wsX4_many_r1 tbL_wsX4_many_r2) tbL_wsX40) tbL_wsX20) tbL_wsJx4a65c0) tb_x6))
theorem tb_492 : tb_G (.selects RX4 yX4_many yX4_many) := ⟨tbI1 (List.mem_of_getElem? (i := 211) rfl), (Or.inl rfl)⟩
theorem tb_493 : tb_G (.instanceMethod yX4_many) := ⟨tbI1 (List.mem_of_getElem? (i := 210) rfl), (Or.inl rfl)⟩
theorem tb_494 : tb_G (.methodLink RL 38 yX4_many) := ⟨tbI1 (List.mem_of_getElem? (i := 209) rfl), (Or.inl rfl)⟩
theorem tb_495 : tb_G (.code yX4_of cX4_of 3 (some .int)) := ⟨tbI1 (List.mem_of_getElem? (i := 179) rfl), (Or.inl rfl)⟩
set_option maxRecDepth 20000 in
theorem tbL_wsX4_of_r1 : GoodIn lw_tbl wsX4_of_r1 := (gI_cons tb_123 (gI_cons tb_122 (gI_cons tb_112 (gI_cons tb_111 (gI_cons tb_1 (gI_cons tb_230 (gI_cons tb_229 (gI_cons tb_228 (gI_cons tb_2 (gI_cons tb_253 (gI_cons tb_153 (gI_cons tb_110 (gI_cons tb_109 (gI_cons tb_19 (gI_cons tb_108 (gI_cons tb_403 (gI_cons tb_402 (gI_cons tb_401 (gI_cons tb_400 (gI_cons tb_399 (gI_cons tb_398 (gI_cons tb_397 (gI_cons tb_396 (gI_cons tb_152 gI_nil))))))))))))))))))))))))
set_option maxRecDepth 20000 in
theorem tbL_wsX4_of_r2 : GoodIn lw_tbl wsX4_of_r2 := (gI_cons tb_151 (gI_cons tb_150 (gI_cons tb_149 (gI_cons tb_33 (gI_cons tb_252 gI_nil)))))
set_option maxRecDepth 20000 in
theorem tbL_wsX4_of : GoodIn lw_tbl wsX4_of := (gI_cons tb_495 (goodIn_app (goodIn_app (goodIn_app (goodIn_app (goodIn_app tbL_wsX4_of_r1 tbL_wsX4_of_r2) tbL_wsX40) tbL_wsX20) tb_x7) tb_x6))
theorem tb_496 : tb_G (.selects RX4 yX4_of yX4_of) := ⟨tbI1 (List.mem_of_getElem? (i := 178) rfl), (Or.inl rfl)⟩
theorem tb_497 : tb_G (.instanceMethod yX4_of) := ⟨tbI1 (List.mem_of_getElem? (i := 177) rfl), (Or.inl rfl)⟩
theorem tb_498 : tb_G (.methodLink RL 42 yX4_of) := ⟨tbI1 (List.mem_of_getElem? (i := 176) rfl), (Or.inl rfl)⟩
theorem tb_499 : tb_G (.code yX4_effect cX4_effect 4 (some .int)) := ⟨tbI1 (List.mem_of_getElem? (i := 199) rfl), (Or.inl rfl)⟩
set_option maxRecDepth 20000 in
theorem tbL_wsX4_effect_r1 : GoodIn lw_tbl wsX4_effect_r1 := (gI_cons tb_123 (gI_cons tb_122 (gI_cons tb_112 (gI_cons tb_111 (gI_cons tb_1 (gI_cons tb_230 (gI_cons tb_229 (gI_cons tb_228 (gI_cons tb_2 (gI_cons tb_253 (gI_cons tb_153 (gI_cons tb_110 (gI_cons tb_109 (gI_cons tb_19 (gI_cons tb_108 (gI_cons tb_395 (gI_cons tb_266 (gI_cons tb_265 (gI_cons tb_264 (gI_cons tb_31 (gI_cons tb_282 (gI_cons tb_270 (gI_cons tb_269 (gI_cons tb_268 gI_nil))))))))))))))))))))))))
set_option maxRecDepth 20000 in
theorem tbL_wsX4_effect_r2 : GoodIn lw_tbl wsX4_effect_r2 := (gI_cons tb_32 gI_nil)
set_option maxRecDepth 20000 in
theorem tbL_wsX4_effect : GoodIn lw_tbl wsX4_effect := (gI_cons tb_499 (goodIn_app (goodIn_app (goodIn_app (goodIn_app (goodIn_app tbL_wsX4_effect_r1 tbL_wsX4_effect_r2) tbL_wsX40) tbL_wsX20) tb_x7) tb_x6))
theorem tb_500 : tb_G (.selects RX4 yX4_effect yX4_effect) := ⟨tbI1 (List.mem_of_getElem? (i := 198) rfl), (Or.inl rfl)⟩
theorem tb_501 : tb_G (.instanceMethod yX4_effect) := ⟨tbI1 (List.mem_of_getElem? (i := 197) rfl), (Or.inl rfl)⟩
theorem tb_502 : tb_G (.methodLink RL 46 yX4_effect) := ⟨tbI1 (List.mem_of_getElem? (i := 196) rfl), (Or.inl rfl)⟩
theorem tb_503 : tb_G (.code yX4_target cX4_target 2 (some .int)) := ⟨tbI2 (List.mem_of_getElem? (i := 171) rfl), (Or.inl rfl)⟩
set_option maxRecDepth 20000 in
theorem tbL_wsX4_target_r1 : GoodIn lw_tbl wsX4_target_r1 := (gI_cons tb_123 (gI_cons tb_122 (gI_cons tb_1 (gI_cons tb_230 (gI_cons tb_229 (gI_cons tb_228 (gI_cons tb_2 (gI_cons tb_253 (gI_cons tb_153 (gI_cons tb_476 (gI_cons tb_319 (gI_cons tb_318 (gI_cons tb_317 (gI_cons tb_204 (gI_cons tb_203 (gI_cons tb_202 (gI_cons tb_201 (gI_cons tb_152 (gI_cons tb_151 (gI_cons tb_150 (gI_cons tb_149 (gI_cons tb_33 (gI_cons tb_316 (gI_cons tb_323 gI_nil))))))))))))))))))))))))
set_option maxRecDepth 20000 in
theorem tbL_wsX4_target_r2 : GoodIn lw_tbl wsX4_target_r2 := (gI_cons tb_322 (gI_cons tb_321 (gI_cons tb_224 (gI_cons tb_223 (gI_cons tb_222 (gI_cons tb_221 (gI_cons tb_220 (gI_cons tb_210 (gI_cons tb_219 (gI_cons tb_218 (gI_cons tb_217 (gI_cons tb_216 (gI_cons tb_184 (gI_cons tb_227 (gI_cons tb_226 (gI_cons tb_225 (gI_cons tb_215 (gI_cons tb_214 (gI_cons tb_213 (gI_cons tb_212 (gI_cons tb_211 (gI_cons tb_210 (gI_cons tb_209 (gI_cons tb_101 gI_nil))))))))))))))))))))))))
set_option maxRecDepth 20000 in
theorem tbL_wsX4_target_r3 : GoodIn lw_tbl wsX4_target_r3 := (gI_cons tb_100 (gI_cons tb_99 (gI_cons tb_98 (gI_cons tb_35 (gI_cons tb_159 (gI_cons tb_19 (gI_cons tb_158 gI_nil)))))))
set_option maxRecDepth 20000 in
theorem tbL_wsX4_target : GoodIn lw_tbl wsX4_target := (gI_cons tb_503 (goodIn_app (goodIn_app (goodIn_app (goodIn_app tbL_wsX4_target_r1 (goodIn_app tbL_wsX4_target_r2 tbL_wsX4_target_r3)) tbL_wsX40) tbL_wsX20) tb_x7))
theorem tb_504 : tb_G (.selects RX4 yX4_target yX4_target) := ⟨tbI2 (List.mem_of_getElem? (i := 170) rfl), (Or.inl rfl)⟩
theorem tb_505 : tb_G (.instanceMethod yX4_target) := ⟨tbI2 (List.mem_of_getElem? (i := 169) rfl), (Or.inl rfl)⟩
theorem tb_506 : tb_G (.methodLink RL 50 yX4_target) := ⟨tbI2 (List.mem_of_getElem? (i := 168) rfl), (Or.inl rfl)⟩
theorem tb_507 : tb_G (.code yX4_plan cX4_plan 2 (some .int)) := ⟨tbI2 (List.mem_of_getElem? (i := 195) rfl), (Or.inl rfl)⟩
set_option maxRecDepth 20000 in
theorem tbL_wsX4_plan_r1 : GoodIn lw_tbl wsX4_plan_r1 := (gI_cons tb_123 (gI_cons tb_122 (gI_cons tb_1 (gI_cons tb_40 (gI_cons tb_230 (gI_cons tb_229 (gI_cons tb_228 (gI_cons tb_2 (gI_cons tb_253 (gI_cons tb_153 (gI_cons tb_412 (gI_cons tb_411 (gI_cons tb_410 (gI_cons tb_41 (gI_cons tb_409 (gI_cons tb_53 (gI_cons tb_52 (gI_cons tb_408 (gI_cons tb_319 (gI_cons tb_318 (gI_cons tb_317 (gI_cons tb_204 (gI_cons tb_203 (gI_cons tb_202 gI_nil))))))))))))))))))))))))
set_option maxRecDepth 20000 in
theorem tbL_wsX4_plan_r2 : GoodIn lw_tbl wsX4_plan_r2 := (gI_cons tb_201 (gI_cons tb_152 (gI_cons tb_151 (gI_cons tb_150 (gI_cons tb_149 (gI_cons tb_33 (gI_cons tb_316 (gI_cons tb_323 (gI_cons tb_322 (gI_cons tb_321 (gI_cons tb_224 (gI_cons tb_223 (gI_cons tb_222 (gI_cons tb_221 (gI_cons tb_220 (gI_cons tb_210 (gI_cons tb_219 (gI_cons tb_218 (gI_cons tb_217 (gI_cons tb_216 (gI_cons tb_184 (gI_cons tb_227 (gI_cons tb_226 (gI_cons tb_225 gI_nil))))))))))))))))))))))))
set_option maxRecDepth 20000 in
theorem tbL_wsX4_plan_r3 : GoodIn lw_tbl wsX4_plan_r3 := (gI_cons tb_215 (gI_cons tb_214 (gI_cons tb_213 (gI_cons tb_212 (gI_cons tb_211 (gI_cons tb_210 (gI_cons tb_209 (gI_cons tb_101 (gI_cons tb_100 (gI_cons tb_99 (gI_cons tb_98 (gI_cons tb_35 (gI_cons tb_159 (gI_cons tb_19 (gI_cons tb_158 (gI_cons tb_417 (gI_cons tb_416 (gI_cons tb_415 (gI_cons tb_414 (gI_cons tb_413 (gI_cons tb_435 (gI_cons tb_434 (gI_cons tb_433 (gI_cons tb_54 gI_nil))))))))))))))))))))))))
set_option maxRecDepth 20000 in
theorem tbL_wsX4_plan_r4 : GoodIn lw_tbl wsX4_plan_r4 := (gI_cons tb_432 (gI_cons tb_74 (gI_cons tb_431 (gI_cons tb_430 (gI_cons tb_29 (gI_cons tb_28 (gI_cons tb_27 (gI_cons tb_429 (gI_cons tb_428 (gI_cons tb_427 (gI_cons tb_426 (gI_cons tb_425 (gI_cons tb_424 (gI_cons tb_423 (gI_cons tb_422 (gI_cons tb_421 (gI_cons tb_420 (gI_cons tb_73 (gI_cons tb_419 (gI_cons tb_418 (gI_cons tb_446 (gI_cons tb_445 (gI_cons tb_444 (gI_cons tb_443 gI_nil))))))))))))))))))))))))
set_option maxRecDepth 20000 in
theorem tbL_wsX4_plan_r5 : GoodIn lw_tbl wsX4_plan_r5 := (gI_cons tb_442 (gI_cons tb_441 (gI_cons tb_440 (gI_cons tb_439 (gI_cons tb_438 (gI_cons tb_437 (gI_cons tb_436 (gI_cons tb_314 (gI_cons tb_313 (gI_cons tb_312 (gI_cons tb_311 (gI_cons tb_310 (gI_cons tb_309 (gI_cons tb_308 (gI_cons tb_307 (gI_cons tb_306 (gI_cons tb_305 (gI_cons tb_304 (gI_cons tb_303 (gI_cons tb_325 (gI_cons tb_156 (gI_cons tb_155 (gI_cons tb_154 (gI_cons tb_324 gI_nil))))))))))))))))))))))))
set_option maxRecDepth 20000 in
theorem tbL_wsX4_plan_r6 : GoodIn lw_tbl wsX4_plan_r6 := (gI_cons tb_320 (gI_cons tb_465 (gI_cons tb_464 (gI_cons tb_463 (gI_cons tb_462 (gI_cons tb_461 (gI_cons tb_270 (gI_cons tb_269 (gI_cons tb_268 (gI_cons tb_32 (gI_cons tb_460 (gI_cons tb_459 (gI_cons tb_458 (gI_cons tb_457 (gI_cons tb_456 (gI_cons tb_398 (gI_cons tb_397 (gI_cons tb_396 (gI_cons tb_455 (gI_cons tb_454 (gI_cons tb_453 (gI_cons tb_452 (gI_cons tb_451 (gI_cons tb_450 gI_nil))))))))))))))))))))))))
set_option maxRecDepth 20000 in
theorem tbL_wsX4_plan_r7 : GoodIn lw_tbl wsX4_plan_r7 := (gI_cons tb_449 (gI_cons tb_448 (gI_cons tb_447 (gI_cons tb_485 (gI_cons tb_484 (gI_cons tb_483 (gI_cons tb_343 (gI_cons tb_342 (gI_cons tb_341 (gI_cons tb_271 (gI_cons tb_482 (gI_cons tb_481 (gI_cons tb_480 (gI_cons tb_479 (gI_cons tb_478 (gI_cons tb_477 (gI_cons tb_475 (gI_cons tb_474 (gI_cons tb_473 (gI_cons tb_472 gI_nil))))))))))))))))))))
set_option maxRecDepth 20000 in
theorem tbL_wsX4_plan : GoodIn lw_tbl wsX4_plan := (gI_cons tb_507 (goodIn_app (goodIn_app (goodIn_app (goodIn_app (goodIn_app (goodIn_app tbL_wsX4_plan_r1 (goodIn_app tbL_wsX4_plan_r2 (goodIn_app tbL_wsX4_plan_r3 (goodIn_app tbL_wsX4_plan_r4 (goodIn_app tbL_wsX4_plan_r5 (goodIn_app tbL_wsX4_plan_r6 tbL_wsX4_plan_r7)))))) tbL_wsX40) tbL_wsX20) tbL_wsX00) tbL_wsX30) tb_x7))
theorem tb_508 : tb_G (.selects RX4 yX4_plan yX4_plan) := ⟨tbI2 (List.mem_of_getElem? (i := 194) rfl), (Or.inl rfl)⟩
theorem tb_509 : tb_G (.instanceMethod yX4_plan) := ⟨tbI2 (List.mem_of_getElem? (i := 193) rfl), (Or.inl rfl)⟩
theorem tb_510 : tb_G (.methodLink RL 53 yX4_plan) := ⟨tbI2 (List.mem_of_getElem? (i := 192) rfl), (Or.inl rfl)⟩
theorem tb_511 : tb_G (.code yX4_worth cX4_worth 3 (some .int)) := ⟨tbI2 (List.mem_of_getElem? (i := 186) rfl), (Or.inl rfl)⟩
set_option maxRecDepth 20000 in
theorem tbL_wsX4_worth_r1 : GoodIn lw_tbl wsX4_worth_r1 := (gI_cons tb_123 (gI_cons tb_122 (gI_cons tb_112 (gI_cons tb_111 (gI_cons tb_1 (gI_cons tb_40 (gI_cons tb_230 (gI_cons tb_229 (gI_cons tb_228 (gI_cons tb_2 (gI_cons tb_253 (gI_cons tb_153 (gI_cons tb_110 (gI_cons tb_109 (gI_cons tb_19 (gI_cons tb_108 (gI_cons tb_412 (gI_cons tb_411 (gI_cons tb_410 (gI_cons tb_41 (gI_cons tb_409 (gI_cons tb_53 (gI_cons tb_52 (gI_cons tb_408 gI_nil))))))))))))))))))))))))
set_option maxRecDepth 20000 in
theorem tbL_wsX4_worth_r2 : GoodIn lw_tbl wsX4_worth_r2 := (gI_cons tb_319 (gI_cons tb_318 (gI_cons tb_317 (gI_cons tb_204 (gI_cons tb_203 (gI_cons tb_202 (gI_cons tb_201 (gI_cons tb_152 (gI_cons tb_151 (gI_cons tb_150 (gI_cons tb_149 (gI_cons tb_33 (gI_cons tb_316 (gI_cons tb_323 (gI_cons tb_322 (gI_cons tb_321 (gI_cons tb_224 (gI_cons tb_223 (gI_cons tb_222 (gI_cons tb_221 (gI_cons tb_220 (gI_cons tb_210 (gI_cons tb_219 (gI_cons tb_218 gI_nil))))))))))))))))))))))))
set_option maxRecDepth 20000 in
theorem tbL_wsX4_worth_r3 : GoodIn lw_tbl wsX4_worth_r3 := (gI_cons tb_217 (gI_cons tb_216 (gI_cons tb_184 (gI_cons tb_227 (gI_cons tb_226 (gI_cons tb_225 (gI_cons tb_215 (gI_cons tb_214 (gI_cons tb_213 (gI_cons tb_212 (gI_cons tb_211 (gI_cons tb_210 (gI_cons tb_209 (gI_cons tb_101 (gI_cons tb_100 (gI_cons tb_99 (gI_cons tb_98 (gI_cons tb_35 (gI_cons tb_159 (gI_cons tb_158 (gI_cons tb_417 (gI_cons tb_416 (gI_cons tb_415 (gI_cons tb_414 gI_nil))))))))))))))))))))))))
set_option maxRecDepth 20000 in
theorem tbL_wsX4_worth_r4 : GoodIn lw_tbl wsX4_worth_r4 := (gI_cons tb_413 (gI_cons tb_435 (gI_cons tb_434 (gI_cons tb_433 (gI_cons tb_54 (gI_cons tb_432 (gI_cons tb_74 (gI_cons tb_431 (gI_cons tb_430 (gI_cons tb_29 (gI_cons tb_28 (gI_cons tb_27 (gI_cons tb_429 (gI_cons tb_428 (gI_cons tb_427 (gI_cons tb_426 (gI_cons tb_425 (gI_cons tb_424 (gI_cons tb_423 (gI_cons tb_422 (gI_cons tb_421 (gI_cons tb_420 (gI_cons tb_73 (gI_cons tb_419 gI_nil))))))))))))))))))))))))
set_option maxRecDepth 20000 in
theorem tbL_wsX4_worth_r5 : GoodIn lw_tbl wsX4_worth_r5 := (gI_cons tb_418 (gI_cons tb_446 (gI_cons tb_445 (gI_cons tb_444 (gI_cons tb_443 (gI_cons tb_442 (gI_cons tb_441 (gI_cons tb_440 (gI_cons tb_439 (gI_cons tb_438 (gI_cons tb_437 (gI_cons tb_436 (gI_cons tb_314 (gI_cons tb_313 (gI_cons tb_312 (gI_cons tb_311 (gI_cons tb_310 (gI_cons tb_309 (gI_cons tb_308 (gI_cons tb_307 (gI_cons tb_306 (gI_cons tb_305 (gI_cons tb_304 (gI_cons tb_303 gI_nil))))))))))))))))))))))))
set_option maxRecDepth 20000 in
theorem tbL_wsX4_worth_r6 : GoodIn lw_tbl wsX4_worth_r6 := (gI_cons tb_325 (gI_cons tb_156 (gI_cons tb_155 (gI_cons tb_154 (gI_cons tb_324 (gI_cons tb_320 (gI_cons tb_465 (gI_cons tb_464 (gI_cons tb_463 (gI_cons tb_462 (gI_cons tb_461 (gI_cons tb_270 (gI_cons tb_269 (gI_cons tb_268 (gI_cons tb_32 (gI_cons tb_460 (gI_cons tb_459 (gI_cons tb_458 (gI_cons tb_457 (gI_cons tb_456 (gI_cons tb_398 (gI_cons tb_397 (gI_cons tb_396 (gI_cons tb_455 gI_nil))))))))))))))))))))))))
set_option maxRecDepth 20000 in
theorem tbL_wsX4_worth_r7 : GoodIn lw_tbl wsX4_worth_r7 := (gI_cons tb_454 (gI_cons tb_453 (gI_cons tb_452 (gI_cons tb_451 (gI_cons tb_450 (gI_cons tb_449 (gI_cons tb_448 (gI_cons tb_447 (gI_cons tb_485 (gI_cons tb_484 (gI_cons tb_483 (gI_cons tb_343 (gI_cons tb_342 (gI_cons tb_341 (gI_cons tb_271 (gI_cons tb_482 (gI_cons tb_481 (gI_cons tb_480 (gI_cons tb_479 (gI_cons tb_478 (gI_cons tb_477 (gI_cons tb_471 (gI_cons tb_470 (gI_cons tb_469 gI_nil))))))))))))))))))))))))
set_option maxRecDepth 20000 in
theorem tbL_wsX4_worth_r8 : GoodIn lw_tbl wsX4_worth_r8 := (gI_cons tb_468 gI_nil)
set_option maxRecDepth 20000 in
theorem tbL_wsX4_worth : GoodIn lw_tbl wsX4_worth := (gI_cons tb_511 (goodIn_app (goodIn_app (goodIn_app (goodIn_app (goodIn_app (goodIn_app (goodIn_app tbL_wsX4_worth_r1 (goodIn_app tbL_wsX4_worth_r2 (goodIn_app tbL_wsX4_worth_r3 (goodIn_app tbL_wsX4_worth_r4 (goodIn_app tbL_wsX4_worth_r5 (goodIn_app tbL_wsX4_worth_r6 (goodIn_app tbL_wsX4_worth_r7 tbL_wsX4_worth_r8))))))) tbL_wsX40) tbL_wsX20) tbL_wsX00) tbL_wsX30) tb_x7) tb_x6))
theorem tb_512 : tb_G (.selects RX4 yX4_worth yX4_worth) := ⟨tbI2 (List.mem_of_getElem? (i := 185) rfl), (Or.inl rfl)⟩
theorem tb_513 : tb_G (.instanceMethod yX4_worth) := ⟨tbI2 (List.mem_of_getElem? (i := 184) rfl), (Or.inl rfl)⟩
theorem tb_514 : tb_G (.methodLink RL 56 yX4_worth) := ⟨tbI2 (List.mem_of_getElem? (i := 183) rfl), (Or.inl rfl)⟩
theorem tb_515 : tb_G (.code yX4_hit cX4_hit 3 (some .int)) := ⟨tbI3 (List.mem_of_getElem? (i := 107) rfl), (Or.inl rfl)⟩
theorem tb_516 : tb_G (Cond.methodLink RX4 214 yX2_hitOf) := ⟨tbI3 (List.mem_of_getElem? (i := 108) rfl), (Or.inl rfl)⟩
set_option maxRecDepth 20000 in
theorem tbL_wsX4_hit_r1 : GoodIn lw_tbl wsX4_hit_r1 := (gI_cons tb_123 (gI_cons tb_122 (gI_cons tb_1 (gI_cons tb_230 (gI_cons tb_229 (gI_cons tb_228 (gI_cons tb_2 (gI_cons tb_253 (gI_cons tb_153 (gI_cons tb_516 (gI_cons tb_343 (gI_cons tb_342 (gI_cons tb_341 (gI_cons tb_218 (gI_cons tb_217 (gI_cons tb_210 (gI_cons tb_216 (gI_cons tb_204 (gI_cons tb_203 (gI_cons tb_202 (gI_cons tb_201 (gI_cons tb_152 (gI_cons tb_151 (gI_cons tb_150 gI_nil))))))))))))))))))))))))
set_option maxRecDepth 20000 in
theorem tbL_wsX4_hit_r2 : GoodIn lw_tbl wsX4_hit_r2 := (gI_cons tb_149 (gI_cons tb_33 (gI_cons tb_271 (gI_cons tb_270 (gI_cons tb_269 (gI_cons tb_268 (gI_cons tb_32 gI_nil)))))))
set_option maxRecDepth 20000 in
theorem tbL_wsX4_hit : GoodIn lw_tbl wsX4_hit := (gI_cons tb_515 (goodIn_app (goodIn_app (goodIn_app (goodIn_app tbL_wsX4_hit_r1 tbL_wsX4_hit_r2) tbL_wsX40) tbL_wsX20) tb_x7))
theorem tb_517 : tb_G (.selects RX4 yX4_hit yX4_hit) := ⟨tbI3 (List.mem_of_getElem? (i := 106) rfl), (Or.inl rfl)⟩
theorem tb_518 : tb_G (.instanceMethod yX4_hit) := ⟨tbI3 (List.mem_of_getElem? (i := 105) rfl), (Or.inl rfl)⟩
theorem tb_519 : tb_G (.methodLink RL 59 yX4_hit) := ⟨tbI3 (List.mem_of_getElem? (i := 104) rfl), (Or.inl rfl)⟩
theorem tb_520 : tb_G (.code yX4_on cX4_on 2 (some .int)) := ⟨tbI1 (List.mem_of_getElem? (i := 141) rfl), (Or.inl rfl)⟩
set_option maxRecDepth 20000 in
theorem tbL_wsX4_on : GoodIn lw_tbl wsX4_on := (gI_cons tb_520 (goodIn_app (goodIn_app (goodIn_app (gI_cons tb_123 (gI_cons tb_122 (gI_cons tb_1 (gI_cons tb_119 (gI_cons tb_118 (gI_cons tb_19 (gI_cons tb_117 (gI_cons tb_157 (gI_cons tb_156 (gI_cons tb_155 (gI_cons tb_2 (gI_cons tb_154 (gI_cons tb_153 (gI_cons tb_152 (gI_cons tb_151 (gI_cons tb_150 (gI_cons tb_149 (gI_cons tb_33 gI_nil)))))))))))))))))) tbL_wsX40) tbL_wsX20) tb_x7))
theorem tb_521 : tb_G (.selects RX4 yX4_on yX4_on) := ⟨tbI1 (List.mem_of_getElem? (i := 140) rfl), (Or.inl rfl)⟩
theorem tb_522 : tb_G (.instanceMethod yX4_on) := ⟨tbI1 (List.mem_of_getElem? (i := 139) rfl), (Or.inl rfl)⟩
theorem tb_523 : tb_G (.methodLink RL 62 yX4_on) := ⟨tbI1 (List.mem_of_getElem? (i := 138) rfl), (Or.inl rfl)⟩
theorem tb_524 : tb_G (.code yX4_cell cX4_cell 2 (some .int)) := ⟨tbI1 (List.mem_of_getElem? (i := 117) rfl), (Or.inl rfl)⟩
set_option maxRecDepth 20000 in
theorem tbL_wsX4_cell : GoodIn lw_tbl wsX4_cell := (gI_cons tb_524 (goodIn_app (goodIn_app (goodIn_app (gI_cons tb_123 (gI_cons tb_122 (gI_cons tb_1 (gI_cons tb_119 (gI_cons tb_118 (gI_cons tb_19 (gI_cons tb_117 (gI_cons tb_148 (gI_cons tb_100 (gI_cons tb_99 (gI_cons tb_2 (gI_cons tb_98 (gI_cons tb_35 gI_nil))))))))))))) tbL_wsX40) tbL_wsX20) tb_x7))
theorem tb_525 : tb_G (.selects RX4 yX4_cell yX4_cell) := ⟨tbI1 (List.mem_of_getElem? (i := 116) rfl), (Or.inl rfl)⟩
theorem tb_526 : tb_G (.instanceMethod yX4_cell) := ⟨tbI1 (List.mem_of_getElem? (i := 115) rfl), (Or.inl rfl)⟩
theorem tb_527 : tb_G (.methodLink RL 65 yX4_cell) := ⟨tbI1 (List.mem_of_getElem? (i := 114) rfl), (Or.inl rfl)⟩
theorem tb_528 : tb_G (.code yX4_sees cX4_sees 3 (some .boolean)) := ⟨tbI1 (List.mem_of_getElem? (i := 153) rfl), (Or.inl rfl)⟩
theorem tb_529 : tb_G (Cond.methodLink RX4 81 yX2_isSeenFrom) := ⟨tbI1 (List.mem_of_getElem? (i := 154) rfl), (Or.inl rfl)⟩
set_option maxRecDepth 20000 in
theorem tbL_wsX4_sees_r1 : GoodIn lw_tbl wsX4_sees_r1 := (gI_cons tb_123 (gI_cons tb_122 (gI_cons tb_1 (gI_cons tb_119 (gI_cons tb_118 (gI_cons tb_19 (gI_cons tb_117 (gI_cons tb_529 (gI_cons tb_227 (gI_cons tb_226 (gI_cons tb_2 (gI_cons tb_225 (gI_cons tb_224 (gI_cons tb_223 (gI_cons tb_222 (gI_cons tb_221 (gI_cons tb_220 (gI_cons tb_210 (gI_cons tb_219 (gI_cons tb_218 (gI_cons tb_217 (gI_cons tb_216 (gI_cons tb_215 (gI_cons tb_214 gI_nil))))))))))))))))))))))))
set_option maxRecDepth 20000 in
theorem tbL_wsX4_sees_r2 : GoodIn lw_tbl wsX4_sees_r2 := (gI_cons tb_213 (gI_cons tb_212 (gI_cons tb_211 (gI_cons tb_210 (gI_cons tb_209 (gI_cons tb_101 (gI_cons tb_100 (gI_cons tb_99 (gI_cons tb_98 (gI_cons tb_35 (gI_cons tb_159 (gI_cons tb_158 gI_nil))))))))))))
set_option maxRecDepth 20000 in
theorem tbL_wsX4_sees : GoodIn lw_tbl wsX4_sees := (gI_cons tb_528 (goodIn_app (goodIn_app (goodIn_app (goodIn_app tbL_wsX4_sees_r1 tbL_wsX4_sees_r2) tbL_wsX40) tbL_wsX20) tb_x7))
theorem tb_530 : tb_G (.selects RX4 yX4_sees yX4_sees) := ⟨tbI1 (List.mem_of_getElem? (i := 152) rfl), (Or.inl rfl)⟩
theorem tb_531 : tb_G (.instanceMethod yX4_sees) := ⟨tbI1 (List.mem_of_getElem? (i := 151) rfl), (Or.inl rfl)⟩
theorem tb_532 : tb_G (.methodLink RL 68 yX4_sees) := ⟨tbI1 (List.mem_of_getElem? (i := 150) rfl), (Or.inl rfl)⟩
theorem tb_533 : tb_G (.code yX4_way cX4_way 3 (some .int)) := ⟨tbI2 (List.mem_of_getElem? (i := 176) rfl), (Or.inl rfl)⟩
theorem tb_534 : tb_G (Cond.methodLink RX0 22 yX2_isAlive) := ⟨tbI2 (List.mem_of_getElem? (i := 182) rfl), (Or.inl rfl)⟩
theorem tb_535 : tb_G (Cond.code yX0_wayOf cX0_wayOf 4 (some .int)) := ⟨tbI2 (List.mem_of_getElem? (i := 181) rfl), (Or.inl rfl)⟩
theorem tb_536 : tb_G (Cond.selects RX0 yX0_wayOf yX0_wayOf) := ⟨tbI2 (List.mem_of_getElem? (i := 180) rfl), (Or.inl rfl)⟩
theorem tb_537 : tb_G (Cond.instanceMethod yX0_wayOf) := ⟨tbI2 (List.mem_of_getElem? (i := 179) rfl), (Or.inl rfl)⟩
theorem tb_538 : tb_G (Cond.methodLink RX4 177 yX0_wayOf) := ⟨tbI2 (List.mem_of_getElem? (i := 178) rfl), (Or.inl rfl)⟩
set_option maxRecDepth 20000 in
theorem tbL_wsX4_way_r1 : GoodIn lw_tbl wsX4_way_r1 := (gI_cons tb_123 (gI_cons tb_122 (gI_cons tb_1 (gI_cons tb_40 (gI_cons tb_230 (gI_cons tb_229 (gI_cons tb_228 (gI_cons tb_2 (gI_cons tb_253 (gI_cons tb_153 (gI_cons tb_119 (gI_cons tb_118 (gI_cons tb_19 (gI_cons tb_117 (gI_cons tb_538 (gI_cons tb_537 (gI_cons tb_536 (gI_cons tb_41 (gI_cons tb_535 (gI_cons tb_53 (gI_cons tb_534 (gI_cons tb_203 (gI_cons tb_202 (gI_cons tb_201 gI_nil))))))))))))))))))))))))
set_option maxRecDepth 20000 in
theorem tbL_wsX4_way_r2 : GoodIn lw_tbl wsX4_way_r2 := (gI_cons tb_152 (gI_cons tb_151 (gI_cons tb_150 (gI_cons tb_149 (gI_cons tb_33 (gI_cons tb_435 (gI_cons tb_434 (gI_cons tb_433 (gI_cons tb_54 (gI_cons tb_432 (gI_cons tb_74 (gI_cons tb_431 (gI_cons tb_430 (gI_cons tb_29 (gI_cons tb_28 (gI_cons tb_27 (gI_cons tb_429 (gI_cons tb_100 (gI_cons tb_99 (gI_cons tb_98 (gI_cons tb_35 (gI_cons tb_428 (gI_cons tb_427 (gI_cons tb_426 gI_nil))))))))))))))))))))))))
set_option maxRecDepth 20000 in
theorem tbL_wsX4_way_r3 : GoodIn lw_tbl wsX4_way_r3 := (gI_cons tb_425 (gI_cons tb_424 (gI_cons tb_423 (gI_cons tb_422 (gI_cons tb_421 (gI_cons tb_420 (gI_cons tb_73 (gI_cons tb_419 (gI_cons tb_418 (gI_cons tb_446 (gI_cons tb_445 (gI_cons tb_444 (gI_cons tb_443 (gI_cons tb_442 (gI_cons tb_441 (gI_cons tb_440 (gI_cons tb_439 (gI_cons tb_438 (gI_cons tb_437 (gI_cons tb_413 (gI_cons tb_481 (gI_cons tb_480 (gI_cons tb_479 (gI_cons tb_478 gI_nil))))))))))))))))))))))))
set_option maxRecDepth 20000 in
theorem tbL_wsX4_way_r4 : GoodIn lw_tbl wsX4_way_r4 := (gI_cons tb_477 (gI_cons tb_217 (gI_cons tb_210 (gI_cons tb_216 gI_nil))))
set_option maxRecDepth 20000 in
theorem tbL_wsX4_way : GoodIn lw_tbl wsX4_way := (gI_cons tb_533 (goodIn_app (goodIn_app (goodIn_app (goodIn_app (goodIn_app (goodIn_app tbL_wsX4_way_r1 (goodIn_app tbL_wsX4_way_r2 (goodIn_app tbL_wsX4_way_r3 tbL_wsX4_way_r4))) tbL_wsX40) tbL_wsX20) tbL_wsX00) tbL_wsX30) tb_x7))
theorem tb_539 : tb_G (.selects RX4 yX4_way yX4_way) := ⟨tbI2 (List.mem_of_getElem? (i := 175) rfl), (Or.inl rfl)⟩
theorem tb_540 : tb_G (.instanceMethod yX4_way) := ⟨tbI2 (List.mem_of_getElem? (i := 174) rfl), (Or.inl rfl)⟩
theorem tb_541 : tb_G (.methodLink RL 72 yX4_way) := ⟨tbI2 (List.mem_of_getElem? (i := 173) rfl), (Or.inl rfl)⟩
theorem tb_542 : tb_G (.code yX4_danger cX4_danger 3 (some .int)) := ⟨tbI3 (List.mem_of_getElem? (i := 120) rfl), (Or.inl rfl)⟩
set_option maxRecDepth 20000 in
theorem tbL_wsX4_danger_r1 : GoodIn lw_tbl wsX4_danger_r1 := (gI_cons tb_112 (gI_cons tb_111 (gI_cons tb_123 (gI_cons tb_122 (gI_cons tb_1 (gI_cons tb_175 (gI_cons tb_174 (gI_cons tb_19 (gI_cons tb_173 (gI_cons tb_119 (gI_cons tb_118 (gI_cons tb_117 (gI_cons tb_467 (gI_cons tb_466 (gI_cons tb_487 (gI_cons tb_2 (gI_cons tb_486 (gI_cons tb_153 (gI_cons tb_204 (gI_cons tb_203 (gI_cons tb_202 (gI_cons tb_201 (gI_cons tb_152 (gI_cons tb_151 gI_nil))))))))))))))))))))))))
set_option maxRecDepth 20000 in
theorem tbL_wsX4_danger_r2 : GoodIn lw_tbl wsX4_danger_r2 := (gI_cons tb_150 (gI_cons tb_149 (gI_cons tb_33 (gI_cons tb_184 (gI_cons tb_227 (gI_cons tb_226 (gI_cons tb_225 (gI_cons tb_224 (gI_cons tb_223 (gI_cons tb_222 (gI_cons tb_221 (gI_cons tb_220 (gI_cons tb_210 (gI_cons tb_219 (gI_cons tb_218 (gI_cons tb_217 (gI_cons tb_216 (gI_cons tb_215 (gI_cons tb_214 (gI_cons tb_213 (gI_cons tb_212 (gI_cons tb_211 (gI_cons tb_210 (gI_cons tb_209 gI_nil))))))))))))))))))))))))
set_option maxRecDepth 20000 in
theorem tbL_wsX4_danger_r3 : GoodIn lw_tbl wsX4_danger_r3 := (gI_cons tb_101 (gI_cons tb_100 (gI_cons tb_99 (gI_cons tb_98 (gI_cons tb_35 (gI_cons tb_159 (gI_cons tb_158 gI_nil)))))))
set_option maxRecDepth 20000 in
theorem tbL_wsX4_danger : GoodIn lw_tbl wsX4_danger := (gI_cons tb_542 (goodIn_app (goodIn_app (goodIn_app (goodIn_app (goodIn_app tbL_wsX4_danger_r1 (goodIn_app tbL_wsX4_danger_r2 tbL_wsX4_danger_r3)) tbL_wsX40) tbL_wsX20) tb_x6) tb_x7))
theorem tb_543 : tb_G (.selects RX4 yX4_danger yX4_danger) := ⟨tbI3 (List.mem_of_getElem? (i := 119) rfl), (Or.inl rfl)⟩
theorem tb_544 : tb_G (.instanceMethod yX4_danger) := ⟨tbI3 (List.mem_of_getElem? (i := 118) rfl), (Or.inl rfl)⟩
theorem tb_545 : tb_G (.methodLink RL 75 yX4_danger) := ⟨tbI3 (List.mem_of_getElem? (i := 117) rfl), (Or.inl rfl)⟩
set_option maxRecDepth 20000 in
theorem tbL_wsX5_draw : GoodIn lw_tbl wsX5_draw := (gI_cons tb_87 (goodIn_app (gI_cons tb_10 (gI_cons tb_9 (gI_cons tb_86 (gI_cons tb_85 (gI_cons tb_84 (gI_cons tb_83 (gI_cons tb_82 (gI_cons tb_81 (gI_cons tb_80 gI_nil))))))))) tbL_wsX50))
theorem tb_546 : tb_G (.methodLink RL 78 yX5_draw) := ⟨tbI4 (List.mem_of_getElem? (i := 8) rfl), (Or.inl rfl)⟩
set_option maxRecDepth 20000 in
theorem tbL_wsX5_step : GoodIn lw_tbl wsX5_step := (gI_cons tb_302 gI_nil)
theorem tb_547 : tb_G (.methodLink RL 86 yX5_step) := ⟨tbI4 (List.mem_of_getElem? (i := 59) rfl), (Or.inl rfl)⟩
theorem tb_548 : tb_G (.code yX4_ahead cX4_ahead 3 (some .int)) := ⟨tbI3 (List.mem_of_getElem? (i := 112) rfl), (Or.inl rfl)⟩
theorem tb_549 : tb_G (Cond.fieldLink RX2 43 "Warren$State" "actions" "I") := ⟨tbI2 (List.mem_of_getElem? (i := 231) rfl), (Or.inl rfl)⟩
theorem tb_550 : tb_G (Cond.methodLink RX2 33 arraycopyName) := ⟨tbI3 (List.mem_of_getElem? (i := 19) rfl), (Or.inl rfl)⟩
theorem tb_551 : tb_G (Cond.code yX2_copyFrom cX2_copyFrom 2 none) := ⟨tbI3 (List.mem_of_getElem? (i := 18) rfl), (Or.inl rfl)⟩
theorem tb_552 : tb_G (Cond.selects RX2 yX2_copyFrom yX2_copyFrom) := ⟨tbI3 (List.mem_of_getElem? (i := 17) rfl), (Or.inl rfl)⟩
theorem tb_553 : tb_G (Cond.instanceMethod yX2_copyFrom) := ⟨tbI3 (List.mem_of_getElem? (i := 16) rfl), (Or.inl rfl)⟩
theorem tb_554 : tb_G (Cond.methodLink RX4 197 yX2_copyFrom) := ⟨tbI3 (List.mem_of_getElem? (i := 15) rfl), (Or.inl rfl)⟩
set_option maxRecDepth 20000 in
theorem tbL_wsX4_ahead_r1 : GoodIn lw_tbl wsX4_ahead_r1 := (gI_cons tb_112 (gI_cons tb_111 (gI_cons tb_1 (gI_cons tb_48 (gI_cons tb_110 (gI_cons tb_109 (gI_cons tb_19 (gI_cons tb_108 (gI_cons tb_554 (gI_cons tb_553 (gI_cons tb_552 (gI_cons tb_2 (gI_cons tb_551 (gI_cons tb_35 (gI_cons tb_550 (gI_cons tb_141 (gI_cons tb_140 (gI_cons tb_139 (gI_cons tb_34 (gI_cons tb_33 (gI_cons tb_32 (gI_cons tb_31 (gI_cons tb_153 (gI_cons tb_549 gI_nil))))))))))))))))))))))))
theorem tb_555 : tb_G (Cond.code yX4_play cX4_play 4 (some .int)) := ⟨tbI2 (List.mem_of_getElem? (i := 16) rfl), (Or.inl rfl)⟩
theorem tb_556 : tb_G (Cond.selects RX4 yX4_play yX4_play) := ⟨tbP1 (List.mem_of_getElem? (i := 3) rfl), (Or.inl rfl)⟩
theorem tb_557 : tb_G (Cond.instanceMethod yX4_play) := ⟨tbI2 (List.mem_of_getElem? (i := 15) rfl), (Or.inl rfl)⟩
theorem tb_558 : tb_G (Cond.methodLink RX4 169 yX4_play) := ⟨tbI2 (List.mem_of_getElem? (i := 13) rfl), (Or.inl rfl)⟩
theorem tb_559 : tb_G (Cond.fieldLink RX2 46 "Warren$State" "hits" "I") := ⟨tbI2 (List.mem_of_getElem? (i := 234) rfl), (Or.inl rfl)⟩
set_option maxRecDepth 20000 in
theorem tbL_wsX4_ahead_r2 : GoodIn lw_tbl wsX4_ahead_r2 := (gI_cons tb_559 (gI_cons tb_558 (gI_cons tb_557 (gI_cons tb_556 (gI_cons tb_555 (gI_cons tb_40 (gI_cons tb_379 (gI_cons tb_378 (gI_cons tb_377 (gI_cons tb_376 (gI_cons tb_152 (gI_cons tb_151 (gI_cons tb_150 (gI_cons tb_149 (gI_cons tb_204 (gI_cons tb_203 (gI_cons tb_202 (gI_cons tb_201 (gI_cons tb_297 (gI_cons tb_163 (gI_cons tb_162 (gI_cons tb_161 (gI_cons tb_412 (gI_cons tb_411 gI_nil))))))))))))))))))))))))
set_option maxRecDepth 20000 in
theorem tbL_wsX4_ahead_r3 : GoodIn lw_tbl wsX4_ahead_r3 := (gI_cons tb_410 (gI_cons tb_41 (gI_cons tb_409 (gI_cons tb_53 (gI_cons tb_52 (gI_cons tb_408 (gI_cons tb_319 (gI_cons tb_318 (gI_cons tb_317 (gI_cons tb_316 (gI_cons tb_323 (gI_cons tb_322 (gI_cons tb_321 (gI_cons tb_224 (gI_cons tb_223 (gI_cons tb_222 (gI_cons tb_221 (gI_cons tb_220 (gI_cons tb_210 (gI_cons tb_219 (gI_cons tb_218 (gI_cons tb_217 (gI_cons tb_216 (gI_cons tb_184 gI_nil))))))))))))))))))))))))
set_option maxRecDepth 20000 in
theorem tbL_wsX4_ahead_r4 : GoodIn lw_tbl wsX4_ahead_r4 := (gI_cons tb_227 (gI_cons tb_226 (gI_cons tb_225 (gI_cons tb_215 (gI_cons tb_214 (gI_cons tb_213 (gI_cons tb_212 (gI_cons tb_211 (gI_cons tb_210 (gI_cons tb_209 (gI_cons tb_101 (gI_cons tb_100 (gI_cons tb_99 (gI_cons tb_98 (gI_cons tb_159 (gI_cons tb_158 (gI_cons tb_417 (gI_cons tb_416 (gI_cons tb_415 (gI_cons tb_414 (gI_cons tb_413 (gI_cons tb_435 (gI_cons tb_434 (gI_cons tb_433 gI_nil))))))))))))))))))))))))
set_option maxRecDepth 20000 in
theorem tbL_wsX4_ahead_r5 : GoodIn lw_tbl wsX4_ahead_r5 := (gI_cons tb_54 (gI_cons tb_432 (gI_cons tb_74 (gI_cons tb_431 (gI_cons tb_430 (gI_cons tb_29 (gI_cons tb_28 (gI_cons tb_27 (gI_cons tb_429 (gI_cons tb_428 (gI_cons tb_427 (gI_cons tb_426 (gI_cons tb_425 (gI_cons tb_424 (gI_cons tb_423 (gI_cons tb_422 (gI_cons tb_421 (gI_cons tb_420 (gI_cons tb_73 (gI_cons tb_419 (gI_cons tb_418 (gI_cons tb_446 (gI_cons tb_445 (gI_cons tb_444 gI_nil))))))))))))))))))))))))
set_option maxRecDepth 20000 in
theorem tbL_wsX4_ahead_r6 : GoodIn lw_tbl wsX4_ahead_r6 := (gI_cons tb_443 (gI_cons tb_442 (gI_cons tb_441 (gI_cons tb_440 (gI_cons tb_439 (gI_cons tb_438 (gI_cons tb_437 (gI_cons tb_436 (gI_cons tb_314 (gI_cons tb_313 (gI_cons tb_312 (gI_cons tb_311 (gI_cons tb_310 (gI_cons tb_309 (gI_cons tb_308 (gI_cons tb_307 (gI_cons tb_306 (gI_cons tb_305 (gI_cons tb_304 (gI_cons tb_303 (gI_cons tb_325 (gI_cons tb_156 (gI_cons tb_155 (gI_cons tb_154 gI_nil))))))))))))))))))))))))
set_option maxRecDepth 20000 in
theorem tbL_wsX4_ahead_r7 : GoodIn lw_tbl wsX4_ahead_r7 := (gI_cons tb_324 (gI_cons tb_320 (gI_cons tb_465 (gI_cons tb_464 (gI_cons tb_463 (gI_cons tb_462 (gI_cons tb_461 (gI_cons tb_270 (gI_cons tb_269 (gI_cons tb_268 (gI_cons tb_460 (gI_cons tb_459 (gI_cons tb_458 (gI_cons tb_457 (gI_cons tb_456 (gI_cons tb_398 (gI_cons tb_397 (gI_cons tb_396 (gI_cons tb_455 (gI_cons tb_454 (gI_cons tb_453 (gI_cons tb_452 (gI_cons tb_451 (gI_cons tb_450 gI_nil))))))))))))))))))))))))
set_option maxRecDepth 20000 in
theorem tbL_wsX4_ahead_r8 : GoodIn lw_tbl wsX4_ahead_r8 := (gI_cons tb_449 (gI_cons tb_448 (gI_cons tb_447 (gI_cons tb_485 (gI_cons tb_484 (gI_cons tb_483 (gI_cons tb_343 (gI_cons tb_342 (gI_cons tb_341 (gI_cons tb_271 (gI_cons tb_482 (gI_cons tb_481 (gI_cons tb_480 (gI_cons tb_479 (gI_cons tb_478 (gI_cons tb_477 (gI_cons tb_475 (gI_cons tb_474 (gI_cons tb_473 (gI_cons tb_472 (gI_cons tb_331 (gI_cons tb_330 (gI_cons tb_329 (gI_cons tb_328 gI_nil))))))))))))))))))))))))
set_option maxRecDepth 20000 in
theorem tbL_wsX4_ahead_r9 : GoodIn lw_tbl wsX4_ahead_r9 := (gI_cons tb_273 (gI_cons tb_272 (gI_cons tb_327 (gI_cons tb_326 (gI_cons tb_199 (gI_cons tb_198 (gI_cons tb_197 (gI_cons tb_347 (gI_cons tb_346 (gI_cons tb_345 (gI_cons tb_344 (gI_cons tb_340 (gI_cons tb_339 (gI_cons tb_338 (gI_cons tb_337 (gI_cons tb_274 (gI_cons tb_200 (gI_cons tb_336 (gI_cons tb_96 (gI_cons tb_138 (gI_cons tb_137 (gI_cons tb_335 (gI_cons tb_334 (gI_cons tb_333 gI_nil))))))))))))))))))))))))
set_option maxRecDepth 20000 in
theorem tbL_wsX4_ahead_r10 : GoodIn lw_tbl wsX4_ahead_r10 := (gI_cons tb_332 (gI_cons tb_277 (gI_cons tb_276 (gI_cons tb_275 (gI_cons tb_267 (gI_cons tb_266 (gI_cons tb_265 (gI_cons tb_264 (gI_cons tb_196 (gI_cons tb_195 (gI_cons tb_194 (gI_cons tb_193 (gI_cons tb_357 (gI_cons tb_356 (gI_cons tb_355 (gI_cons tb_354 (gI_cons tb_353 (gI_cons tb_352 (gI_cons tb_351 (gI_cons tb_350 (gI_cons tb_349 (gI_cons tb_348 (gI_cons tb_191 (gI_cons tb_190 gI_nil))))))))))))))))))))))))
theorem tb_560 : tb_G (Cond.code yX2_lifeOf cX2_lifeOf 4 (some .int)) := ⟨tbI3 (List.mem_of_getElem? (i := 116) rfl), (Or.inl rfl)⟩
theorem tb_561 : tb_G (Cond.selects RX2 yX2_lifeOf yX2_lifeOf) := ⟨tbI3 (List.mem_of_getElem? (i := 115) rfl), (Or.inl rfl)⟩
theorem tb_562 : tb_G (Cond.instanceMethod yX2_lifeOf) := ⟨tbI3 (List.mem_of_getElem? (i := 114) rfl), (Or.inl rfl)⟩
theorem tb_563 : tb_G (Cond.methodLink RX4 217 yX2_lifeOf) := ⟨tbI3 (List.mem_of_getElem? (i := 113) rfl), (Or.inl rfl)⟩
set_option maxRecDepth 20000 in
theorem tbL_wsX4_ahead_r11 : GoodIn lw_tbl wsX4_ahead_r11 := (gI_cons tb_189 (gI_cons tb_188 (gI_cons tb_187 (gI_cons tb_186 (gI_cons tb_185 (gI_cons tb_563 (gI_cons tb_562 (gI_cons tb_561 (gI_cons tb_560 gI_nil)))))))))
set_option maxRecDepth 20000 in
theorem tbL_wsX4_ahead : GoodIn lw_tbl wsX4_ahead := (gI_cons tb_548 (goodIn_app (goodIn_app (goodIn_app (goodIn_app (goodIn_app (goodIn_app tbL_wsX4_ahead_r1 (goodIn_app tbL_wsX4_ahead_r2 (goodIn_app tbL_wsX4_ahead_r3 (goodIn_app tbL_wsX4_ahead_r4 (goodIn_app tbL_wsX4_ahead_r5 (goodIn_app tbL_wsX4_ahead_r6 (goodIn_app tbL_wsX4_ahead_r7 (goodIn_app tbL_wsX4_ahead_r8 (goodIn_app tbL_wsX4_ahead_r9 (goodIn_app tbL_wsX4_ahead_r10 tbL_wsX4_ahead_r11)))))))))) tbL_wsX40) tbL_wsX20) tbL_wsX00) tbL_wsX30) tb_x6))
theorem tb_564 : tb_G (.selects RX4 yX4_ahead yX4_ahead) := ⟨tbI3 (List.mem_of_getElem? (i := 111) rfl), (Or.inl rfl)⟩
theorem tb_565 : tb_G (.instanceMethod yX4_ahead) := ⟨tbI3 (List.mem_of_getElem? (i := 110) rfl), (Or.inl rfl)⟩
theorem tb_566 : tb_G (.methodLink RL 88 yX4_ahead) := ⟨tbI3 (List.mem_of_getElem? (i := 109) rfl), (Or.inl rfl)⟩
theorem tb_567 : tb_G (.code yX4_meanLife cX4_meanLife 2 (some .double)) := ⟨tbI3 (List.mem_of_getElem? (i := 132) rfl), (Or.inl rfl)⟩
set_option maxRecDepth 20000 in
theorem tbL_wsX4_meanLife : GoodIn lw_tbl wsX4_meanLife := (gI_cons tb_567 (goodIn_app (goodIn_app (gI_cons tb_1 (gI_cons tb_379 (gI_cons tb_378 (gI_cons tb_377 (gI_cons tb_2 (gI_cons tb_376 (gI_cons tb_153 (gI_cons tb_152 (gI_cons tb_151 (gI_cons tb_150 (gI_cons tb_149 (gI_cons tb_33 (gI_cons tb_204 (gI_cons tb_203 (gI_cons tb_202 (gI_cons tb_201 (gI_cons tb_563 (gI_cons tb_562 (gI_cons tb_561 (gI_cons tb_560 gI_nil)))))))))))))))))))) tbL_wsX40) tbL_wsX20))
theorem tb_568 : tb_G (.selects RX4 yX4_meanLife yX4_meanLife) := ⟨tbI3 (List.mem_of_getElem? (i := 131) rfl), (Or.inl rfl)⟩
theorem tb_569 : tb_G (.instanceMethod yX4_meanLife) := ⟨tbI3 (List.mem_of_getElem? (i := 130) rfl), (Or.inl rfl)⟩
theorem tb_570 : tb_G (.methodLink RL 91 yX4_meanLife) := ⟨tbI3 (List.mem_of_getElem? (i := 129) rfl), (Or.inl rfl)⟩
theorem tb_571 : tb_G (.code yX4_save cX4_save 2 (some .int)) := ⟨tbI2 (List.mem_of_getElem? (i := 199) rfl), (Or.inl rfl)⟩
set_option maxRecDepth 20000 in
theorem tbL_wsX4_save_r1 : GoodIn lw_tbl wsX4_save_r1 := (gI_cons tb_121 (gI_cons tb_120 (gI_cons tb_44 (gI_cons tb_4 (gI_cons tb_3 (gI_cons tb_2 (gI_cons tb_1 (gI_cons tb_390 (gI_cons tb_389 (gI_cons tb_388 (gI_cons tb_45 (gI_cons tb_387 (gI_cons tb_386 (gI_cons tb_39 (gI_cons tb_38 (gI_cons tb_37 (gI_cons tb_36 (gI_cons tb_23 (gI_cons tb_22 (gI_cons tb_17 (gI_cons tb_35 (gI_cons tb_34 (gI_cons tb_33 (gI_cons tb_32 gI_nil))))))))))))))))))))))))
theorem tb_572 : tb_G (Cond.methodLink RJx4a65c 131 yJx4a65c_add_72be8) := ⟨tbI3 (List.mem_of_getElem? (i := 31) rfl), (Or.inl rfl)⟩
theorem tb_573 : tb_G (Cond.sameField "java/util/ArrayList" "java/util/AbstractList" "modCount" "I") := ⟨tbI3 (List.mem_of_getElem? (i := 169) rfl), (Or.inl rfl)⟩
theorem tb_574 : tb_G (Cond.fieldLink RJx4a65c 63 "java/util/ArrayList" "modCount" "I") := ⟨tbI3 (List.mem_of_getElem? (i := 168) rfl), (Or.inl rfl)⟩
theorem tb_575 : tb_G (Cond.code yJx4a65c_add_9ea2d cJx4a65c_add_9ea2d 2 (some .boolean)) := ⟨tbI3 (List.mem_of_getElem? (i := 30) rfl), (Or.inl rfl)⟩
theorem tb_576 : tb_G (Cond.instanceMethod yJx4a65c_add_9ea2d) := ⟨tbI3 (List.mem_of_getElem? (i := 28) rfl), (Or.inl rfl)⟩
theorem tb_577 : tb_G (Cond.selects RJx4a65c ⟨"java/util/List", "add", "(Ljava/lang/Object;)Z"⟩ yJx4a65c_add_9ea2d) := ⟨tbI3 (List.mem_of_getElem? (i := 26) rfl), (Or.inl rfl)⟩
theorem tb_578 : tb_G (Cond.methodLink RX4 201 ⟨"java/util/List", "add", "(Ljava/lang/Object;)Z"⟩) := ⟨tbI3 (List.mem_of_getElem? (i := 23) rfl), (Or.inl rfl)⟩
set_option maxRecDepth 20000 in
theorem tbL_wsX4_save_r2 : GoodIn lw_tbl wsX4_save_r2 := (gI_cons tb_31 (gI_cons tb_30 (gI_cons tb_29 (gI_cons tb_28 (gI_cons tb_27 (gI_cons tb_554 (gI_cons tb_553 (gI_cons tb_552 (gI_cons tb_551 (gI_cons tb_550 (gI_cons tb_141 (gI_cons tb_140 (gI_cons tb_139 (gI_cons tb_153 (gI_cons tb_549 (gI_cons tb_559 (gI_cons tb_578 (gI_cons tb_577 (gI_cons tb_576 (gI_cons tb_575 (gI_cons tb_574 (gI_cons tb_573 (gI_cons tb_70 (gI_cons tb_572 gI_nil))))))))))))))))))))))))
theorem tb_579 : tb_G (Cond.methodLink RJ8 201 yJ8_hugeLength_7cf53) := ⟨tbI3 (List.mem_of_getElem? (i := 51) rfl), (Or.inl rfl)⟩
theorem tb_580 : tb_G (Cond.constant RJ8 200 (2147483639)) := ⟨tbI3 (List.mem_of_getElem? (i := 50) rfl), (Or.inl rfl)⟩
theorem tb_581 : tb_G (Cond.methodLink RJ8 194 Lib.Math.max.name) := ⟨tbI3 (List.mem_of_getElem? (i := 49) rfl), (Or.inl rfl)⟩
theorem tb_582 : tb_G (Cond.code yJ8_newLength_cabcc cJ8_newLength_cabcc 4 (some .int)) := ⟨tbI3 (List.mem_of_getElem? (i := 48) rfl), (Or.inl rfl)⟩
theorem tb_583 : tb_G (Cond.initialized RJ8) := ⟨tbI1 (List.mem_of_getElem? (i := 19) rfl), (Or.inl rfl)⟩
theorem tb_584 : tb_G (Cond.static yJ8_newLength_cabcc) := ⟨tbI3 (List.mem_of_getElem? (i := 47) rfl), (Or.inl rfl)⟩
theorem tb_585 : tb_G (Cond.methodLink RJx4a65c 73 yJ8_newLength_cabcc) := ⟨tbI3 (List.mem_of_getElem? (i := 46) rfl), (Or.inl rfl)⟩
theorem tb_586 : tb_G (Cond.classLink RJx4a65c 7 "java/lang/Object") := ⟨tbI3 (List.mem_of_getElem? (i := 79) rfl), (Or.inl rfl)⟩
theorem tb_587 : tb_G (Cond.methodLink RJx4a65c 79 Lib.Math.max.name) := ⟨tbI3 (List.mem_of_getElem? (i := 78) rfl), (Or.inl rfl)⟩
theorem tb_588 : tb_G (Cond.code yJx4a65c_grow_92f84 cJx4a65c_grow_92f84 4 (some (.array (.object "java/lang/Object")))) := ⟨tbI3 (List.mem_of_getElem? (i := 43) rfl), (Or.inl rfl)⟩
theorem tb_589 : tb_G (Cond.selects RJx4a65c yJx4a65c_grow_92f84 yJx4a65c_grow_92f84) := ⟨tbP1 (List.mem_of_getElem? (i := 14) rfl), (Or.inl rfl)⟩
theorem tb_590 : tb_G (Cond.instanceMethod yJx4a65c_grow_92f84) := ⟨tbI3 (List.mem_of_getElem? (i := 42) rfl), (Or.inl rfl)⟩
theorem tb_591 : tb_G (Cond.methodLink RJx4a65c 69 yJx4a65c_grow_92f84) := ⟨tbI3 (List.mem_of_getElem? (i := 40) rfl), (Or.inl rfl)⟩
theorem tb_592 : tb_G (Cond.code yJx4a65c_grow_d5877 cJx4a65c_grow_d5877 1 (some (.array (.object "java/lang/Object")))) := ⟨tbI3 (List.mem_of_getElem? (i := 39) rfl), (Or.inl rfl)⟩
theorem tb_593 : tb_G (Cond.selects RJx4a65c yJx4a65c_grow_d5877 yJx4a65c_grow_d5877) := ⟨tbP1 (List.mem_of_getElem? (i := 13) rfl), (Or.inl rfl)⟩
theorem tb_594 : tb_G (Cond.instanceMethod yJx4a65c_grow_d5877) := ⟨tbI3 (List.mem_of_getElem? (i := 38) rfl), (Or.inl rfl)⟩
theorem tb_595 : tb_G (Cond.methodLink RJx4a65c 129 yJx4a65c_grow_d5877) := ⟨tbI3 (List.mem_of_getElem? (i := 36) rfl), (Or.inl rfl)⟩
theorem tb_596 : tb_G (Cond.code yJx4a65c_add_72be8 cJx4a65c_add_72be8 4 none) := ⟨tbI3 (List.mem_of_getElem? (i := 35) rfl), (Or.inl rfl)⟩
theorem tb_597 : tb_G (Cond.selects RJx4a65c yJx4a65c_add_72be8 yJx4a65c_add_72be8) := ⟨tbP1 (List.mem_of_getElem? (i := 12) rfl), (Or.inl rfl)⟩
theorem tb_598 : tb_G (Cond.instanceMethod yJx4a65c_add_72be8) := ⟨tbI3 (List.mem_of_getElem? (i := 33) rfl), (Or.inl rfl)⟩
set_option maxRecDepth 20000 in
theorem tbL_wsX4_save_r3 : GoodIn lw_tbl wsX4_save_r3 := (gI_cons tb_598 (gI_cons tb_597 (gI_cons tb_596 (gI_cons tb_595 (gI_cons tb_594 (gI_cons tb_593 (gI_cons tb_592 (gI_cons tb_591 (gI_cons tb_590 (gI_cons tb_589 (gI_cons tb_588 (gI_cons tb_71 (gI_cons tb_587 (gI_cons tb_217 (gI_cons tb_210 (gI_cons tb_216 (gI_cons tb_586 (gI_cons tb_585 (gI_cons tb_584 (gI_cons tb_583 (gI_cons tb_582 (gI_cons tb_581 (gI_cons tb_580 (gI_cons tb_579 gI_nil))))))))))))))))))))))))
theorem tb_599 : tb_G (Cond.methodLink RJ7 150 arraycopyName) := ⟨tbI3 (List.mem_of_getElem? (i := 77) rfl), (Or.inl rfl)⟩
theorem tb_600 : tb_G (Cond.methodLink RJ7 304 Lib.Math.min.name) := ⟨tbI3 (List.mem_of_getElem? (i := 76) rfl), (Or.inl rfl)⟩
theorem tb_601 : tb_G (Cond.classLink RJ7 2 "java/lang/Object") := ⟨tbI3 (List.mem_of_getElem? (i := 75) rfl), (Or.inl rfl)⟩
theorem tb_602 : tb_G (Cond.classLink RJ7 110 "[Ljava/lang/Object;") := ⟨tbI3 (List.mem_of_getElem? (i := 73) rfl), (Or.inl rfl)⟩
theorem tb_603 : tb_G (Cond.code yJ7_copyOf_6403c cJ7_copyOf_6403c 4 (some (.array (.object "java/lang/Object")))) := ⟨tbI3 (List.mem_of_getElem? (i := 72) rfl), (Or.inl rfl)⟩
theorem tb_604 : tb_G (Cond.static yJ7_copyOf_6403c) := ⟨tbI3 (List.mem_of_getElem? (i := 71) rfl), (Or.inl rfl)⟩
theorem tb_605 : tb_G (Cond.methodLink RJ7 300 yJ7_copyOf_6403c) := ⟨tbI3 (List.mem_of_getElem? (i := 70) rfl), (Or.inl rfl)⟩
theorem tb_606 : tb_G (Cond.native ⟨"java/lang/Object", "getClass", "()Ljava/lang/Class;"⟩) := ⟨tbI3 (List.mem_of_getElem? (i := 69) rfl), (Or.inl rfl)⟩
theorem tb_607 : tb_G (Cond.instanceMethod ⟨"java/lang/Object", "getClass", "()Ljava/lang/Class;"⟩) := ⟨tbI3 (List.mem_of_getElem? (i := 58) rfl), (Or.inl rfl)⟩
theorem tb_608 : tb_G (Cond.selects "[Ljava/lang/Object;" ⟨"java/lang/Object", "getClass", "()Ljava/lang/Class;"⟩ ⟨"java/lang/Object", "getClass", "()Ljava/lang/Class;"⟩) := ⟨tbI4 (List.mem_of_getElem? (i := 167) rfl), (Or.inl rfl)⟩
theorem tb_609 : tb_G (Cond.methodLink RJ7 86 ⟨"java/lang/Object", "getClass", "()Ljava/lang/Class;"⟩) := ⟨tbI3 (List.mem_of_getElem? (i := 57) rfl), (Or.inl rfl)⟩
theorem tb_610 : tb_G (Cond.code yJ7_copyOf_1904c cJ7_copyOf_1904c 2 (some (.array (.object "java/lang/Object")))) := ⟨tbI3 (List.mem_of_getElem? (i := 56) rfl), (Or.inl rfl)⟩
theorem tb_611 : tb_G (Cond.static yJ7_copyOf_1904c) := ⟨tbI3 (List.mem_of_getElem? (i := 55) rfl), (Or.inl rfl)⟩
theorem tb_612 : tb_G (Cond.methodLink RJx4a65c 66 yJ7_copyOf_1904c) := ⟨tbI3 (List.mem_of_getElem? (i := 54) rfl), (Or.inl rfl)⟩
theorem tb_613 : tb_G (Cond.code yJ8_hugeLength_7cf53 cJ8_hugeLength_7cf53 3 (some .int)) := ⟨tbI3 (List.mem_of_getElem? (i := 53) rfl), (Or.inl rfl)⟩
theorem tb_614 : tb_G (Cond.static yJ8_hugeLength_7cf53) := ⟨tbI3 (List.mem_of_getElem? (i := 52) rfl), (Or.inl rfl)⟩
set_option maxRecDepth 20000 in
theorem tbL_wsX4_save_r4 : GoodIn lw_tbl wsX4_save_r4 := (gI_cons tb_614 (gI_cons tb_613 (gI_cons tb_612 (gI_cons tb_611 (gI_cons tb_610 (gI_cons tb_609 (gI_cons tb_608 (gI_cons tb_607 (gI_cons tb_606 (gI_cons tb_605 (gI_cons tb_604 (gI_cons tb_603 (gI_cons tb_602 (gI_cons tb_601 (gI_cons tb_600 (gI_cons tb_273 (gI_cons tb_272 (gI_cons tb_599 gI_nil))))))))))))))))))
set_option maxRecDepth 20000 in
theorem tbL_wsX4_save : GoodIn lw_tbl wsX4_save := (gI_cons tb_571 (goodIn_app (goodIn_app (goodIn_app (goodIn_app (goodIn_app tbL_wsX4_save_r1 (goodIn_app tbL_wsX4_save_r2 (goodIn_app tbL_wsX4_save_r3 tbL_wsX4_save_r4))) tbL_wsX40) tbL_wsX20) tbL_wsJx4a65c0) tb_x8))
theorem tb_615 : tb_G (.selects RX4 yX4_save yX4_save) := ⟨tbI2 (List.mem_of_getElem? (i := 198) rfl), (Or.inl rfl)⟩
theorem tb_616 : tb_G (.instanceMethod yX4_save) := ⟨tbI2 (List.mem_of_getElem? (i := 197) rfl), (Or.inl rfl)⟩
theorem tb_617 : tb_G (.methodLink RL 97 yX4_save) := ⟨tbI2 (List.mem_of_getElem? (i := 196) rfl), (Or.inl rfl)⟩
theorem tb_618 : tb_G (.code yX4_follow cX4_follow 2 (some .int)) := ⟨tbI2 (List.mem_of_getElem? (i := 11) rfl), (Or.inl rfl)⟩
set_option maxRecDepth 20000 in
theorem tbL_wsX4_follow_r1 : GoodIn lw_tbl wsX4_follow_r1 := (gI_cons tb_112 (gI_cons tb_111 (gI_cons tb_110 (gI_cons tb_109 (gI_cons tb_19 (gI_cons tb_108 (gI_cons tb_558 (gI_cons tb_557 (gI_cons tb_556 (gI_cons tb_555 (gI_cons tb_1 (gI_cons tb_40 (gI_cons tb_379 (gI_cons tb_378 (gI_cons tb_377 (gI_cons tb_2 (gI_cons tb_376 (gI_cons tb_153 (gI_cons tb_152 (gI_cons tb_151 (gI_cons tb_150 (gI_cons tb_149 (gI_cons tb_33 (gI_cons tb_204 gI_nil))))))))))))))))))))))))
set_option maxRecDepth 20000 in
theorem tbL_wsX4_follow_r2 : GoodIn lw_tbl wsX4_follow_r2 := (gI_cons tb_203 (gI_cons tb_202 (gI_cons tb_201 (gI_cons tb_297 (gI_cons tb_163 (gI_cons tb_162 (gI_cons tb_161 (gI_cons tb_412 (gI_cons tb_411 (gI_cons tb_410 (gI_cons tb_41 (gI_cons tb_409 (gI_cons tb_53 (gI_cons tb_52 (gI_cons tb_408 (gI_cons tb_319 (gI_cons tb_318 (gI_cons tb_317 (gI_cons tb_316 (gI_cons tb_323 (gI_cons tb_322 (gI_cons tb_321 (gI_cons tb_224 (gI_cons tb_223 gI_nil))))))))))))))))))))))))
set_option maxRecDepth 20000 in
theorem tbL_wsX4_follow_r3 : GoodIn lw_tbl wsX4_follow_r3 := (gI_cons tb_222 (gI_cons tb_221 (gI_cons tb_220 (gI_cons tb_210 (gI_cons tb_219 (gI_cons tb_218 (gI_cons tb_217 (gI_cons tb_216 (gI_cons tb_184 (gI_cons tb_227 (gI_cons tb_226 (gI_cons tb_225 (gI_cons tb_215 (gI_cons tb_214 (gI_cons tb_213 (gI_cons tb_212 (gI_cons tb_211 (gI_cons tb_210 (gI_cons tb_209 (gI_cons tb_101 (gI_cons tb_100 (gI_cons tb_99 (gI_cons tb_98 (gI_cons tb_35 gI_nil))))))))))))))))))))))))
set_option maxRecDepth 20000 in
theorem tbL_wsX4_follow_r4 : GoodIn lw_tbl wsX4_follow_r4 := (gI_cons tb_159 (gI_cons tb_158 (gI_cons tb_417 (gI_cons tb_416 (gI_cons tb_415 (gI_cons tb_414 (gI_cons tb_413 (gI_cons tb_435 (gI_cons tb_434 (gI_cons tb_433 (gI_cons tb_54 (gI_cons tb_432 (gI_cons tb_74 (gI_cons tb_431 (gI_cons tb_430 (gI_cons tb_29 (gI_cons tb_28 (gI_cons tb_27 (gI_cons tb_429 (gI_cons tb_428 (gI_cons tb_427 (gI_cons tb_426 (gI_cons tb_425 (gI_cons tb_424 gI_nil))))))))))))))))))))))))
set_option maxRecDepth 20000 in
theorem tbL_wsX4_follow_r5 : GoodIn lw_tbl wsX4_follow_r5 := (gI_cons tb_423 (gI_cons tb_422 (gI_cons tb_421 (gI_cons tb_420 (gI_cons tb_73 (gI_cons tb_419 (gI_cons tb_418 (gI_cons tb_446 (gI_cons tb_445 (gI_cons tb_444 (gI_cons tb_443 (gI_cons tb_442 (gI_cons tb_441 (gI_cons tb_440 (gI_cons tb_439 (gI_cons tb_438 (gI_cons tb_437 (gI_cons tb_436 (gI_cons tb_314 (gI_cons tb_313 (gI_cons tb_312 (gI_cons tb_311 (gI_cons tb_310 (gI_cons tb_309 gI_nil))))))))))))))))))))))))
set_option maxRecDepth 20000 in
theorem tbL_wsX4_follow_r6 : GoodIn lw_tbl wsX4_follow_r6 := (gI_cons tb_308 (gI_cons tb_307 (gI_cons tb_306 (gI_cons tb_305 (gI_cons tb_304 (gI_cons tb_303 (gI_cons tb_325 (gI_cons tb_156 (gI_cons tb_155 (gI_cons tb_154 (gI_cons tb_324 (gI_cons tb_320 (gI_cons tb_465 (gI_cons tb_464 (gI_cons tb_463 (gI_cons tb_462 (gI_cons tb_461 (gI_cons tb_270 (gI_cons tb_269 (gI_cons tb_268 (gI_cons tb_32 (gI_cons tb_460 (gI_cons tb_459 (gI_cons tb_458 gI_nil))))))))))))))))))))))))
set_option maxRecDepth 20000 in
theorem tbL_wsX4_follow_r7 : GoodIn lw_tbl wsX4_follow_r7 := (gI_cons tb_457 (gI_cons tb_456 (gI_cons tb_398 (gI_cons tb_397 (gI_cons tb_396 (gI_cons tb_455 (gI_cons tb_454 (gI_cons tb_453 (gI_cons tb_452 (gI_cons tb_451 (gI_cons tb_450 (gI_cons tb_449 (gI_cons tb_448 (gI_cons tb_447 (gI_cons tb_485 (gI_cons tb_484 (gI_cons tb_483 (gI_cons tb_343 (gI_cons tb_342 (gI_cons tb_341 (gI_cons tb_271 (gI_cons tb_482 (gI_cons tb_481 (gI_cons tb_480 gI_nil))))))))))))))))))))))))
set_option maxRecDepth 20000 in
theorem tbL_wsX4_follow_r8 : GoodIn lw_tbl wsX4_follow_r8 := (gI_cons tb_479 (gI_cons tb_478 (gI_cons tb_477 (gI_cons tb_475 (gI_cons tb_474 (gI_cons tb_473 (gI_cons tb_472 (gI_cons tb_331 (gI_cons tb_330 (gI_cons tb_329 (gI_cons tb_328 (gI_cons tb_273 (gI_cons tb_272 (gI_cons tb_327 (gI_cons tb_326 (gI_cons tb_199 (gI_cons tb_198 (gI_cons tb_197 (gI_cons tb_347 (gI_cons tb_346 (gI_cons tb_345 (gI_cons tb_344 (gI_cons tb_340 (gI_cons tb_339 gI_nil))))))))))))))))))))))))
set_option maxRecDepth 20000 in
theorem tbL_wsX4_follow_r9 : GoodIn lw_tbl wsX4_follow_r9 := (gI_cons tb_338 (gI_cons tb_337 (gI_cons tb_274 (gI_cons tb_200 (gI_cons tb_336 (gI_cons tb_96 (gI_cons tb_138 (gI_cons tb_137 (gI_cons tb_335 (gI_cons tb_334 (gI_cons tb_333 (gI_cons tb_332 (gI_cons tb_277 (gI_cons tb_276 (gI_cons tb_275 (gI_cons tb_267 (gI_cons tb_266 (gI_cons tb_265 (gI_cons tb_264 (gI_cons tb_31 (gI_cons tb_196 (gI_cons tb_195 (gI_cons tb_194 (gI_cons tb_193 gI_nil))))))))))))))))))))))))
set_option maxRecDepth 20000 in
theorem tbL_wsX4_follow_r10 : GoodIn lw_tbl wsX4_follow_r10 := (gI_cons tb_357 (gI_cons tb_356 (gI_cons tb_355 (gI_cons tb_354 (gI_cons tb_353 (gI_cons tb_352 (gI_cons tb_351 (gI_cons tb_350 (gI_cons tb_349 (gI_cons tb_348 (gI_cons tb_191 (gI_cons tb_190 (gI_cons tb_189 (gI_cons tb_34 (gI_cons tb_188 (gI_cons tb_187 (gI_cons tb_186 (gI_cons tb_185 gI_nil))))))))))))))))))
set_option maxRecDepth 20000 in
theorem tbL_wsX4_follow : GoodIn lw_tbl wsX4_follow := (gI_cons tb_618 (goodIn_app (goodIn_app (goodIn_app (goodIn_app (goodIn_app (goodIn_app tbL_wsX4_follow_r1 (goodIn_app tbL_wsX4_follow_r2 (goodIn_app tbL_wsX4_follow_r3 (goodIn_app tbL_wsX4_follow_r4 (goodIn_app tbL_wsX4_follow_r5 (goodIn_app tbL_wsX4_follow_r6 (goodIn_app tbL_wsX4_follow_r7 (goodIn_app tbL_wsX4_follow_r8 (goodIn_app tbL_wsX4_follow_r9 tbL_wsX4_follow_r10))))))))) tbL_wsX40) tbL_wsX20) tbL_wsX00) tbL_wsX30) tb_x6))
theorem tb_619 : tb_G (.selects RX4 yX4_follow yX4_follow) := ⟨tbI2 (List.mem_of_getElem? (i := 10) rfl), (Or.inl rfl)⟩
theorem tb_620 : tb_G (.instanceMethod yX4_follow) := ⟨tbI2 (List.mem_of_getElem? (i := 9) rfl), (Or.inl rfl)⟩
theorem tb_621 : tb_G (.methodLink RL 101 yX4_follow) := ⟨tbI2 (List.mem_of_getElem? (i := 8) rfl), (Or.inl rfl)⟩
set_option maxRecDepth 20000 in
theorem tbL_wsX4_dig : GoodIn lw_tbl wsX4_dig := (gI_cons tb_113 (goodIn_app (goodIn_app (goodIn_app (gI_cons tb_112 (gI_cons tb_111 (gI_cons tb_1 (gI_cons tb_110 (gI_cons tb_109 (gI_cons tb_19 (gI_cons tb_108 (gI_cons tb_107 (gI_cons tb_106 (gI_cons tb_105 (gI_cons tb_2 (gI_cons tb_104 (gI_cons tb_103 (gI_cons tb_102 (gI_cons tb_101 (gI_cons tb_100 (gI_cons tb_99 (gI_cons tb_98 (gI_cons tb_35 (gI_cons tb_97 (gI_cons tb_96 (gI_cons tb_138 (gI_cons tb_137 gI_nil))))))))))))))))))))))) tbL_wsX40) tbL_wsX20) tb_x6))
theorem tb_622 : tb_G (.methodLink RL 104 yX4_dig) := ⟨tbI1 (List.mem_of_getElem? (i := 22) rfl), (Or.inl rfl)⟩
theorem tb_623 : tb_G (.code yX4_load cX4_load 2 (some .int)) := ⟨tbI3 (List.mem_of_getElem? (i := 83) rfl), (Or.inl rfl)⟩
theorem tb_624 : tb_G (Cond.methodLink RJx4a65c 123 yJx4a65c_elementData_915e3) := ⟨tbI3 (List.mem_of_getElem? (i := 100) rfl), (Or.inl rfl)⟩
theorem tb_625 : tb_G (Cond.code yJ3_checkIndex_8e157 cJ3_checkIndex_8e157 3 (some .int)) := ⟨tbI3 (List.mem_of_getElem? (i := 99) rfl), (Or.inl rfl)⟩
theorem tb_626 : tb_G (Cond.initialized RJ3) := ⟨tbI1 (List.mem_of_getElem? (i := 21) rfl), (Or.inl rfl)⟩
theorem tb_627 : tb_G (Cond.static yJ3_checkIndex_8e157) := ⟨tbI3 (List.mem_of_getElem? (i := 98) rfl), (Or.inl rfl)⟩
theorem tb_628 : tb_G (Cond.methodLink RJ15 105 yJ3_checkIndex_8e157) := ⟨tbI3 (List.mem_of_getElem? (i := 97) rfl), (Or.inl rfl)⟩
theorem tb_629 : tb_G (Cond.code yJ15_checkIndex_7cf53 cJ15_checkIndex_7cf53 2 (some .int)) := ⟨tbI3 (List.mem_of_getElem? (i := 96) rfl), (Or.inl rfl)⟩
theorem tb_630 : tb_G (Cond.initialized RJ15) := ⟨tbI1 (List.mem_of_getElem? (i := 20) rfl), (Or.inl rfl)⟩
theorem tb_631 : tb_G (Cond.static yJ15_checkIndex_7cf53) := ⟨tbI3 (List.mem_of_getElem? (i := 95) rfl), (Or.inl rfl)⟩
theorem tb_632 : tb_G (Cond.methodLink RJx4a65c 118 yJ15_checkIndex_7cf53) := ⟨tbI3 (List.mem_of_getElem? (i := 94) rfl), (Or.inl rfl)⟩
theorem tb_633 : tb_G (Cond.code yJx4a65c_get_915e3 cJx4a65c_get_915e3 2 (some (.object "java/lang/Object"))) := ⟨tbI3 (List.mem_of_getElem? (i := 93) rfl), (Or.inl rfl)⟩
theorem tb_634 : tb_G (Cond.instanceMethod yJx4a65c_get_915e3) := ⟨tbI3 (List.mem_of_getElem? (i := 91) rfl), (Or.inl rfl)⟩
theorem tb_635 : tb_G (Cond.selects RJx4a65c ⟨"java/util/List", "get", "(I)Ljava/lang/Object;"⟩ yJx4a65c_get_915e3) := ⟨tbI3 (List.mem_of_getElem? (i := 89) rfl), (Or.inl rfl)⟩
theorem tb_636 : tb_G (Cond.methodLink RX4 207 ⟨"java/util/List", "get", "(I)Ljava/lang/Object;"⟩) := ⟨tbI3 (List.mem_of_getElem? (i := 86) rfl), (Or.inl rfl)⟩
set_option maxRecDepth 20000 in
theorem tbL_wsX4_load_r1 : GoodIn lw_tbl wsX4_load_r1 := (gI_cons tb_123 (gI_cons tb_122 (gI_cons tb_44 (gI_cons tb_1 (gI_cons tb_4 (gI_cons tb_390 (gI_cons tb_389 (gI_cons tb_388 (gI_cons tb_45 (gI_cons tb_387 (gI_cons tb_386 (gI_cons tb_636 (gI_cons tb_635 (gI_cons tb_634 (gI_cons tb_633 (gI_cons tb_632 (gI_cons tb_631 (gI_cons tb_630 (gI_cons tb_629 (gI_cons tb_628 (gI_cons tb_627 (gI_cons tb_626 (gI_cons tb_625 (gI_cons tb_624 gI_nil))))))))))))))))))))))))
theorem tb_637 : tb_G (Cond.code yJx4a65c_elementData_915e3 cJx4a65c_elementData_915e3 2 (some (.object "java/lang/Object"))) := ⟨tbI3 (List.mem_of_getElem? (i := 103) rfl), (Or.inl rfl)⟩
theorem tb_638 : tb_G (Cond.selects RJx4a65c yJx4a65c_elementData_915e3 yJx4a65c_elementData_915e3) := ⟨tbI3 (List.mem_of_getElem? (i := 102) rfl), (Or.inl rfl)⟩
theorem tb_639 : tb_G (Cond.instanceMethod yJx4a65c_elementData_915e3) := ⟨tbI3 (List.mem_of_getElem? (i := 101) rfl), (Or.inl rfl)⟩
set_option maxRecDepth 20000 in
theorem tbL_wsX4_load_r2 : GoodIn lw_tbl wsX4_load_r2 := (gI_cons tb_639 (gI_cons tb_638 (gI_cons tb_637 (gI_cons tb_70 (gI_cons tb_554 (gI_cons tb_553 (gI_cons tb_552 (gI_cons tb_2 (gI_cons tb_551 (gI_cons tb_35 (gI_cons tb_550 (gI_cons tb_141 (gI_cons tb_140 (gI_cons tb_139 (gI_cons tb_34 (gI_cons tb_33 (gI_cons tb_32 (gI_cons tb_31 (gI_cons tb_153 (gI_cons tb_549 (gI_cons tb_559 (gI_cons tb_379 (gI_cons tb_378 (gI_cons tb_377 gI_nil))))))))))))))))))))))))
set_option maxRecDepth 20000 in
theorem tbL_wsX4_load_r3 : GoodIn lw_tbl wsX4_load_r3 := (gI_cons tb_376 (gI_cons tb_152 (gI_cons tb_151 (gI_cons tb_150 (gI_cons tb_149 (gI_cons tb_204 (gI_cons tb_203 (gI_cons tb_202 (gI_cons tb_201 gI_nil)))))))))
set_option maxRecDepth 20000 in
theorem tbL_wsX4_load : GoodIn lw_tbl wsX4_load := (gI_cons tb_623 (goodIn_app (goodIn_app (goodIn_app (goodIn_app (goodIn_app tbL_wsX4_load_r1 (goodIn_app tbL_wsX4_load_r2 tbL_wsX4_load_r3)) tbL_wsX40) tbL_wsJx4a65c0) tbL_wsX20) tb_x7))
theorem tb_640 : tb_G (.selects RX4 yX4_load yX4_load) := ⟨tbI3 (List.mem_of_getElem? (i := 82) rfl), (Or.inl rfl)⟩
theorem tb_641 : tb_G (.instanceMethod yX4_load) := ⟨tbI3 (List.mem_of_getElem? (i := 81) rfl), (Or.inl rfl)⟩
theorem tb_642 : tb_G (.methodLink RL 108 yX4_load) := ⟨tbI3 (List.mem_of_getElem? (i := 80) rfl), (Or.inl rfl)⟩
theorem inX0 : ∀ w ∈ wsX00, w ∈ lw_tbl := fun w h => (tbL_wsX00 w h).1
theorem inX2 : ∀ w ∈ wsX20, w ∈ lw_tbl := fun w h => (tbL_wsX20 w h).1
theorem inX3 : ∀ w ∈ wsX30, w ∈ lw_tbl := fun w h => (tbL_wsX30 w h).1
theorem inX4 : ∀ w ∈ wsX40, w ∈ lw_tbl := fun w h => (tbL_wsX40 w h).1
theorem inX5 : ∀ w ∈ wsX50, w ∈ lw_tbl := fun w h => (tbL_wsX50 w h).1
theorem inJx4a65c : ∀ w ∈ wsJx4a65c0, w ∈ lw_tbl := fun w h => (tbL_wsJx4a65c0 w h).1
theorem ggL_law_X5_init : GoodIn lw_tbl wsX5_init := tbL_wsX5_init
theorem gL_law_X5_init : GoodIn lw_tbl (wsX5_init) := tbL_wsX5_init
theorem ggL_law_X5_found : GoodIn lw_tbl wsX5_found := tbL_wsX5_found
theorem gL_law_X5_found : GoodIn lw_tbl (wsV RL 18 RX5 yX5_found wsX5_found) := goodIn_app (gI_cons tb_256 (gI_cons tb_255 (gI_cons tb_254 (gI_cons tb_92 gI_nil)))) tbL_wsX5_found
theorem ggL_law_X5_lay : GoodIn lw_tbl wsX5_lay := tbL_wsX5_lay
theorem gL_law_X5_lay : GoodIn lw_tbl (wsV RL 22 RX5 yX5_lay wsX5_lay) := goodIn_app (gI_cons tb_285 (gI_cons tb_284 (gI_cons tb_283 (gI_cons tb_92 gI_nil)))) tbL_wsX5_lay
theorem ggL_law_X5_step_ : GoodIn lw_tbl wsX5_step_ := tbL_wsX5_step_
theorem gL_law_X5_step_ : GoodIn lw_tbl (wsV RL 26 RX5 yX5_step_ wsX5_step_) := goodIn_app (gI_cons tb_373 (gI_cons tb_372 (gI_cons tb_371 (gI_cons tb_92 gI_nil)))) tbL_wsX5_step_
theorem ggL_law_X5_set : GoodIn lw_tbl wsX5_set := tbL_wsX5_set
theorem gL_law_X5_set : GoodIn lw_tbl (wsV RL 29 RX5 yX5_set wsX5_set) := goodIn_app (gI_cons tb_374 (gI_cons tb_135 (gI_cons tb_134 (gI_cons tb_92 gI_nil)))) tbL_wsX5_set
theorem ggL_law_X4_digest : GoodIn lw_tbl wsX4_digest := tbL_wsX4_digest
theorem gL_law_X4_digest : GoodIn lw_tbl (wsV RL 32 RX4 yX4_digest wsX4_digest) := goodIn_app (gI_cons tb_490 (gI_cons tb_489 (gI_cons tb_488 (gI_cons tb_19 gI_nil)))) tbL_wsX4_digest
theorem ggL_law_X4_many : GoodIn lw_tbl wsX4_many := tbL_wsX4_many
theorem gL_law_X4_many : GoodIn lw_tbl (wsV RL 38 RX4 yX4_many wsX4_many) := goodIn_app (gI_cons tb_494 (gI_cons tb_493 (gI_cons tb_492 (gI_cons tb_19 gI_nil)))) tbL_wsX4_many
theorem ggL_law_X4_of : GoodIn lw_tbl wsX4_of := tbL_wsX4_of
theorem gL_law_X4_of : GoodIn lw_tbl (wsV RL 42 RX4 yX4_of wsX4_of) := goodIn_app (gI_cons tb_498 (gI_cons tb_497 (gI_cons tb_496 (gI_cons tb_19 gI_nil)))) tbL_wsX4_of
theorem ggL_law_X4_effect : GoodIn lw_tbl wsX4_effect := tbL_wsX4_effect
theorem gL_law_X4_effect : GoodIn lw_tbl (wsV RL 46 RX4 yX4_effect wsX4_effect) := goodIn_app (gI_cons tb_502 (gI_cons tb_501 (gI_cons tb_500 (gI_cons tb_19 gI_nil)))) tbL_wsX4_effect
theorem ggL_law_X4_target : GoodIn lw_tbl wsX4_target := tbL_wsX4_target
theorem gL_law_X4_target : GoodIn lw_tbl (wsV RL 50 RX4 yX4_target wsX4_target) := goodIn_app (gI_cons tb_506 (gI_cons tb_505 (gI_cons tb_504 (gI_cons tb_19 gI_nil)))) tbL_wsX4_target
theorem ggL_law_X4_plan : GoodIn lw_tbl wsX4_plan := tbL_wsX4_plan
theorem gL_law_X4_plan : GoodIn lw_tbl (wsV RL 53 RX4 yX4_plan wsX4_plan) := goodIn_app (gI_cons tb_510 (gI_cons tb_509 (gI_cons tb_508 (gI_cons tb_19 gI_nil)))) tbL_wsX4_plan
theorem ggL_law_X4_worth : GoodIn lw_tbl wsX4_worth := tbL_wsX4_worth
theorem gL_law_X4_worth : GoodIn lw_tbl (wsV RL 56 RX4 yX4_worth wsX4_worth) := goodIn_app (gI_cons tb_514 (gI_cons tb_513 (gI_cons tb_512 (gI_cons tb_19 gI_nil)))) tbL_wsX4_worth
theorem ggL_law_X4_hit : GoodIn lw_tbl wsX4_hit := tbL_wsX4_hit
theorem gL_law_X4_hit : GoodIn lw_tbl (wsV RL 59 RX4 yX4_hit wsX4_hit) := goodIn_app (gI_cons tb_519 (gI_cons tb_518 (gI_cons tb_517 (gI_cons tb_19 gI_nil)))) tbL_wsX4_hit
theorem ggL_law_X4_on : GoodIn lw_tbl wsX4_on := tbL_wsX4_on
theorem gL_law_X4_on : GoodIn lw_tbl (wsV RL 62 RX4 yX4_on wsX4_on) := goodIn_app (gI_cons tb_523 (gI_cons tb_522 (gI_cons tb_521 (gI_cons tb_19 gI_nil)))) tbL_wsX4_on
theorem ggL_law_X4_cell : GoodIn lw_tbl wsX4_cell := tbL_wsX4_cell
theorem gL_law_X4_cell : GoodIn lw_tbl (wsV RL 65 RX4 yX4_cell wsX4_cell) := goodIn_app (gI_cons tb_527 (gI_cons tb_526 (gI_cons tb_525 (gI_cons tb_19 gI_nil)))) tbL_wsX4_cell
theorem ggL_law_X4_sees : GoodIn lw_tbl wsX4_sees := tbL_wsX4_sees
theorem gL_law_X4_sees : GoodIn lw_tbl (wsV RL 68 RX4 yX4_sees wsX4_sees) := goodIn_app (gI_cons tb_532 (gI_cons tb_531 (gI_cons tb_530 (gI_cons tb_19 gI_nil)))) tbL_wsX4_sees
theorem ggL_law_X4_way : GoodIn lw_tbl wsX4_way := tbL_wsX4_way
theorem gL_law_X4_way : GoodIn lw_tbl (wsV RL 72 RX4 yX4_way wsX4_way) := goodIn_app (gI_cons tb_541 (gI_cons tb_540 (gI_cons tb_539 (gI_cons tb_19 gI_nil)))) tbL_wsX4_way
theorem ggL_law_X4_danger : GoodIn lw_tbl wsX4_danger := tbL_wsX4_danger
theorem gL_law_X4_danger : GoodIn lw_tbl (wsV RL 75 RX4 yX4_danger wsX4_danger) := goodIn_app (gI_cons tb_545 (gI_cons tb_544 (gI_cons tb_543 (gI_cons tb_19 gI_nil)))) tbL_wsX4_danger
theorem ggL_law_X5_draw : GoodIn lw_tbl wsX5_draw := tbL_wsX5_draw
theorem gL_law_X5_draw : GoodIn lw_tbl (wsV RL 78 RX5 yX5_draw wsX5_draw) := goodIn_app (gI_cons tb_546 (gI_cons tb_89 (gI_cons tb_88 (gI_cons tb_92 gI_nil)))) tbL_wsX5_draw
theorem ggL_law_X5_step : GoodIn lw_tbl wsX5_step := tbL_wsX5_step
theorem gL_law_X5_step : GoodIn lw_tbl (va_wsS RL 86 yX5_step wsX5_step) := goodIn_app (gI_cons tb_547 (gI_cons tb_291 (gI_cons tb_92 gI_nil))) tbL_wsX5_step
theorem ggL_law_X4_ahead : GoodIn lw_tbl wsX4_ahead := tbL_wsX4_ahead
theorem gL_law_X4_ahead : GoodIn lw_tbl (wsV RL 88 RX4 yX4_ahead wsX4_ahead) := goodIn_app (gI_cons tb_566 (gI_cons tb_565 (gI_cons tb_564 (gI_cons tb_19 gI_nil)))) tbL_wsX4_ahead
theorem ggL_law_X4_meanLife : GoodIn lw_tbl wsX4_meanLife := tbL_wsX4_meanLife
theorem gL_law_X4_meanLife : GoodIn lw_tbl (wsV RL 91 RX4 yX4_meanLife wsX4_meanLife) := goodIn_app (gI_cons tb_570 (gI_cons tb_569 (gI_cons tb_568 (gI_cons tb_19 gI_nil)))) tbL_wsX4_meanLife
theorem ggL_law_X4_save : GoodIn lw_tbl wsX4_save := tbL_wsX4_save
theorem gL_law_X4_save : GoodIn lw_tbl (wsV RL 97 RX4 yX4_save wsX4_save) := goodIn_app (gI_cons tb_617 (gI_cons tb_616 (gI_cons tb_615 (gI_cons tb_19 gI_nil)))) tbL_wsX4_save
theorem ggL_law_X4_follow : GoodIn lw_tbl wsX4_follow := tbL_wsX4_follow
theorem gL_law_X4_follow : GoodIn lw_tbl (wsV RL 101 RX4 yX4_follow wsX4_follow) := goodIn_app (gI_cons tb_621 (gI_cons tb_620 (gI_cons tb_619 (gI_cons tb_19 gI_nil)))) tbL_wsX4_follow
theorem ggL_law_X4_dig : GoodIn lw_tbl wsX4_dig := tbL_wsX4_dig
theorem gL_law_X4_dig : GoodIn lw_tbl (wsV RL 104 RX4 yX4_dig wsX4_dig) := goodIn_app (gI_cons tb_622 (gI_cons tb_115 (gI_cons tb_114 (gI_cons tb_19 gI_nil)))) tbL_wsX4_dig
theorem ggL_law_X4_load : GoodIn lw_tbl wsX4_load := tbL_wsX4_load
theorem gL_law_X4_load : GoodIn lw_tbl (wsV RL 108 RX4 yX4_load wsX4_load) := goodIn_app (gI_cons tb_642 (gI_cons tb_641 (gI_cons tb_640 (gI_cons tb_19 gI_nil)))) tbL_wsX4_load
