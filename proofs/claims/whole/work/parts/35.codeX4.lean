set_option maxRecDepth 20000 in
theorem ggX4_init_X2_init : GoodIn wsX4_init wsX2_init := goodIn_r _ [19, 20, 2, 3, 21, 22, 23, 24, 25, 26, 27, 28, 29, 30, 59, 60, 61, 62, 63, 64, 65, 66] (by decide +kernel) (by decide +kernel)
set_option maxRecDepth 20000 in
theorem gX4_init_X2_init : GoodIn wsX4_init (wsX2_init) := ggX4_init_X2_init
set_option maxRecDepth 20000 in
theorem ggX4_init_Jx4a65c_init_da8c8 : GoodIn wsX4_init wsJx4a65c_init_da8c8 := goodIn_r _ [33, 34, 35, 36, 37, 38, 39, 40, 41, 42, 43, 44, 45, 2, 3, 71, 72, 73] (by decide +kernel) (by decide +kernel)
set_option maxRecDepth 20000 in
theorem gX4_init_Jx4a65c_init_da8c8 : GoodIn wsX4_init (wsJx4a65c_init_da8c8) := ggX4_init_Jx4a65c_init_da8c8
set_option maxRecDepth 20000 in
theorem ggX4_init_X0_init : GoodIn wsX4_init wsX0_init := goodIn_r _ [47, 48, 2, 3, 49, 50, 51, 52, 21, 53, 54, 55, 56, 57, 58, 76, 77, 78, 74, 75] (by decide +kernel) (by decide +kernel)
set_option maxRecDepth 20000 in
theorem gX4_init_X0_init_n28 : GoodIn wsX4_init (wsX0_init) := ggX4_init_X0_init
theorem dX4_init_0 : decode cX4_init 0 = .ok (.aload_n 0, 1) := by decide +kernel
theorem dX4_init_1 : decode cX4_init 1 = .ok (.invokespecial 3, 3) := by decide +kernel
theorem dX4_init_4 : decode cX4_init 4 = .ok (.aload_n 0, 1) := by decide +kernel
theorem dX4_init_5 : decode cX4_init 5 = .ok (.new 9, 3) := by decide +kernel
theorem dX4_init_8 : decode cX4_init 8 = .ok (.dup, 1) := by decide +kernel
theorem dX4_init_9 : decode cX4_init 9 = .ok (.invokespecial 11, 3) := by decide +kernel
theorem dX4_init_12 : decode cX4_init 12 = .ok (.putfield 12, 3) := by decide +kernel
theorem dX4_init_15 : decode cX4_init 15 = .ok (.aload_n 0, 1) := by decide +kernel
theorem dX4_init_16 : decode cX4_init 16 = .ok (.new 9, 3) := by decide +kernel
theorem dX4_init_19 : decode cX4_init 19 = .ok (.dup, 1) := by decide +kernel
theorem dX4_init_20 : decode cX4_init 20 = .ok (.invokespecial 11, 3) := by decide +kernel
theorem dX4_init_23 : decode cX4_init 23 = .ok (.putfield 16, 3) := by decide +kernel
theorem dX4_init_26 : decode cX4_init 26 = .ok (.aload_n 0, 1) := by decide +kernel
theorem dX4_init_27 : decode cX4_init 27 = .ok (.new 19, 3) := by decide +kernel
theorem dX4_init_30 : decode cX4_init 30 = .ok (.dup, 1) := by decide +kernel
theorem dX4_init_31 : decode cX4_init 31 = .ok (.invokespecial 21, 3) := by decide +kernel
theorem dX4_init_34 : decode cX4_init 34 = .ok (.putfield 22, 3) := by decide +kernel
theorem dX4_init_37 : decode cX4_init 37 = .ok (.aload_n 0, 1) := by decide +kernel
theorem dX4_init_38 : decode cX4_init 38 = .ok (.new 26, 3) := by decide +kernel
theorem dX4_init_41 : decode cX4_init 41 = .ok (.dup, 1) := by decide +kernel
theorem dX4_init_42 : decode cX4_init 42 = .ok (.invokespecial 28, 3) := by decide +kernel
theorem dX4_init_45 : decode cX4_init 45 = .ok (.putfield 29, 3) := by decide +kernel
theorem dX4_init_48 : decode cX4_init 48 = .ok (.return_, 1) := by decide +kernel
set_option maxRecDepth 20000 in
theorem ggX4_dig_X4_isWithin : GoodIn wsX4_dig wsX4_isWithin := goodIn_r _ [7] (by decide +kernel) (by decide +kernel)
set_option maxRecDepth 20000 in
theorem gX4_dig_X4_isWithin : GoodIn wsX4_dig (va_wsS RX4 33 yX4_isWithin wsX4_isWithin) := goodIn_app (goodIn_of _ (by decide +kernel)) ggX4_dig_X4_isWithin
set_option maxRecDepth 20000 in
theorem ggX4_dig_X2_digRoom : GoodIn wsX4_dig wsX2_digRoom := goodIn_r _ [12, 13, 6, 14, 15, 16, 17, 11, 18, 19, 20, 21, 22, 23, 28, 29, 30, 31, 32, 33, 34, 35] (by decide +kernel) (by decide +kernel)
set_option maxRecDepth 20000 in
theorem gX4_dig_X2_digRoom : GoodIn wsX4_dig (wsV RX4 44 RX2 yX2_digRoom wsX2_digRoom) := goodIn_app (goodIn_of _ (by decide +kernel)) ggX4_dig_X2_digRoom
theorem dX4_dig_0 : decode cX4_dig 0 = .ok (.iload_n 1, 1) := by decide +kernel
theorem dX4_dig_1 : decode cX4_dig 1 = .ok (.iconst 0, 1) := by decide +kernel
theorem dX4_dig_2 : decode cX4_dig 2 = .ok (.bipush 15, 2) := by decide +kernel
theorem dX4_dig_4 : decode cX4_dig 4 = .ok (.invokestatic 33, 3) := by decide +kernel
theorem dX4_dig_7 : decode cX4_dig 7 = .ok (.ifCond .eq 38, 3) := by decide +kernel
theorem dX4_dig_10 : decode cX4_dig 10 = .ok (.iload_n 2, 1) := by decide +kernel
theorem dX4_dig_11 : decode cX4_dig 11 = .ok (.iconst 0, 1) := by decide +kernel
theorem dX4_dig_12 : decode cX4_dig 12 = .ok (.bipush 9, 2) := by decide +kernel
theorem dX4_dig_14 : decode cX4_dig 14 = .ok (.invokestatic 33, 3) := by decide +kernel
theorem dX4_dig_17 : decode cX4_dig 17 = .ok (.ifCond .eq 28, 3) := by decide +kernel
theorem dX4_dig_20 : decode cX4_dig 20 = .ok (.iload_n 3, 1) := by decide +kernel
theorem dX4_dig_21 : decode cX4_dig 21 = .ok (.iconst 1, 1) := by decide +kernel
theorem dX4_dig_22 : decode cX4_dig 22 = .ok (.bipush 16, 2) := by decide +kernel
theorem dX4_dig_24 : decode cX4_dig 24 = .ok (.iload_n 1, 1) := by decide +kernel
theorem dX4_dig_25 : decode cX4_dig 25 = .ok (.isub, 1) := by decide +kernel
theorem dX4_dig_26 : decode cX4_dig 26 = .ok (.invokestatic 33, 3) := by decide +kernel
theorem dX4_dig_29 : decode cX4_dig 29 = .ok (.ifCond .eq 16, 3) := by decide +kernel
theorem dX4_dig_32 : decode cX4_dig 32 = .ok (.iload 4, 2) := by decide +kernel
theorem dX4_dig_34 : decode cX4_dig 34 = .ok (.iconst 1, 1) := by decide +kernel
theorem dX4_dig_35 : decode cX4_dig 35 = .ok (.bipush 10, 2) := by decide +kernel
theorem dX4_dig_37 : decode cX4_dig 37 = .ok (.iload_n 2, 1) := by decide +kernel
theorem dX4_dig_38 : decode cX4_dig 38 = .ok (.isub, 1) := by decide +kernel
theorem dX4_dig_39 : decode cX4_dig 39 = .ok (.invokestatic 33, 3) := by decide +kernel
theorem dX4_dig_42 : decode cX4_dig 42 = .ok (.ifCond .ne 13, 3) := by decide +kernel
theorem dX4_dig_45 : decode cX4_dig 45 = .ok (.new 37, 3) := by decide +kernel
theorem dX4_dig_48 : decode cX4_dig 48 = .ok (.dup, 1) := by decide +kernel
theorem dX4_dig_49 : decode cX4_dig 49 = .ok (.ldc 39, 2) := by decide +kernel
theorem dX4_dig_51 : decode cX4_dig 51 = .ok (.invokespecial 41, 3) := by decide +kernel
theorem dX4_dig_54 : decode cX4_dig 54 = .ok (.athrow, 1) := by decide +kernel
theorem dX4_dig_55 : decode cX4_dig 55 = .ok (.aload_n 0, 1) := by decide +kernel
theorem dX4_dig_56 : decode cX4_dig 56 = .ok (.getfield 12, 3) := by decide +kernel
theorem dX4_dig_59 : decode cX4_dig 59 = .ok (.iload_n 1, 1) := by decide +kernel
theorem dX4_dig_60 : decode cX4_dig 60 = .ok (.iload_n 2, 1) := by decide +kernel
theorem dX4_dig_61 : decode cX4_dig 61 = .ok (.iload_n 3, 1) := by decide +kernel
theorem dX4_dig_62 : decode cX4_dig 62 = .ok (.iload 4, 2) := by decide +kernel
theorem dX4_dig_64 : decode cX4_dig 64 = .ok (.invokevirtual 44, 3) := by decide +kernel
theorem dX4_dig_67 : decode cX4_dig 67 = .ok (.ireturn, 1) := by decide +kernel
set_option maxRecDepth 20000 in
theorem ggX4_set_X4_isCell : GoodIn wsX4_set wsX4_isCell := goodIn_r _ [11] (by decide +kernel) (by decide +kernel)
set_option maxRecDepth 20000 in
theorem gX4_set_X4_isCell : GoodIn wsX4_set (va_wsS RX4 48 yX4_isCell wsX4_isCell) := goodIn_app (goodIn_of _ (by decide +kernel)) ggX4_set_X4_isCell
set_option maxRecDepth 20000 in
theorem ggX4_set_X4_isWithin : GoodIn wsX4_set wsX4_isWithin := goodIn_r _ [14] (by decide +kernel) (by decide +kernel)
set_option maxRecDepth 20000 in
theorem gX4_set_X4_isWithin : GoodIn wsX4_set (va_wsS RX4 33 yX4_isWithin wsX4_isWithin) := goodIn_app (goodIn_of _ (by decide +kernel)) ggX4_set_X4_isWithin
set_option maxRecDepth 20000 in
theorem ggX4_set_X4_isEdge : GoodIn wsX4_set wsX4_isEdge := goodIn_r _ [17] (by decide +kernel) (by decide +kernel)
set_option maxRecDepth 20000 in
theorem gX4_set_X4_isEdge : GoodIn wsX4_set (va_wsS RX4 57 yX4_isEdge wsX4_isEdge) := goodIn_app (goodIn_of _ (by decide +kernel)) ggX4_set_X4_isEdge
set_option maxRecDepth 20000 in
theorem ggX4_set_X4_stopsSight : GoodIn wsX4_set wsX4_stopsSight := goodIn_r _ [20] (by decide +kernel) (by decide +kernel)
set_option maxRecDepth 20000 in
theorem gX4_set_X4_stopsSight : GoodIn wsX4_set (va_wsS RX4 62 yX4_stopsSight wsX4_stopsSight) := goodIn_app (goodIn_of _ (by decide +kernel)) ggX4_set_X4_stopsSight
set_option maxRecDepth 20000 in
theorem ggX4_set_X2_whoIsOn : GoodIn wsX4_set wsX2_whoIsOn := goodIn_r _ [25, 26, 27, 28, 29, 24, 30, 31, 45, 46, 47, 48, 49, 50, 51, 52] (by decide +kernel) (by decide +kernel)
set_option maxRecDepth 20000 in
theorem gX4_set_X2_whoIsOn : GoodIn wsX4_set (wsV RX4 65 RX2 yX2_whoIsOn wsX2_whoIsOn) := goodIn_app (goodIn_of _ (by decide +kernel)) ggX4_set_X2_whoIsOn
set_option maxRecDepth 20000 in
theorem ggX4_set_X2_kindAt : GoodIn wsX4_set wsX2_kindAt := goodIn_r _ [35, 36, 45, 46, 47, 48, 49, 50, 51, 52] (by decide +kernel) (by decide +kernel)
set_option maxRecDepth 20000 in
theorem gX4_set_X2_kindAt : GoodIn wsX4_set (wsV RX4 74 RX2 yX2_kindAt wsX2_kindAt) := goodIn_app (goodIn_of _ (by decide +kernel)) ggX4_set_X2_kindAt
set_option maxRecDepth 20000 in
theorem ggX4_set_X2_putKind : GoodIn wsX4_set wsX2_putKind := goodIn_r _ [40, 36, 45, 46, 47, 48, 49, 50, 51, 52] (by decide +kernel) (by decide +kernel)
set_option maxRecDepth 20000 in
theorem gX4_set_X2_putKind : GoodIn wsX4_set (wsV RX4 77 RX2 yX2_putKind wsX2_putKind) := goodIn_app (goodIn_of _ (by decide +kernel)) ggX4_set_X2_putKind
theorem dX4_set_0 : decode cX4_set 0 = .ok (.iload_n 1, 1) := by decide +kernel
theorem dX4_set_1 : decode cX4_set 1 = .ok (.invokestatic 48, 3) := by decide +kernel
theorem dX4_set_4 : decode cX4_set 4 = .ok (.ifCond .ne 13, 3) := by decide +kernel
theorem dX4_set_7 : decode cX4_set 7 = .ok (.new 52, 3) := by decide +kernel
theorem dX4_set_10 : decode cX4_set 10 = .ok (.dup, 1) := by decide +kernel
theorem dX4_set_11 : decode cX4_set 11 = .ok (.ldc 54, 2) := by decide +kernel
theorem dX4_set_13 : decode cX4_set 13 = .ok (.invokespecial 56, 3) := by decide +kernel
theorem dX4_set_16 : decode cX4_set 16 = .ok (.athrow, 1) := by decide +kernel
theorem dX4_set_17 : decode cX4_set 17 = .ok (.iload_n 2, 1) := by decide +kernel
theorem dX4_set_18 : decode cX4_set 18 = .ok (.iconst 0, 1) := by decide +kernel
theorem dX4_set_19 : decode cX4_set 19 = .ok (.iconst 3, 1) := by decide +kernel
theorem dX4_set_20 : decode cX4_set 20 = .ok (.invokestatic 33, 3) := by decide +kernel
theorem dX4_set_23 : decode cX4_set 23 = .ok (.ifCond .eq 15, 3) := by decide +kernel
theorem dX4_set_26 : decode cX4_set 26 = .ok (.iload_n 1, 1) := by decide +kernel
theorem dX4_set_27 : decode cX4_set 27 = .ok (.invokestatic 57, 3) := by decide +kernel
theorem dX4_set_30 : decode cX4_set 30 = .ok (.ifCond .eq 18, 3) := by decide +kernel
theorem dX4_set_33 : decode cX4_set 33 = .ok (.iload_n 2, 1) := by decide +kernel
theorem dX4_set_34 : decode cX4_set 34 = .ok (.iconst 1, 1) := by decide +kernel
theorem dX4_set_35 : decode cX4_set 35 = .ok (.if_icmp .eq 13, 3) := by decide +kernel
theorem dX4_set_38 : decode cX4_set 38 = .ok (.new 37, 3) := by decide +kernel
theorem dX4_set_41 : decode cX4_set 41 = .ok (.dup, 1) := by decide +kernel
theorem dX4_set_42 : decode cX4_set 42 = .ok (.ldc 60, 2) := by decide +kernel
theorem dX4_set_44 : decode cX4_set 44 = .ok (.invokespecial 41, 3) := by decide +kernel
theorem dX4_set_47 : decode cX4_set 47 = .ok (.athrow, 1) := by decide +kernel
theorem dX4_set_48 : decode cX4_set 48 = .ok (.iload_n 2, 1) := by decide +kernel
theorem dX4_set_49 : decode cX4_set 49 = .ok (.invokestatic 62, 3) := by decide +kernel
theorem dX4_set_52 : decode cX4_set 52 = .ok (.ifCond .eq 25, 3) := by decide +kernel
theorem dX4_set_55 : decode cX4_set 55 = .ok (.aload_n 0, 1) := by decide +kernel
theorem dX4_set_56 : decode cX4_set 56 = .ok (.getfield 12, 3) := by decide +kernel
theorem dX4_set_59 : decode cX4_set 59 = .ok (.iload_n 1, 1) := by decide +kernel
theorem dX4_set_60 : decode cX4_set 60 = .ok (.invokevirtual 65, 3) := by decide +kernel
theorem dX4_set_63 : decode cX4_set 63 = .ok (.iconst (-1), 1) := by decide +kernel
theorem dX4_set_64 : decode cX4_set 64 = .ok (.if_icmp .eq 13, 3) := by decide +kernel
theorem dX4_set_67 : decode cX4_set 67 = .ok (.new 69, 3) := by decide +kernel
theorem dX4_set_70 : decode cX4_set 70 = .ok (.dup, 1) := by decide +kernel
theorem dX4_set_71 : decode cX4_set 71 = .ok (.ldc 71, 2) := by decide +kernel
theorem dX4_set_73 : decode cX4_set 73 = .ok (.invokespecial 73, 3) := by decide +kernel
theorem dX4_set_76 : decode cX4_set 76 = .ok (.athrow, 1) := by decide +kernel
theorem dX4_set_77 : decode cX4_set 77 = .ok (.aload_n 0, 1) := by decide +kernel
theorem dX4_set_78 : decode cX4_set 78 = .ok (.getfield 12, 3) := by decide +kernel
theorem dX4_set_81 : decode cX4_set 81 = .ok (.iload_n 1, 1) := by decide +kernel
theorem dX4_set_82 : decode cX4_set 82 = .ok (.invokevirtual 74, 3) := by decide +kernel
theorem dX4_set_85 : decode cX4_set 85 = .ok (.istore_n 3, 1) := by decide +kernel
theorem dX4_set_86 : decode cX4_set 86 = .ok (.aload_n 0, 1) := by decide +kernel
theorem dX4_set_87 : decode cX4_set 87 = .ok (.getfield 12, 3) := by decide +kernel
theorem dX4_set_90 : decode cX4_set 90 = .ok (.iload_n 1, 1) := by decide +kernel
theorem dX4_set_91 : decode cX4_set 91 = .ok (.iload_n 2, 1) := by decide +kernel
theorem dX4_set_92 : decode cX4_set 92 = .ok (.invokevirtual 77, 3) := by decide +kernel
theorem dX4_set_95 : decode cX4_set 95 = .ok (.iload_n 3, 1) := by decide +kernel
theorem dX4_set_96 : decode cX4_set 96 = .ok (.ireturn, 1) := by decide +kernel
set_option maxRecDepth 20000 in
theorem ggX4_cell_X4_isCell : GoodIn wsX4_cell wsX4_isCell := goodIn_r _ [7] (by decide +kernel) (by decide +kernel)
set_option maxRecDepth 20000 in
theorem gX4_cell_X4_isCell : GoodIn wsX4_cell (va_wsS RX4 48 yX4_isCell wsX4_isCell) := goodIn_app (goodIn_of _ (by decide +kernel)) ggX4_cell_X4_isCell
set_option maxRecDepth 20000 in
theorem ggX4_cell_X2_kindAt : GoodIn wsX4_cell wsX2_kindAt := goodIn_r _ [12, 13, 18, 19, 20, 21, 22, 23, 24, 25] (by decide +kernel) (by decide +kernel)
set_option maxRecDepth 20000 in
theorem gX4_cell_X2_kindAt : GoodIn wsX4_cell (wsV RX4 74 RX2 yX2_kindAt wsX2_kindAt) := goodIn_app (goodIn_of _ (by decide +kernel)) ggX4_cell_X2_kindAt
theorem dX4_cell_0 : decode cX4_cell 0 = .ok (.iload_n 1, 1) := by decide +kernel
theorem dX4_cell_1 : decode cX4_cell 1 = .ok (.invokestatic 48, 3) := by decide +kernel
theorem dX4_cell_4 : decode cX4_cell 4 = .ok (.ifCond .ne 13, 3) := by decide +kernel
theorem dX4_cell_7 : decode cX4_cell 7 = .ok (.new 52, 3) := by decide +kernel
theorem dX4_cell_10 : decode cX4_cell 10 = .ok (.dup, 1) := by decide +kernel
theorem dX4_cell_11 : decode cX4_cell 11 = .ok (.ldc 54, 2) := by decide +kernel
theorem dX4_cell_13 : decode cX4_cell 13 = .ok (.invokespecial 56, 3) := by decide +kernel
theorem dX4_cell_16 : decode cX4_cell 16 = .ok (.athrow, 1) := by decide +kernel
theorem dX4_cell_17 : decode cX4_cell 17 = .ok (.aload_n 0, 1) := by decide +kernel
theorem dX4_cell_18 : decode cX4_cell 18 = .ok (.getfield 12, 3) := by decide +kernel
theorem dX4_cell_21 : decode cX4_cell 21 = .ok (.iload_n 1, 1) := by decide +kernel
theorem dX4_cell_22 : decode cX4_cell 22 = .ok (.invokevirtual 74, 3) := by decide +kernel
theorem dX4_cell_25 : decode cX4_cell 25 = .ok (.ireturn, 1) := by decide +kernel
set_option maxRecDepth 20000 in
theorem ggX4_on_X4_isCell : GoodIn wsX4_on wsX4_isCell := goodIn_r _ [7] (by decide +kernel) (by decide +kernel)
set_option maxRecDepth 20000 in
theorem gX4_on_X4_isCell : GoodIn wsX4_on (va_wsS RX4 48 yX4_isCell wsX4_isCell) := goodIn_app (goodIn_of _ (by decide +kernel)) ggX4_on_X4_isCell
set_option maxRecDepth 20000 in
theorem ggX4_on_X2_whoIsOn : GoodIn wsX4_on wsX2_whoIsOn := goodIn_r _ [12, 13, 14, 15, 16, 11, 17, 18, 23, 24, 25, 26, 27, 28, 29, 30] (by decide +kernel) (by decide +kernel)
set_option maxRecDepth 20000 in
theorem gX4_on_X2_whoIsOn : GoodIn wsX4_on (wsV RX4 65 RX2 yX2_whoIsOn wsX2_whoIsOn) := goodIn_app (goodIn_of _ (by decide +kernel)) ggX4_on_X2_whoIsOn
theorem dX4_on_0 : decode cX4_on 0 = .ok (.iload_n 1, 1) := by decide +kernel
theorem dX4_on_1 : decode cX4_on 1 = .ok (.invokestatic 48, 3) := by decide +kernel
theorem dX4_on_4 : decode cX4_on 4 = .ok (.ifCond .ne 13, 3) := by decide +kernel
theorem dX4_on_7 : decode cX4_on 7 = .ok (.new 52, 3) := by decide +kernel
theorem dX4_on_10 : decode cX4_on 10 = .ok (.dup, 1) := by decide +kernel
theorem dX4_on_11 : decode cX4_on 11 = .ok (.ldc 54, 2) := by decide +kernel
theorem dX4_on_13 : decode cX4_on 13 = .ok (.invokespecial 56, 3) := by decide +kernel
theorem dX4_on_16 : decode cX4_on 16 = .ok (.athrow, 1) := by decide +kernel
theorem dX4_on_17 : decode cX4_on 17 = .ok (.aload_n 0, 1) := by decide +kernel
theorem dX4_on_18 : decode cX4_on 18 = .ok (.getfield 12, 3) := by decide +kernel
theorem dX4_on_21 : decode cX4_on 21 = .ok (.iload_n 1, 1) := by decide +kernel
theorem dX4_on_22 : decode cX4_on 22 = .ok (.invokevirtual 65, 3) := by decide +kernel
theorem dX4_on_25 : decode cX4_on 25 = .ok (.ireturn, 1) := by decide +kernel
set_option maxRecDepth 20000 in
theorem ggX4_sees_X4_isCell : GoodIn wsX4_sees wsX4_isCell := goodIn_r _ [7] (by decide +kernel) (by decide +kernel)
set_option maxRecDepth 20000 in
theorem gX4_sees_X4_isCell : GoodIn wsX4_sees (va_wsS RX4 48 yX4_isCell wsX4_isCell) := goodIn_app (goodIn_of _ (by decide +kernel)) ggX4_sees_X4_isCell
set_option maxRecDepth 20000 in
theorem ggX4_sees_X2_isSeenFrom : GoodIn wsX4_sees wsX2_isSeenFrom := goodIn_r _ [12, 13, 14, 11, 15, 16, 17, 18, 19, 20, 21, 22, 23, 24, 25, 26, 27, 28, 29, 30, 31, 32, 33, 34, 35, 6, 36, 41, 42, 43, 44, 45, 46, 47, 48] (by decide +kernel) (by decide +kernel)
set_option maxRecDepth 20000 in
theorem gX4_sees_X2_isSeenFrom : GoodIn wsX4_sees (wsV RX4 81 RX2 yX2_isSeenFrom wsX2_isSeenFrom) := goodIn_app (goodIn_of _ (by decide +kernel)) ggX4_sees_X2_isSeenFrom
theorem dX4_sees_0 : decode cX4_sees 0 = .ok (.iload_n 1, 1) := by decide +kernel
theorem dX4_sees_1 : decode cX4_sees 1 = .ok (.invokestatic 48, 3) := by decide +kernel
theorem dX4_sees_4 : decode cX4_sees 4 = .ok (.ifCond .eq 10, 3) := by decide +kernel
theorem dX4_sees_7 : decode cX4_sees 7 = .ok (.iload_n 2, 1) := by decide +kernel
theorem dX4_sees_8 : decode cX4_sees 8 = .ok (.invokestatic 48, 3) := by decide +kernel
theorem dX4_sees_11 : decode cX4_sees 11 = .ok (.ifCond .ne 13, 3) := by decide +kernel
theorem dX4_sees_14 : decode cX4_sees 14 = .ok (.new 52, 3) := by decide +kernel
theorem dX4_sees_17 : decode cX4_sees 17 = .ok (.dup, 1) := by decide +kernel
theorem dX4_sees_18 : decode cX4_sees 18 = .ok (.ldc 54, 2) := by decide +kernel
theorem dX4_sees_20 : decode cX4_sees 20 = .ok (.invokespecial 56, 3) := by decide +kernel
theorem dX4_sees_23 : decode cX4_sees 23 = .ok (.athrow, 1) := by decide +kernel
theorem dX4_sees_24 : decode cX4_sees 24 = .ok (.aload_n 0, 1) := by decide +kernel
theorem dX4_sees_25 : decode cX4_sees 25 = .ok (.getfield 12, 3) := by decide +kernel
theorem dX4_sees_28 : decode cX4_sees 28 = .ok (.iload_n 1, 1) := by decide +kernel
theorem dX4_sees_29 : decode cX4_sees 29 = .ok (.iload_n 2, 1) := by decide +kernel
theorem dX4_sees_30 : decode cX4_sees 30 = .ok (.invokevirtual 81, 3) := by decide +kernel
theorem dX4_sees_33 : decode cX4_sees 33 = .ok (.ireturn, 1) := by decide +kernel
set_option maxRecDepth 20000 in
theorem ggX4_knows_X4_isSide : GoodIn wsX4_knows wsX4_isSide := goodIn_r _ [9] (by decide +kernel) (by decide +kernel)
set_option maxRecDepth 20000 in
theorem gX4_knows_X4_isSide : GoodIn wsX4_knows (va_wsS RX4 85 yX4_isSide wsX4_isSide) := goodIn_app (goodIn_of _ (by decide +kernel)) ggX4_knows_X4_isSide
set_option maxRecDepth 20000 in
theorem ggX4_knows_X4_isCell : GoodIn wsX4_knows wsX4_isCell := goodIn_r _ [12] (by decide +kernel) (by decide +kernel)
set_option maxRecDepth 20000 in
theorem gX4_knows_X4_isCell : GoodIn wsX4_knows (va_wsS RX4 48 yX4_isCell wsX4_isCell) := goodIn_app (goodIn_of _ (by decide +kernel)) ggX4_knows_X4_isCell
set_option maxRecDepth 20000 in
theorem ggX4_knows_X2_isKnown : GoodIn wsX4_knows wsX2_isKnown := goodIn_r _ [17, 18, 23, 24, 25, 26, 27, 28, 29, 30] (by decide +kernel) (by decide +kernel)
set_option maxRecDepth 20000 in
theorem gX4_knows_X2_isKnown : GoodIn wsX4_knows (wsV RX4 90 RX2 yX2_isKnown wsX2_isKnown) := goodIn_app (goodIn_of _ (by decide +kernel)) ggX4_knows_X2_isKnown
theorem dX4_knows_0 : decode cX4_knows 0 = .ok (.iload_n 1, 1) := by decide +kernel
theorem dX4_knows_1 : decode cX4_knows 1 = .ok (.invokestatic 85, 3) := by decide +kernel
theorem dX4_knows_4 : decode cX4_knows 4 = .ok (.ifCond .ne 13, 3) := by decide +kernel
theorem dX4_knows_7 : decode cX4_knows 7 = .ok (.new 37, 3) := by decide +kernel
theorem dX4_knows_10 : decode cX4_knows 10 = .ok (.dup, 1) := by decide +kernel
theorem dX4_knows_11 : decode cX4_knows 11 = .ok (.ldc 88, 2) := by decide +kernel
theorem dX4_knows_13 : decode cX4_knows 13 = .ok (.invokespecial 41, 3) := by decide +kernel
theorem dX4_knows_16 : decode cX4_knows 16 = .ok (.athrow, 1) := by decide +kernel
theorem dX4_knows_17 : decode cX4_knows 17 = .ok (.iload_n 2, 1) := by decide +kernel
theorem dX4_knows_18 : decode cX4_knows 18 = .ok (.invokestatic 48, 3) := by decide +kernel
theorem dX4_knows_21 : decode cX4_knows 21 = .ok (.ifCond .ne 13, 3) := by decide +kernel
theorem dX4_knows_24 : decode cX4_knows 24 = .ok (.new 52, 3) := by decide +kernel
theorem dX4_knows_27 : decode cX4_knows 27 = .ok (.dup, 1) := by decide +kernel
theorem dX4_knows_28 : decode cX4_knows 28 = .ok (.ldc 54, 2) := by decide +kernel
theorem dX4_knows_30 : decode cX4_knows 30 = .ok (.invokespecial 56, 3) := by decide +kernel
theorem dX4_knows_33 : decode cX4_knows 33 = .ok (.athrow, 1) := by decide +kernel
theorem dX4_knows_34 : decode cX4_knows 34 = .ok (.aload_n 0, 1) := by decide +kernel
theorem dX4_knows_35 : decode cX4_knows 35 = .ok (.getfield 12, 3) := by decide +kernel
theorem dX4_knows_38 : decode cX4_knows 38 = .ok (.iload_n 1, 1) := by decide +kernel
theorem dX4_knows_39 : decode cX4_knows 39 = .ok (.iload_n 2, 1) := by decide +kernel
theorem dX4_knows_40 : decode cX4_knows 40 = .ok (.invokevirtual 90, 3) := by decide +kernel
theorem dX4_knows_43 : decode cX4_knows 43 = .ok (.ireturn, 1) := by decide +kernel
set_option maxRecDepth 20000 in
theorem ggX4_come_X4_isCell : GoodIn wsX4_come wsX4_isCell := goodIn_r _ [11] (by decide +kernel) (by decide +kernel)
set_option maxRecDepth 20000 in
theorem gX4_come_X4_isCell : GoodIn wsX4_come (va_wsS RX4 48 yX4_isCell wsX4_isCell) := goodIn_app (goodIn_of _ (by decide +kernel)) ggX4_come_X4_isCell
set_option maxRecDepth 20000 in
theorem ggX4_come_X4_isSide : GoodIn wsX4_come wsX4_isSide := goodIn_r _ [14] (by decide +kernel) (by decide +kernel)
set_option maxRecDepth 20000 in
theorem gX4_come_X4_isSide : GoodIn wsX4_come (va_wsS RX4 85 yX4_isSide wsX4_isSide) := goodIn_app (goodIn_of _ (by decide +kernel)) ggX4_come_X4_isSide
set_option maxRecDepth 20000 in
theorem ggX4_come_X4_isWithin : GoodIn wsX4_come wsX4_isWithin := goodIn_r _ [17] (by decide +kernel) (by decide +kernel)
set_option maxRecDepth 20000 in
theorem gX4_come_X4_isWithin : GoodIn wsX4_come (va_wsS RX4 33 yX4_isWithin wsX4_isWithin) := goodIn_app (goodIn_of _ (by decide +kernel)) ggX4_come_X4_isWithin
set_option maxRecDepth 20000 in
theorem ggX4_come_X2_kindAt : GoodIn wsX4_come wsX2_kindAt := goodIn_r _ [22, 23, 98, 99, 100, 101, 102, 103, 104, 105] (by decide +kernel) (by decide +kernel)
set_option maxRecDepth 20000 in
theorem gX4_come_X2_kindAt : GoodIn wsX4_come (wsV RX4 74 RX2 yX2_kindAt wsX2_kindAt) := goodIn_app (goodIn_of _ (by decide +kernel)) ggX4_come_X2_kindAt
set_option maxRecDepth 20000 in
theorem ggX4_come_X4_stopsSight : GoodIn wsX4_come wsX4_stopsSight := goodIn_r _ [26] (by decide +kernel) (by decide +kernel)
set_option maxRecDepth 20000 in
theorem gX4_come_X4_stopsSight : GoodIn wsX4_come (va_wsS RX4 62 yX4_stopsSight wsX4_stopsSight) := goodIn_app (goodIn_of _ (by decide +kernel)) ggX4_come_X4_stopsSight
set_option maxRecDepth 20000 in
theorem ggX4_come_X2_whoIsOn : GoodIn wsX4_come wsX2_whoIsOn := goodIn_r _ [30, 31, 32, 33, 34, 21, 35, 36, 98, 99, 100, 101, 102, 103, 104, 105] (by decide +kernel) (by decide +kernel)
set_option maxRecDepth 20000 in
theorem gX4_come_X2_whoIsOn : GoodIn wsX4_come (wsV RX4 65 RX2 yX2_whoIsOn wsX2_whoIsOn) := goodIn_app (goodIn_of _ (by decide +kernel)) ggX4_come_X2_whoIsOn
set_option maxRecDepth 20000 in
theorem ggX4_come_X2_hasRoom : GoodIn wsX4_come wsX2_hasRoom := goodIn_r _ [40, 31, 98, 99, 100, 101, 102, 103, 104, 105] (by decide +kernel) (by decide +kernel)
set_option maxRecDepth 20000 in
theorem gX4_come_X2_hasRoom : GoodIn wsX4_come (wsV RX4 95 RX2 yX2_hasRoom wsX2_hasRoom) := goodIn_app (goodIn_of _ (by decide +kernel)) ggX4_come_X2_hasRoom
set_option maxRecDepth 20000 in
theorem ggX4_come_X2_addBeing : GoodIn wsX4_come wsX2_addBeing := goodIn_r _ [44, 31, 45, 46, 47, 21, 48, 49, 50, 51, 52, 32, 33, 34, 35, 36, 53, 54, 55, 56, 57, 58, 59, 60, 61, 62, 63, 64, 65, 66, 67, 68, 69, 70, 71, 72, 73, 74, 75, 76, 77, 78, 79, 80, 81, 82, 83, 84, 85, 86, 87, 88, 89, 90, 91, 92, 93, 19, 20, 22, 23, 25, 10, 26, 98, 99, 100, 101, 102, 103, 104, 105] (by decide +kernel) (by decide +kernel)
set_option maxRecDepth 20000 in
theorem gX4_come_X2_addBeing : GoodIn wsX4_come (wsV RX4 101 RX2 yX2_addBeing wsX2_addBeing) := goodIn_app (goodIn_of _ (by decide +kernel)) ggX4_come_X2_addBeing
theorem dX4_come_0 : decode cX4_come 0 = .ok (.iload_n 2, 1) := by decide +kernel
theorem dX4_come_1 : decode cX4_come 1 = .ok (.invokestatic 48, 3) := by decide +kernel
theorem dX4_come_4 : decode cX4_come 4 = .ok (.ifCond .ne 13, 3) := by decide +kernel
theorem dX4_come_7 : decode cX4_come 7 = .ok (.new 52, 3) := by decide +kernel
theorem dX4_come_10 : decode cX4_come 10 = .ok (.dup, 1) := by decide +kernel
theorem dX4_come_11 : decode cX4_come 11 = .ok (.ldc 54, 2) := by decide +kernel
theorem dX4_come_13 : decode cX4_come 13 = .ok (.invokespecial 56, 3) := by decide +kernel
theorem dX4_come_16 : decode cX4_come 16 = .ok (.athrow, 1) := by decide +kernel
theorem dX4_come_17 : decode cX4_come 17 = .ok (.iload_n 1, 1) := by decide +kernel
theorem dX4_come_18 : decode cX4_come 18 = .ok (.invokestatic 85, 3) := by decide +kernel
theorem dX4_come_21 : decode cX4_come 21 = .ok (.ifCond .eq 13, 3) := by decide +kernel
theorem dX4_come_24 : decode cX4_come 24 = .ok (.iload_n 3, 1) := by decide +kernel
theorem dX4_come_25 : decode cX4_come 25 = .ok (.iconst 1, 1) := by decide +kernel
theorem dX4_come_26 : decode cX4_come 26 = .ok (.bipush 60, 2) := by decide +kernel
theorem dX4_come_28 : decode cX4_come 28 = .ok (.invokestatic 33, 3) := by decide +kernel
theorem dX4_come_31 : decode cX4_come 31 = .ok (.ifCond .ne 13, 3) := by decide +kernel
theorem dX4_come_34 : decode cX4_come 34 = .ok (.new 37, 3) := by decide +kernel
theorem dX4_come_37 : decode cX4_come 37 = .ok (.dup, 1) := by decide +kernel
theorem dX4_come_38 : decode cX4_come 38 = .ok (.ldc 93, 2) := by decide +kernel
theorem dX4_come_40 : decode cX4_come 40 = .ok (.invokespecial 41, 3) := by decide +kernel
theorem dX4_come_43 : decode cX4_come 43 = .ok (.athrow, 1) := by decide +kernel
theorem dX4_come_44 : decode cX4_come 44 = .ok (.aload_n 0, 1) := by decide +kernel
theorem dX4_come_45 : decode cX4_come 45 = .ok (.getfield 12, 3) := by decide +kernel
theorem dX4_come_48 : decode cX4_come 48 = .ok (.iload_n 2, 1) := by decide +kernel
theorem dX4_come_49 : decode cX4_come 49 = .ok (.invokevirtual 74, 3) := by decide +kernel
theorem dX4_come_52 : decode cX4_come 52 = .ok (.invokestatic 62, 3) := by decide +kernel
theorem dX4_come_55 : decode cX4_come 55 = .ok (.ifCond .ne 25, 3) := by decide +kernel
theorem dX4_come_58 : decode cX4_come 58 = .ok (.aload_n 0, 1) := by decide +kernel
theorem dX4_come_59 : decode cX4_come 59 = .ok (.getfield 12, 3) := by decide +kernel
theorem dX4_come_62 : decode cX4_come 62 = .ok (.iload_n 2, 1) := by decide +kernel
theorem dX4_come_63 : decode cX4_come 63 = .ok (.invokevirtual 65, 3) := by decide +kernel
theorem dX4_come_66 : decode cX4_come 66 = .ok (.iconst (-1), 1) := by decide +kernel
theorem dX4_come_67 : decode cX4_come 67 = .ok (.if_icmp .ne 13, 3) := by decide +kernel
theorem dX4_come_70 : decode cX4_come 70 = .ok (.aload_n 0, 1) := by decide +kernel
theorem dX4_come_71 : decode cX4_come 71 = .ok (.getfield 12, 3) := by decide +kernel
theorem dX4_come_74 : decode cX4_come 74 = .ok (.invokevirtual 95, 3) := by decide +kernel
theorem dX4_come_77 : decode cX4_come 77 = .ok (.ifCond .ne 13, 3) := by decide +kernel
theorem dX4_come_80 : decode cX4_come 80 = .ok (.new 69, 3) := by decide +kernel
theorem dX4_come_83 : decode cX4_come 83 = .ok (.dup, 1) := by decide +kernel
theorem dX4_come_84 : decode cX4_come 84 = .ok (.ldc 99, 2) := by decide +kernel
theorem dX4_come_86 : decode cX4_come 86 = .ok (.invokespecial 73, 3) := by decide +kernel
theorem dX4_come_89 : decode cX4_come 89 = .ok (.athrow, 1) := by decide +kernel
theorem dX4_come_90 : decode cX4_come 90 = .ok (.aload_n 0, 1) := by decide +kernel
theorem dX4_come_91 : decode cX4_come 91 = .ok (.getfield 12, 3) := by decide +kernel
theorem dX4_come_94 : decode cX4_come 94 = .ok (.iload_n 1, 1) := by decide +kernel
theorem dX4_come_95 : decode cX4_come 95 = .ok (.iload_n 2, 1) := by decide +kernel
theorem dX4_come_96 : decode cX4_come 96 = .ok (.iload_n 3, 1) := by decide +kernel
theorem dX4_come_97 : decode cX4_come 97 = .ok (.invokevirtual 101, 3) := by decide +kernel
theorem dX4_come_100 : decode cX4_come 100 = .ok (.ireturn, 1) := by decide +kernel
set_option maxRecDepth 20000 in
theorem ggX4_become_X2_isBeing : GoodIn wsX4_become wsX2_isBeing := goodIn_r _ [10, 11, 29, 30, 31, 32, 33, 34, 35, 36] (by decide +kernel) (by decide +kernel)
set_option maxRecDepth 20000 in
theorem gX4_become_X2_isBeing : GoodIn wsX4_become (wsV RX4 105 RX2 yX2_isBeing wsX2_isBeing) := goodIn_app (goodIn_of _ (by decide +kernel)) ggX4_become_X2_isBeing
set_option maxRecDepth 20000 in
theorem ggX4_become_X4_isWithin : GoodIn wsX4_become wsX4_isWithin := goodIn_r _ [15] (by decide +kernel) (by decide +kernel)
set_option maxRecDepth 20000 in
theorem gX4_become_X4_isWithin : GoodIn wsX4_become (va_wsS RX4 33 yX4_isWithin wsX4_isWithin) := goodIn_app (goodIn_of _ (by decide +kernel)) ggX4_become_X4_isWithin
set_option maxRecDepth 20000 in
theorem ggX4_become_X2_trait : GoodIn wsX4_become wsX2_trait := goodIn_r _ [19, 20, 29, 30, 31, 32, 33, 34, 35, 36] (by decide +kernel) (by decide +kernel)
set_option maxRecDepth 20000 in
theorem gX4_become_X2_trait : GoodIn wsX4_become (wsV RX4 112 RX2 yX2_trait wsX2_trait) := goodIn_app (goodIn_of _ (by decide +kernel)) ggX4_become_X2_trait
set_option maxRecDepth 20000 in
theorem ggX4_become_X2_putTrait : GoodIn wsX4_become wsX2_putTrait := goodIn_r _ [24, 20, 29, 30, 31, 32, 33, 34, 35, 36] (by decide +kernel) (by decide +kernel)
set_option maxRecDepth 20000 in
theorem gX4_become_X2_putTrait : GoodIn wsX4_become (wsV RX4 116 RX2 yX2_putTrait wsX2_putTrait) := goodIn_app (goodIn_of _ (by decide +kernel)) ggX4_become_X2_putTrait
theorem dX4_become_0 : decode cX4_become 0 = .ok (.aload_n 0, 1) := by decide +kernel
theorem dX4_become_1 : decode cX4_become 1 = .ok (.getfield 12, 3) := by decide +kernel
theorem dX4_become_4 : decode cX4_become 4 = .ok (.iload_n 1, 1) := by decide +kernel
theorem dX4_become_5 : decode cX4_become 5 = .ok (.invokevirtual 105, 3) := by decide +kernel
theorem dX4_become_8 : decode cX4_become 8 = .ok (.ifCond .ne 13, 3) := by decide +kernel
theorem dX4_become_11 : decode cX4_become 11 = .ok (.new 52, 3) := by decide +kernel
theorem dX4_become_14 : decode cX4_become 14 = .ok (.dup, 1) := by decide +kernel
theorem dX4_become_15 : decode cX4_become 15 = .ok (.ldc 108, 2) := by decide +kernel
theorem dX4_become_17 : decode cX4_become 17 = .ok (.invokespecial 56, 3) := by decide +kernel
theorem dX4_become_20 : decode cX4_become 20 = .ok (.athrow, 1) := by decide +kernel
theorem dX4_become_21 : decode cX4_become 21 = .ok (.iload_n 2, 1) := by decide +kernel
theorem dX4_become_22 : decode cX4_become 22 = .ok (.iconst 0, 1) := by decide +kernel
theorem dX4_become_23 : decode cX4_become 23 = .ok (.bipush 20, 2) := by decide +kernel
theorem dX4_become_25 : decode cX4_become 25 = .ok (.invokestatic 33, 3) := by decide +kernel
theorem dX4_become_28 : decode cX4_become 28 = .ok (.ifCond .eq 23, 3) := by decide +kernel
theorem dX4_become_31 : decode cX4_become 31 = .ok (.iload_n 3, 1) := by decide +kernel
theorem dX4_become_32 : decode cX4_become 32 = .ok (.iconst 0, 1) := by decide +kernel
theorem dX4_become_33 : decode cX4_become 33 = .ok (.bipush 20, 2) := by decide +kernel
theorem dX4_become_35 : decode cX4_become 35 = .ok (.invokestatic 33, 3) := by decide +kernel
theorem dX4_become_38 : decode cX4_become 38 = .ok (.ifCond .eq 13, 3) := by decide +kernel
theorem dX4_become_41 : decode cX4_become 41 = .ok (.iload 4, 2) := by decide +kernel
theorem dX4_become_43 : decode cX4_become 43 = .ok (.iconst 1, 1) := by decide +kernel
theorem dX4_become_44 : decode cX4_become 44 = .ok (.iconst 4, 1) := by decide +kernel
theorem dX4_become_45 : decode cX4_become 45 = .ok (.invokestatic 33, 3) := by decide +kernel
theorem dX4_become_48 : decode cX4_become 48 = .ok (.ifCond .ne 13, 3) := by decide +kernel
theorem dX4_become_51 : decode cX4_become 51 = .ok (.new 37, 3) := by decide +kernel
theorem dX4_become_54 : decode cX4_become 54 = .ok (.dup, 1) := by decide +kernel
theorem dX4_become_55 : decode cX4_become 55 = .ok (.ldc 110, 2) := by decide +kernel
theorem dX4_become_57 : decode cX4_become 57 = .ok (.invokespecial 41, 3) := by decide +kernel
theorem dX4_become_60 : decode cX4_become 60 = .ok (.athrow, 1) := by decide +kernel
theorem dX4_become_61 : decode cX4_become 61 = .ok (.aload_n 0, 1) := by decide +kernel
theorem dX4_become_62 : decode cX4_become 62 = .ok (.getfield 12, 3) := by decide +kernel
theorem dX4_become_65 : decode cX4_become 65 = .ok (.iload_n 1, 1) := by decide +kernel
theorem dX4_become_66 : decode cX4_become 66 = .ok (.iconst 4, 1) := by decide +kernel
theorem dX4_become_67 : decode cX4_become 67 = .ok (.invokevirtual 112, 3) := by decide +kernel
theorem dX4_become_70 : decode cX4_become 70 = .ok (.istore 5, 2) := by decide +kernel
theorem dX4_become_72 : decode cX4_become 72 = .ok (.aload_n 0, 1) := by decide +kernel
theorem dX4_become_73 : decode cX4_become 73 = .ok (.getfield 12, 3) := by decide +kernel
theorem dX4_become_76 : decode cX4_become 76 = .ok (.iload_n 1, 1) := by decide +kernel
theorem dX4_become_77 : decode cX4_become 77 = .ok (.iconst 4, 1) := by decide +kernel
theorem dX4_become_78 : decode cX4_become 78 = .ok (.iload_n 2, 1) := by decide +kernel
theorem dX4_become_79 : decode cX4_become 79 = .ok (.invokevirtual 116, 3) := by decide +kernel
theorem dX4_become_82 : decode cX4_become 82 = .ok (.aload_n 0, 1) := by decide +kernel
theorem dX4_become_83 : decode cX4_become 83 = .ok (.getfield 12, 3) := by decide +kernel
theorem dX4_become_86 : decode cX4_become 86 = .ok (.iload_n 1, 1) := by decide +kernel
theorem dX4_become_87 : decode cX4_become 87 = .ok (.iconst 5, 1) := by decide +kernel
theorem dX4_become_88 : decode cX4_become 88 = .ok (.iload_n 3, 1) := by decide +kernel
theorem dX4_become_89 : decode cX4_become 89 = .ok (.invokevirtual 116, 3) := by decide +kernel
theorem dX4_become_92 : decode cX4_become 92 = .ok (.aload_n 0, 1) := by decide +kernel
theorem dX4_become_93 : decode cX4_become 93 = .ok (.getfield 12, 3) := by decide +kernel
theorem dX4_become_96 : decode cX4_become 96 = .ok (.iload_n 1, 1) := by decide +kernel
theorem dX4_become_97 : decode cX4_become 97 = .ok (.bipush 6, 2) := by decide +kernel
theorem dX4_become_99 : decode cX4_become 99 = .ok (.iload 4, 2) := by decide +kernel
theorem dX4_become_101 : decode cX4_become 101 = .ok (.invokevirtual 116, 3) := by decide +kernel
theorem dX4_become_104 : decode cX4_become 104 = .ok (.iload 5, 2) := by decide +kernel
theorem dX4_become_106 : decode cX4_become 106 = .ok (.ireturn, 1) := by decide +kernel
set_option maxRecDepth 20000 in
theorem ggX4_lay_X2_isBeing : GoodIn wsX4_lay wsX2_isBeing := goodIn_r _ [12, 13, 57, 58, 59, 60, 61, 62, 63, 64] (by decide +kernel) (by decide +kernel)
set_option maxRecDepth 20000 in
theorem gX4_lay_X2_isBeing : GoodIn wsX4_lay (wsV RX4 105 RX2 yX2_isBeing wsX2_isBeing) := goodIn_app (goodIn_of _ (by decide +kernel)) ggX4_lay_X2_isBeing
set_option maxRecDepth 20000 in
theorem ggX4_lay_X4_isWithin : GoodIn wsX4_lay wsX4_isWithin := goodIn_r _ [17] (by decide +kernel) (by decide +kernel)
set_option maxRecDepth 20000 in
theorem gX4_lay_X4_isWithin : GoodIn wsX4_lay (va_wsS RX4 33 yX4_isWithin wsX4_isWithin) := goodIn_app (goodIn_of _ (by decide +kernel)) ggX4_lay_X4_isWithin
set_option maxRecDepth 20000 in
theorem ggX4_lay_X2_isAlive : GoodIn wsX4_lay wsX2_isAlive := goodIn_r _ [21, 22, 23, 24, 11, 25, 26, 57, 58, 59, 60, 61, 62, 63, 64] (by decide +kernel) (by decide +kernel)
set_option maxRecDepth 20000 in
theorem gX4_lay_X2_isAlive : GoodIn wsX4_lay (wsV RX4 122 RX2 yX2_isAlive wsX2_isAlive) := goodIn_app (goodIn_of _ (by decide +kernel)) ggX4_lay_X2_isAlive
set_option maxRecDepth 20000 in
theorem ggX4_lay_X2_addEffect : GoodIn wsX4_lay wsX2_addEffect := goodIn_r _ [30, 31, 32, 33, 34, 35, 36, 37, 38, 39, 40, 11, 41, 42, 43, 44, 45, 46, 47, 48, 49, 50, 51, 57, 58, 59, 60, 61, 62, 63, 64] (by decide +kernel) (by decide +kernel)
set_option maxRecDepth 20000 in
theorem gX4_lay_X2_addEffect : GoodIn wsX4_lay (wsV RX4 127 RX2 yX2_addEffect wsX2_addEffect) := goodIn_app (goodIn_of _ (by decide +kernel)) ggX4_lay_X2_addEffect
set_option maxRecDepth 20000 in
theorem ggX4_lay_X2_stackOf : GoodIn wsX4_lay wsX2_stackOf := goodIn_r _ [41, 42, 57, 58, 59, 60, 61, 62, 63, 64] (by decide +kernel) (by decide +kernel)
set_option maxRecDepth 20000 in
theorem gX4_lay_X2_stackOf : GoodIn wsX4_lay (wsV RX4 131 RX2 yX2_stackOf wsX2_stackOf) := goodIn_app (goodIn_of _ (by decide +kernel)) ggX4_lay_X2_stackOf
theorem dX4_lay_0 : decode cX4_lay 0 = .ok (.aload_n 0, 1) := by decide +kernel
theorem dX4_lay_1 : decode cX4_lay 1 = .ok (.getfield 12, 3) := by decide +kernel
theorem dX4_lay_4 : decode cX4_lay 4 = .ok (.iload_n 1, 1) := by decide +kernel
theorem dX4_lay_5 : decode cX4_lay 5 = .ok (.invokevirtual 105, 3) := by decide +kernel
theorem dX4_lay_8 : decode cX4_lay 8 = .ok (.ifCond .ne 13, 3) := by decide +kernel
theorem dX4_lay_11 : decode cX4_lay 11 = .ok (.new 52, 3) := by decide +kernel
theorem dX4_lay_14 : decode cX4_lay 14 = .ok (.dup, 1) := by decide +kernel
theorem dX4_lay_15 : decode cX4_lay 15 = .ok (.ldc 108, 2) := by decide +kernel
theorem dX4_lay_17 : decode cX4_lay 17 = .ok (.invokespecial 56, 3) := by decide +kernel
theorem dX4_lay_20 : decode cX4_lay 20 = .ok (.athrow, 1) := by decide +kernel
theorem dX4_lay_21 : decode cX4_lay 21 = .ok (.iload_n 2, 1) := by decide +kernel
theorem dX4_lay_22 : decode cX4_lay 22 = .ok (.iconst 0, 1) := by decide +kernel
theorem dX4_lay_23 : decode cX4_lay 23 = .ok (.iconst 4, 1) := by decide +kernel
theorem dX4_lay_24 : decode cX4_lay 24 = .ok (.invokestatic 33, 3) := by decide +kernel
theorem dX4_lay_27 : decode cX4_lay 27 = .ok (.ifCond .eq 24, 3) := by decide +kernel
theorem dX4_lay_30 : decode cX4_lay 30 = .ok (.iload_n 3, 1) := by decide +kernel
theorem dX4_lay_31 : decode cX4_lay 31 = .ok (.iconst 1, 1) := by decide +kernel
theorem dX4_lay_32 : decode cX4_lay 32 = .ok (.bipush 9, 2) := by decide +kernel
theorem dX4_lay_34 : decode cX4_lay 34 = .ok (.invokestatic 33, 3) := by decide +kernel
theorem dX4_lay_37 : decode cX4_lay 37 = .ok (.ifCond .eq 14, 3) := by decide +kernel
theorem dX4_lay_40 : decode cX4_lay 40 = .ok (.iload 4, 2) := by decide +kernel
theorem dX4_lay_42 : decode cX4_lay 42 = .ok (.iconst 1, 1) := by decide +kernel
theorem dX4_lay_43 : decode cX4_lay 43 = .ok (.bipush 20, 2) := by decide +kernel
theorem dX4_lay_45 : decode cX4_lay 45 = .ok (.invokestatic 33, 3) := by decide +kernel
theorem dX4_lay_48 : decode cX4_lay 48 = .ok (.ifCond .ne 13, 3) := by decide +kernel
theorem dX4_lay_51 : decode cX4_lay 51 = .ok (.new 37, 3) := by decide +kernel
theorem dX4_lay_54 : decode cX4_lay 54 = .ok (.dup, 1) := by decide +kernel
theorem dX4_lay_55 : decode cX4_lay 55 = .ok (.ldc 120, 2) := by decide +kernel
theorem dX4_lay_57 : decode cX4_lay 57 = .ok (.invokespecial 41, 3) := by decide +kernel
theorem dX4_lay_60 : decode cX4_lay 60 = .ok (.athrow, 1) := by decide +kernel
theorem dX4_lay_61 : decode cX4_lay 61 = .ok (.aload_n 0, 1) := by decide +kernel
theorem dX4_lay_62 : decode cX4_lay 62 = .ok (.getfield 12, 3) := by decide +kernel
theorem dX4_lay_65 : decode cX4_lay 65 = .ok (.iload_n 1, 1) := by decide +kernel
theorem dX4_lay_66 : decode cX4_lay 66 = .ok (.invokevirtual 122, 3) := by decide +kernel
theorem dX4_lay_69 : decode cX4_lay 69 = .ok (.ifCond .ne 13, 3) := by decide +kernel
theorem dX4_lay_72 : decode cX4_lay 72 = .ok (.new 69, 3) := by decide +kernel
theorem dX4_lay_75 : decode cX4_lay 75 = .ok (.dup, 1) := by decide +kernel
theorem dX4_lay_76 : decode cX4_lay 76 = .ok (.ldc 125, 2) := by decide +kernel
theorem dX4_lay_78 : decode cX4_lay 78 = .ok (.invokespecial 73, 3) := by decide +kernel
theorem dX4_lay_81 : decode cX4_lay 81 = .ok (.athrow, 1) := by decide +kernel
theorem dX4_lay_82 : decode cX4_lay 82 = .ok (.aload_n 0, 1) := by decide +kernel
theorem dX4_lay_83 : decode cX4_lay 83 = .ok (.getfield 12, 3) := by decide +kernel
theorem dX4_lay_86 : decode cX4_lay 86 = .ok (.iload_n 1, 1) := by decide +kernel
theorem dX4_lay_87 : decode cX4_lay 87 = .ok (.iload_n 2, 1) := by decide +kernel
theorem dX4_lay_88 : decode cX4_lay 88 = .ok (.iload_n 3, 1) := by decide +kernel
theorem dX4_lay_89 : decode cX4_lay 89 = .ok (.iload 4, 2) := by decide +kernel
theorem dX4_lay_91 : decode cX4_lay 91 = .ok (.invokevirtual 127, 3) := by decide +kernel
theorem dX4_lay_94 : decode cX4_lay 94 = .ok (.aload_n 0, 1) := by decide +kernel
theorem dX4_lay_95 : decode cX4_lay 95 = .ok (.getfield 12, 3) := by decide +kernel
theorem dX4_lay_98 : decode cX4_lay 98 = .ok (.iload_n 1, 1) := by decide +kernel
theorem dX4_lay_99 : decode cX4_lay 99 = .ok (.iload_n 2, 1) := by decide +kernel
theorem dX4_lay_100 : decode cX4_lay 100 = .ok (.invokevirtual 131, 3) := by decide +kernel
theorem dX4_lay_103 : decode cX4_lay 103 = .ok (.ireturn, 1) := by decide +kernel
set_option maxRecDepth 20000 in
theorem ggX4_of_X2_isBeing : GoodIn wsX4_of wsX2_isBeing := goodIn_r _ [10, 11, 34, 35, 36, 37, 38, 39, 40, 41] (by decide +kernel) (by decide +kernel)
set_option maxRecDepth 20000 in
theorem gX4_of_X2_isBeing : GoodIn wsX4_of (wsV RX4 105 RX2 yX2_isBeing wsX2_isBeing) := goodIn_app (goodIn_of _ (by decide +kernel)) ggX4_of_X2_isBeing
set_option maxRecDepth 20000 in
theorem ggX4_of_X4_isWithin : GoodIn wsX4_of wsX4_isWithin := goodIn_r _ [15] (by decide +kernel) (by decide +kernel)
set_option maxRecDepth 20000 in
theorem gX4_of_X4_isWithin : GoodIn wsX4_of (va_wsS RX4 33 yX4_isWithin wsX4_isWithin) := goodIn_app (goodIn_of _ (by decide +kernel)) ggX4_of_X4_isWithin
set_option maxRecDepth 20000 in
theorem ggX4_of_X4_answerOf : GoodIn wsX4_of wsX4_answerOf := goodIn_r _ [19, 5, 20, 21, 22, 9, 23, 24, 25, 26, 27, 28, 29, 30, 31, 32, 33, 34, 35, 36, 37, 38, 39, 40, 41] (by decide +kernel) (by decide +kernel)
set_option maxRecDepth 20000 in
theorem gX4_of_X4_answerOf : GoodIn wsX4_of (wsV RX4 136 RX4 yX4_answerOf wsX4_answerOf) := goodIn_app (goodIn_of _ (by decide +kernel)) ggX4_of_X4_answerOf
theorem dX4_of_0 : decode cX4_of 0 = .ok (.aload_n 0, 1) := by decide +kernel
theorem dX4_of_1 : decode cX4_of 1 = .ok (.getfield 12, 3) := by decide +kernel
theorem dX4_of_4 : decode cX4_of 4 = .ok (.iload_n 1, 1) := by decide +kernel
theorem dX4_of_5 : decode cX4_of 5 = .ok (.invokevirtual 105, 3) := by decide +kernel
theorem dX4_of_8 : decode cX4_of 8 = .ok (.ifCond .ne 13, 3) := by decide +kernel
theorem dX4_of_11 : decode cX4_of 11 = .ok (.new 52, 3) := by decide +kernel
theorem dX4_of_14 : decode cX4_of 14 = .ok (.dup, 1) := by decide +kernel
theorem dX4_of_15 : decode cX4_of 15 = .ok (.ldc 108, 2) := by decide +kernel
theorem dX4_of_17 : decode cX4_of 17 = .ok (.invokespecial 56, 3) := by decide +kernel
theorem dX4_of_20 : decode cX4_of 20 = .ok (.athrow, 1) := by decide +kernel
theorem dX4_of_21 : decode cX4_of 21 = .ok (.iload_n 2, 1) := by decide +kernel
theorem dX4_of_22 : decode cX4_of 22 = .ok (.iconst 0, 1) := by decide +kernel
theorem dX4_of_23 : decode cX4_of 23 = .ok (.bipush 9, 2) := by decide +kernel
theorem dX4_of_25 : decode cX4_of 25 = .ok (.invokestatic 33, 3) := by decide +kernel
theorem dX4_of_28 : decode cX4_of 28 = .ok (.ifCond .ne 13, 3) := by decide +kernel
theorem dX4_of_31 : decode cX4_of 31 = .ok (.new 37, 3) := by decide +kernel
theorem dX4_of_34 : decode cX4_of 34 = .ok (.dup, 1) := by decide +kernel
theorem dX4_of_35 : decode cX4_of 35 = .ok (.ldc 134, 2) := by decide +kernel
theorem dX4_of_37 : decode cX4_of 37 = .ok (.invokespecial 41, 3) := by decide +kernel
theorem dX4_of_40 : decode cX4_of 40 = .ok (.athrow, 1) := by decide +kernel
theorem dX4_of_41 : decode cX4_of 41 = .ok (.aload_n 0, 1) := by decide +kernel
theorem dX4_of_42 : decode cX4_of 42 = .ok (.iload_n 1, 1) := by decide +kernel
theorem dX4_of_43 : decode cX4_of 43 = .ok (.iload_n 2, 1) := by decide +kernel
theorem dX4_of_44 : decode cX4_of 44 = .ok (.invokevirtual 136, 3) := by decide +kernel
theorem dX4_of_47 : decode cX4_of 47 = .ok (.ireturn, 1) := by decide +kernel
set_option maxRecDepth 20000 in
theorem ggX4_effect_X2_isBeing : GoodIn wsX4_effect wsX2_isBeing := goodIn_r _ [10, 11, 30, 31, 32, 33, 34, 35, 36, 37] (by decide +kernel) (by decide +kernel)
set_option maxRecDepth 20000 in
theorem gX4_effect_X2_isBeing : GoodIn wsX4_effect (wsV RX4 105 RX2 yX2_isBeing wsX2_isBeing) := goodIn_app (goodIn_of _ (by decide +kernel)) ggX4_effect_X2_isBeing
set_option maxRecDepth 20000 in
theorem ggX4_effect_X4_isWithin : GoodIn wsX4_effect wsX4_isWithin := goodIn_r _ [15] (by decide +kernel) (by decide +kernel)
set_option maxRecDepth 20000 in
theorem gX4_effect_X4_isWithin : GoodIn wsX4_effect (va_wsS RX4 33 yX4_isWithin wsX4_isWithin) := goodIn_app (goodIn_of _ (by decide +kernel)) ggX4_effect_X4_isWithin
set_option maxRecDepth 20000 in
theorem ggX4_effect_X2_turnsOf : GoodIn wsX4_effect wsX2_turnsOf := goodIn_r _ [19, 20, 30, 31, 32, 33, 34, 35, 36, 37] (by decide +kernel) (by decide +kernel)
set_option maxRecDepth 20000 in
theorem gX4_effect_X2_turnsOf : GoodIn wsX4_effect (wsV RX4 141 RX2 yX2_turnsOf wsX2_turnsOf) := goodIn_app (goodIn_of _ (by decide +kernel)) ggX4_effect_X2_turnsOf
set_option maxRecDepth 20000 in
theorem ggX4_effect_X2_stackOf : GoodIn wsX4_effect wsX2_stackOf := goodIn_r _ [24, 25, 30, 31, 32, 33, 34, 35, 36, 37] (by decide +kernel) (by decide +kernel)
set_option maxRecDepth 20000 in
theorem gX4_effect_X2_stackOf : GoodIn wsX4_effect (wsV RX4 131 RX2 yX2_stackOf wsX2_stackOf) := goodIn_app (goodIn_of _ (by decide +kernel)) ggX4_effect_X2_stackOf
theorem dX4_effect_0 : decode cX4_effect 0 = .ok (.aload_n 0, 1) := by decide +kernel
theorem dX4_effect_1 : decode cX4_effect 1 = .ok (.getfield 12, 3) := by decide +kernel
theorem dX4_effect_4 : decode cX4_effect 4 = .ok (.iload_n 1, 1) := by decide +kernel
theorem dX4_effect_5 : decode cX4_effect 5 = .ok (.invokevirtual 105, 3) := by decide +kernel
theorem dX4_effect_8 : decode cX4_effect 8 = .ok (.ifCond .ne 13, 3) := by decide +kernel
theorem dX4_effect_11 : decode cX4_effect 11 = .ok (.new 52, 3) := by decide +kernel
theorem dX4_effect_14 : decode cX4_effect 14 = .ok (.dup, 1) := by decide +kernel
theorem dX4_effect_15 : decode cX4_effect 15 = .ok (.ldc 108, 2) := by decide +kernel
theorem dX4_effect_17 : decode cX4_effect 17 = .ok (.invokespecial 56, 3) := by decide +kernel
theorem dX4_effect_20 : decode cX4_effect 20 = .ok (.athrow, 1) := by decide +kernel
theorem dX4_effect_21 : decode cX4_effect 21 = .ok (.iload_n 2, 1) := by decide +kernel
theorem dX4_effect_22 : decode cX4_effect 22 = .ok (.iconst 0, 1) := by decide +kernel
theorem dX4_effect_23 : decode cX4_effect 23 = .ok (.iconst 4, 1) := by decide +kernel
theorem dX4_effect_24 : decode cX4_effect 24 = .ok (.invokestatic 33, 3) := by decide +kernel
theorem dX4_effect_27 : decode cX4_effect 27 = .ok (.ifCond .ne 13, 3) := by decide +kernel
theorem dX4_effect_30 : decode cX4_effect 30 = .ok (.new 37, 3) := by decide +kernel
theorem dX4_effect_33 : decode cX4_effect 33 = .ok (.dup, 1) := by decide +kernel
theorem dX4_effect_34 : decode cX4_effect 34 = .ok (.ldc 139, 2) := by decide +kernel
theorem dX4_effect_36 : decode cX4_effect 36 = .ok (.invokespecial 41, 3) := by decide +kernel
theorem dX4_effect_39 : decode cX4_effect 39 = .ok (.athrow, 1) := by decide +kernel
theorem dX4_effect_40 : decode cX4_effect 40 = .ok (.iload_n 3, 1) := by decide +kernel
theorem dX4_effect_41 : decode cX4_effect 41 = .ok (.ifCond .eq 15, 3) := by decide +kernel
theorem dX4_effect_44 : decode cX4_effect 44 = .ok (.aload_n 0, 1) := by decide +kernel
theorem dX4_effect_45 : decode cX4_effect 45 = .ok (.getfield 12, 3) := by decide +kernel
theorem dX4_effect_48 : decode cX4_effect 48 = .ok (.iload_n 1, 1) := by decide +kernel
theorem dX4_effect_49 : decode cX4_effect 49 = .ok (.iload_n 2, 1) := by decide +kernel
theorem dX4_effect_50 : decode cX4_effect 50 = .ok (.invokevirtual 141, 3) := by decide +kernel
theorem dX4_effect_53 : decode cX4_effect 53 = .ok (.goto 12, 3) := by decide +kernel
theorem dX4_effect_56 : decode cX4_effect 56 = .ok (.aload_n 0, 1) := by decide +kernel
theorem dX4_effect_57 : decode cX4_effect 57 = .ok (.getfield 12, 3) := by decide +kernel
theorem dX4_effect_60 : decode cX4_effect 60 = .ok (.iload_n 1, 1) := by decide +kernel
theorem dX4_effect_61 : decode cX4_effect 61 = .ok (.iload_n 2, 1) := by decide +kernel
theorem dX4_effect_62 : decode cX4_effect 62 = .ok (.invokevirtual 131, 3) := by decide +kernel
theorem dX4_effect_65 : decode cX4_effect 65 = .ok (.ireturn, 1) := by decide +kernel
set_option maxRecDepth 20000 in
theorem ggX4_many_X4_isWithin : GoodIn wsX4_many wsX4_isWithin := goodIn_r _ [6] (by decide +kernel) (by decide +kernel)
set_option maxRecDepth 20000 in
theorem gX4_many_X4_isWithin : GoodIn wsX4_many (va_wsS RX4 33 yX4_isWithin wsX4_isWithin) := goodIn_app (goodIn_of _ (by decide +kernel)) ggX4_many_X4_isWithin
set_option maxRecDepth 20000 in
theorem ggX4_many_X4_countOf : GoodIn wsX4_many wsX4_countOf := goodIn_r _ [10, 11, 12, 13, 14, 15, 16, 17, 18, 19, 20, 21, 22, 23, 24, 25, 26, 27, 28, 29, 30, 31, 32, 33, 34, 35, 36, 37, 38, 39, 40, 41, 42, 43, 44, 45, 46, 47, 48, 49, 50, 51, 52, 53, 54, 55, 56, 57, 58, 59, 60, 61] (by decide +kernel) (by decide +kernel)
set_option maxRecDepth 20000 in
theorem gX4_many_X4_countOf : GoodIn wsX4_many (wsV RX4 146 RX4 yX4_countOf wsX4_countOf) := goodIn_app (goodIn_of _ (by decide +kernel)) ggX4_many_X4_countOf
theorem dX4_many_0 : decode cX4_many 0 = .ok (.iload_n 1, 1) := by decide +kernel
theorem dX4_many_1 : decode cX4_many 1 = .ok (.iconst 0, 1) := by decide +kernel
theorem dX4_many_2 : decode cX4_many 2 = .ok (.bipush 8, 2) := by decide +kernel
theorem dX4_many_4 : decode cX4_many 4 = .ok (.invokestatic 33, 3) := by decide +kernel
theorem dX4_many_7 : decode cX4_many 7 = .ok (.ifCond .ne 13, 3) := by decide +kernel
theorem dX4_many_10 : decode cX4_many 10 = .ok (.new 37, 3) := by decide +kernel
theorem dX4_many_13 : decode cX4_many 13 = .ok (.dup, 1) := by decide +kernel
theorem dX4_many_14 : decode cX4_many 14 = .ok (.ldc 144, 2) := by decide +kernel
theorem dX4_many_16 : decode cX4_many 16 = .ok (.invokespecial 41, 3) := by decide +kernel
theorem dX4_many_19 : decode cX4_many 19 = .ok (.athrow, 1) := by decide +kernel
theorem dX4_many_20 : decode cX4_many 20 = .ok (.aload_n 0, 1) := by decide +kernel
theorem dX4_many_21 : decode cX4_many 21 = .ok (.iload_n 1, 1) := by decide +kernel
theorem dX4_many_22 : decode cX4_many 22 = .ok (.invokevirtual 146, 3) := by decide +kernel
theorem dX4_many_25 : decode cX4_many 25 = .ok (.ireturn, 1) := by decide +kernel
set_option maxRecDepth 20000 in
theorem ggX4_act_X4_isWithin : GoodIn wsX4_act wsX4_isWithin := goodIn_r _ [9] (by decide +kernel) (by decide +kernel)
set_option maxRecDepth 20000 in
theorem gX4_act_X4_isWithin : GoodIn wsX4_act (va_wsS RX4 33 yX4_isWithin wsX4_isWithin) := goodIn_app (goodIn_of _ (by decide +kernel)) ggX4_act_X4_isWithin
set_option maxRecDepth 20000 in
theorem ggX4_act_X2_whoseTurn : GoodIn wsX4_act wsX2_whoseTurn := goodIn_r _ [14, 15, 16, 17, 18, 13, 19, 20, 21, 22, 23, 24, 150, 151, 152, 153, 154, 155, 156, 157] (by decide +kernel) (by decide +kernel)
set_option maxRecDepth 20000 in
theorem gX4_act_X2_whoseTurn : GoodIn wsX4_act (wsV RX4 151 RX2 yX2_whoseTurn wsX2_whoseTurn) := goodIn_app (goodIn_of _ (by decide +kernel)) ggX4_act_X2_whoseTurn
set_option maxRecDepth 20000 in
theorem ggX4_act_X1_isPossible : GoodIn wsX4_act wsX1_isPossible := goodIn_r _ [28, 29, 17, 18, 13, 19, 20, 21, 22, 23, 24, 30, 31, 27, 32, 33, 34, 35, 36, 37, 38, 39, 40, 41, 42, 43, 44, 45, 15, 46, 47, 48, 49, 50, 51, 52, 53, 16, 54, 55, 56, 57, 58, 59, 60, 61, 62, 63, 64, 65, 66, 67, 68, 69, 70, 71, 72, 73, 74, 75, 76, 77, 8, 78, 150, 151, 152, 153, 154, 155, 156, 157] (by decide +kernel) (by decide +kernel)
set_option maxRecDepth 20000 in
theorem gX4_act_X1_isPossible : GoodIn wsX4_act (va_wsS RX4 155 yX1_isPossible wsX1_isPossible) := goodIn_app (goodIn_of _ (by decide +kernel)) ggX4_act_X1_isPossible
set_option maxRecDepth 20000 in
theorem ggX4_act_X1_perform : GoodIn wsX4_act wsX1_perform := goodIn_r _ [81, 82, 83, 60, 84, 85, 86, 87, 13, 88, 89, 33, 21, 22, 23, 24, 90, 91, 92, 93, 30, 31, 27, 32, 94, 95, 96, 42, 43, 44, 45, 15, 20, 97, 98, 99, 100, 62, 63, 64, 16, 17, 18, 19, 101, 102, 103, 104, 105, 106, 107, 37, 38, 39, 40, 41, 108, 109, 110, 111, 112, 113, 114, 50, 51, 52, 53, 54, 47, 48, 49, 55, 56, 57, 58, 59, 61, 65, 66, 67, 68, 69, 70, 71, 72, 73, 74, 75, 76, 77, 8, 78, 115, 116, 117, 118, 119, 120, 121, 122, 123, 124, 125, 126, 127, 128, 129, 130, 131, 29, 132, 133, 134, 135, 136, 137, 138, 139, 140, 141, 142, 143, 144, 145, 150, 151, 152, 153, 154, 155, 156, 157] (by decide +kernel) (by decide +kernel)
set_option maxRecDepth 20000 in
theorem gX4_act_X1_perform : GoodIn wsX4_act (va_wsS RX4 163 yX1_perform wsX1_perform) := goodIn_app (goodIn_of _ (by decide +kernel)) ggX4_act_X1_perform
theorem dX4_act_0 : decode cX4_act 0 = .ok (.iload_n 1, 1) := by decide +kernel
theorem dX4_act_1 : decode cX4_act 1 = .ok (.iconst 0, 1) := by decide +kernel
theorem dX4_act_2 : decode cX4_act 2 = .ok (.bipush 7, 2) := by decide +kernel
theorem dX4_act_4 : decode cX4_act 4 = .ok (.invokestatic 33, 3) := by decide +kernel
theorem dX4_act_7 : decode cX4_act 7 = .ok (.ifCond .ne 13, 3) := by decide +kernel
theorem dX4_act_10 : decode cX4_act 10 = .ok (.new 37, 3) := by decide +kernel
theorem dX4_act_13 : decode cX4_act 13 = .ok (.dup, 1) := by decide +kernel
theorem dX4_act_14 : decode cX4_act 14 = .ok (.ldc 149, 2) := by decide +kernel
theorem dX4_act_16 : decode cX4_act 16 = .ok (.invokespecial 41, 3) := by decide +kernel
theorem dX4_act_19 : decode cX4_act 19 = .ok (.athrow, 1) := by decide +kernel
theorem dX4_act_20 : decode cX4_act 20 = .ok (.aload_n 0, 1) := by decide +kernel
theorem dX4_act_21 : decode cX4_act 21 = .ok (.getfield 12, 3) := by decide +kernel
theorem dX4_act_24 : decode cX4_act 24 = .ok (.invokevirtual 151, 3) := by decide +kernel
theorem dX4_act_27 : decode cX4_act 27 = .ok (.istore_n 2, 1) := by decide +kernel
theorem dX4_act_28 : decode cX4_act 28 = .ok (.aload_n 0, 1) := by decide +kernel
theorem dX4_act_29 : decode cX4_act 29 = .ok (.getfield 12, 3) := by decide +kernel
theorem dX4_act_32 : decode cX4_act 32 = .ok (.iload_n 2, 1) := by decide +kernel
theorem dX4_act_33 : decode cX4_act 33 = .ok (.iload_n 1, 1) := by decide +kernel
theorem dX4_act_34 : decode cX4_act 34 = .ok (.invokestatic 155, 3) := by decide +kernel
theorem dX4_act_37 : decode cX4_act 37 = .ok (.ifCond .ne 13, 3) := by decide +kernel
theorem dX4_act_40 : decode cX4_act 40 = .ok (.new 69, 3) := by decide +kernel
theorem dX4_act_43 : decode cX4_act 43 = .ok (.dup, 1) := by decide +kernel
theorem dX4_act_44 : decode cX4_act 44 = .ok (.ldc 161, 2) := by decide +kernel
theorem dX4_act_46 : decode cX4_act 46 = .ok (.invokespecial 73, 3) := by decide +kernel
theorem dX4_act_49 : decode cX4_act 49 = .ok (.athrow, 1) := by decide +kernel
theorem dX4_act_50 : decode cX4_act 50 = .ok (.aload_n 0, 1) := by decide +kernel
theorem dX4_act_51 : decode cX4_act 51 = .ok (.getfield 12, 3) := by decide +kernel
theorem dX4_act_54 : decode cX4_act 54 = .ok (.iload_n 2, 1) := by decide +kernel
theorem dX4_act_55 : decode cX4_act 55 = .ok (.iload_n 1, 1) := by decide +kernel
theorem dX4_act_56 : decode cX4_act 56 = .ok (.invokestatic 163, 3) := by decide +kernel
theorem dX4_act_59 : decode cX4_act 59 = .ok (.ireturn, 1) := by decide +kernel
set_option maxRecDepth 20000 in
theorem ggX4_follow_X4_isWithin : GoodIn wsX4_follow wsX4_isWithin := goodIn_r _ [6] (by decide +kernel) (by decide +kernel)
set_option maxRecDepth 20000 in
theorem gX4_follow_X4_isWithin : GoodIn wsX4_follow (va_wsS RX4 33 yX4_isWithin wsX4_isWithin) := goodIn_app (goodIn_of _ (by decide +kernel)) ggX4_follow_X4_isWithin
set_option maxRecDepth 20000 in
theorem ggX4_follow_X4_play : GoodIn wsX4_follow wsX4_play := goodIn_r _ [10, 11, 12, 13, 14, 15, 16, 17, 18, 19, 20, 21, 22, 23, 24, 25, 26, 27, 28, 29, 30, 31, 32, 33, 34, 35, 36, 37, 38, 39, 40, 41, 42, 43, 44, 45, 46, 47, 48, 49, 50, 51, 52, 53, 54, 55, 56, 57, 58, 59, 60, 61, 62, 63, 64, 65, 66, 67, 68, 69, 70, 71, 72, 73, 5, 74, 75, 76, 77, 78, 79, 80, 81, 82, 83, 84, 85, 86, 87, 88, 89, 90, 91, 92, 93, 94, 95, 96, 97, 98, 99, 100, 101, 102, 103, 104, 105, 106, 107, 108, 109, 110, 111, 112, 113, 114, 115, 116, 117, 118, 119, 120, 121, 122, 123, 124, 125, 126, 127, 128, 129, 130, 131, 132, 133, 134, 135, 136, 137, 138, 139, 140, 141, 142, 143, 144, 145, 146, 147, 148, 149, 150, 151, 152, 153, 154, 155, 156, 157, 158, 159, 160, 161, 162, 163, 164, 165, 166, 167, 168, 169, 170, 171, 172, 173, 174, 175, 176, 177, 178, 179, 180, 181, 182, 183, 184, 185, 186, 187, 188, 189, 190, 191, 192, 193, 194, 195, 196, 197, 198, 199, 200, 201, 202, 203, 204, 205, 206, 207, 208, 209, 210, 211, 212, 213, 214, 215, 216, 217, 218, 219, 220, 221, 222, 223, 224, 225, 226, 227, 228, 229, 230, 231, 232, 233, 234, 235, 236, 237, 238, 239, 240, 241, 242, 243, 244, 245, 246, 247, 248, 249, 250, 251] (by decide +kernel) (by decide +kernel)
set_option maxRecDepth 20000 in
theorem gX4_follow_X4_play : GoodIn wsX4_follow (wsV RX4 169 RX4 yX4_play wsX4_play) := goodIn_app (goodIn_of _ (by decide +kernel)) ggX4_follow_X4_play
theorem dX4_follow_0 : decode cX4_follow 0 = .ok (.iload_n 1, 1) := by decide +kernel
theorem dX4_follow_1 : decode cX4_follow 1 = .ok (.iconst 1, 1) := by decide +kernel
theorem dX4_follow_2 : decode cX4_follow 2 = .ok (.bipush 40, 2) := by decide +kernel
theorem dX4_follow_4 : decode cX4_follow 4 = .ok (.invokestatic 33, 3) := by decide +kernel
theorem dX4_follow_7 : decode cX4_follow 7 = .ok (.ifCond .ne 13, 3) := by decide +kernel
theorem dX4_follow_10 : decode cX4_follow 10 = .ok (.new 37, 3) := by decide +kernel
theorem dX4_follow_13 : decode cX4_follow 13 = .ok (.dup, 1) := by decide +kernel
theorem dX4_follow_14 : decode cX4_follow 14 = .ok (.ldc 167, 2) := by decide +kernel
theorem dX4_follow_16 : decode cX4_follow 16 = .ok (.invokespecial 41, 3) := by decide +kernel
theorem dX4_follow_19 : decode cX4_follow 19 = .ok (.athrow, 1) := by decide +kernel
theorem dX4_follow_20 : decode cX4_follow 20 = .ok (.aload_n 0, 1) := by decide +kernel
theorem dX4_follow_21 : decode cX4_follow 21 = .ok (.iload_n 1, 1) := by decide +kernel
theorem dX4_follow_22 : decode cX4_follow 22 = .ok (.invokevirtual 169, 3) := by decide +kernel
theorem dX4_follow_25 : decode cX4_follow 25 = .ok (.ireturn, 1) := by decide +kernel
set_option maxRecDepth 20000 in
theorem ggX4_target_X2_isBeing : GoodIn wsX4_target wsX2_isBeing := goodIn_r _ [8, 9, 60, 61, 62, 63, 64, 65, 66, 67] (by decide +kernel) (by decide +kernel)
set_option maxRecDepth 20000 in
theorem gX4_target_X2_isBeing : GoodIn wsX4_target (wsV RX4 105 RX2 yX2_isBeing wsX2_isBeing) := goodIn_app (goodIn_of _ (by decide +kernel)) ggX4_target_X2_isBeing
set_option maxRecDepth 20000 in
theorem ggX4_target_X2_targetOf : GoodIn wsX4_target wsX2_targetOf := goodIn_r _ [13, 9, 14, 15, 16, 7, 17, 18, 19, 20, 21, 22, 23, 24, 25, 26, 27, 28, 29, 30, 31, 32, 33, 34, 35, 36, 37, 38, 39, 40, 41, 42, 43, 44, 45, 46, 47, 48, 49, 50, 51, 52, 53, 54, 55, 60, 61, 62, 63, 64, 65, 66, 67] (by decide +kernel) (by decide +kernel)
set_option maxRecDepth 20000 in
theorem gX4_target_X2_targetOf : GoodIn wsX4_target (wsV RX4 172 RX2 yX2_targetOf wsX2_targetOf) := goodIn_app (goodIn_of _ (by decide +kernel)) ggX4_target_X2_targetOf
theorem dX4_target_0 : decode cX4_target 0 = .ok (.aload_n 0, 1) := by decide +kernel
theorem dX4_target_1 : decode cX4_target 1 = .ok (.getfield 12, 3) := by decide +kernel
theorem dX4_target_4 : decode cX4_target 4 = .ok (.iload_n 1, 1) := by decide +kernel
theorem dX4_target_5 : decode cX4_target 5 = .ok (.invokevirtual 105, 3) := by decide +kernel
theorem dX4_target_8 : decode cX4_target 8 = .ok (.ifCond .ne 13, 3) := by decide +kernel
theorem dX4_target_11 : decode cX4_target 11 = .ok (.new 52, 3) := by decide +kernel
theorem dX4_target_14 : decode cX4_target 14 = .ok (.dup, 1) := by decide +kernel
theorem dX4_target_15 : decode cX4_target 15 = .ok (.ldc 108, 2) := by decide +kernel
theorem dX4_target_17 : decode cX4_target 17 = .ok (.invokespecial 56, 3) := by decide +kernel
theorem dX4_target_20 : decode cX4_target 20 = .ok (.athrow, 1) := by decide +kernel
theorem dX4_target_21 : decode cX4_target 21 = .ok (.aload_n 0, 1) := by decide +kernel
theorem dX4_target_22 : decode cX4_target 22 = .ok (.getfield 12, 3) := by decide +kernel
theorem dX4_target_25 : decode cX4_target 25 = .ok (.iload_n 1, 1) := by decide +kernel
theorem dX4_target_26 : decode cX4_target 26 = .ok (.invokevirtual 172, 3) := by decide +kernel
theorem dX4_target_29 : decode cX4_target 29 = .ok (.ireturn, 1) := by decide +kernel
set_option maxRecDepth 20000 in
theorem ggX4_way_X2_isBeing : GoodIn wsX4_way wsX2_isBeing := goodIn_r _ [9, 10, 81, 82, 83, 84, 85, 86, 87, 88] (by decide +kernel) (by decide +kernel)
set_option maxRecDepth 20000 in
theorem gX4_way_X2_isBeing : GoodIn wsX4_way (wsV RX4 105 RX2 yX2_isBeing wsX2_isBeing) := goodIn_app (goodIn_of _ (by decide +kernel)) ggX4_way_X2_isBeing
set_option maxRecDepth 20000 in
theorem ggX4_way_X4_isCell : GoodIn wsX4_way wsX4_isCell := goodIn_r _ [14] (by decide +kernel) (by decide +kernel)
set_option maxRecDepth 20000 in
theorem gX4_way_X4_isCell : GoodIn wsX4_way (va_wsS RX4 48 yX4_isCell wsX4_isCell) := goodIn_app (goodIn_of _ (by decide +kernel)) ggX4_way_X4_isCell
set_option maxRecDepth 20000 in
theorem ggX4_way_X0_wayOf : GoodIn wsX4_way wsX0_wayOf := goodIn_r _ [19, 20, 21, 22, 23, 8, 24, 25, 26, 27, 28, 29, 30, 31, 32, 33, 34, 35, 36, 37, 38, 39, 40, 41, 42, 43, 44, 45, 46, 47, 48, 49, 50, 51, 52, 53, 54, 55, 56, 57, 58, 59, 60, 61, 62, 63, 64, 65, 66, 67, 68, 69, 70, 71, 72, 73, 74, 75, 76, 89, 90, 81, 82, 83, 84, 85, 86, 87, 88, 91, 92, 93] (by decide +kernel) (by decide +kernel)
set_option maxRecDepth 20000 in
theorem gX4_way_X0_wayOf : GoodIn wsX4_way (wsV RX4 177 RX0 yX0_wayOf wsX0_wayOf) := goodIn_app (goodIn_of _ (by decide +kernel)) ggX4_way_X0_wayOf
theorem dX4_way_0 : decode cX4_way 0 = .ok (.aload_n 0, 1) := by decide +kernel
theorem dX4_way_1 : decode cX4_way 1 = .ok (.getfield 12, 3) := by decide +kernel
theorem dX4_way_4 : decode cX4_way 4 = .ok (.iload_n 1, 1) := by decide +kernel
theorem dX4_way_5 : decode cX4_way 5 = .ok (.invokevirtual 105, 3) := by decide +kernel
theorem dX4_way_8 : decode cX4_way 8 = .ok (.ifCond .eq 10, 3) := by decide +kernel
theorem dX4_way_11 : decode cX4_way 11 = .ok (.iload_n 2, 1) := by decide +kernel
theorem dX4_way_12 : decode cX4_way 12 = .ok (.invokestatic 48, 3) := by decide +kernel
theorem dX4_way_15 : decode cX4_way 15 = .ok (.ifCond .ne 13, 3) := by decide +kernel
theorem dX4_way_18 : decode cX4_way 18 = .ok (.new 52, 3) := by decide +kernel
theorem dX4_way_21 : decode cX4_way 21 = .ok (.dup, 1) := by decide +kernel
theorem dX4_way_22 : decode cX4_way 22 = .ok (.ldc 175, 2) := by decide +kernel
theorem dX4_way_24 : decode cX4_way 24 = .ok (.invokespecial 56, 3) := by decide +kernel
theorem dX4_way_27 : decode cX4_way 27 = .ok (.athrow, 1) := by decide +kernel
theorem dX4_way_28 : decode cX4_way 28 = .ok (.aload_n 0, 1) := by decide +kernel
theorem dX4_way_29 : decode cX4_way 29 = .ok (.getfield 29, 3) := by decide +kernel
theorem dX4_way_32 : decode cX4_way 32 = .ok (.aload_n 0, 1) := by decide +kernel
theorem dX4_way_33 : decode cX4_way 33 = .ok (.getfield 12, 3) := by decide +kernel
theorem dX4_way_36 : decode cX4_way 36 = .ok (.iload_n 1, 1) := by decide +kernel
theorem dX4_way_37 : decode cX4_way 37 = .ok (.iload_n 2, 1) := by decide +kernel
theorem dX4_way_38 : decode cX4_way 38 = .ok (.invokevirtual 177, 3) := by decide +kernel
theorem dX4_way_41 : decode cX4_way 41 = .ok (.ireturn, 1) := by decide +kernel
set_option maxRecDepth 20000 in
theorem ggX4_worth_X2_isBeing : GoodIn wsX4_worth wsX2_isBeing := goodIn_r _ [11, 12, 174, 175, 176, 177, 178, 179, 180, 181] (by decide +kernel) (by decide +kernel)
set_option maxRecDepth 20000 in
theorem gX4_worth_X2_isBeing : GoodIn wsX4_worth (wsV RX4 105 RX2 yX2_isBeing wsX2_isBeing) := goodIn_app (goodIn_of _ (by decide +kernel)) ggX4_worth_X2_isBeing
set_option maxRecDepth 20000 in
theorem ggX4_worth_X4_isWithin : GoodIn wsX4_worth wsX4_isWithin := goodIn_r _ [16] (by decide +kernel) (by decide +kernel)
set_option maxRecDepth 20000 in
theorem gX4_worth_X4_isWithin : GoodIn wsX4_worth (va_wsS RX4 33 yX4_isWithin wsX4_isWithin) := goodIn_app (goodIn_of _ (by decide +kernel)) ggX4_worth_X4_isWithin
set_option maxRecDepth 20000 in
theorem ggX4_worth_X0_weigh : GoodIn wsX4_worth wsX0_weigh := goodIn_r _ [21, 22, 23, 24, 25, 26, 10, 27, 12, 28, 29, 30, 31, 32, 33, 34, 35, 36, 37, 38, 39, 40, 41, 42, 43, 44, 45, 46, 47, 48, 49, 50, 51, 52, 53, 54, 55, 56, 57, 58, 59, 60, 61, 62, 63, 64, 65, 66, 67, 15, 68, 69, 70, 71, 72, 73, 74, 75, 76, 77, 78, 79, 80, 81, 82, 83, 84, 85, 86, 87, 88, 89, 90, 91, 92, 93, 94, 95, 96, 97, 98, 99, 100, 101, 102, 103, 104, 105, 106, 107, 108, 109, 110, 111, 112, 113, 114, 115, 116, 117, 118, 119, 120, 121, 122, 123, 124, 125, 126, 127, 128, 129, 20, 130, 131, 132, 133, 134, 135, 136, 137, 138, 139, 140, 141, 142, 143, 144, 145, 146, 147, 148, 149, 150, 151, 152, 153, 154, 155, 156, 157, 158, 159, 160, 161, 162, 163, 164, 165, 182, 183, 174, 175, 176, 177, 178, 179, 180, 181, 184, 185, 186] (by decide +kernel) (by decide +kernel)
set_option maxRecDepth 20000 in
theorem gX4_worth_X0_weigh : GoodIn wsX4_worth (wsV RX4 180 RX0 yX0_weigh wsX0_weigh) := goodIn_app (goodIn_of _ (by decide +kernel)) ggX4_worth_X0_weigh
set_option maxRecDepth 20000 in
theorem ggX4_worth_X0_worthOf : GoodIn wsX4_worth wsX0_worthOf := goodIn_r _ [169, 23, 182, 183] (by decide +kernel) (by decide +kernel)
set_option maxRecDepth 20000 in
theorem gX4_worth_X0_worthOf : GoodIn wsX4_worth (wsV RX4 184 RX0 yX0_worthOf wsX0_worthOf) := goodIn_app (goodIn_of _ (by decide +kernel)) ggX4_worth_X0_worthOf
theorem dX4_worth_0 : decode cX4_worth 0 = .ok (.aload_n 0, 1) := by decide +kernel
theorem dX4_worth_1 : decode cX4_worth 1 = .ok (.getfield 12, 3) := by decide +kernel
theorem dX4_worth_4 : decode cX4_worth 4 = .ok (.iload_n 1, 1) := by decide +kernel
theorem dX4_worth_5 : decode cX4_worth 5 = .ok (.invokevirtual 105, 3) := by decide +kernel
theorem dX4_worth_8 : decode cX4_worth 8 = .ok (.ifCond .ne 13, 3) := by decide +kernel
theorem dX4_worth_11 : decode cX4_worth 11 = .ok (.new 52, 3) := by decide +kernel
theorem dX4_worth_14 : decode cX4_worth 14 = .ok (.dup, 1) := by decide +kernel
theorem dX4_worth_15 : decode cX4_worth 15 = .ok (.ldc 108, 2) := by decide +kernel
theorem dX4_worth_17 : decode cX4_worth 17 = .ok (.invokespecial 56, 3) := by decide +kernel
theorem dX4_worth_20 : decode cX4_worth 20 = .ok (.athrow, 1) := by decide +kernel
theorem dX4_worth_21 : decode cX4_worth 21 = .ok (.iload_n 2, 1) := by decide +kernel
theorem dX4_worth_22 : decode cX4_worth 22 = .ok (.iconst 0, 1) := by decide +kernel
theorem dX4_worth_23 : decode cX4_worth 23 = .ok (.bipush 7, 2) := by decide +kernel
theorem dX4_worth_25 : decode cX4_worth 25 = .ok (.invokestatic 33, 3) := by decide +kernel
theorem dX4_worth_28 : decode cX4_worth 28 = .ok (.ifCond .ne 13, 3) := by decide +kernel
theorem dX4_worth_31 : decode cX4_worth 31 = .ok (.new 37, 3) := by decide +kernel
theorem dX4_worth_34 : decode cX4_worth 34 = .ok (.dup, 1) := by decide +kernel
theorem dX4_worth_35 : decode cX4_worth 35 = .ok (.ldc 149, 2) := by decide +kernel
theorem dX4_worth_37 : decode cX4_worth 37 = .ok (.invokespecial 41, 3) := by decide +kernel
theorem dX4_worth_40 : decode cX4_worth 40 = .ok (.athrow, 1) := by decide +kernel
theorem dX4_worth_41 : decode cX4_worth 41 = .ok (.aload_n 0, 1) := by decide +kernel
theorem dX4_worth_42 : decode cX4_worth 42 = .ok (.getfield 29, 3) := by decide +kernel
theorem dX4_worth_45 : decode cX4_worth 45 = .ok (.aload_n 0, 1) := by decide +kernel
theorem dX4_worth_46 : decode cX4_worth 46 = .ok (.getfield 12, 3) := by decide +kernel
theorem dX4_worth_49 : decode cX4_worth 49 = .ok (.iload_n 1, 1) := by decide +kernel
theorem dX4_worth_50 : decode cX4_worth 50 = .ok (.invokevirtual 180, 3) := by decide +kernel
theorem dX4_worth_53 : decode cX4_worth 53 = .ok (.aload_n 0, 1) := by decide +kernel
theorem dX4_worth_54 : decode cX4_worth 54 = .ok (.getfield 29, 3) := by decide +kernel
theorem dX4_worth_57 : decode cX4_worth 57 = .ok (.iload_n 2, 1) := by decide +kernel
theorem dX4_worth_58 : decode cX4_worth 58 = .ok (.invokevirtual 184, 3) := by decide +kernel
theorem dX4_worth_61 : decode cX4_worth 61 = .ok (.ireturn, 1) := by decide +kernel
set_option maxRecDepth 20000 in
theorem ggX4_plan_X2_isBeing : GoodIn wsX4_plan wsX2_isBeing := goodIn_r _ [9, 10, 169, 170, 171, 172, 173, 174, 175, 176] (by decide +kernel) (by decide +kernel)
set_option maxRecDepth 20000 in
theorem gX4_plan_X2_isBeing : GoodIn wsX4_plan (wsV RX4 105 RX2 yX2_isBeing wsX2_isBeing) := goodIn_app (goodIn_of _ (by decide +kernel)) ggX4_plan_X2_isBeing
set_option maxRecDepth 20000 in
theorem ggX4_plan_X0_weigh : GoodIn wsX4_plan wsX0_weigh := goodIn_r _ [15, 16, 17, 18, 19, 20, 8, 21, 10, 22, 23, 24, 25, 26, 27, 28, 29, 30, 31, 32, 33, 34, 35, 36, 37, 38, 39, 40, 41, 42, 43, 44, 45, 46, 47, 48, 49, 50, 51, 52, 53, 54, 55, 56, 57, 58, 59, 60, 61, 62, 63, 64, 65, 66, 67, 68, 69, 70, 71, 72, 73, 74, 75, 76, 77, 78, 79, 80, 81, 82, 83, 84, 85, 86, 87, 88, 89, 90, 91, 92, 93, 94, 95, 96, 97, 98, 99, 100, 101, 102, 103, 104, 105, 106, 107, 108, 109, 110, 111, 112, 113, 114, 115, 116, 117, 118, 119, 120, 121, 122, 123, 124, 14, 125, 126, 127, 128, 129, 130, 131, 132, 133, 134, 135, 136, 137, 138, 139, 140, 141, 142, 143, 144, 145, 146, 147, 148, 149, 150, 151, 152, 153, 154, 155, 156, 157, 158, 159, 160, 177, 178, 169, 170, 171, 172, 173, 174, 175, 176, 179, 180, 181] (by decide +kernel) (by decide +kernel)
set_option maxRecDepth 20000 in
theorem gX4_plan_X0_weigh : GoodIn wsX4_plan (wsV RX4 180 RX0 yX0_weigh wsX0_weigh) := goodIn_app (goodIn_of _ (by decide +kernel)) ggX4_plan_X0_weigh
set_option maxRecDepth 20000 in
theorem ggX4_plan_X0_best : GoodIn wsX4_plan wsX0_best := goodIn_r _ [164, 17, 177, 178] (by decide +kernel) (by decide +kernel)
set_option maxRecDepth 20000 in
theorem gX4_plan_X0_best : GoodIn wsX4_plan (wsV RX4 187 RX0 yX0_best wsX0_best) := goodIn_app (goodIn_of _ (by decide +kernel)) ggX4_plan_X0_best
theorem dX4_plan_0 : decode cX4_plan 0 = .ok (.aload_n 0, 1) := by decide +kernel
theorem dX4_plan_1 : decode cX4_plan 1 = .ok (.getfield 12, 3) := by decide +kernel
theorem dX4_plan_4 : decode cX4_plan 4 = .ok (.iload_n 1, 1) := by decide +kernel
theorem dX4_plan_5 : decode cX4_plan 5 = .ok (.invokevirtual 105, 3) := by decide +kernel
theorem dX4_plan_8 : decode cX4_plan 8 = .ok (.ifCond .ne 13, 3) := by decide +kernel
theorem dX4_plan_11 : decode cX4_plan 11 = .ok (.new 52, 3) := by decide +kernel
theorem dX4_plan_14 : decode cX4_plan 14 = .ok (.dup, 1) := by decide +kernel
theorem dX4_plan_15 : decode cX4_plan 15 = .ok (.ldc 108, 2) := by decide +kernel
theorem dX4_plan_17 : decode cX4_plan 17 = .ok (.invokespecial 56, 3) := by decide +kernel
theorem dX4_plan_20 : decode cX4_plan 20 = .ok (.athrow, 1) := by decide +kernel
theorem dX4_plan_21 : decode cX4_plan 21 = .ok (.aload_n 0, 1) := by decide +kernel
theorem dX4_plan_22 : decode cX4_plan 22 = .ok (.getfield 29, 3) := by decide +kernel
theorem dX4_plan_25 : decode cX4_plan 25 = .ok (.aload_n 0, 1) := by decide +kernel
theorem dX4_plan_26 : decode cX4_plan 26 = .ok (.getfield 12, 3) := by decide +kernel
theorem dX4_plan_29 : decode cX4_plan 29 = .ok (.iload_n 1, 1) := by decide +kernel
theorem dX4_plan_30 : decode cX4_plan 30 = .ok (.invokevirtual 180, 3) := by decide +kernel
theorem dX4_plan_33 : decode cX4_plan 33 = .ok (.aload_n 0, 1) := by decide +kernel
theorem dX4_plan_34 : decode cX4_plan 34 = .ok (.getfield 29, 3) := by decide +kernel
theorem dX4_plan_37 : decode cX4_plan 37 = .ok (.invokevirtual 187, 3) := by decide +kernel
theorem dX4_plan_40 : decode cX4_plan 40 = .ok (.ireturn, 1) := by decide +kernel
set_option maxRecDepth 20000 in
theorem ggX4_save_Jx4a65c_size_8abf5 : GoodIn wsX4_save wsJx4a65c_size_8abf5 := goodIn_r _ [12, 13, 103, 104, 105] (by decide +kernel) (by decide +kernel)
set_option maxRecDepth 20000 in
theorem gX4_save_Jx4a65c_size_8abf5_f190Jx4a65c : GoodIn wsX4_save (va_wsF RX4 190 RJx4a65c ⟨"java/util/List", "size", "()I"⟩ yJx4a65c_size_8abf5 wsJx4a65c_size_8abf5) := goodIn_app (goodIn_of _ (by decide +kernel)) ggX4_save_Jx4a65c_size_8abf5
set_option maxRecDepth 20000 in
theorem ggX4_save_X2_init : GoodIn wsX4_save wsX2_init := goodIn_r _ [16, 17, 18, 19, 20, 21, 22, 23, 24, 25, 26, 27, 28, 29, 95, 96, 97, 98, 99, 100, 101, 102] (by decide +kernel) (by decide +kernel)
set_option maxRecDepth 20000 in
theorem gX4_save_X2_init : GoodIn wsX4_save (wsX2_init) := ggX4_save_X2_init
set_option maxRecDepth 20000 in
theorem ggX4_save_X2_copyFrom : GoodIn wsX4_save wsX2_copyFrom := goodIn_r _ [33, 21, 34, 35, 36, 37, 22, 23, 24, 25, 38, 39, 40, 95, 96, 97, 98, 99, 100, 101, 102] (by decide +kernel) (by decide +kernel)
set_option maxRecDepth 20000 in
theorem gX4_save_X2_copyFrom : GoodIn wsX4_save (wsV RX4 197 RX2 yX2_copyFrom wsX2_copyFrom) := goodIn_app (goodIn_of _ (by decide +kernel)) ggX4_save_X2_copyFrom
set_option maxRecDepth 20000 in
theorem ggX4_save_Jx4a65c_add_9ea2d : GoodIn wsX4_save wsJx4a65c_add_9ea2d := goodIn_r _ [44, 45, 46, 47, 13, 48, 49, 50, 11, 51, 52, 53, 54, 55, 56, 57, 58, 59, 60, 61, 62, 63, 64, 65, 66, 67, 68, 69, 70, 71, 72, 73, 74, 75, 76, 28, 77, 78, 79, 80, 81, 82, 83, 84, 85, 86, 87, 88, 89, 90, 35, 36, 37, 103, 104, 105] (by decide +kernel) (by decide +kernel)
set_option maxRecDepth 20000 in
theorem gX4_save_Jx4a65c_add_9ea2d_f201Jx4a65c : GoodIn wsX4_save (va_wsF RX4 201 RJx4a65c ⟨"java/util/List", "add", "(Ljava/lang/Object;)Z"⟩ yJx4a65c_add_9ea2d wsJx4a65c_add_9ea2d) := goodIn_app (goodIn_of _ (by decide +kernel)) ggX4_save_Jx4a65c_add_9ea2d
theorem dX4_save_0 : decode cX4_save 0 = .ok (.aload_n 0, 1) := by decide +kernel
theorem dX4_save_1 : decode cX4_save 1 = .ok (.getfield 22, 3) := by decide +kernel
theorem dX4_save_4 : decode cX4_save 4 = .ok (.invokeinterface 190 1, 5) := by decide +kernel
theorem dX4_save_9 : decode cX4_save 9 = .ok (.iconst 5, 1) := by decide +kernel
theorem dX4_save_10 : decode cX4_save 10 = .ok (.if_icmp .lt 13, 3) := by decide +kernel
theorem dX4_save_13 : decode cX4_save 13 = .ok (.new 69, 3) := by decide +kernel
theorem dX4_save_16 : decode cX4_save 16 = .ok (.dup, 1) := by decide +kernel
theorem dX4_save_17 : decode cX4_save 17 = .ok (.ldc 195, 2) := by decide +kernel
theorem dX4_save_19 : decode cX4_save 19 = .ok (.invokespecial 73, 3) := by decide +kernel
theorem dX4_save_22 : decode cX4_save 22 = .ok (.athrow, 1) := by decide +kernel
theorem dX4_save_23 : decode cX4_save 23 = .ok (.new 9, 3) := by decide +kernel
theorem dX4_save_26 : decode cX4_save 26 = .ok (.dup, 1) := by decide +kernel
theorem dX4_save_27 : decode cX4_save 27 = .ok (.invokespecial 11, 3) := by decide +kernel
theorem dX4_save_30 : decode cX4_save 30 = .ok (.astore_n 1, 1) := by decide +kernel
theorem dX4_save_31 : decode cX4_save 31 = .ok (.aload_n 1, 1) := by decide +kernel
theorem dX4_save_32 : decode cX4_save 32 = .ok (.aload_n 0, 1) := by decide +kernel
theorem dX4_save_33 : decode cX4_save 33 = .ok (.getfield 12, 3) := by decide +kernel
theorem dX4_save_36 : decode cX4_save 36 = .ok (.invokevirtual 197, 3) := by decide +kernel
theorem dX4_save_39 : decode cX4_save 39 = .ok (.aload_n 0, 1) := by decide +kernel
theorem dX4_save_40 : decode cX4_save 40 = .ok (.getfield 22, 3) := by decide +kernel
theorem dX4_save_43 : decode cX4_save 43 = .ok (.aload_n 1, 1) := by decide +kernel
theorem dX4_save_44 : decode cX4_save 44 = .ok (.invokeinterface 201 2, 5) := by decide +kernel
theorem dX4_save_49 : decode cX4_save 49 = .ok (.pop, 1) := by decide +kernel
theorem dX4_save_50 : decode cX4_save 50 = .ok (.aload_n 0, 1) := by decide +kernel
theorem dX4_save_51 : decode cX4_save 51 = .ok (.getfield 22, 3) := by decide +kernel
theorem dX4_save_54 : decode cX4_save 54 = .ok (.invokeinterface 190 1, 5) := by decide +kernel
theorem dX4_save_59 : decode cX4_save 59 = .ok (.iconst 1, 1) := by decide +kernel
theorem dX4_save_60 : decode cX4_save 60 = .ok (.isub, 1) := by decide +kernel
theorem dX4_save_61 : decode cX4_save 61 = .ok (.ireturn, 1) := by decide +kernel
set_option maxRecDepth 20000 in
theorem ggX4_load_Jx4a65c_size_8abf5 : GoodIn wsX4_load wsJx4a65c_size_8abf5 := goodIn_r _ [10, 11, 62, 63, 64] (by decide +kernel) (by decide +kernel)
set_option maxRecDepth 20000 in
theorem gX4_load_Jx4a65c_size_8abf5_f190Jx4a65c : GoodIn wsX4_load (va_wsF RX4 190 RJx4a65c ⟨"java/util/List", "size", "()I"⟩ yJx4a65c_size_8abf5 wsJx4a65c_size_8abf5) := goodIn_app (goodIn_of _ (by decide +kernel)) ggX4_load_Jx4a65c_size_8abf5
set_option maxRecDepth 20000 in
theorem ggX4_load_Jx4a65c_get_915e3 : GoodIn wsX4_load wsJx4a65c_get_915e3 := goodIn_r _ [15, 11, 16, 17, 18, 19, 20, 21, 22, 23, 24, 25, 26, 9, 27, 28, 62, 63, 64] (by decide +kernel) (by decide +kernel)
set_option maxRecDepth 20000 in
theorem gX4_load_Jx4a65c_get_915e3_f207Jx4a65c : GoodIn wsX4_load (va_wsF RX4 207 RJx4a65c ⟨"java/util/List", "get", "(I)Ljava/lang/Object;"⟩ yJx4a65c_get_915e3 wsJx4a65c_get_915e3) := goodIn_app (goodIn_of _ (by decide +kernel)) ggX4_load_Jx4a65c_get_915e3
set_option maxRecDepth 20000 in
theorem ggX4_load_X2_copyFrom : GoodIn wsX4_load wsX2_copyFrom := goodIn_r _ [33, 34, 35, 36, 37, 38, 39, 40, 41, 42, 43, 44, 45, 65, 66, 67, 68, 69, 70, 71, 72] (by decide +kernel) (by decide +kernel)
set_option maxRecDepth 20000 in
theorem gX4_load_X2_copyFrom : GoodIn wsX4_load (wsV RX4 197 RX2 yX2_copyFrom wsX2_copyFrom) := goodIn_app (goodIn_of _ (by decide +kernel)) ggX4_load_X2_copyFrom
set_option maxRecDepth 20000 in
theorem ggX4_load_X2_living : GoodIn wsX4_load wsX2_living := goodIn_r _ [49, 43, 50, 51, 52, 32, 53, 40, 54, 55, 56, 57, 65, 66, 67, 68, 69, 70, 71, 72] (by decide +kernel) (by decide +kernel)
set_option maxRecDepth 20000 in
theorem gX4_load_X2_living : GoodIn wsX4_load (wsV RX4 211 RX2 yX2_living wsX2_living) := goodIn_app (goodIn_of _ (by decide +kernel)) ggX4_load_X2_living
theorem dX4_load_0 : decode cX4_load 0 = .ok (.iload_n 1, 1) := by decide +kernel
theorem dX4_load_1 : decode cX4_load 1 = .ok (.ifCond .lt 16, 3) := by decide +kernel
theorem dX4_load_4 : decode cX4_load 4 = .ok (.iload_n 1, 1) := by decide +kernel
theorem dX4_load_5 : decode cX4_load 5 = .ok (.aload_n 0, 1) := by decide +kernel
theorem dX4_load_6 : decode cX4_load 6 = .ok (.getfield 22, 3) := by decide +kernel
theorem dX4_load_9 : decode cX4_load 9 = .ok (.invokeinterface 190 1, 5) := by decide +kernel
theorem dX4_load_14 : decode cX4_load 14 = .ok (.if_icmp .lt 13, 3) := by decide +kernel
theorem dX4_load_17 : decode cX4_load 17 = .ok (.new 52, 3) := by decide +kernel
theorem dX4_load_20 : decode cX4_load 20 = .ok (.dup, 1) := by decide +kernel
theorem dX4_load_21 : decode cX4_load 21 = .ok (.ldc 205, 2) := by decide +kernel
theorem dX4_load_23 : decode cX4_load 23 = .ok (.invokespecial 56, 3) := by decide +kernel
theorem dX4_load_26 : decode cX4_load 26 = .ok (.athrow, 1) := by decide +kernel
theorem dX4_load_27 : decode cX4_load 27 = .ok (.aload_n 0, 1) := by decide +kernel
theorem dX4_load_28 : decode cX4_load 28 = .ok (.getfield 12, 3) := by decide +kernel
theorem dX4_load_31 : decode cX4_load 31 = .ok (.aload_n 0, 1) := by decide +kernel
theorem dX4_load_32 : decode cX4_load 32 = .ok (.getfield 22, 3) := by decide +kernel
theorem dX4_load_35 : decode cX4_load 35 = .ok (.iload_n 1, 1) := by decide +kernel
theorem dX4_load_36 : decode cX4_load 36 = .ok (.invokeinterface 207 2, 5) := by decide +kernel
theorem dX4_load_41 : decode cX4_load 41 = .ok (.checkcast 9, 3) := by decide +kernel
theorem dX4_load_44 : decode cX4_load 44 = .ok (.invokevirtual 197, 3) := by decide +kernel
theorem dX4_load_47 : decode cX4_load 47 = .ok (.aload_n 0, 1) := by decide +kernel
theorem dX4_load_48 : decode cX4_load 48 = .ok (.getfield 12, 3) := by decide +kernel
theorem dX4_load_51 : decode cX4_load 51 = .ok (.iconst 0, 1) := by decide +kernel
theorem dX4_load_52 : decode cX4_load 52 = .ok (.invokevirtual 211, 3) := by decide +kernel
theorem dX4_load_55 : decode cX4_load 55 = .ok (.aload_n 0, 1) := by decide +kernel
theorem dX4_load_56 : decode cX4_load 56 = .ok (.getfield 12, 3) := by decide +kernel
theorem dX4_load_59 : decode cX4_load 59 = .ok (.iconst 1, 1) := by decide +kernel
theorem dX4_load_60 : decode cX4_load 60 = .ok (.invokevirtual 211, 3) := by decide +kernel
theorem dX4_load_63 : decode cX4_load 63 = .ok (.iadd, 1) := by decide +kernel
theorem dX4_load_64 : decode cX4_load 64 = .ok (.ireturn, 1) := by decide +kernel
set_option maxRecDepth 20000 in
theorem ggX4_hit_X2_isBeing : GoodIn wsX4_hit wsX2_isBeing := goodIn_r _ [8, 9, 36, 37, 38, 39, 40, 41, 42, 43] (by decide +kernel) (by decide +kernel)
set_option maxRecDepth 20000 in
theorem gX4_hit_X2_isBeing : GoodIn wsX4_hit (wsV RX4 105 RX2 yX2_isBeing wsX2_isBeing) := goodIn_app (goodIn_of _ (by decide +kernel)) ggX4_hit_X2_isBeing
set_option maxRecDepth 20000 in
theorem ggX4_hit_X2_hitOf : GoodIn wsX4_hit wsX2_hitOf := goodIn_r _ [13, 14, 15, 16, 17, 18, 19, 20, 7, 21, 22, 23, 24, 25, 26, 27, 28, 29, 30, 31, 36, 37, 38, 39, 40, 41, 42, 43] (by decide +kernel) (by decide +kernel)
set_option maxRecDepth 20000 in
theorem gX4_hit_X2_hitOf : GoodIn wsX4_hit (wsV RX4 214 RX2 yX2_hitOf wsX2_hitOf) := goodIn_app (goodIn_of _ (by decide +kernel)) ggX4_hit_X2_hitOf
theorem dX4_hit_0 : decode cX4_hit 0 = .ok (.aload_n 0, 1) := by decide +kernel
theorem dX4_hit_1 : decode cX4_hit 1 = .ok (.getfield 12, 3) := by decide +kernel
theorem dX4_hit_4 : decode cX4_hit 4 = .ok (.iload_n 1, 1) := by decide +kernel
theorem dX4_hit_5 : decode cX4_hit 5 = .ok (.invokevirtual 105, 3) := by decide +kernel
theorem dX4_hit_8 : decode cX4_hit 8 = .ok (.ifCond .eq 14, 3) := by decide +kernel
theorem dX4_hit_11 : decode cX4_hit 11 = .ok (.aload_n 0, 1) := by decide +kernel
theorem dX4_hit_12 : decode cX4_hit 12 = .ok (.getfield 12, 3) := by decide +kernel
theorem dX4_hit_15 : decode cX4_hit 15 = .ok (.iload_n 2, 1) := by decide +kernel
theorem dX4_hit_16 : decode cX4_hit 16 = .ok (.invokevirtual 105, 3) := by decide +kernel
theorem dX4_hit_19 : decode cX4_hit 19 = .ok (.ifCond .ne 13, 3) := by decide +kernel
theorem dX4_hit_22 : decode cX4_hit 22 = .ok (.new 52, 3) := by decide +kernel
theorem dX4_hit_25 : decode cX4_hit 25 = .ok (.dup, 1) := by decide +kernel
theorem dX4_hit_26 : decode cX4_hit 26 = .ok (.ldc 108, 2) := by decide +kernel
theorem dX4_hit_28 : decode cX4_hit 28 = .ok (.invokespecial 56, 3) := by decide +kernel
theorem dX4_hit_31 : decode cX4_hit 31 = .ok (.athrow, 1) := by decide +kernel
theorem dX4_hit_32 : decode cX4_hit 32 = .ok (.aload_n 0, 1) := by decide +kernel
theorem dX4_hit_33 : decode cX4_hit 33 = .ok (.getfield 12, 3) := by decide +kernel
theorem dX4_hit_36 : decode cX4_hit 36 = .ok (.iload_n 1, 1) := by decide +kernel
theorem dX4_hit_37 : decode cX4_hit 37 = .ok (.iload_n 2, 1) := by decide +kernel
theorem dX4_hit_38 : decode cX4_hit 38 = .ok (.invokevirtual 214, 3) := by decide +kernel
theorem dX4_hit_41 : decode cX4_hit 41 = .ok (.ireturn, 1) := by decide +kernel
set_option maxRecDepth 20000 in
theorem ggX4_ahead_X4_isWithin : GoodIn wsX4_ahead wsX4_isWithin := goodIn_r _ [8] (by decide +kernel) (by decide +kernel)
set_option maxRecDepth 20000 in
theorem gX4_ahead_X4_isWithin : GoodIn wsX4_ahead (va_wsS RX4 33 yX4_isWithin wsX4_isWithin) := goodIn_app (goodIn_of _ (by decide +kernel)) ggX4_ahead_X4_isWithin
set_option maxRecDepth 20000 in
theorem ggX4_ahead_X2_copyFrom : GoodIn wsX4_ahead wsX2_copyFrom := goodIn_r _ [13, 14, 15, 16, 17, 18, 19, 20, 21, 22, 23, 24, 25, 254, 255, 256, 257, 258, 259, 260, 261] (by decide +kernel) (by decide +kernel)
set_option maxRecDepth 20000 in
theorem gX4_ahead_X2_copyFrom : GoodIn wsX4_ahead (wsV RX4 197 RX2 yX2_copyFrom wsX2_copyFrom) := goodIn_app (goodIn_of _ (by decide +kernel)) ggX4_ahead_X2_copyFrom
set_option maxRecDepth 20000 in
theorem ggX4_ahead_X4_play : GoodIn wsX4_ahead wsX4_play := goodIn_r _ [29, 3, 30, 31, 32, 33, 12, 34, 23, 35, 36, 37, 38, 20, 39, 40, 41, 42, 43, 44, 45, 46, 47, 48, 49, 50, 51, 52, 53, 54, 55, 56, 57, 58, 59, 60, 61, 62, 63, 64, 65, 66, 67, 68, 69, 70, 71, 72, 73, 74, 75, 76, 77, 78, 79, 80, 81, 82, 83, 84, 85, 86, 14, 87, 7, 88, 89, 90, 91, 92, 93, 94, 95, 96, 97, 98, 99, 100, 101, 102, 103, 104, 105, 106, 107, 108, 109, 110, 111, 112, 113, 114, 115, 116, 117, 118, 119, 120, 121, 122, 123, 124, 125, 126, 127, 128, 129, 130, 131, 132, 133, 134, 135, 136, 137, 138, 139, 140, 141, 142, 143, 144, 145, 146, 147, 148, 149, 150, 151, 152, 153, 154, 21, 155, 156, 157, 158, 159, 160, 161, 162, 163, 164, 165, 166, 167, 168, 169, 170, 171, 172, 173, 174, 175, 176, 177, 178, 179, 180, 181, 182, 183, 184, 185, 186, 187, 188, 189, 190, 191, 192, 193, 194, 195, 196, 197, 198, 199, 200, 201, 202, 203, 204, 205, 206, 207, 208, 209, 210, 211, 212, 213, 214, 215, 216, 217, 218, 219, 220, 221, 222, 223, 224, 22, 225, 226, 227, 228, 229, 230, 231, 232, 233, 234, 235, 236, 237, 238, 239, 240, 241, 19, 242, 243, 244, 245, 250, 251, 252, 253, 254, 255, 256, 257, 258, 259, 260, 261, 262, 263, 264, 265, 266] (by decide +kernel) (by decide +kernel)
set_option maxRecDepth 20000 in
theorem gX4_ahead_X4_play : GoodIn wsX4_ahead (wsV RX4 169 RX4 yX4_play wsX4_play) := goodIn_app (goodIn_of _ (by decide +kernel)) ggX4_ahead_X4_play
set_option maxRecDepth 20000 in
theorem ggX4_ahead_X2_lifeOf : GoodIn wsX4_ahead wsX2_lifeOf := goodIn_r _ [249, 23, 35, 36, 37, 12, 38, 20, 254, 255, 256, 257, 258, 259, 260, 261] (by decide +kernel) (by decide +kernel)
set_option maxRecDepth 20000 in
theorem gX4_ahead_X2_lifeOf : GoodIn wsX4_ahead (wsV RX4 217 RX2 yX2_lifeOf wsX2_lifeOf) := goodIn_app (goodIn_of _ (by decide +kernel)) ggX4_ahead_X2_lifeOf
theorem dX4_ahead_0 : decode cX4_ahead 0 = .ok (.iload_n 1, 1) := by decide +kernel
theorem dX4_ahead_1 : decode cX4_ahead 1 = .ok (.iconst 1, 1) := by decide +kernel
theorem dX4_ahead_2 : decode cX4_ahead 2 = .ok (.bipush 40, 2) := by decide +kernel
theorem dX4_ahead_4 : decode cX4_ahead 4 = .ok (.invokestatic 33, 3) := by decide +kernel
theorem dX4_ahead_7 : decode cX4_ahead 7 = .ok (.ifCond .ne 13, 3) := by decide +kernel
theorem dX4_ahead_10 : decode cX4_ahead 10 = .ok (.new 37, 3) := by decide +kernel
theorem dX4_ahead_13 : decode cX4_ahead 13 = .ok (.dup, 1) := by decide +kernel
theorem dX4_ahead_14 : decode cX4_ahead 14 = .ok (.ldc 167, 2) := by decide +kernel
theorem dX4_ahead_16 : decode cX4_ahead 16 = .ok (.invokespecial 41, 3) := by decide +kernel
theorem dX4_ahead_19 : decode cX4_ahead 19 = .ok (.athrow, 1) := by decide +kernel
theorem dX4_ahead_20 : decode cX4_ahead 20 = .ok (.aload_n 0, 1) := by decide +kernel
theorem dX4_ahead_21 : decode cX4_ahead 21 = .ok (.getfield 12, 3) := by decide +kernel
theorem dX4_ahead_24 : decode cX4_ahead 24 = .ok (.astore_n 2, 1) := by decide +kernel
theorem dX4_ahead_25 : decode cX4_ahead 25 = .ok (.aload_n 0, 1) := by decide +kernel
theorem dX4_ahead_26 : decode cX4_ahead 26 = .ok (.getfield 16, 3) := by decide +kernel
theorem dX4_ahead_29 : decode cX4_ahead 29 = .ok (.aload_n 2, 1) := by decide +kernel
theorem dX4_ahead_30 : decode cX4_ahead 30 = .ok (.invokevirtual 197, 3) := by decide +kernel
theorem dX4_ahead_33 : decode cX4_ahead 33 = .ok (.aload_n 0, 1) := by decide +kernel
theorem dX4_ahead_34 : decode cX4_ahead 34 = .ok (.aload_n 0, 1) := by decide +kernel
theorem dX4_ahead_35 : decode cX4_ahead 35 = .ok (.getfield 16, 3) := by decide +kernel
theorem dX4_ahead_38 : decode cX4_ahead 38 = .ok (.putfield 12, 3) := by decide +kernel
theorem dX4_ahead_41 : decode cX4_ahead 41 = .ok (.aload_n 0, 1) := by decide +kernel
theorem dX4_ahead_42 : decode cX4_ahead 42 = .ok (.iload_n 1, 1) := by decide +kernel
theorem dX4_ahead_43 : decode cX4_ahead 43 = .ok (.invokevirtual 169, 3) := by decide +kernel
theorem dX4_ahead_46 : decode cX4_ahead 46 = .ok (.pop, 1) := by decide +kernel
theorem dX4_ahead_47 : decode cX4_ahead 47 = .ok (.aload_n 0, 1) := by decide +kernel
theorem dX4_ahead_48 : decode cX4_ahead 48 = .ok (.aload_n 2, 1) := by decide +kernel
theorem dX4_ahead_49 : decode cX4_ahead 49 = .ok (.putfield 12, 3) := by decide +kernel
theorem dX4_ahead_52 : decode cX4_ahead 52 = .ok (.aload_n 0, 1) := by decide +kernel
theorem dX4_ahead_53 : decode cX4_ahead 53 = .ok (.getfield 16, 3) := by decide +kernel
theorem dX4_ahead_56 : decode cX4_ahead 56 = .ok (.iconst 0, 1) := by decide +kernel
theorem dX4_ahead_57 : decode cX4_ahead 57 = .ok (.invokevirtual 217, 3) := by decide +kernel
theorem dX4_ahead_60 : decode cX4_ahead 60 = .ok (.aload_n 0, 1) := by decide +kernel
theorem dX4_ahead_61 : decode cX4_ahead 61 = .ok (.getfield 16, 3) := by decide +kernel
theorem dX4_ahead_64 : decode cX4_ahead 64 = .ok (.iconst 1, 1) := by decide +kernel
theorem dX4_ahead_65 : decode cX4_ahead 65 = .ok (.invokevirtual 217, 3) := by decide +kernel
theorem dX4_ahead_68 : decode cX4_ahead 68 = .ok (.isub, 1) := by decide +kernel
theorem dX4_ahead_69 : decode cX4_ahead 69 = .ok (.ireturn, 1) := by decide +kernel
set_option maxRecDepth 20000 in
theorem ggX4_danger_X4_isSide : GoodIn wsX4_danger wsX4_isSide := goodIn_r _ [9] (by decide +kernel) (by decide +kernel)
set_option maxRecDepth 20000 in
theorem gX4_danger_X4_isSide : GoodIn wsX4_danger (va_wsS RX4 85 yX4_isSide wsX4_isSide) := goodIn_app (goodIn_of _ (by decide +kernel)) ggX4_danger_X4_isSide
set_option maxRecDepth 20000 in
theorem ggX4_danger_X4_isCell : GoodIn wsX4_danger wsX4_isCell := goodIn_r _ [12] (by decide +kernel) (by decide +kernel)
set_option maxRecDepth 20000 in
theorem gX4_danger_X4_isCell : GoodIn wsX4_danger (va_wsS RX4 48 yX4_isCell wsX4_isCell) := goodIn_app (goodIn_of _ (by decide +kernel)) ggX4_danger_X4_isCell
set_option maxRecDepth 20000 in
theorem ggX4_danger_X2_watchersOf : GoodIn wsX4_danger wsX2_watchersOf := goodIn_r _ [17, 18, 19, 20, 21, 16, 22, 23, 24, 25, 26, 27, 28, 29, 30, 31, 32, 33, 34, 35, 36, 37, 38, 39, 40, 41, 42, 43, 44, 45, 46, 47, 48, 49, 50, 51, 52, 53, 54, 8, 55, 60, 61, 62, 63, 64, 65, 66, 67] (by decide +kernel) (by decide +kernel)
set_option maxRecDepth 20000 in
theorem gX4_danger_X2_watchersOf : GoodIn wsX4_danger (wsV RX4 220 RX2 yX2_watchersOf wsX2_watchersOf) := goodIn_app (goodIn_of _ (by decide +kernel)) ggX4_danger_X2_watchersOf
theorem dX4_danger_0 : decode cX4_danger 0 = .ok (.iload_n 1, 1) := by decide +kernel
theorem dX4_danger_1 : decode cX4_danger 1 = .ok (.invokestatic 85, 3) := by decide +kernel
theorem dX4_danger_4 : decode cX4_danger 4 = .ok (.ifCond .ne 13, 3) := by decide +kernel
theorem dX4_danger_7 : decode cX4_danger 7 = .ok (.new 37, 3) := by decide +kernel
theorem dX4_danger_10 : decode cX4_danger 10 = .ok (.dup, 1) := by decide +kernel
theorem dX4_danger_11 : decode cX4_danger 11 = .ok (.ldc 88, 2) := by decide +kernel
theorem dX4_danger_13 : decode cX4_danger 13 = .ok (.invokespecial 41, 3) := by decide +kernel
theorem dX4_danger_16 : decode cX4_danger 16 = .ok (.athrow, 1) := by decide +kernel
theorem dX4_danger_17 : decode cX4_danger 17 = .ok (.iload_n 2, 1) := by decide +kernel
theorem dX4_danger_18 : decode cX4_danger 18 = .ok (.invokestatic 48, 3) := by decide +kernel
theorem dX4_danger_21 : decode cX4_danger 21 = .ok (.ifCond .ne 13, 3) := by decide +kernel
theorem dX4_danger_24 : decode cX4_danger 24 = .ok (.new 52, 3) := by decide +kernel
theorem dX4_danger_27 : decode cX4_danger 27 = .ok (.dup, 1) := by decide +kernel
theorem dX4_danger_28 : decode cX4_danger 28 = .ok (.ldc 54, 2) := by decide +kernel
theorem dX4_danger_30 : decode cX4_danger 30 = .ok (.invokespecial 56, 3) := by decide +kernel
theorem dX4_danger_33 : decode cX4_danger 33 = .ok (.athrow, 1) := by decide +kernel
theorem dX4_danger_34 : decode cX4_danger 34 = .ok (.aload_n 0, 1) := by decide +kernel
theorem dX4_danger_35 : decode cX4_danger 35 = .ok (.getfield 12, 3) := by decide +kernel
theorem dX4_danger_38 : decode cX4_danger 38 = .ok (.iload_n 1, 1) := by decide +kernel
theorem dX4_danger_39 : decode cX4_danger 39 = .ok (.iload_n 2, 1) := by decide +kernel
theorem dX4_danger_40 : decode cX4_danger 40 = .ok (.invokevirtual 220, 3) := by decide +kernel
theorem dX4_danger_43 : decode cX4_danger 43 = .ok (.ireturn, 1) := by decide +kernel
set_option maxRecDepth 20000 in
theorem ggX4_meanLife_X2_living : GoodIn wsX4_meanLife wsX2_living := goodIn_r _ [6, 7, 8, 9, 10, 5, 11, 12, 13, 14, 15, 16, 25, 26, 27, 28, 29, 30, 31, 32] (by decide +kernel) (by decide +kernel)
set_option maxRecDepth 20000 in
theorem gX4_meanLife_X2_living : GoodIn wsX4_meanLife (wsV RX4 211 RX2 yX2_living wsX2_living) := goodIn_app (goodIn_of _ (by decide +kernel)) ggX4_meanLife_X2_living
set_option maxRecDepth 20000 in
theorem ggX4_meanLife_X2_lifeOf : GoodIn wsX4_meanLife wsX2_lifeOf := goodIn_r _ [20, 7, 8, 9, 10, 5, 11, 12, 25, 26, 27, 28, 29, 30, 31, 32] (by decide +kernel) (by decide +kernel)
set_option maxRecDepth 20000 in
theorem gX4_meanLife_X2_lifeOf : GoodIn wsX4_meanLife (wsV RX4 217 RX2 yX2_lifeOf wsX2_lifeOf) := goodIn_app (goodIn_of _ (by decide +kernel)) ggX4_meanLife_X2_lifeOf
theorem dX4_meanLife_0 : decode cX4_meanLife 0 = .ok (.aload_n 0, 1) := by decide +kernel
theorem dX4_meanLife_1 : decode cX4_meanLife 1 = .ok (.getfield 12, 3) := by decide +kernel
theorem dX4_meanLife_4 : decode cX4_meanLife 4 = .ok (.iconst 0, 1) := by decide +kernel
theorem dX4_meanLife_5 : decode cX4_meanLife 5 = .ok (.invokevirtual 211, 3) := by decide +kernel
theorem dX4_meanLife_8 : decode cX4_meanLife 8 = .ok (.aload_n 0, 1) := by decide +kernel
theorem dX4_meanLife_9 : decode cX4_meanLife 9 = .ok (.getfield 12, 3) := by decide +kernel
theorem dX4_meanLife_12 : decode cX4_meanLife 12 = .ok (.iconst 1, 1) := by decide +kernel
theorem dX4_meanLife_13 : decode cX4_meanLife 13 = .ok (.invokevirtual 211, 3) := by decide +kernel
theorem dX4_meanLife_16 : decode cX4_meanLife 16 = .ok (.iadd, 1) := by decide +kernel
theorem dX4_meanLife_17 : decode cX4_meanLife 17 = .ok (.istore_n 1, 1) := by decide +kernel
theorem dX4_meanLife_18 : decode cX4_meanLife 18 = .ok (.iload_n 1, 1) := by decide +kernel
theorem dX4_meanLife_19 : decode cX4_meanLife 19 = .ok (.ifCond .ne 5, 3) := by decide +kernel
theorem dX4_meanLife_22 : decode cX4_meanLife 22 = .ok (.dconst 0, 1) := by decide +kernel
theorem dX4_meanLife_23 : decode cX4_meanLife 23 = .ok (.dreturn, 1) := by decide +kernel
theorem dX4_meanLife_24 : decode cX4_meanLife 24 = .ok (.aload_n 0, 1) := by decide +kernel
theorem dX4_meanLife_25 : decode cX4_meanLife 25 = .ok (.getfield 12, 3) := by decide +kernel
theorem dX4_meanLife_28 : decode cX4_meanLife 28 = .ok (.iconst 0, 1) := by decide +kernel
theorem dX4_meanLife_29 : decode cX4_meanLife 29 = .ok (.invokevirtual 217, 3) := by decide +kernel
theorem dX4_meanLife_32 : decode cX4_meanLife 32 = .ok (.aload_n 0, 1) := by decide +kernel
theorem dX4_meanLife_33 : decode cX4_meanLife 33 = .ok (.getfield 12, 3) := by decide +kernel
theorem dX4_meanLife_36 : decode cX4_meanLife 36 = .ok (.iconst 1, 1) := by decide +kernel
theorem dX4_meanLife_37 : decode cX4_meanLife 37 = .ok (.invokevirtual 217, 3) := by decide +kernel
theorem dX4_meanLife_40 : decode cX4_meanLife 40 = .ok (.iadd, 1) := by decide +kernel
theorem dX4_meanLife_41 : decode cX4_meanLife 41 = .ok (.i2d, 1) := by decide +kernel
theorem dX4_meanLife_42 : decode cX4_meanLife 42 = .ok (.iload_n 1, 1) := by decide +kernel
theorem dX4_meanLife_43 : decode cX4_meanLife 43 = .ok (.i2d, 1) := by decide +kernel
theorem dX4_meanLife_44 : decode cX4_meanLife 44 = .ok (.ddiv, 1) := by decide +kernel
theorem dX4_meanLife_45 : decode cX4_meanLife 45 = .ok (.dreturn, 1) := by decide +kernel
set_option maxRecDepth 20000 in
theorem ggX4_digest_X4_countOf : GoodIn wsX4_digest wsX4_countOf := goodIn_r _ [8, 3, 9, 10, 11, 12, 13, 14, 15, 16, 17, 18, 19, 20, 21, 22, 23, 24, 25, 26, 27, 28, 29, 30, 31, 32, 33, 34, 35, 36, 37, 38, 39, 40, 41, 42, 43, 219, 220, 221, 222, 223, 224, 225, 226, 227, 228, 229, 230, 231, 232, 233] (by decide +kernel) (by decide +kernel)
set_option maxRecDepth 20000 in
theorem gX4_digest_X4_countOf : GoodIn wsX4_digest (wsV RX4 146 RX4 yX4_countOf wsX4_countOf) := goodIn_app (goodIn_of _ (by decide +kernel)) ggX4_digest_X4_countOf
set_option maxRecDepth 20000 in
theorem ggX4_digest_X2_kindAt : GoodIn wsX4_digest wsX2_kindAt := goodIn_r _ [47, 48, 223, 224, 225, 226, 227, 228, 229, 230] (by decide +kernel) (by decide +kernel)
set_option maxRecDepth 20000 in
theorem gX4_digest_X2_kindAt : GoodIn wsX4_digest (wsV RX4 74 RX2 yX2_kindAt wsX2_kindAt) := goodIn_app (goodIn_of _ (by decide +kernel)) ggX4_digest_X2_kindAt
set_option maxRecDepth 20000 in
theorem ggX4_digest_X2_isBeing : GoodIn wsX4_digest wsX2_isBeing := goodIn_r _ [52, 15, 223, 224, 225, 226, 227, 228, 229, 230] (by decide +kernel) (by decide +kernel)
set_option maxRecDepth 20000 in
theorem gX4_digest_X2_isBeing : GoodIn wsX4_digest (wsV RX4 105 RX2 yX2_isBeing wsX2_isBeing) := goodIn_app (goodIn_of _ (by decide +kernel)) ggX4_digest_X2_isBeing
set_option maxRecDepth 20000 in
theorem ggX4_digest_X4_digestOf : GoodIn wsX4_digest wsX4_digestOf := goodIn_r _ [56, 2, 3, 57, 58, 59, 60, 7, 61, 62, 63, 64, 13, 65, 16, 17, 18, 19, 20, 66, 67, 68, 69, 70, 71, 72, 73, 74, 75, 76, 77, 78, 79, 80, 81, 82, 83, 84, 85, 86, 87, 15, 21, 22, 23, 24, 88, 89, 90, 91, 92, 93, 94, 95, 96, 97, 98, 99, 100, 101, 102, 103, 104, 105, 106, 107, 108, 109, 110, 111, 112, 113, 45, 46, 47, 48, 114, 115, 116, 117, 118, 119, 120, 121, 122, 123, 124, 125, 126, 127, 128, 129, 130, 131, 132, 133, 134, 135, 136, 137, 138, 139, 140, 141, 142, 143, 144, 145, 146, 147, 148, 149, 150, 151, 152, 153, 154, 155, 156, 157, 158, 159, 160, 161, 162, 163, 164, 165, 166, 167, 168, 169, 170, 171, 172, 173, 174, 175, 176, 177, 178, 179, 180, 181, 182, 183, 184, 185, 186, 187, 188, 189, 190, 191, 192, 193, 194, 195, 196, 197, 198, 199, 200, 201, 202, 203, 204, 205, 206, 207, 208, 209, 210, 211, 212, 213, 214, 219, 220, 221, 222, 223, 224, 225, 226, 227, 228, 229, 230, 234, 235, 236, 237, 238] (by decide +kernel) (by decide +kernel)
set_option maxRecDepth 20000 in
theorem gX4_digest_X4_digestOf : GoodIn wsX4_digest (wsV RX4 227 RX4 yX4_digestOf wsX4_digestOf) := goodIn_app (goodIn_of _ (by decide +kernel)) ggX4_digest_X4_digestOf
set_option maxRecDepth 20000 in
theorem ggX4_digest_X2_whoseTurn : GoodIn wsX4_digest wsX2_whoseTurn := goodIn_r _ [28, 15, 21, 22, 23, 13, 24, 16, 17, 18, 19, 20, 223, 224, 225, 226, 227, 228, 229, 230] (by decide +kernel) (by decide +kernel)
set_option maxRecDepth 20000 in
theorem gX4_digest_X2_whoseTurn : GoodIn wsX4_digest (wsV RX4 151 RX2 yX2_whoseTurn wsX2_whoseTurn) := goodIn_app (goodIn_of _ (by decide +kernel)) ggX4_digest_X2_whoseTurn
set_option maxRecDepth 20000 in
theorem ggX4_digest_X2_trait : GoodIn wsX4_digest wsX2_trait := goodIn_r _ [19, 20, 223, 224, 225, 226, 227, 228, 229, 230] (by decide +kernel) (by decide +kernel)
set_option maxRecDepth 20000 in
theorem gX4_digest_X2_trait : GoodIn wsX4_digest (wsV RX4 112 RX2 yX2_trait wsX2_trait) := goodIn_app (goodIn_of _ (by decide +kernel)) ggX4_digest_X2_trait
set_option maxRecDepth 20000 in
theorem ggX4_digest_X2_watchersOf : GoodIn wsX4_digest wsX2_watchersOf := goodIn_r _ [218, 15, 21, 22, 23, 13, 24, 16, 17, 18, 19, 20, 102, 103, 104, 105, 92, 93, 94, 95, 96, 97, 98, 99, 100, 101, 106, 107, 108, 109, 110, 111, 112, 113, 45, 46, 47, 48, 114, 7, 115, 223, 224, 225, 226, 227, 228, 229, 230] (by decide +kernel) (by decide +kernel)
set_option maxRecDepth 20000 in
theorem gX4_digest_X2_watchersOf : GoodIn wsX4_digest (wsV RX4 220 RX2 yX2_watchersOf wsX2_watchersOf) := goodIn_app (goodIn_of _ (by decide +kernel)) ggX4_digest_X2_watchersOf
theorem dX4_digest_0 : decode cX4_digest 0 = .ok (.ldc2_w 223, 3) := by decide +kernel
theorem dX4_digest_3 : decode cX4_digest 3 = .ok (.lstore_n 1, 1) := by decide +kernel
theorem dX4_digest_4 : decode cX4_digest 4 = .ok (.iconst 0, 1) := by decide +kernel
theorem dX4_digest_5 : decode cX4_digest 5 = .ok (.istore_n 3, 1) := by decide +kernel
theorem dX4_digest_6 : decode cX4_digest 6 = .ok (.iload_n 3, 1) := by decide +kernel
theorem dX4_digest_7 : decode cX4_digest 7 = .ok (.bipush 8, 2) := by decide +kernel
theorem dX4_digest_9 : decode cX4_digest 9 = .ok (.if_icmp .gt 22, 3) := by decide +kernel
theorem dX4_digest_12 : decode cX4_digest 12 = .ok (.lload_n 1, 1) := by decide +kernel
theorem dX4_digest_13 : decode cX4_digest 13 = .ok (.ldc2_w 225, 3) := by decide +kernel
theorem dX4_digest_16 : decode cX4_digest 16 = .ok (.lmul, 1) := by decide +kernel
theorem dX4_digest_17 : decode cX4_digest 17 = .ok (.aload_n 0, 1) := by decide +kernel
theorem dX4_digest_18 : decode cX4_digest 18 = .ok (.iload_n 3, 1) := by decide +kernel
theorem dX4_digest_19 : decode cX4_digest 19 = .ok (.invokevirtual 146, 3) := by decide +kernel
theorem dX4_digest_22 : decode cX4_digest 22 = .ok (.i2l, 1) := by decide +kernel
theorem dX4_digest_23 : decode cX4_digest 23 = .ok (.ladd, 1) := by decide +kernel
theorem dX4_digest_24 : decode cX4_digest 24 = .ok (.lstore_n 1, 1) := by decide +kernel
theorem dX4_digest_25 : decode cX4_digest 25 = .ok (.iinc 3 1, 3) := by decide +kernel
theorem dX4_digest_28 : decode cX4_digest 28 = .ok (.goto (-22), 3) := by decide +kernel
theorem dX4_digest_31 : decode cX4_digest 31 = .ok (.iconst 0, 1) := by decide +kernel
theorem dX4_digest_32 : decode cX4_digest 32 = .ok (.istore_n 3, 1) := by decide +kernel
theorem dX4_digest_33 : decode cX4_digest 33 = .ok (.iload_n 3, 1) := by decide +kernel
theorem dX4_digest_34 : decode cX4_digest 34 = .ok (.sipush 160, 3) := by decide +kernel
theorem dX4_digest_37 : decode cX4_digest 37 = .ok (.if_icmp .ge 25, 3) := by decide +kernel
theorem dX4_digest_40 : decode cX4_digest 40 = .ok (.lload_n 1, 1) := by decide +kernel
theorem dX4_digest_41 : decode cX4_digest 41 = .ok (.ldc2_w 225, 3) := by decide +kernel
theorem dX4_digest_44 : decode cX4_digest 44 = .ok (.lmul, 1) := by decide +kernel
theorem dX4_digest_45 : decode cX4_digest 45 = .ok (.aload_n 0, 1) := by decide +kernel
theorem dX4_digest_46 : decode cX4_digest 46 = .ok (.getfield 12, 3) := by decide +kernel
theorem dX4_digest_49 : decode cX4_digest 49 = .ok (.iload_n 3, 1) := by decide +kernel
theorem dX4_digest_50 : decode cX4_digest 50 = .ok (.invokevirtual 74, 3) := by decide +kernel
theorem dX4_digest_53 : decode cX4_digest 53 = .ok (.i2l, 1) := by decide +kernel
theorem dX4_digest_54 : decode cX4_digest 54 = .ok (.ladd, 1) := by decide +kernel
theorem dX4_digest_55 : decode cX4_digest 55 = .ok (.lstore_n 1, 1) := by decide +kernel
theorem dX4_digest_56 : decode cX4_digest 56 = .ok (.iinc 3 1, 3) := by decide +kernel
theorem dX4_digest_59 : decode cX4_digest 59 = .ok (.goto (-26), 3) := by decide +kernel
theorem dX4_digest_62 : decode cX4_digest 62 = .ok (.iconst 0, 1) := by decide +kernel
theorem dX4_digest_63 : decode cX4_digest 63 = .ok (.istore_n 3, 1) := by decide +kernel
theorem dX4_digest_64 : decode cX4_digest 64 = .ok (.iload_n 3, 1) := by decide +kernel
theorem dX4_digest_65 : decode cX4_digest 65 = .ok (.bipush 10, 2) := by decide +kernel
theorem dX4_digest_67 : decode cX4_digest 67 = .ok (.if_icmp .ge 27, 3) := by decide +kernel
theorem dX4_digest_70 : decode cX4_digest 70 = .ok (.aload_n 0, 1) := by decide +kernel
theorem dX4_digest_71 : decode cX4_digest 71 = .ok (.getfield 12, 3) := by decide +kernel
theorem dX4_digest_74 : decode cX4_digest 74 = .ok (.iload_n 3, 1) := by decide +kernel
theorem dX4_digest_75 : decode cX4_digest 75 = .ok (.invokevirtual 105, 3) := by decide +kernel
theorem dX4_digest_78 : decode cX4_digest 78 = .ok (.ifCond .eq 16, 3) := by decide +kernel
theorem dX4_digest_81 : decode cX4_digest 81 = .ok (.aload_n 0, 1) := by decide +kernel
theorem dX4_digest_82 : decode cX4_digest 82 = .ok (.lload_n 1, 1) := by decide +kernel
theorem dX4_digest_83 : decode cX4_digest 83 = .ok (.iload_n 3, 1) := by decide +kernel
theorem dX4_digest_84 : decode cX4_digest 84 = .ok (.invokevirtual 227, 3) := by decide +kernel
theorem dX4_digest_87 : decode cX4_digest 87 = .ok (.lstore_n 1, 1) := by decide +kernel
theorem dX4_digest_88 : decode cX4_digest 88 = .ok (.iinc 3 1, 3) := by decide +kernel
theorem dX4_digest_91 : decode cX4_digest 91 = .ok (.goto (-27), 3) := by decide +kernel
theorem dX4_digest_94 : decode cX4_digest 94 = .ok (.aload_n 0, 1) := by decide +kernel
theorem dX4_digest_95 : decode cX4_digest 95 = .ok (.getfield 12, 3) := by decide +kernel
theorem dX4_digest_98 : decode cX4_digest 98 = .ok (.invokevirtual 151, 3) := by decide +kernel
theorem dX4_digest_101 : decode cX4_digest 101 = .ok (.istore_n 3, 1) := by decide +kernel
theorem dX4_digest_102 : decode cX4_digest 102 = .ok (.iload_n 3, 1) := by decide +kernel
theorem dX4_digest_103 : decode cX4_digest 103 = .ok (.iconst (-1), 1) := by decide +kernel
theorem dX4_digest_104 : decode cX4_digest 104 = .ok (.if_icmp .ne 7, 3) := by decide +kernel
theorem dX4_digest_107 : decode cX4_digest 107 = .ok (.lload_n 1, 1) := by decide +kernel
theorem dX4_digest_108 : decode cX4_digest 108 = .ok (.goto 27, 3) := by decide +kernel
theorem dX4_digest_111 : decode cX4_digest 111 = .ok (.lload_n 1, 1) := by decide +kernel
theorem dX4_digest_112 : decode cX4_digest 112 = .ok (.ldc2_w 225, 3) := by decide +kernel
theorem dX4_digest_115 : decode cX4_digest 115 = .ok (.lmul, 1) := by decide +kernel
theorem dX4_digest_116 : decode cX4_digest 116 = .ok (.aload_n 0, 1) := by decide +kernel
theorem dX4_digest_117 : decode cX4_digest 117 = .ok (.getfield 12, 3) := by decide +kernel
theorem dX4_digest_120 : decode cX4_digest 120 = .ok (.iconst 0, 1) := by decide +kernel
theorem dX4_digest_121 : decode cX4_digest 121 = .ok (.aload_n 0, 1) := by decide +kernel
theorem dX4_digest_122 : decode cX4_digest 122 = .ok (.getfield 12, 3) := by decide +kernel
theorem dX4_digest_125 : decode cX4_digest 125 = .ok (.iload_n 3, 1) := by decide +kernel
theorem dX4_digest_126 : decode cX4_digest 126 = .ok (.iconst 1, 1) := by decide +kernel
theorem dX4_digest_127 : decode cX4_digest 127 = .ok (.invokevirtual 112, 3) := by decide +kernel
theorem dX4_digest_130 : decode cX4_digest 130 = .ok (.invokevirtual 220, 3) := by decide +kernel
theorem dX4_digest_133 : decode cX4_digest 133 = .ok (.i2l, 1) := by decide +kernel
theorem dX4_digest_134 : decode cX4_digest 134 = .ok (.ladd, 1) := by decide +kernel
theorem dX4_digest_135 : decode cX4_digest 135 = .ok (.lreturn, 1) := by decide +kernel
set_option maxRecDepth 20000 in
theorem ggX4_answerOf_X2_isAfraid : GoodIn wsX4_answerOf wsX2_isAfraid := goodIn_r _ [6, 7, 8, 9, 5, 10, 11, 17, 18, 19, 20, 21, 22, 23, 24] (by decide +kernel) (by decide +kernel)
set_option maxRecDepth 20000 in
theorem gX4_answerOf_X2_isAfraid : GoodIn wsX4_answerOf (wsV RX4 231 RX2 yX2_isAfraid wsX2_isAfraid) := goodIn_app (goodIn_of _ (by decide +kernel)) ggX4_answerOf_X2_isAfraid
set_option maxRecDepth 20000 in
theorem ggX4_answerOf_X2_trait : GoodIn wsX4_answerOf wsX2_trait := goodIn_r _ [10, 11, 17, 18, 19, 20, 21, 22, 23, 24] (by decide +kernel) (by decide +kernel)
set_option maxRecDepth 20000 in
theorem gX4_answerOf_X2_trait : GoodIn wsX4_answerOf (wsV RX4 112 RX2 yX2_trait wsX2_trait) := goodIn_app (goodIn_of _ (by decide +kernel)) ggX4_answerOf_X2_trait
theorem dX4_answerOf_0 : decode cX4_answerOf 0 = .ok (.iload_n 2, 1) := by decide +kernel
theorem dX4_answerOf_1 : decode cX4_answerOf 1 = .ok (.bipush 9, 2) := by decide +kernel
theorem dX4_answerOf_3 : decode cX4_answerOf 3 = .ok (.if_icmp .ne 20, 3) := by decide +kernel
theorem dX4_answerOf_6 : decode cX4_answerOf 6 = .ok (.aload_n 0, 1) := by decide +kernel
theorem dX4_answerOf_7 : decode cX4_answerOf 7 = .ok (.getfield 12, 3) := by decide +kernel
theorem dX4_answerOf_10 : decode cX4_answerOf 10 = .ok (.iload_n 1, 1) := by decide +kernel
theorem dX4_answerOf_11 : decode cX4_answerOf 11 = .ok (.invokevirtual 231, 3) := by decide +kernel
theorem dX4_answerOf_14 : decode cX4_answerOf 14 = .ok (.ifCond .eq 7, 3) := by decide +kernel
theorem dX4_answerOf_17 : decode cX4_answerOf 17 = .ok (.iconst 1, 1) := by decide +kernel
theorem dX4_answerOf_18 : decode cX4_answerOf 18 = .ok (.goto 4, 3) := by decide +kernel
theorem dX4_answerOf_21 : decode cX4_answerOf 21 = .ok (.iconst 0, 1) := by decide +kernel
theorem dX4_answerOf_22 : decode cX4_answerOf 22 = .ok (.ireturn, 1) := by decide +kernel
theorem dX4_answerOf_23 : decode cX4_answerOf 23 = .ok (.aload_n 0, 1) := by decide +kernel
theorem dX4_answerOf_24 : decode cX4_answerOf 24 = .ok (.getfield 12, 3) := by decide +kernel
theorem dX4_answerOf_27 : decode cX4_answerOf 27 = .ok (.iload_n 1, 1) := by decide +kernel
theorem dX4_answerOf_28 : decode cX4_answerOf 28 = .ok (.iload_n 2, 1) := by decide +kernel
theorem dX4_answerOf_29 : decode cX4_answerOf 29 = .ok (.invokevirtual 112, 3) := by decide +kernel
theorem dX4_answerOf_32 : decode cX4_answerOf 32 = .ok (.ireturn, 1) := by decide +kernel
set_option maxRecDepth 20000 in
theorem ggX4_countOf_X2_living : GoodIn wsX4_countOf wsX2_living := goodIn_r _ [7, 8, 9, 10, 11, 6, 12, 13, 14, 15, 16, 17, 41, 42, 43, 44, 45, 46, 47, 48] (by decide +kernel) (by decide +kernel)
set_option maxRecDepth 20000 in
theorem gX4_countOf_X2_living : GoodIn wsX4_countOf (wsV RX4 211 RX2 yX2_living wsX2_living) := goodIn_app (goodIn_of _ (by decide +kernel)) ggX4_countOf_X2_living
set_option maxRecDepth 20000 in
theorem ggX4_countOf_X2_whoseTurn : GoodIn wsX4_countOf wsX2_whoseTurn := goodIn_r _ [21, 8, 14, 15, 16, 6, 17, 9, 10, 11, 12, 13, 41, 42, 43, 44, 45, 46, 47, 48] (by decide +kernel) (by decide +kernel)
set_option maxRecDepth 20000 in
theorem gX4_countOf_X2_whoseTurn : GoodIn wsX4_countOf (wsV RX4 151 RX2 yX2_whoseTurn wsX2_whoseTurn) := goodIn_app (goodIn_of _ (by decide +kernel)) ggX4_countOf_X2_whoseTurn
set_option maxRecDepth 20000 in
theorem ggX4_countOf_X2_knownCells : GoodIn wsX4_countOf wsX2_knownCells := goodIn_r _ [25, 26, 27, 28, 29, 6, 30, 41, 42, 43, 44, 45, 46, 47, 48] (by decide +kernel) (by decide +kernel)
set_option maxRecDepth 20000 in
theorem gX4_countOf_X2_knownCells : GoodIn wsX4_countOf (wsV RX4 244 RX2 yX2_knownCells wsX2_knownCells) := goodIn_app (goodIn_of _ (by decide +kernel)) ggX4_countOf_X2_knownCells
set_option maxRecDepth 20000 in
theorem ggX4_countOf_Jx4a65c_size_8abf5 : GoodIn wsX4_countOf wsJx4a65c_size_8abf5 := goodIn_r _ [35, 36, 49, 50, 51] (by decide +kernel) (by decide +kernel)
set_option maxRecDepth 20000 in
theorem gX4_countOf_Jx4a65c_size_8abf5_f190Jx4a65c : GoodIn wsX4_countOf (va_wsF RX4 190 RJx4a65c ⟨"java/util/List", "size", "()I"⟩ yJx4a65c_size_8abf5 wsJx4a65c_size_8abf5) := goodIn_app (goodIn_of _ (by decide +kernel)) ggX4_countOf_Jx4a65c_size_8abf5
theorem dX4_countOf_0 : decode cX4_countOf 0 = .ok (.iload_n 1, 1) := by decide +kernel
theorem dX4_countOf_1 : decode cX4_countOf 1 = .ok (.tableswitch 115 0 7 #[47, 55, 64, 73, 81, 89, 97, 106], 47) := by decide +kernel
theorem dX4_countOf_48 : decode cX4_countOf 48 = .ok (.aload_n 0, 1) := by decide +kernel
theorem dX4_countOf_49 : decode cX4_countOf 49 = .ok (.getfield 12, 3) := by decide +kernel
theorem dX4_countOf_52 : decode cX4_countOf 52 = .ok (.getfield 234, 3) := by decide +kernel
theorem dX4_countOf_55 : decode cX4_countOf 55 = .ok (.ireturn, 1) := by decide +kernel
theorem dX4_countOf_56 : decode cX4_countOf 56 = .ok (.aload_n 0, 1) := by decide +kernel
theorem dX4_countOf_57 : decode cX4_countOf 57 = .ok (.getfield 12, 3) := by decide +kernel
theorem dX4_countOf_60 : decode cX4_countOf 60 = .ok (.iconst 0, 1) := by decide +kernel
theorem dX4_countOf_61 : decode cX4_countOf 61 = .ok (.invokevirtual 211, 3) := by decide +kernel
theorem dX4_countOf_64 : decode cX4_countOf 64 = .ok (.ireturn, 1) := by decide +kernel
theorem dX4_countOf_65 : decode cX4_countOf 65 = .ok (.aload_n 0, 1) := by decide +kernel
theorem dX4_countOf_66 : decode cX4_countOf 66 = .ok (.getfield 12, 3) := by decide +kernel
theorem dX4_countOf_69 : decode cX4_countOf 69 = .ok (.iconst 1, 1) := by decide +kernel
theorem dX4_countOf_70 : decode cX4_countOf 70 = .ok (.invokevirtual 211, 3) := by decide +kernel
theorem dX4_countOf_73 : decode cX4_countOf 73 = .ok (.ireturn, 1) := by decide +kernel
theorem dX4_countOf_74 : decode cX4_countOf 74 = .ok (.aload_n 0, 1) := by decide +kernel
theorem dX4_countOf_75 : decode cX4_countOf 75 = .ok (.getfield 12, 3) := by decide +kernel
theorem dX4_countOf_78 : decode cX4_countOf 78 = .ok (.invokevirtual 151, 3) := by decide +kernel
theorem dX4_countOf_81 : decode cX4_countOf 81 = .ok (.ireturn, 1) := by decide +kernel
theorem dX4_countOf_82 : decode cX4_countOf 82 = .ok (.aload_n 0, 1) := by decide +kernel
theorem dX4_countOf_83 : decode cX4_countOf 83 = .ok (.getfield 12, 3) := by decide +kernel
theorem dX4_countOf_86 : decode cX4_countOf 86 = .ok (.getfield 238, 3) := by decide +kernel
theorem dX4_countOf_89 : decode cX4_countOf 89 = .ok (.ireturn, 1) := by decide +kernel
theorem dX4_countOf_90 : decode cX4_countOf 90 = .ok (.aload_n 0, 1) := by decide +kernel
theorem dX4_countOf_91 : decode cX4_countOf 91 = .ok (.getfield 12, 3) := by decide +kernel
theorem dX4_countOf_94 : decode cX4_countOf 94 = .ok (.getfield 241, 3) := by decide +kernel
theorem dX4_countOf_97 : decode cX4_countOf 97 = .ok (.ireturn, 1) := by decide +kernel
theorem dX4_countOf_98 : decode cX4_countOf 98 = .ok (.aload_n 0, 1) := by decide +kernel
theorem dX4_countOf_99 : decode cX4_countOf 99 = .ok (.getfield 12, 3) := by decide +kernel
theorem dX4_countOf_102 : decode cX4_countOf 102 = .ok (.iconst 0, 1) := by decide +kernel
theorem dX4_countOf_103 : decode cX4_countOf 103 = .ok (.invokevirtual 244, 3) := by decide +kernel
theorem dX4_countOf_106 : decode cX4_countOf 106 = .ok (.ireturn, 1) := by decide +kernel
theorem dX4_countOf_107 : decode cX4_countOf 107 = .ok (.aload_n 0, 1) := by decide +kernel
theorem dX4_countOf_108 : decode cX4_countOf 108 = .ok (.getfield 12, 3) := by decide +kernel
theorem dX4_countOf_111 : decode cX4_countOf 111 = .ok (.iconst 1, 1) := by decide +kernel
theorem dX4_countOf_112 : decode cX4_countOf 112 = .ok (.invokevirtual 244, 3) := by decide +kernel
theorem dX4_countOf_115 : decode cX4_countOf 115 = .ok (.ireturn, 1) := by decide +kernel
theorem dX4_countOf_116 : decode cX4_countOf 116 = .ok (.aload_n 0, 1) := by decide +kernel
theorem dX4_countOf_117 : decode cX4_countOf 117 = .ok (.getfield 22, 3) := by decide +kernel
theorem dX4_countOf_120 : decode cX4_countOf 120 = .ok (.invokeinterface 190 1, 5) := by decide +kernel
theorem dX4_countOf_125 : decode cX4_countOf 125 = .ok (.ireturn, 1) := by decide +kernel
set_option maxRecDepth 20000 in
theorem ggX4_play_X2_living : GoodIn wsX4_play wsX2_living := goodIn_r _ [7, 8, 9, 10, 11, 6, 12, 13, 14, 15, 16, 17, 230, 231, 232, 233, 234, 235, 236, 237] (by decide +kernel) (by decide +kernel)
set_option maxRecDepth 20000 in
theorem gX4_play_X2_living : GoodIn wsX4_play (wsV RX4 211 RX2 yX2_living wsX2_living) := goodIn_app (goodIn_of _ (by decide +kernel)) ggX4_play_X2_living
set_option maxRecDepth 20000 in
theorem ggX4_play_X2_whoseTurn : GoodIn wsX4_play wsX2_whoseTurn := goodIn_r _ [21, 8, 14, 15, 16, 6, 17, 9, 10, 11, 12, 13, 230, 231, 232, 233, 234, 235, 236, 237] (by decide +kernel) (by decide +kernel)
set_option maxRecDepth 20000 in
theorem gX4_play_X2_whoseTurn : GoodIn wsX4_play (wsV RX4 151 RX2 yX2_whoseTurn wsX2_whoseTurn) := goodIn_app (goodIn_of _ (by decide +kernel)) ggX4_play_X2_whoseTurn
set_option maxRecDepth 20000 in
theorem ggX4_play_X0_weigh : GoodIn wsX4_play wsX0_weigh := goodIn_r _ [26, 27, 28, 29, 30, 31, 6, 32, 8, 14, 15, 16, 17, 9, 10, 11, 12, 13, 33, 34, 35, 36, 37, 38, 39, 40, 41, 42, 43, 44, 45, 46, 47, 48, 49, 50, 51, 52, 53, 54, 55, 56, 57, 58, 59, 60, 61, 62, 63, 64, 65, 66, 67, 68, 69, 70, 71, 72, 73, 74, 75, 76, 77, 78, 79, 80, 81, 82, 83, 84, 85, 86, 87, 88, 89, 90, 91, 92, 93, 94, 95, 96, 97, 98, 99, 100, 101, 102, 103, 104, 105, 106, 107, 108, 109, 110, 111, 112, 113, 114, 115, 116, 117, 118, 119, 120, 121, 122, 123, 124, 125, 126, 25, 127, 128, 129, 130, 131, 132, 133, 134, 135, 136, 137, 138, 139, 140, 141, 142, 143, 144, 145, 146, 147, 148, 149, 150, 151, 152, 153, 154, 155, 156, 157, 158, 159, 160, 161, 162, 238, 239, 230, 231, 232, 233, 234, 235, 236, 237, 240, 241, 242] (by decide +kernel) (by decide +kernel)
set_option maxRecDepth 20000 in
theorem gX4_play_X0_weigh : GoodIn wsX4_play (wsV RX4 180 RX0 yX0_weigh wsX0_weigh) := goodIn_app (goodIn_of _ (by decide +kernel)) ggX4_play_X0_weigh
set_option maxRecDepth 20000 in
theorem ggX4_play_X0_best : GoodIn wsX4_play wsX0_best := goodIn_r _ [166, 28, 238, 239] (by decide +kernel) (by decide +kernel)
set_option maxRecDepth 20000 in
theorem gX4_play_X0_best : GoodIn wsX4_play (wsV RX4 187 RX0 yX0_best wsX0_best) := goodIn_app (goodIn_of _ (by decide +kernel)) ggX4_play_X0_best
set_option maxRecDepth 20000 in
theorem ggX4_play_X1_perform : GoodIn wsX4_play wsX1_perform := goodIn_r _ [169, 170, 171, 42, 172, 173, 129, 130, 6, 131, 132, 113, 10, 11, 12, 13, 174, 175, 176, 177, 110, 111, 107, 112, 178, 179, 180, 118, 119, 120, 121, 8, 9, 181, 153, 154, 155, 44, 45, 46, 14, 15, 16, 17, 156, 182, 183, 184, 185, 186, 187, 117, 59, 60, 61, 62, 188, 189, 190, 191, 192, 193, 194, 123, 30, 31, 32, 33, 34, 35, 36, 37, 38, 39, 40, 41, 43, 47, 48, 49, 50, 51, 52, 53, 54, 55, 56, 57, 58, 63, 64, 65, 195, 196, 197, 198, 199, 200, 201, 202, 203, 204, 205, 206, 207, 208, 209, 210, 211, 109, 212, 213, 214, 215, 216, 217, 218, 219, 220, 221, 222, 223, 224, 225, 230, 231, 232, 233, 234, 235, 236, 237] (by decide +kernel) (by decide +kernel)
set_option maxRecDepth 20000 in
theorem gX4_play_X1_perform : GoodIn wsX4_play (va_wsS RX4 163 yX1_perform wsX1_perform) := goodIn_app (goodIn_of _ (by decide +kernel)) ggX4_play_X1_perform
theorem dX4_play_0 : decode cX4_play 0 = .ok (.iconst 0, 1) := by decide +kernel
theorem dX4_play_1 : decode cX4_play 1 = .ok (.istore_n 2, 1) := by decide +kernel
theorem dX4_play_2 : decode cX4_play 2 = .ok (.iload_n 2, 1) := by decide +kernel
theorem dX4_play_3 : decode cX4_play 3 = .ok (.iload_n 1, 1) := by decide +kernel
theorem dX4_play_4 : decode cX4_play 4 = .ok (.if_icmp .ge 67, 3) := by decide +kernel
theorem dX4_play_7 : decode cX4_play 7 = .ok (.aload_n 0, 1) := by decide +kernel
theorem dX4_play_8 : decode cX4_play 8 = .ok (.getfield 12, 3) := by decide +kernel
theorem dX4_play_11 : decode cX4_play 11 = .ok (.iconst 0, 1) := by decide +kernel
theorem dX4_play_12 : decode cX4_play 12 = .ok (.invokevirtual 211, 3) := by decide +kernel
theorem dX4_play_15 : decode cX4_play 15 = .ok (.ifCond .le 56, 3) := by decide +kernel
theorem dX4_play_18 : decode cX4_play 18 = .ok (.aload_n 0, 1) := by decide +kernel
theorem dX4_play_19 : decode cX4_play 19 = .ok (.getfield 12, 3) := by decide +kernel
theorem dX4_play_22 : decode cX4_play 22 = .ok (.iconst 1, 1) := by decide +kernel
theorem dX4_play_23 : decode cX4_play 23 = .ok (.invokevirtual 211, 3) := by decide +kernel
theorem dX4_play_26 : decode cX4_play 26 = .ok (.ifCond .le 45, 3) := by decide +kernel
theorem dX4_play_29 : decode cX4_play 29 = .ok (.aload_n 0, 1) := by decide +kernel
theorem dX4_play_30 : decode cX4_play 30 = .ok (.getfield 12, 3) := by decide +kernel
theorem dX4_play_33 : decode cX4_play 33 = .ok (.invokevirtual 151, 3) := by decide +kernel
theorem dX4_play_36 : decode cX4_play 36 = .ok (.istore_n 3, 1) := by decide +kernel
theorem dX4_play_37 : decode cX4_play 37 = .ok (.aload_n 0, 1) := by decide +kernel
theorem dX4_play_38 : decode cX4_play 38 = .ok (.getfield 29, 3) := by decide +kernel
theorem dX4_play_41 : decode cX4_play 41 = .ok (.aload_n 0, 1) := by decide +kernel
theorem dX4_play_42 : decode cX4_play 42 = .ok (.getfield 12, 3) := by decide +kernel
theorem dX4_play_45 : decode cX4_play 45 = .ok (.iload_n 3, 1) := by decide +kernel
theorem dX4_play_46 : decode cX4_play 46 = .ok (.invokevirtual 180, 3) := by decide +kernel
theorem dX4_play_49 : decode cX4_play 49 = .ok (.aload_n 0, 1) := by decide +kernel
theorem dX4_play_50 : decode cX4_play 50 = .ok (.getfield 12, 3) := by decide +kernel
theorem dX4_play_53 : decode cX4_play 53 = .ok (.iload_n 3, 1) := by decide +kernel
theorem dX4_play_54 : decode cX4_play 54 = .ok (.aload_n 0, 1) := by decide +kernel
theorem dX4_play_55 : decode cX4_play 55 = .ok (.getfield 29, 3) := by decide +kernel
theorem dX4_play_58 : decode cX4_play 58 = .ok (.invokevirtual 187, 3) := by decide +kernel
theorem dX4_play_61 : decode cX4_play 61 = .ok (.invokestatic 163, 3) := by decide +kernel
theorem dX4_play_64 : decode cX4_play 64 = .ok (.pop, 1) := by decide +kernel
theorem dX4_play_65 : decode cX4_play 65 = .ok (.iinc 2 1, 3) := by decide +kernel
theorem dX4_play_68 : decode cX4_play 68 = .ok (.goto (-66), 3) := by decide +kernel
theorem dX4_play_71 : decode cX4_play 71 = .ok (.iload_n 2, 1) := by decide +kernel
theorem dX4_play_72 : decode cX4_play 72 = .ok (.ireturn, 1) := by decide +kernel
set_option maxRecDepth 20000 in
theorem ggX4_digestOf_X4_answerOf : GoodIn wsX4_digestOf wsX4_answerOf := goodIn_r _ [8, 2, 9, 10, 11, 12, 13, 14, 15, 16, 17, 18, 19, 177, 178, 179, 180, 181, 182, 183, 184, 185, 186, 187, 188] (by decide +kernel) (by decide +kernel)
set_option maxRecDepth 20000 in
theorem gX4_digestOf_X4_answerOf : GoodIn wsX4_digestOf (wsV RX4 136 RX4 yX4_answerOf wsX4_answerOf) := goodIn_app (goodIn_of _ (by decide +kernel)) ggX4_digestOf_X4_answerOf
set_option maxRecDepth 20000 in
theorem ggX4_digestOf_X2_stackOf : GoodIn wsX4_digestOf wsX2_stackOf := goodIn_r _ [23, 24, 181, 182, 183, 184, 185, 186, 187, 188] (by decide +kernel) (by decide +kernel)
set_option maxRecDepth 20000 in
theorem gX4_digestOf_X2_stackOf : GoodIn wsX4_digestOf (wsV RX4 131 RX2 yX2_stackOf wsX2_stackOf) := goodIn_app (goodIn_of _ (by decide +kernel)) ggX4_digestOf_X2_stackOf
set_option maxRecDepth 20000 in
theorem ggX4_digestOf_X2_turnsOf : GoodIn wsX4_digestOf wsX2_turnsOf := goodIn_r _ [28, 29, 181, 182, 183, 184, 185, 186, 187, 188] (by decide +kernel) (by decide +kernel)
set_option maxRecDepth 20000 in
theorem gX4_digestOf_X2_turnsOf : GoodIn wsX4_digestOf (wsV RX4 141 RX2 yX2_turnsOf wsX2_turnsOf) := goodIn_app (goodIn_of _ (by decide +kernel)) ggX4_digestOf_X2_turnsOf
set_option maxRecDepth 20000 in
theorem ggX4_digestOf_X0_weigh : GoodIn wsX4_digestOf wsX0_weigh := goodIn_r _ [34, 35, 36, 37, 38, 39, 12, 40, 41, 42, 43, 44, 45, 14, 15, 16, 17, 18, 46, 47, 48, 49, 50, 51, 52, 53, 54, 55, 56, 57, 58, 59, 60, 61, 62, 63, 64, 65, 66, 67, 68, 69, 70, 71, 72, 73, 74, 75, 76, 7, 77, 78, 79, 80, 81, 82, 83, 84, 85, 86, 87, 88, 89, 90, 91, 92, 93, 94, 95, 96, 97, 98, 99, 100, 101, 102, 103, 104, 105, 106, 107, 108, 109, 110, 111, 112, 113, 114, 115, 116, 117, 118, 119, 120, 121, 122, 123, 124, 125, 126, 127, 128, 129, 130, 131, 132, 133, 134, 135, 136, 137, 138, 33, 139, 140, 21, 22, 23, 24, 141, 142, 143, 144, 145, 10, 11, 13, 146, 147, 148, 149, 150, 151, 152, 153, 154, 155, 156, 157, 158, 159, 160, 161, 162, 163, 164, 165, 166, 167, 189, 190, 181, 182, 183, 184, 185, 186, 187, 188, 191, 192, 193] (by decide +kernel) (by decide +kernel)
set_option maxRecDepth 20000 in
theorem gX4_digestOf_X0_weigh : GoodIn wsX4_digestOf (wsV RX4 180 RX0 yX0_weigh wsX0_weigh) := goodIn_app (goodIn_of _ (by decide +kernel)) ggX4_digestOf_X0_weigh
set_option maxRecDepth 20000 in
theorem ggX4_digestOf_X2_targetOf : GoodIn wsX4_digestOf wsX2_targetOf := goodIn_r _ [40, 41, 42, 43, 44, 12, 45, 14, 15, 16, 17, 18, 46, 47, 48, 49, 50, 51, 52, 53, 54, 55, 56, 57, 58, 59, 60, 61, 62, 63, 64, 65, 66, 67, 68, 69, 70, 71, 72, 73, 74, 75, 76, 7, 77, 181, 182, 183, 184, 185, 186, 187, 188] (by decide +kernel) (by decide +kernel)
set_option maxRecDepth 20000 in
theorem gX4_digestOf_X2_targetOf : GoodIn wsX4_digestOf (wsV RX4 172 RX2 yX2_targetOf wsX2_targetOf) := goodIn_app (goodIn_of _ (by decide +kernel)) ggX4_digestOf_X2_targetOf
set_option maxRecDepth 20000 in
theorem ggX4_digestOf_X0_best : GoodIn wsX4_digestOf wsX0_best := goodIn_r _ [172, 36, 189, 190] (by decide +kernel) (by decide +kernel)
set_option maxRecDepth 20000 in
theorem gX4_digestOf_X0_best : GoodIn wsX4_digestOf (wsV RX4 187 RX0 yX0_best wsX0_best) := goodIn_app (goodIn_of _ (by decide +kernel)) ggX4_digestOf_X0_best
set_option maxRecDepth 20000 in
theorem ggX4_digestOf_X0_worthOf : GoodIn wsX4_digestOf wsX0_worthOf := goodIn_r _ [176, 36, 189, 190] (by decide +kernel) (by decide +kernel)
set_option maxRecDepth 20000 in
theorem gX4_digestOf_X0_worthOf : GoodIn wsX4_digestOf (wsV RX4 184 RX0 yX0_worthOf wsX0_worthOf) := goodIn_app (goodIn_of _ (by decide +kernel)) ggX4_digestOf_X0_worthOf
theorem dX4_digestOf_0 : decode cX4_digestOf 0 = .ok (.lload_n 1, 1) := by decide +kernel
theorem dX4_digestOf_1 : decode cX4_digestOf 1 = .ok (.lstore 4, 2) := by decide +kernel
theorem dX4_digestOf_3 : decode cX4_digestOf 3 = .ok (.iconst 0, 1) := by decide +kernel
theorem dX4_digestOf_4 : decode cX4_digestOf 4 = .ok (.istore 6, 2) := by decide +kernel
theorem dX4_digestOf_6 : decode cX4_digestOf 6 = .ok (.iload 6, 2) := by decide +kernel
theorem dX4_digestOf_8 : decode cX4_digestOf 8 = .ok (.bipush 9, 2) := by decide +kernel
theorem dX4_digestOf_10 : decode cX4_digestOf 10 = .ok (.if_icmp .gt 26, 3) := by decide +kernel
theorem dX4_digestOf_13 : decode cX4_digestOf 13 = .ok (.lload 4, 2) := by decide +kernel
theorem dX4_digestOf_15 : decode cX4_digestOf 15 = .ok (.ldc2_w 225, 3) := by decide +kernel
theorem dX4_digestOf_18 : decode cX4_digestOf 18 = .ok (.lmul, 1) := by decide +kernel
theorem dX4_digestOf_19 : decode cX4_digestOf 19 = .ok (.aload_n 0, 1) := by decide +kernel
theorem dX4_digestOf_20 : decode cX4_digestOf 20 = .ok (.iload_n 3, 1) := by decide +kernel
theorem dX4_digestOf_21 : decode cX4_digestOf 21 = .ok (.iload 6, 2) := by decide +kernel
theorem dX4_digestOf_23 : decode cX4_digestOf 23 = .ok (.invokevirtual 136, 3) := by decide +kernel
theorem dX4_digestOf_26 : decode cX4_digestOf 26 = .ok (.i2l, 1) := by decide +kernel
theorem dX4_digestOf_27 : decode cX4_digestOf 27 = .ok (.ladd, 1) := by decide +kernel
theorem dX4_digestOf_28 : decode cX4_digestOf 28 = .ok (.lstore 4, 2) := by decide +kernel
theorem dX4_digestOf_30 : decode cX4_digestOf 30 = .ok (.iinc 6 1, 3) := by decide +kernel
theorem dX4_digestOf_33 : decode cX4_digestOf 33 = .ok (.goto (-27), 3) := by decide +kernel
theorem dX4_digestOf_36 : decode cX4_digestOf 36 = .ok (.iconst 0, 1) := by decide +kernel
theorem dX4_digestOf_37 : decode cX4_digestOf 37 = .ok (.istore 6, 2) := by decide +kernel
theorem dX4_digestOf_39 : decode cX4_digestOf 39 = .ok (.iload 6, 2) := by decide +kernel
theorem dX4_digestOf_41 : decode cX4_digestOf 41 = .ok (.iconst 5, 1) := by decide +kernel
theorem dX4_digestOf_42 : decode cX4_digestOf 42 = .ok (.if_icmp .ge 49, 3) := by decide +kernel
theorem dX4_digestOf_45 : decode cX4_digestOf 45 = .ok (.lload 4, 2) := by decide +kernel
theorem dX4_digestOf_47 : decode cX4_digestOf 47 = .ok (.ldc2_w 225, 3) := by decide +kernel
theorem dX4_digestOf_50 : decode cX4_digestOf 50 = .ok (.lmul, 1) := by decide +kernel
theorem dX4_digestOf_51 : decode cX4_digestOf 51 = .ok (.aload_n 0, 1) := by decide +kernel
theorem dX4_digestOf_52 : decode cX4_digestOf 52 = .ok (.getfield 12, 3) := by decide +kernel
theorem dX4_digestOf_55 : decode cX4_digestOf 55 = .ok (.iload_n 3, 1) := by decide +kernel
theorem dX4_digestOf_56 : decode cX4_digestOf 56 = .ok (.iload 6, 2) := by decide +kernel
theorem dX4_digestOf_58 : decode cX4_digestOf 58 = .ok (.invokevirtual 131, 3) := by decide +kernel
theorem dX4_digestOf_61 : decode cX4_digestOf 61 = .ok (.i2l, 1) := by decide +kernel
theorem dX4_digestOf_62 : decode cX4_digestOf 62 = .ok (.ladd, 1) := by decide +kernel
theorem dX4_digestOf_63 : decode cX4_digestOf 63 = .ok (.lstore 4, 2) := by decide +kernel
theorem dX4_digestOf_65 : decode cX4_digestOf 65 = .ok (.lload 4, 2) := by decide +kernel
theorem dX4_digestOf_67 : decode cX4_digestOf 67 = .ok (.ldc2_w 225, 3) := by decide +kernel
theorem dX4_digestOf_70 : decode cX4_digestOf 70 = .ok (.lmul, 1) := by decide +kernel
theorem dX4_digestOf_71 : decode cX4_digestOf 71 = .ok (.aload_n 0, 1) := by decide +kernel
theorem dX4_digestOf_72 : decode cX4_digestOf 72 = .ok (.getfield 12, 3) := by decide +kernel
theorem dX4_digestOf_75 : decode cX4_digestOf 75 = .ok (.iload_n 3, 1) := by decide +kernel
theorem dX4_digestOf_76 : decode cX4_digestOf 76 = .ok (.iload 6, 2) := by decide +kernel
theorem dX4_digestOf_78 : decode cX4_digestOf 78 = .ok (.invokevirtual 141, 3) := by decide +kernel
theorem dX4_digestOf_81 : decode cX4_digestOf 81 = .ok (.i2l, 1) := by decide +kernel
theorem dX4_digestOf_82 : decode cX4_digestOf 82 = .ok (.ladd, 1) := by decide +kernel
theorem dX4_digestOf_83 : decode cX4_digestOf 83 = .ok (.lstore 4, 2) := by decide +kernel
theorem dX4_digestOf_85 : decode cX4_digestOf 85 = .ok (.iinc 6 1, 3) := by decide +kernel
theorem dX4_digestOf_88 : decode cX4_digestOf 88 = .ok (.goto (-49), 3) := by decide +kernel
theorem dX4_digestOf_91 : decode cX4_digestOf 91 = .ok (.aload_n 0, 1) := by decide +kernel
theorem dX4_digestOf_92 : decode cX4_digestOf 92 = .ok (.getfield 29, 3) := by decide +kernel
theorem dX4_digestOf_95 : decode cX4_digestOf 95 = .ok (.aload_n 0, 1) := by decide +kernel
theorem dX4_digestOf_96 : decode cX4_digestOf 96 = .ok (.getfield 12, 3) := by decide +kernel
theorem dX4_digestOf_99 : decode cX4_digestOf 99 = .ok (.iload_n 3, 1) := by decide +kernel
theorem dX4_digestOf_100 : decode cX4_digestOf 100 = .ok (.invokevirtual 180, 3) := by decide +kernel
theorem dX4_digestOf_103 : decode cX4_digestOf 103 = .ok (.lload 4, 2) := by decide +kernel
theorem dX4_digestOf_105 : decode cX4_digestOf 105 = .ok (.ldc2_w 225, 3) := by decide +kernel
theorem dX4_digestOf_108 : decode cX4_digestOf 108 = .ok (.lmul, 1) := by decide +kernel
theorem dX4_digestOf_109 : decode cX4_digestOf 109 = .ok (.aload_n 0, 1) := by decide +kernel
theorem dX4_digestOf_110 : decode cX4_digestOf 110 = .ok (.getfield 12, 3) := by decide +kernel
theorem dX4_digestOf_113 : decode cX4_digestOf 113 = .ok (.iload_n 3, 1) := by decide +kernel
theorem dX4_digestOf_114 : decode cX4_digestOf 114 = .ok (.invokevirtual 172, 3) := by decide +kernel
theorem dX4_digestOf_117 : decode cX4_digestOf 117 = .ok (.i2l, 1) := by decide +kernel
theorem dX4_digestOf_118 : decode cX4_digestOf 118 = .ok (.ladd, 1) := by decide +kernel
theorem dX4_digestOf_119 : decode cX4_digestOf 119 = .ok (.lstore 4, 2) := by decide +kernel
theorem dX4_digestOf_121 : decode cX4_digestOf 121 = .ok (.lload 4, 2) := by decide +kernel
theorem dX4_digestOf_123 : decode cX4_digestOf 123 = .ok (.ldc2_w 225, 3) := by decide +kernel
theorem dX4_digestOf_126 : decode cX4_digestOf 126 = .ok (.lmul, 1) := by decide +kernel
theorem dX4_digestOf_127 : decode cX4_digestOf 127 = .ok (.aload_n 0, 1) := by decide +kernel
theorem dX4_digestOf_128 : decode cX4_digestOf 128 = .ok (.getfield 29, 3) := by decide +kernel
theorem dX4_digestOf_131 : decode cX4_digestOf 131 = .ok (.invokevirtual 187, 3) := by decide +kernel
theorem dX4_digestOf_134 : decode cX4_digestOf 134 = .ok (.i2l, 1) := by decide +kernel
theorem dX4_digestOf_135 : decode cX4_digestOf 135 = .ok (.ladd, 1) := by decide +kernel
theorem dX4_digestOf_136 : decode cX4_digestOf 136 = .ok (.lstore 4, 2) := by decide +kernel
theorem dX4_digestOf_138 : decode cX4_digestOf 138 = .ok (.iconst 0, 1) := by decide +kernel
theorem dX4_digestOf_139 : decode cX4_digestOf 139 = .ok (.istore 6, 2) := by decide +kernel
theorem dX4_digestOf_141 : decode cX4_digestOf 141 = .ok (.iload 6, 2) := by decide +kernel
theorem dX4_digestOf_143 : decode cX4_digestOf 143 = .ok (.bipush 8, 2) := by decide +kernel
theorem dX4_digestOf_145 : decode cX4_digestOf 145 = .ok (.if_icmp .ge 28, 3) := by decide +kernel
theorem dX4_digestOf_148 : decode cX4_digestOf 148 = .ok (.lload 4, 2) := by decide +kernel
theorem dX4_digestOf_150 : decode cX4_digestOf 150 = .ok (.ldc2_w 225, 3) := by decide +kernel
theorem dX4_digestOf_153 : decode cX4_digestOf 153 = .ok (.lmul, 1) := by decide +kernel
theorem dX4_digestOf_154 : decode cX4_digestOf 154 = .ok (.aload_n 0, 1) := by decide +kernel
theorem dX4_digestOf_155 : decode cX4_digestOf 155 = .ok (.getfield 29, 3) := by decide +kernel
theorem dX4_digestOf_158 : decode cX4_digestOf 158 = .ok (.iload 6, 2) := by decide +kernel
theorem dX4_digestOf_160 : decode cX4_digestOf 160 = .ok (.invokevirtual 184, 3) := by decide +kernel
theorem dX4_digestOf_163 : decode cX4_digestOf 163 = .ok (.i2l, 1) := by decide +kernel
theorem dX4_digestOf_164 : decode cX4_digestOf 164 = .ok (.ladd, 1) := by decide +kernel
theorem dX4_digestOf_165 : decode cX4_digestOf 165 = .ok (.lstore 4, 2) := by decide +kernel
theorem dX4_digestOf_167 : decode cX4_digestOf 167 = .ok (.iinc 6 1, 3) := by decide +kernel
theorem dX4_digestOf_170 : decode cX4_digestOf 170 = .ok (.goto (-29), 3) := by decide +kernel
theorem dX4_digestOf_173 : decode cX4_digestOf 173 = .ok (.lload 4, 2) := by decide +kernel
theorem dX4_digestOf_175 : decode cX4_digestOf 175 = .ok (.lreturn, 1) := by decide +kernel
