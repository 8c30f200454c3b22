set_option maxRecDepth 20000 in
theorem ggX0_init_X3_init : GoodIn wsX0_init wsX3_init := goodIn_r _ [11, 12, 2, 3, 8, 13, 14, 15, 16, 17] (by decide +kernel) (by decide +kernel)
set_option maxRecDepth 20000 in
theorem gX0_init_X3_init_n11 : GoodIn wsX0_init (wsX3_init) := ggX0_init_X3_init
theorem dX0_init_0 : decode cX0_init 0 = .ok (.aload_n 0, 1) := by decide +kernel
theorem dX0_init_1 : decode cX0_init 1 = .ok (.invokespecial 3, 3) := by decide +kernel
theorem dX0_init_4 : decode cX0_init 4 = .ok (.aload_n 0, 1) := by decide +kernel
theorem dX0_init_5 : decode cX0_init 5 = .ok (.new 9, 3) := by decide +kernel
theorem dX0_init_8 : decode cX0_init 8 = .ok (.dup, 1) := by decide +kernel
theorem dX0_init_9 : decode cX0_init 9 = .ok (.invokespecial 11, 3) := by decide +kernel
theorem dX0_init_12 : decode cX0_init 12 = .ok (.putfield 12, 3) := by decide +kernel
theorem dX0_init_15 : decode cX0_init 15 = .ok (.aload_n 0, 1) := by decide +kernel
theorem dX0_init_16 : decode cX0_init 16 = .ok (.bipush 8, 2) := by decide +kernel
theorem dX0_init_18 : decode cX0_init 18 = .ok (.newarray .int, 2) := by decide +kernel
theorem dX0_init_20 : decode cX0_init 20 = .ok (.putfield 18, 3) := by decide +kernel
theorem dX0_init_23 : decode cX0_init 23 = .ok (.return_, 1) := by decide +kernel
set_option maxRecDepth 20000 in
theorem ggX0_wayOf_X2_isAlive : GoodIn wsX0_wayOf wsX2_isAlive := goodIn_r _ [6, 7, 8, 9, 5, 10, 11, 61, 62, 63, 64, 65, 66, 67, 68] (by decide +kernel) (by decide +kernel)
set_option maxRecDepth 20000 in
theorem gX0_wayOf_X2_isAlive : GoodIn wsX0_wayOf (wsV RX0 22 RX2 yX2_isAlive wsX2_isAlive) := goodIn_app (goodIn_of _ (by decide +kernel)) ggX0_wayOf_X2_isAlive
set_option maxRecDepth 20000 in
theorem ggX0_wayOf_X3_measure : GoodIn wsX0_wayOf wsX3_measure := goodIn_r _ [16, 17, 18, 19, 20, 21, 22, 23, 24, 25, 5, 26, 27, 28, 8, 9, 10, 11, 29, 30, 31, 15, 32, 33, 34, 35, 36, 37, 38, 39, 40, 41, 42, 43, 44, 45, 46, 47, 48, 49, 69, 70, 71, 61, 62, 63, 64, 65, 66, 67, 68] (by decide +kernel) (by decide +kernel)
set_option maxRecDepth 20000 in
theorem gX0_wayOf_X3_measure : GoodIn wsX0_wayOf (wsV RX0 28 RX3 yX3_measure wsX3_measure) := goodIn_app (goodIn_of _ (by decide +kernel)) ggX0_wayOf_X3_measure
set_option maxRecDepth 20000 in
theorem ggX0_wayOf_X2_trait : GoodIn wsX0_wayOf wsX2_trait := goodIn_r _ [10, 11, 61, 62, 63, 64, 65, 66, 67, 68] (by decide +kernel) (by decide +kernel)
set_option maxRecDepth 20000 in
theorem gX0_wayOf_X2_trait : GoodIn wsX0_wayOf (wsV RX0 32 RX2 yX2_trait wsX2_trait) := goodIn_app (goodIn_of _ (by decide +kernel)) ggX0_wayOf_X2_trait
set_option maxRecDepth 20000 in
theorem ggX0_wayOf_X3_from : GoodIn wsX0_wayOf wsX3_from := goodIn_r _ [54, 55, 56, 57, 58, 42, 43, 44, 15, 45, 17, 69, 70, 71] (by decide +kernel) (by decide +kernel)
set_option maxRecDepth 20000 in
theorem gX0_wayOf_X3_from : GoodIn wsX0_wayOf (wsV RX0 36 RX3 yX3_from wsX3_from) := goodIn_app (goodIn_of _ (by decide +kernel)) ggX0_wayOf_X3_from
theorem dX0_wayOf_0 : decode cX0_wayOf 0 = .ok (.aload_n 1, 1) := by decide +kernel
theorem dX0_wayOf_1 : decode cX0_wayOf 1 = .ok (.iload_n 2, 1) := by decide +kernel
theorem dX0_wayOf_2 : decode cX0_wayOf 2 = .ok (.invokevirtual 22, 3) := by decide +kernel
theorem dX0_wayOf_5 : decode cX0_wayOf 5 = .ok (.ifCond .ne 5, 3) := by decide +kernel
theorem dX0_wayOf_8 : decode cX0_wayOf 8 = .ok (.iconst (-1), 1) := by decide +kernel
theorem dX0_wayOf_9 : decode cX0_wayOf 9 = .ok (.ireturn, 1) := by decide +kernel
theorem dX0_wayOf_10 : decode cX0_wayOf 10 = .ok (.aload_n 0, 1) := by decide +kernel
theorem dX0_wayOf_11 : decode cX0_wayOf 11 = .ok (.getfield 12, 3) := by decide +kernel
theorem dX0_wayOf_14 : decode cX0_wayOf 14 = .ok (.aload_n 1, 1) := by decide +kernel
theorem dX0_wayOf_15 : decode cX0_wayOf 15 = .ok (.iload_n 2, 1) := by decide +kernel
theorem dX0_wayOf_16 : decode cX0_wayOf 16 = .ok (.iload_n 3, 1) := by decide +kernel
theorem dX0_wayOf_17 : decode cX0_wayOf 17 = .ok (.invokevirtual 28, 3) := by decide +kernel
theorem dX0_wayOf_20 : decode cX0_wayOf 20 = .ok (.aload_n 0, 1) := by decide +kernel
theorem dX0_wayOf_21 : decode cX0_wayOf 21 = .ok (.getfield 12, 3) := by decide +kernel
theorem dX0_wayOf_24 : decode cX0_wayOf 24 = .ok (.aload_n 1, 1) := by decide +kernel
theorem dX0_wayOf_25 : decode cX0_wayOf 25 = .ok (.iload_n 2, 1) := by decide +kernel
theorem dX0_wayOf_26 : decode cX0_wayOf 26 = .ok (.iconst 1, 1) := by decide +kernel
theorem dX0_wayOf_27 : decode cX0_wayOf 27 = .ok (.invokevirtual 32, 3) := by decide +kernel
theorem dX0_wayOf_30 : decode cX0_wayOf 30 = .ok (.invokevirtual 36, 3) := by decide +kernel
theorem dX0_wayOf_33 : decode cX0_wayOf 33 = .ok (.ireturn, 1) := by decide +kernel
set_option maxRecDepth 20000 in
theorem ggX0_weigh_X2_targetOf : GoodIn wsX0_weigh wsX2_targetOf := goodIn_r _ [7, 8, 9, 10, 11, 6, 12, 13, 14, 15, 16, 17, 18, 19, 20, 21, 22, 23, 24, 25, 26, 27, 28, 29, 30, 31, 32, 33, 34, 35, 36, 37, 38, 39, 40, 41, 42, 43, 44, 45, 46, 47, 48, 49, 50, 151, 152, 153, 154, 155, 156, 157, 158] (by decide +kernel) (by decide +kernel)
set_option maxRecDepth 20000 in
theorem gX0_weigh_X2_targetOf : GoodIn wsX0_weigh (wsV RX0 40 RX2 yX2_targetOf wsX2_targetOf) := goodIn_app (goodIn_of _ (by decide +kernel)) ggX0_weigh_X2_targetOf
set_option maxRecDepth 20000 in
theorem ggX0_weigh_X2_firstFoe : GoodIn wsX0_weigh wsX2_firstFoe := goodIn_r _ [54, 8, 18, 19, 20, 6, 21, 13, 14, 15, 16, 17, 151, 152, 153, 154, 155, 156, 157, 158] (by decide +kernel) (by decide +kernel)
set_option maxRecDepth 20000 in
theorem gX0_weigh_X2_firstFoe : GoodIn wsX0_weigh (wsV RX0 43 RX2 yX2_firstFoe wsX2_firstFoe) := goodIn_app (goodIn_of _ (by decide +kernel)) ggX0_weigh_X2_firstFoe
set_option maxRecDepth 20000 in
theorem ggX0_weigh_X2_trait : GoodIn wsX0_weigh wsX2_trait := goodIn_r _ [16, 17, 151, 152, 153, 154, 155, 156, 157, 158] (by decide +kernel) (by decide +kernel)
set_option maxRecDepth 20000 in
theorem gX0_weigh_X2_trait : GoodIn wsX0_weigh (wsV RX0 32 RX2 yX2_trait wsX2_trait) := goodIn_app (goodIn_of _ (by decide +kernel)) ggX0_weigh_X2_trait
set_option maxRecDepth 20000 in
theorem ggX0_weigh_X3_measure : GoodIn wsX0_weigh wsX3_measure := goodIn_r _ [60, 61, 62, 63, 64, 65, 66, 67, 44, 45, 6, 46, 47, 68, 14, 15, 16, 17, 69, 70, 71, 59, 72, 73, 74, 75, 76, 77, 78, 79, 80, 81, 82, 83, 84, 85, 86, 87, 88, 89, 159, 160, 161, 151, 152, 153, 154, 155, 156, 157, 158] (by decide +kernel) (by decide +kernel)
set_option maxRecDepth 20000 in
theorem gX0_weigh_X3_measure : GoodIn wsX0_weigh (wsV RX0 28 RX3 yX3_measure wsX3_measure) := goodIn_app (goodIn_of _ (by decide +kernel)) ggX0_weigh_X3_measure
set_option maxRecDepth 20000 in
theorem ggX0_weigh_X1_isPossible : GoodIn wsX0_weigh wsX1_isPossible := goodIn_r _ [93, 94, 10, 11, 6, 12, 13, 14, 15, 16, 17, 95, 96, 92, 97, 98, 99, 100, 101, 102, 44, 45, 46, 47, 103, 104, 105, 106, 8, 107, 19, 20, 21, 108, 4, 5, 7, 9, 18, 22, 23, 24, 25, 26, 27, 28, 29, 30, 31, 32, 33, 34, 35, 36, 37, 38, 39, 40, 41, 42, 43, 48, 49, 50, 151, 152, 153, 154, 155, 156, 157, 158] (by decide +kernel) (by decide +kernel)
set_option maxRecDepth 20000 in
theorem gX0_weigh_X1_isPossible : GoodIn wsX0_weigh (va_wsS RX0 46 yX1_isPossible wsX1_isPossible) := goodIn_app (goodIn_of _ (by decide +kernel)) ggX0_weigh_X1_isPossible
set_option maxRecDepth 20000 in
theorem ggX0_weigh_X0_worthIfPossible : GoodIn wsX0_weigh wsX0_worthIfPossible := goodIn_r _ [113, 114, 115, 116, 6, 117, 118, 119, 120, 121, 112, 122, 123, 124, 125, 126, 13, 14, 15, 16, 17, 127, 128, 129, 130, 131, 104, 105, 106, 8, 18, 19, 20, 21, 55, 132, 96, 92, 97, 98, 133, 134, 135, 136, 1, 137, 138, 139, 140, 141, 29, 30, 27, 31, 9, 10, 11, 12, 142, 143, 44, 45, 46, 47, 144, 145, 146, 59, 147, 148, 82, 83, 84, 85, 61, 151, 152, 153, 154, 155, 156, 157, 158, 149, 150, 159, 160, 161] (by decide +kernel) (by decide +kernel)
set_option maxRecDepth 20000 in
theorem gX0_weigh_X0_worthIfPossible : GoodIn wsX0_weigh (wsV RX0 52 RX0 yX0_worthIfPossible wsX0_worthIfPossible) := goodIn_app (goodIn_of _ (by decide +kernel)) ggX0_weigh_X0_worthIfPossible
theorem dX0_weigh_0 : decode cX0_weigh 0 = .ok (.aload_n 1, 1) := by decide +kernel
theorem dX0_weigh_1 : decode cX0_weigh 1 = .ok (.iload_n 2, 1) := by decide +kernel
theorem dX0_weigh_2 : decode cX0_weigh 2 = .ok (.invokevirtual 40, 3) := by decide +kernel
theorem dX0_weigh_5 : decode cX0_weigh 5 = .ok (.istore_n 3, 1) := by decide +kernel
theorem dX0_weigh_6 : decode cX0_weigh 6 = .ok (.iload_n 3, 1) := by decide +kernel
theorem dX0_weigh_7 : decode cX0_weigh 7 = .ok (.iconst (-1), 1) := by decide +kernel
theorem dX0_weigh_8 : decode cX0_weigh 8 = .ok (.if_icmp .eq 7, 3) := by decide +kernel
theorem dX0_weigh_11 : decode cX0_weigh 11 = .ok (.iload_n 3, 1) := by decide +kernel
theorem dX0_weigh_12 : decode cX0_weigh 12 = .ok (.goto 8, 3) := by decide +kernel
theorem dX0_weigh_15 : decode cX0_weigh 15 = .ok (.aload_n 1, 1) := by decide +kernel
theorem dX0_weigh_16 : decode cX0_weigh 16 = .ok (.iload_n 2, 1) := by decide +kernel
theorem dX0_weigh_17 : decode cX0_weigh 17 = .ok (.invokevirtual 43, 3) := by decide +kernel
theorem dX0_weigh_20 : decode cX0_weigh 20 = .ok (.istore 4, 2) := by decide +kernel
theorem dX0_weigh_22 : decode cX0_weigh 22 = .ok (.aload_n 0, 1) := by decide +kernel
theorem dX0_weigh_23 : decode cX0_weigh 23 = .ok (.getfield 12, 3) := by decide +kernel
theorem dX0_weigh_26 : decode cX0_weigh 26 = .ok (.aload_n 1, 1) := by decide +kernel
theorem dX0_weigh_27 : decode cX0_weigh 27 = .ok (.iload_n 2, 1) := by decide +kernel
theorem dX0_weigh_28 : decode cX0_weigh 28 = .ok (.iload 4, 2) := by decide +kernel
theorem dX0_weigh_30 : decode cX0_weigh 30 = .ok (.iconst (-1), 1) := by decide +kernel
theorem dX0_weigh_31 : decode cX0_weigh 31 = .ok (.if_icmp .eq 13, 3) := by decide +kernel
theorem dX0_weigh_34 : decode cX0_weigh 34 = .ok (.aload_n 1, 1) := by decide +kernel
theorem dX0_weigh_35 : decode cX0_weigh 35 = .ok (.iload 4, 2) := by decide +kernel
theorem dX0_weigh_37 : decode cX0_weigh 37 = .ok (.iconst 1, 1) := by decide +kernel
theorem dX0_weigh_38 : decode cX0_weigh 38 = .ok (.invokevirtual 32, 3) := by decide +kernel
theorem dX0_weigh_41 : decode cX0_weigh 41 = .ok (.goto 4, 3) := by decide +kernel
theorem dX0_weigh_44 : decode cX0_weigh 44 = .ok (.iconst (-1), 1) := by decide +kernel
theorem dX0_weigh_45 : decode cX0_weigh 45 = .ok (.invokevirtual 28, 3) := by decide +kernel
theorem dX0_weigh_48 : decode cX0_weigh 48 = .ok (.iconst 0, 1) := by decide +kernel
theorem dX0_weigh_49 : decode cX0_weigh 49 = .ok (.istore 5, 2) := by decide +kernel
theorem dX0_weigh_51 : decode cX0_weigh 51 = .ok (.iload 5, 2) := by decide +kernel
theorem dX0_weigh_53 : decode cX0_weigh 53 = .ok (.aload_n 0, 1) := by decide +kernel
theorem dX0_weigh_54 : decode cX0_weigh 54 = .ok (.getfield 18, 3) := by decide +kernel
theorem dX0_weigh_57 : decode cX0_weigh 57 = .ok (.arraylength, 1) := by decide +kernel
theorem dX0_weigh_58 : decode cX0_weigh 58 = .ok (.if_icmp .ge 45, 3) := by decide +kernel
theorem dX0_weigh_61 : decode cX0_weigh 61 = .ok (.aload_n 1, 1) := by decide +kernel
theorem dX0_weigh_62 : decode cX0_weigh 62 = .ok (.iload_n 2, 1) := by decide +kernel
theorem dX0_weigh_63 : decode cX0_weigh 63 = .ok (.iload 5, 2) := by decide +kernel
theorem dX0_weigh_65 : decode cX0_weigh 65 = .ok (.invokestatic 46, 3) := by decide +kernel
theorem dX0_weigh_68 : decode cX0_weigh 68 = .ok (.istore 6, 2) := by decide +kernel
theorem dX0_weigh_70 : decode cX0_weigh 70 = .ok (.aload_n 0, 1) := by decide +kernel
theorem dX0_weigh_71 : decode cX0_weigh 71 = .ok (.getfield 18, 3) := by decide +kernel
theorem dX0_weigh_74 : decode cX0_weigh 74 = .ok (.iload 5, 2) := by decide +kernel
theorem dX0_weigh_76 : decode cX0_weigh 76 = .ok (.iload 6, 2) := by decide +kernel
theorem dX0_weigh_78 : decode cX0_weigh 78 = .ok (.ifCond .eq 15, 3) := by decide +kernel
theorem dX0_weigh_81 : decode cX0_weigh 81 = .ok (.aload_n 0, 1) := by decide +kernel
theorem dX0_weigh_82 : decode cX0_weigh 82 = .ok (.aload_n 1, 1) := by decide +kernel
theorem dX0_weigh_83 : decode cX0_weigh 83 = .ok (.iload_n 2, 1) := by decide +kernel
theorem dX0_weigh_84 : decode cX0_weigh 84 = .ok (.iload 5, 2) := by decide +kernel
theorem dX0_weigh_86 : decode cX0_weigh 86 = .ok (.iload_n 3, 1) := by decide +kernel
theorem dX0_weigh_87 : decode cX0_weigh 87 = .ok (.invokevirtual 52, 3) := by decide +kernel
theorem dX0_weigh_90 : decode cX0_weigh 90 = .ok (.goto 6, 3) := by decide +kernel
theorem dX0_weigh_93 : decode cX0_weigh 93 = .ok (.sipush (-1000), 3) := by decide +kernel
theorem dX0_weigh_96 : decode cX0_weigh 96 = .ok (.iastore, 1) := by decide +kernel
theorem dX0_weigh_97 : decode cX0_weigh 97 = .ok (.iinc 5 1, 3) := by decide +kernel
theorem dX0_weigh_100 : decode cX0_weigh 100 = .ok (.goto (-49), 3) := by decide +kernel
theorem dX0_weigh_103 : decode cX0_weigh 103 = .ok (.return_, 1) := by decide +kernel
theorem dX0_worthOf_0 : decode cX0_worthOf 0 = .ok (.iload_n 1, 1) := by decide +kernel
theorem dX0_worthOf_1 : decode cX0_worthOf 1 = .ok (.ifCond .lt 21, 3) := by decide +kernel
theorem dX0_worthOf_4 : decode cX0_worthOf 4 = .ok (.iload_n 1, 1) := by decide +kernel
theorem dX0_worthOf_5 : decode cX0_worthOf 5 = .ok (.aload_n 0, 1) := by decide +kernel
theorem dX0_worthOf_6 : decode cX0_worthOf 6 = .ok (.getfield 18, 3) := by decide +kernel
theorem dX0_worthOf_9 : decode cX0_worthOf 9 = .ok (.arraylength, 1) := by decide +kernel
theorem dX0_worthOf_10 : decode cX0_worthOf 10 = .ok (.if_icmp .ge 12, 3) := by decide +kernel
theorem dX0_worthOf_13 : decode cX0_worthOf 13 = .ok (.aload_n 0, 1) := by decide +kernel
theorem dX0_worthOf_14 : decode cX0_worthOf 14 = .ok (.getfield 18, 3) := by decide +kernel
theorem dX0_worthOf_17 : decode cX0_worthOf 17 = .ok (.iload_n 1, 1) := by decide +kernel
theorem dX0_worthOf_18 : decode cX0_worthOf 18 = .ok (.iaload, 1) := by decide +kernel
theorem dX0_worthOf_19 : decode cX0_worthOf 19 = .ok (.goto 6, 3) := by decide +kernel
theorem dX0_worthOf_22 : decode cX0_worthOf 22 = .ok (.sipush (-1000), 3) := by decide +kernel
theorem dX0_worthOf_25 : decode cX0_worthOf 25 = .ok (.ireturn, 1) := by decide +kernel
theorem dX0_best_0 : decode cX0_best 0 = .ok (.iconst (-1), 1) := by decide +kernel
theorem dX0_best_1 : decode cX0_best 1 = .ok (.istore_n 1, 1) := by decide +kernel
theorem dX0_best_2 : decode cX0_best 2 = .ok (.sipush (-1000), 3) := by decide +kernel
theorem dX0_best_5 : decode cX0_best 5 = .ok (.istore_n 2, 1) := by decide +kernel
theorem dX0_best_6 : decode cX0_best 6 = .ok (.iconst 0, 1) := by decide +kernel
theorem dX0_best_7 : decode cX0_best 7 = .ok (.istore_n 3, 1) := by decide +kernel
theorem dX0_best_8 : decode cX0_best 8 = .ok (.iload_n 3, 1) := by decide +kernel
theorem dX0_best_9 : decode cX0_best 9 = .ok (.aload_n 0, 1) := by decide +kernel
theorem dX0_best_10 : decode cX0_best 10 = .ok (.getfield 18, 3) := by decide +kernel
theorem dX0_best_13 : decode cX0_best 13 = .ok (.arraylength, 1) := by decide +kernel
theorem dX0_best_14 : decode cX0_best 14 = .ok (.if_icmp .ge 28, 3) := by decide +kernel
theorem dX0_best_17 : decode cX0_best 17 = .ok (.aload_n 0, 1) := by decide +kernel
theorem dX0_best_18 : decode cX0_best 18 = .ok (.getfield 18, 3) := by decide +kernel
theorem dX0_best_21 : decode cX0_best 21 = .ok (.iload_n 3, 1) := by decide +kernel
theorem dX0_best_22 : decode cX0_best 22 = .ok (.iaload, 1) := by decide +kernel
theorem dX0_best_23 : decode cX0_best 23 = .ok (.iload_n 2, 1) := by decide +kernel
theorem dX0_best_24 : decode cX0_best 24 = .ok (.if_icmp .le 12, 3) := by decide +kernel
theorem dX0_best_27 : decode cX0_best 27 = .ok (.iload_n 3, 1) := by decide +kernel
theorem dX0_best_28 : decode cX0_best 28 = .ok (.istore_n 1, 1) := by decide +kernel
theorem dX0_best_29 : decode cX0_best 29 = .ok (.aload_n 0, 1) := by decide +kernel
theorem dX0_best_30 : decode cX0_best 30 = .ok (.getfield 18, 3) := by decide +kernel
theorem dX0_best_33 : decode cX0_best 33 = .ok (.iload_n 3, 1) := by decide +kernel
theorem dX0_best_34 : decode cX0_best 34 = .ok (.iaload, 1) := by decide +kernel
theorem dX0_best_35 : decode cX0_best 35 = .ok (.istore_n 2, 1) := by decide +kernel
theorem dX0_best_36 : decode cX0_best 36 = .ok (.iinc 3 1, 3) := by decide +kernel
theorem dX0_best_39 : decode cX0_best 39 = .ok (.goto (-31), 3) := by decide +kernel
theorem dX0_best_42 : decode cX0_best 42 = .ok (.iload_n 1, 1) := by decide +kernel
theorem dX0_best_43 : decode cX0_best 43 = .ok (.ireturn, 1) := by decide +kernel
set_option maxRecDepth 20000 in
theorem ggX0_worthIfPossible_X2_stackOf : GoodIn wsX0_worthIfPossible wsX2_stackOf := goodIn_r _ [5, 6, 75, 76, 77, 78, 79, 80, 81, 82] (by decide +kernel) (by decide +kernel)
set_option maxRecDepth 20000 in
theorem gX0_worthIfPossible_X2_stackOf : GoodIn wsX0_worthIfPossible (wsV RX0 56 RX2 yX2_stackOf wsX2_stackOf) := goodIn_app (goodIn_of _ (by decide +kernel)) ggX0_worthIfPossible_X2_stackOf
set_option maxRecDepth 20000 in
theorem ggX0_worthIfPossible_X0_worthOfGuard : GoodIn wsX0_worthIfPossible wsX0_worthOfGuard := goodIn_r _ [11, 12, 13, 14, 4, 15, 16, 17, 18, 19, 20, 21, 22, 23, 24, 25, 26, 27, 28, 29, 30, 31, 32, 33, 1, 2, 3, 5, 6, 75, 76, 77, 78, 79, 80, 81, 82] (by decide +kernel) (by decide +kernel)
set_option maxRecDepth 20000 in
theorem gX0_worthIfPossible_X0_worthOfGuard : GoodIn wsX0_worthIfPossible (wsV RX0 59 RX0 yX0_worthOfGuard wsX0_worthOfGuard) := goodIn_app (goodIn_of _ (by decide +kernel)) ggX0_worthIfPossible_X0_worthOfGuard
set_option maxRecDepth 20000 in
theorem ggX0_worthIfPossible_X2_trait : GoodIn wsX0_worthIfPossible wsX2_trait := goodIn_r _ [19, 20, 75, 76, 77, 78, 79, 80, 81, 82] (by decide +kernel) (by decide +kernel)
set_option maxRecDepth 20000 in
theorem gX0_worthIfPossible_X2_trait : GoodIn wsX0_worthIfPossible (wsV RX0 32 RX2 yX2_trait wsX2_trait) := goodIn_app (goodIn_of _ (by decide +kernel)) ggX0_worthIfPossible_X2_trait
set_option maxRecDepth 20000 in
theorem ggX0_worthIfPossible_X1_cellTowards : GoodIn wsX0_worthIfPossible wsX1_cellTowards := goodIn_r _ [38, 39, 17, 18, 4, 19, 20, 75, 76, 77, 78, 79, 80, 81, 82] (by decide +kernel) (by decide +kernel)
set_option maxRecDepth 20000 in
theorem gX0_worthIfPossible_X1_cellTowards : GoodIn wsX0_worthIfPossible (va_wsS RX0 63 yX1_cellTowards wsX1_cellTowards) := goodIn_app (goodIn_of _ (by decide +kernel)) ggX0_worthIfPossible_X1_cellTowards
set_option maxRecDepth 20000 in
theorem ggX0_worthIfPossible_X0_worthOfGo : GoodIn wsX0_worthIfPossible wsX0_worthOfGo := goodIn_r _ [43, 44, 45, 26, 27, 4, 28, 29, 16, 17, 18, 19, 20, 46, 47, 48, 49, 50, 51, 52, 53, 54, 55, 56, 57, 58, 2, 3, 5, 6, 34, 59, 60, 61, 62, 63, 64, 65, 66, 67, 68, 69, 70, 71, 72, 73, 74, 12, 13, 14, 15, 83, 84, 75, 76, 77, 78, 79, 80, 81, 82, 85, 86, 87] (by decide +kernel) (by decide +kernel)
set_option maxRecDepth 20000 in
theorem gX0_worthIfPossible_X0_worthOfGo : GoodIn wsX0_worthIfPossible (wsV RX0 67 RX0 yX0_worthOfGo wsX0_worthOfGo) := goodIn_app (goodIn_of _ (by decide +kernel)) ggX0_worthIfPossible_X0_worthOfGo
theorem dX0_worthIfPossible_0 : decode cX0_worthIfPossible 0 = .ok (.iload_n 3, 1) := by decide +kernel
theorem dX0_worthIfPossible_1 : decode cX0_worthIfPossible 1 = .ok (.tableswitch 90 0 7 #[47, 90, 90, 90, 90, 49, 60, 67], 47) := by decide +kernel
theorem dX0_worthIfPossible_48 : decode cX0_worthIfPossible 48 = .ok (.iconst 1, 1) := by decide +kernel
theorem dX0_worthIfPossible_49 : decode cX0_worthIfPossible 49 = .ok (.ireturn, 1) := by decide +kernel
theorem dX0_worthIfPossible_50 : decode cX0_worthIfPossible 50 = .ok (.bipush 14, 2) := by decide +kernel
theorem dX0_worthIfPossible_52 : decode cX0_worthIfPossible 52 = .ok (.aload_n 1, 1) := by decide +kernel
theorem dX0_worthIfPossible_53 : decode cX0_worthIfPossible 53 = .ok (.iload 4, 2) := by decide +kernel
theorem dX0_worthIfPossible_55 : decode cX0_worthIfPossible 55 = .ok (.iconst 0, 1) := by decide +kernel
theorem dX0_worthIfPossible_56 : decode cX0_worthIfPossible 56 = .ok (.invokevirtual 56, 3) := by decide +kernel
theorem dX0_worthIfPossible_59 : decode cX0_worthIfPossible 59 = .ok (.isub, 1) := by decide +kernel
theorem dX0_worthIfPossible_60 : decode cX0_worthIfPossible 60 = .ok (.ireturn, 1) := by decide +kernel
theorem dX0_worthIfPossible_61 : decode cX0_worthIfPossible 61 = .ok (.aload_n 0, 1) := by decide +kernel
theorem dX0_worthIfPossible_62 : decode cX0_worthIfPossible 62 = .ok (.aload_n 1, 1) := by decide +kernel
theorem dX0_worthIfPossible_63 : decode cX0_worthIfPossible 63 = .ok (.iload_n 2, 1) := by decide +kernel
theorem dX0_worthIfPossible_64 : decode cX0_worthIfPossible 64 = .ok (.invokevirtual 59, 3) := by decide +kernel
theorem dX0_worthIfPossible_67 : decode cX0_worthIfPossible 67 = .ok (.ireturn, 1) := by decide +kernel
theorem dX0_worthIfPossible_68 : decode cX0_worthIfPossible 68 = .ok (.aload_n 1, 1) := by decide +kernel
theorem dX0_worthIfPossible_69 : decode cX0_worthIfPossible 69 = .ok (.iload_n 2, 1) := by decide +kernel
theorem dX0_worthIfPossible_70 : decode cX0_worthIfPossible 70 = .ok (.iconst 3, 1) := by decide +kernel
theorem dX0_worthIfPossible_71 : decode cX0_worthIfPossible 71 = .ok (.invokevirtual 32, 3) := by decide +kernel
theorem dX0_worthIfPossible_74 : decode cX0_worthIfPossible 74 = .ok (.aload_n 1, 1) := by decide +kernel
theorem dX0_worthIfPossible_75 : decode cX0_worthIfPossible 75 = .ok (.iload_n 2, 1) := by decide +kernel
theorem dX0_worthIfPossible_76 : decode cX0_worthIfPossible 76 = .ok (.iconst 2, 1) := by decide +kernel
theorem dX0_worthIfPossible_77 : decode cX0_worthIfPossible 77 = .ok (.invokevirtual 32, 3) := by decide +kernel
theorem dX0_worthIfPossible_80 : decode cX0_worthIfPossible 80 = .ok (.isub, 1) := by decide +kernel
theorem dX0_worthIfPossible_81 : decode cX0_worthIfPossible 81 = .ok (.iconst 2, 1) := by decide +kernel
theorem dX0_worthIfPossible_82 : decode cX0_worthIfPossible 82 = .ok (.aload_n 1, 1) := by decide +kernel
theorem dX0_worthIfPossible_83 : decode cX0_worthIfPossible 83 = .ok (.iload_n 2, 1) := by decide +kernel
theorem dX0_worthIfPossible_84 : decode cX0_worthIfPossible 84 = .ok (.iconst 1, 1) := by decide +kernel
theorem dX0_worthIfPossible_85 : decode cX0_worthIfPossible 85 = .ok (.invokevirtual 56, 3) := by decide +kernel
theorem dX0_worthIfPossible_88 : decode cX0_worthIfPossible 88 = .ok (.imul, 1) := by decide +kernel
theorem dX0_worthIfPossible_89 : decode cX0_worthIfPossible 89 = .ok (.isub, 1) := by decide +kernel
theorem dX0_worthIfPossible_90 : decode cX0_worthIfPossible 90 = .ok (.ireturn, 1) := by decide +kernel
theorem dX0_worthIfPossible_91 : decode cX0_worthIfPossible 91 = .ok (.aload_n 0, 1) := by decide +kernel
theorem dX0_worthIfPossible_92 : decode cX0_worthIfPossible 92 = .ok (.aload_n 1, 1) := by decide +kernel
theorem dX0_worthIfPossible_93 : decode cX0_worthIfPossible 93 = .ok (.iload_n 2, 1) := by decide +kernel
theorem dX0_worthIfPossible_94 : decode cX0_worthIfPossible 94 = .ok (.aload_n 1, 1) := by decide +kernel
theorem dX0_worthIfPossible_95 : decode cX0_worthIfPossible 95 = .ok (.iload_n 2, 1) := by decide +kernel
theorem dX0_worthIfPossible_96 : decode cX0_worthIfPossible 96 = .ok (.iload_n 3, 1) := by decide +kernel
theorem dX0_worthIfPossible_97 : decode cX0_worthIfPossible 97 = .ok (.invokestatic 63, 3) := by decide +kernel
theorem dX0_worthIfPossible_100 : decode cX0_worthIfPossible 100 = .ok (.invokevirtual 67, 3) := by decide +kernel
theorem dX0_worthIfPossible_103 : decode cX0_worthIfPossible 103 = .ok (.ireturn, 1) := by decide +kernel
set_option maxRecDepth 20000 in
theorem ggX0_worthOfGuard_X2_isAfraid : GoodIn wsX0_worthOfGuard wsX2_isAfraid := goodIn_r _ [5, 6, 7, 8, 4, 9, 10, 29, 30, 31, 32, 33, 34, 35, 36] (by decide +kernel) (by decide +kernel)
set_option maxRecDepth 20000 in
theorem gX0_worthOfGuard_X2_isAfraid : GoodIn wsX0_worthOfGuard (wsV RX0 70 RX2 yX2_isAfraid wsX2_isAfraid) := goodIn_app (goodIn_of _ (by decide +kernel)) ggX0_worthOfGuard_X2_isAfraid
set_option maxRecDepth 20000 in
theorem ggX0_worthOfGuard_X2_hasFoeBeside : GoodIn wsX0_worthOfGuard wsX2_hasFoeBeside := goodIn_r _ [14, 6, 7, 8, 4, 9, 10, 15, 16, 17, 18, 19, 20, 21, 22, 23, 29, 30, 31, 32, 33, 34, 35, 36] (by decide +kernel) (by decide +kernel)
set_option maxRecDepth 20000 in
theorem gX0_worthOfGuard_X2_hasFoeBeside : GoodIn wsX0_worthOfGuard (wsV RX0 73 RX2 yX2_hasFoeBeside wsX2_hasFoeBeside) := goodIn_app (goodIn_of _ (by decide +kernel)) ggX0_worthOfGuard_X2_hasFoeBeside
set_option maxRecDepth 20000 in
theorem ggX0_worthOfGuard_X2_stackOf : GoodIn wsX0_worthOfGuard wsX2_stackOf := goodIn_r _ [27, 28, 29, 30, 31, 32, 33, 34, 35, 36] (by decide +kernel) (by decide +kernel)
set_option maxRecDepth 20000 in
theorem gX0_worthOfGuard_X2_stackOf : GoodIn wsX0_worthOfGuard (wsV RX0 56 RX2 yX2_stackOf wsX2_stackOf) := goodIn_app (goodIn_of _ (by decide +kernel)) ggX0_worthOfGuard_X2_stackOf
theorem dX0_worthOfGuard_0 : decode cX0_worthOfGuard 0 = .ok (.aload_n 1, 1) := by decide +kernel
theorem dX0_worthOfGuard_1 : decode cX0_worthOfGuard 1 = .ok (.iload_n 2, 1) := by decide +kernel
theorem dX0_worthOfGuard_2 : decode cX0_worthOfGuard 2 = .ok (.invokevirtual 70, 3) := by decide +kernel
theorem dX0_worthOfGuard_5 : decode cX0_worthOfGuard 5 = .ok (.ifCond .ne 11, 3) := by decide +kernel
theorem dX0_worthOfGuard_8 : decode cX0_worthOfGuard 8 = .ok (.aload_n 1, 1) := by decide +kernel
theorem dX0_worthOfGuard_9 : decode cX0_worthOfGuard 9 = .ok (.iload_n 2, 1) := by decide +kernel
theorem dX0_worthOfGuard_10 : decode cX0_worthOfGuard 10 = .ok (.invokevirtual 73, 3) := by decide +kernel
theorem dX0_worthOfGuard_13 : decode cX0_worthOfGuard 13 = .ok (.ifCond .eq 7, 3) := by decide +kernel
theorem dX0_worthOfGuard_16 : decode cX0_worthOfGuard 16 = .ok (.iconst 1, 1) := by decide +kernel
theorem dX0_worthOfGuard_17 : decode cX0_worthOfGuard 17 = .ok (.goto 4, 3) := by decide +kernel
theorem dX0_worthOfGuard_20 : decode cX0_worthOfGuard 20 = .ok (.iconst 0, 1) := by decide +kernel
theorem dX0_worthOfGuard_21 : decode cX0_worthOfGuard 21 = .ok (.istore_n 3, 1) := by decide +kernel
theorem dX0_worthOfGuard_22 : decode cX0_worthOfGuard 22 = .ok (.iload_n 3, 1) := by decide +kernel
theorem dX0_worthOfGuard_23 : decode cX0_worthOfGuard 23 = .ok (.ifCond .eq 17, 3) := by decide +kernel
theorem dX0_worthOfGuard_26 : decode cX0_worthOfGuard 26 = .ok (.bipush 24, 2) := by decide +kernel
theorem dX0_worthOfGuard_28 : decode cX0_worthOfGuard 28 = .ok (.iconst 3, 1) := by decide +kernel
theorem dX0_worthOfGuard_29 : decode cX0_worthOfGuard 29 = .ok (.aload_n 1, 1) := by decide +kernel
theorem dX0_worthOfGuard_30 : decode cX0_worthOfGuard 30 = .ok (.iload_n 2, 1) := by decide +kernel
theorem dX0_worthOfGuard_31 : decode cX0_worthOfGuard 31 = .ok (.iconst 3, 1) := by decide +kernel
theorem dX0_worthOfGuard_32 : decode cX0_worthOfGuard 32 = .ok (.invokevirtual 56, 3) := by decide +kernel
theorem dX0_worthOfGuard_35 : decode cX0_worthOfGuard 35 = .ok (.imul, 1) := by decide +kernel
theorem dX0_worthOfGuard_36 : decode cX0_worthOfGuard 36 = .ok (.isub, 1) := by decide +kernel
theorem dX0_worthOfGuard_37 : decode cX0_worthOfGuard 37 = .ok (.goto 4, 3) := by decide +kernel
theorem dX0_worthOfGuard_40 : decode cX0_worthOfGuard 40 = .ok (.iconst 0, 1) := by decide +kernel
theorem dX0_worthOfGuard_41 : decode cX0_worthOfGuard 41 = .ok (.ireturn, 1) := by decide +kernel
set_option maxRecDepth 20000 in
theorem ggX0_worthOfGo_X2_whoIsOn : GoodIn wsX0_worthOfGo wsX2_whoIsOn := goodIn_r _ [6, 7, 8, 9, 10, 5, 11, 12, 53, 54, 55, 56, 57, 58, 59, 60] (by decide +kernel) (by decide +kernel)
set_option maxRecDepth 20000 in
theorem gX0_worthOfGo_X2_whoIsOn : GoodIn wsX0_worthOfGo (wsV RX0 76 RX2 yX2_whoIsOn wsX2_whoIsOn) := goodIn_app (goodIn_of _ (by decide +kernel)) ggX0_worthOfGo_X2_whoIsOn
set_option maxRecDepth 20000 in
theorem ggX0_worthOfGo_X2_hitOf : GoodIn wsX0_worthOfGo wsX2_hitOf := goodIn_r _ [16, 17, 18, 19, 20, 21, 22, 23, 5, 24, 8, 9, 10, 11, 12, 25, 26, 27, 28, 29, 53, 54, 55, 56, 57, 58, 59, 60] (by decide +kernel) (by decide +kernel)
set_option maxRecDepth 20000 in
theorem gX0_worthOfGo_X2_hitOf : GoodIn wsX0_worthOfGo (wsV RX0 79 RX2 yX2_hitOf wsX2_hitOf) := goodIn_app (goodIn_of _ (by decide +kernel)) ggX0_worthOfGo_X2_hitOf
set_option maxRecDepth 20000 in
theorem ggX0_worthOfGo_X2_trait : GoodIn wsX0_worthOfGo wsX2_trait := goodIn_r _ [11, 12, 53, 54, 55, 56, 57, 58, 59, 60] (by decide +kernel) (by decide +kernel)
set_option maxRecDepth 20000 in
theorem gX0_worthOfGo_X2_trait : GoodIn wsX0_worthOfGo (wsV RX0 32 RX2 yX2_trait wsX2_trait) := goodIn_app (goodIn_of _ (by decide +kernel)) ggX0_worthOfGo_X2_trait
set_option maxRecDepth 20000 in
theorem ggX0_worthOfGo_X2_kindAt : GoodIn wsX0_worthOfGo wsX2_kindAt := goodIn_r _ [34, 35, 53, 54, 55, 56, 57, 58, 59, 60] (by decide +kernel) (by decide +kernel)
set_option maxRecDepth 20000 in
theorem gX0_worthOfGo_X2_kindAt : GoodIn wsX0_worthOfGo (wsV RX0 82 RX2 yX2_kindAt wsX2_kindAt) := goodIn_app (goodIn_of _ (by decide +kernel)) ggX0_worthOfGo_X2_kindAt
set_option maxRecDepth 20000 in
theorem ggX0_worthOfGo_X3_from : GoodIn wsX0_worthOfGo wsX3_from := goodIn_r _ [40, 41, 18, 19, 20, 42, 43, 44, 39, 45, 46, 61, 62, 63] (by decide +kernel) (by decide +kernel)
set_option maxRecDepth 20000 in
theorem gX0_worthOfGo_X3_from : GoodIn wsX0_worthOfGo (wsV RX0 36 RX3 yX3_from wsX3_from) := goodIn_app (goodIn_of _ (by decide +kernel)) ggX0_worthOfGo_X3_from
set_option maxRecDepth 20000 in
theorem ggX0_worthOfGo_X2_isAfraid : GoodIn wsX0_worthOfGo wsX2_isAfraid := goodIn_r _ [50, 8, 9, 10, 5, 11, 12, 53, 54, 55, 56, 57, 58, 59, 60] (by decide +kernel) (by decide +kernel)
set_option maxRecDepth 20000 in
theorem gX0_worthOfGo_X2_isAfraid : GoodIn wsX0_worthOfGo (wsV RX0 70 RX2 yX2_isAfraid wsX2_isAfraid) := goodIn_app (goodIn_of _ (by decide +kernel)) ggX0_worthOfGo_X2_isAfraid
theorem dX0_worthOfGo_0 : decode cX0_worthOfGo 0 = .ok (.aload_n 1, 1) := by decide +kernel
theorem dX0_worthOfGo_1 : decode cX0_worthOfGo 1 = .ok (.iload_n 3, 1) := by decide +kernel
theorem dX0_worthOfGo_2 : decode cX0_worthOfGo 2 = .ok (.invokevirtual 76, 3) := by decide +kernel
theorem dX0_worthOfGo_5 : decode cX0_worthOfGo 5 = .ok (.istore 4, 2) := by decide +kernel
theorem dX0_worthOfGo_7 : decode cX0_worthOfGo 7 = .ok (.iload 4, 2) := by decide +kernel
theorem dX0_worthOfGo_9 : decode cX0_worthOfGo 9 = .ok (.iconst (-1), 1) := by decide +kernel
theorem dX0_worthOfGo_10 : decode cX0_worthOfGo 10 = .ok (.if_icmp .eq 39, 3) := by decide +kernel
theorem dX0_worthOfGo_13 : decode cX0_worthOfGo 13 = .ok (.aload_n 1, 1) := by decide +kernel
theorem dX0_worthOfGo_14 : decode cX0_worthOfGo 14 = .ok (.iload_n 2, 1) := by decide +kernel
theorem dX0_worthOfGo_15 : decode cX0_worthOfGo 15 = .ok (.iload 4, 2) := by decide +kernel
theorem dX0_worthOfGo_17 : decode cX0_worthOfGo 17 = .ok (.invokevirtual 79, 3) := by decide +kernel
theorem dX0_worthOfGo_20 : decode cX0_worthOfGo 20 = .ok (.istore 5, 2) := by decide +kernel
theorem dX0_worthOfGo_22 : decode cX0_worthOfGo 22 = .ok (.bipush 20, 2) := by decide +kernel
theorem dX0_worthOfGo_24 : decode cX0_worthOfGo 24 = .ok (.iconst 3, 1) := by decide +kernel
theorem dX0_worthOfGo_25 : decode cX0_worthOfGo 25 = .ok (.iload 5, 2) := by decide +kernel
theorem dX0_worthOfGo_27 : decode cX0_worthOfGo 27 = .ok (.imul, 1) := by decide +kernel
theorem dX0_worthOfGo_28 : decode cX0_worthOfGo 28 = .ok (.iadd, 1) := by decide +kernel
theorem dX0_worthOfGo_29 : decode cX0_worthOfGo 29 = .ok (.iload 5, 2) := by decide +kernel
theorem dX0_worthOfGo_31 : decode cX0_worthOfGo 31 = .ok (.aload_n 1, 1) := by decide +kernel
theorem dX0_worthOfGo_32 : decode cX0_worthOfGo 32 = .ok (.iload 4, 2) := by decide +kernel
theorem dX0_worthOfGo_34 : decode cX0_worthOfGo 34 = .ok (.iconst 2, 1) := by decide +kernel
theorem dX0_worthOfGo_35 : decode cX0_worthOfGo 35 = .ok (.invokevirtual 32, 3) := by decide +kernel
theorem dX0_worthOfGo_38 : decode cX0_worthOfGo 38 = .ok (.if_icmp .lt 8, 3) := by decide +kernel
theorem dX0_worthOfGo_41 : decode cX0_worthOfGo 41 = .ok (.bipush 30, 2) := by decide +kernel
theorem dX0_worthOfGo_43 : decode cX0_worthOfGo 43 = .ok (.goto 4, 3) := by decide +kernel
theorem dX0_worthOfGo_46 : decode cX0_worthOfGo 46 = .ok (.iconst 0, 1) := by decide +kernel
theorem dX0_worthOfGo_47 : decode cX0_worthOfGo 47 = .ok (.iadd, 1) := by decide +kernel
theorem dX0_worthOfGo_48 : decode cX0_worthOfGo 48 = .ok (.ireturn, 1) := by decide +kernel
theorem dX0_worthOfGo_49 : decode cX0_worthOfGo 49 = .ok (.aload_n 1, 1) := by decide +kernel
theorem dX0_worthOfGo_50 : decode cX0_worthOfGo 50 = .ok (.iload_n 3, 1) := by decide +kernel
theorem dX0_worthOfGo_51 : decode cX0_worthOfGo 51 = .ok (.invokevirtual 82, 3) := by decide +kernel
theorem dX0_worthOfGo_54 : decode cX0_worthOfGo 54 = .ok (.iconst 2, 1) := by decide +kernel
theorem dX0_worthOfGo_55 : decode cX0_worthOfGo 55 = .ok (.if_icmp .ne 6, 3) := by decide +kernel
theorem dX0_worthOfGo_58 : decode cX0_worthOfGo 58 = .ok (.bipush 6, 2) := by decide +kernel
theorem dX0_worthOfGo_60 : decode cX0_worthOfGo 60 = .ok (.ireturn, 1) := by decide +kernel
theorem dX0_worthOfGo_61 : decode cX0_worthOfGo 61 = .ok (.aload_n 0, 1) := by decide +kernel
theorem dX0_worthOfGo_62 : decode cX0_worthOfGo 62 = .ok (.getfield 12, 3) := by decide +kernel
theorem dX0_worthOfGo_65 : decode cX0_worthOfGo 65 = .ok (.aload_n 1, 1) := by decide +kernel
theorem dX0_worthOfGo_66 : decode cX0_worthOfGo 66 = .ok (.iload_n 2, 1) := by decide +kernel
theorem dX0_worthOfGo_67 : decode cX0_worthOfGo 67 = .ok (.iconst 1, 1) := by decide +kernel
theorem dX0_worthOfGo_68 : decode cX0_worthOfGo 68 = .ok (.invokevirtual 32, 3) := by decide +kernel
theorem dX0_worthOfGo_71 : decode cX0_worthOfGo 71 = .ok (.invokevirtual 36, 3) := by decide +kernel
theorem dX0_worthOfGo_74 : decode cX0_worthOfGo 74 = .ok (.istore 5, 2) := by decide +kernel
theorem dX0_worthOfGo_76 : decode cX0_worthOfGo 76 = .ok (.aload_n 0, 1) := by decide +kernel
theorem dX0_worthOfGo_77 : decode cX0_worthOfGo 77 = .ok (.getfield 12, 3) := by decide +kernel
theorem dX0_worthOfGo_80 : decode cX0_worthOfGo 80 = .ok (.iload_n 3, 1) := by decide +kernel
theorem dX0_worthOfGo_81 : decode cX0_worthOfGo 81 = .ok (.invokevirtual 36, 3) := by decide +kernel
theorem dX0_worthOfGo_84 : decode cX0_worthOfGo 84 = .ok (.istore 6, 2) := by decide +kernel
theorem dX0_worthOfGo_86 : decode cX0_worthOfGo 86 = .ok (.iload 5, 2) := by decide +kernel
theorem dX0_worthOfGo_88 : decode cX0_worthOfGo 88 = .ok (.iconst (-1), 1) := by decide +kernel
theorem dX0_worthOfGo_89 : decode cX0_worthOfGo 89 = .ok (.if_icmp .eq 9, 3) := by decide +kernel
theorem dX0_worthOfGo_92 : decode cX0_worthOfGo 92 = .ok (.iload 6, 2) := by decide +kernel
theorem dX0_worthOfGo_94 : decode cX0_worthOfGo 94 = .ok (.iconst (-1), 1) := by decide +kernel
theorem dX0_worthOfGo_95 : decode cX0_worthOfGo 95 = .ok (.if_icmp .ne 5, 3) := by decide +kernel
theorem dX0_worthOfGo_98 : decode cX0_worthOfGo 98 = .ok (.iconst 0, 1) := by decide +kernel
theorem dX0_worthOfGo_99 : decode cX0_worthOfGo 99 = .ok (.ireturn, 1) := by decide +kernel
theorem dX0_worthOfGo_100 : decode cX0_worthOfGo 100 = .ok (.bipush 10, 2) := by decide +kernel
theorem dX0_worthOfGo_102 : decode cX0_worthOfGo 102 = .ok (.iconst 4, 1) := by decide +kernel
theorem dX0_worthOfGo_103 : decode cX0_worthOfGo 103 = .ok (.aload_n 1, 1) := by decide +kernel
theorem dX0_worthOfGo_104 : decode cX0_worthOfGo 104 = .ok (.iload_n 2, 1) := by decide +kernel
theorem dX0_worthOfGo_105 : decode cX0_worthOfGo 105 = .ok (.invokevirtual 70, 3) := by decide +kernel
theorem dX0_worthOfGo_108 : decode cX0_worthOfGo 108 = .ok (.ifCond .eq 11, 3) := by decide +kernel
theorem dX0_worthOfGo_111 : decode cX0_worthOfGo 111 = .ok (.iload 6, 2) := by decide +kernel
theorem dX0_worthOfGo_113 : decode cX0_worthOfGo 113 = .ok (.iload 5, 2) := by decide +kernel
theorem dX0_worthOfGo_115 : decode cX0_worthOfGo 115 = .ok (.isub, 1) := by decide +kernel
theorem dX0_worthOfGo_116 : decode cX0_worthOfGo 116 = .ok (.goto 8, 3) := by decide +kernel
theorem dX0_worthOfGo_119 : decode cX0_worthOfGo 119 = .ok (.iload 5, 2) := by decide +kernel
theorem dX0_worthOfGo_121 : decode cX0_worthOfGo 121 = .ok (.iload 6, 2) := by decide +kernel
theorem dX0_worthOfGo_123 : decode cX0_worthOfGo 123 = .ok (.isub, 1) := by decide +kernel
theorem dX0_worthOfGo_124 : decode cX0_worthOfGo 124 = .ok (.imul, 1) := by decide +kernel
theorem dX0_worthOfGo_125 : decode cX0_worthOfGo 125 = .ok (.iadd, 1) := by decide +kernel
theorem dX0_worthOfGo_126 : decode cX0_worthOfGo 126 = .ok (.ireturn, 1) := by decide +kernel
