set_option maxRecDepth 20000 in
theorem ggX1_isPossible_X2_isAlive : GoodIn wsX1_isPossible wsX2_isAlive := goodIn_r _ [5, 6, 7, 8, 4, 9, 10, 64, 65, 66, 67, 68, 69, 70, 71] (by decide +kernel) (by decide +kernel)
set_option maxRecDepth 20000 in
theorem gX1_isPossible_X2_isAlive : GoodIn wsX1_isPossible (wsV RX1 9 RX2 yX2_isAlive wsX2_isAlive) := goodIn_app (goodIn_of _ (by decide +kernel)) ggX1_isPossible_X2_isAlive
set_option maxRecDepth 20000 in
theorem ggX1_isPossible_X1_cellTowards : GoodIn wsX1_isPossible wsX1_cellTowards := goodIn_r _ [14, 15, 7, 8, 4, 9, 10, 64, 65, 66, 67, 68, 69, 70, 71] (by decide +kernel) (by decide +kernel)
set_option maxRecDepth 20000 in
theorem gX1_isPossible_X1_cellTowards : GoodIn wsX1_isPossible (va_wsS RX1 15 yX1_cellTowards wsX1_cellTowards) := goodIn_app (goodIn_of _ (by decide +kernel)) ggX1_isPossible_X1_cellTowards
set_option maxRecDepth 20000 in
theorem ggX1_isPossible_X1_canGo : GoodIn wsX1_isPossible wsX1_canGo := goodIn_r _ [18, 19, 20, 21, 4, 22, 23, 24, 25, 26, 27, 28, 6, 7, 8, 9, 10, 29, 30, 31, 32, 64, 65, 66, 67, 68, 69, 70, 71] (by decide +kernel) (by decide +kernel)
set_option maxRecDepth 20000 in
theorem gX1_isPossible_X1_canGo : GoodIn wsX1_isPossible (va_wsS RX1 21 yX1_canGo wsX1_canGo) := goodIn_app (goodIn_of _ (by decide +kernel)) ggX1_isPossible_X1_canGo
set_option maxRecDepth 20000 in
theorem ggX1_isPossible_X2_trait : GoodIn wsX1_isPossible wsX2_trait := goodIn_r _ [9, 10, 64, 65, 66, 67, 68, 69, 70, 71] (by decide +kernel) (by decide +kernel)
set_option maxRecDepth 20000 in
theorem gX1_isPossible_X2_trait : GoodIn wsX1_isPossible (wsV RX1 25 RX2 yX2_trait wsX2_trait) := goodIn_app (goodIn_of _ (by decide +kernel)) ggX1_isPossible_X2_trait
set_option maxRecDepth 20000 in
theorem ggX1_isPossible_X2_targetOf : GoodIn wsX1_isPossible wsX2_targetOf := goodIn_r _ [36, 28, 37, 2, 3, 4, 5, 6, 7, 8, 9, 10, 38, 30, 31, 32, 39, 40, 41, 42, 43, 44, 45, 46, 47, 48, 49, 50, 51, 52, 53, 54, 55, 56, 57, 58, 59, 60, 20, 21, 22, 23, 61, 62, 63, 64, 65, 66, 67, 68, 69, 70, 71] (by decide +kernel) (by decide +kernel)
set_option maxRecDepth 20000 in
theorem gX1_isPossible_X2_targetOf : GoodIn wsX1_isPossible (wsV RX1 29 RX2 yX2_targetOf wsX2_targetOf) := goodIn_app (goodIn_of _ (by decide +kernel)) ggX1_isPossible_X2_targetOf
theorem dX1_isPossible_0 : decode cX1_isPossible 0 = .ok (.aload_n 0, 1) := by decide +kernel
theorem dX1_isPossible_1 : decode cX1_isPossible 1 = .ok (.iload_n 1, 1) := by decide +kernel
theorem dX1_isPossible_2 : decode cX1_isPossible 2 = .ok (.invokevirtual 9, 3) := by decide +kernel
theorem dX1_isPossible_5 : decode cX1_isPossible 5 = .ok (.ifCond .ne 5, 3) := by decide +kernel
theorem dX1_isPossible_8 : decode cX1_isPossible 8 = .ok (.iconst 0, 1) := by decide +kernel
theorem dX1_isPossible_9 : decode cX1_isPossible 9 = .ok (.ireturn, 1) := by decide +kernel
theorem dX1_isPossible_10 : decode cX1_isPossible 10 = .ok (.iload_n 2, 1) := by decide +kernel
theorem dX1_isPossible_11 : decode cX1_isPossible 11 = .ok (.ifCond .ne 5, 3) := by decide +kernel
theorem dX1_isPossible_14 : decode cX1_isPossible 14 = .ok (.iconst 1, 1) := by decide +kernel
theorem dX1_isPossible_15 : decode cX1_isPossible 15 = .ok (.ireturn, 1) := by decide +kernel
theorem dX1_isPossible_16 : decode cX1_isPossible 16 = .ok (.iload_n 2, 1) := by decide +kernel
theorem dX1_isPossible_17 : decode cX1_isPossible 17 = .ok (.iconst 1, 1) := by decide +kernel
theorem dX1_isPossible_18 : decode cX1_isPossible 18 = .ok (.if_icmp .lt 20, 3) := by decide +kernel
theorem dX1_isPossible_21 : decode cX1_isPossible 21 = .ok (.iload_n 2, 1) := by decide +kernel
theorem dX1_isPossible_22 : decode cX1_isPossible 22 = .ok (.iconst 4, 1) := by decide +kernel
theorem dX1_isPossible_23 : decode cX1_isPossible 23 = .ok (.if_icmp .gt 15, 3) := by decide +kernel
theorem dX1_isPossible_26 : decode cX1_isPossible 26 = .ok (.aload_n 0, 1) := by decide +kernel
theorem dX1_isPossible_27 : decode cX1_isPossible 27 = .ok (.iload_n 1, 1) := by decide +kernel
theorem dX1_isPossible_28 : decode cX1_isPossible 28 = .ok (.aload_n 0, 1) := by decide +kernel
theorem dX1_isPossible_29 : decode cX1_isPossible 29 = .ok (.iload_n 1, 1) := by decide +kernel
theorem dX1_isPossible_30 : decode cX1_isPossible 30 = .ok (.iload_n 2, 1) := by decide +kernel
theorem dX1_isPossible_31 : decode cX1_isPossible 31 = .ok (.invokestatic 15, 3) := by decide +kernel
theorem dX1_isPossible_34 : decode cX1_isPossible 34 = .ok (.invokestatic 21, 3) := by decide +kernel
theorem dX1_isPossible_37 : decode cX1_isPossible 37 = .ok (.ireturn, 1) := by decide +kernel
theorem dX1_isPossible_38 : decode cX1_isPossible 38 = .ok (.aload_n 0, 1) := by decide +kernel
theorem dX1_isPossible_39 : decode cX1_isPossible 39 = .ok (.iload_n 1, 1) := by decide +kernel
theorem dX1_isPossible_40 : decode cX1_isPossible 40 = .ok (.bipush 7, 2) := by decide +kernel
theorem dX1_isPossible_42 : decode cX1_isPossible 42 = .ok (.invokevirtual 25, 3) := by decide +kernel
theorem dX1_isPossible_45 : decode cX1_isPossible 45 = .ok (.iconst 3, 1) := by decide +kernel
theorem dX1_isPossible_46 : decode cX1_isPossible 46 = .ok (.if_icmp .lt 21, 3) := by decide +kernel
theorem dX1_isPossible_49 : decode cX1_isPossible 49 = .ok (.iload_n 2, 1) := by decide +kernel
theorem dX1_isPossible_50 : decode cX1_isPossible 50 = .ok (.iconst 5, 1) := by decide +kernel
theorem dX1_isPossible_51 : decode cX1_isPossible 51 = .ok (.if_icmp .ne 12, 3) := by decide +kernel
theorem dX1_isPossible_54 : decode cX1_isPossible 54 = .ok (.aload_n 0, 1) := by decide +kernel
theorem dX1_isPossible_55 : decode cX1_isPossible 55 = .ok (.iload_n 1, 1) := by decide +kernel
theorem dX1_isPossible_56 : decode cX1_isPossible 56 = .ok (.invokevirtual 29, 3) := by decide +kernel
theorem dX1_isPossible_59 : decode cX1_isPossible 59 = .ok (.iconst (-1), 1) := by decide +kernel
theorem dX1_isPossible_60 : decode cX1_isPossible 60 = .ok (.if_icmp .eq 7, 3) := by decide +kernel
theorem dX1_isPossible_63 : decode cX1_isPossible 63 = .ok (.iconst 1, 1) := by decide +kernel
theorem dX1_isPossible_64 : decode cX1_isPossible 64 = .ok (.goto 4, 3) := by decide +kernel
theorem dX1_isPossible_67 : decode cX1_isPossible 67 = .ok (.iconst 0, 1) := by decide +kernel
theorem dX1_isPossible_68 : decode cX1_isPossible 68 = .ok (.ireturn, 1) := by decide +kernel
set_option maxRecDepth 20000 in
theorem ggX1_canGo_X2_kindAt : GoodIn wsX1_canGo wsX2_kindAt := goodIn_r _ [5, 6, 21, 22, 23, 24, 25, 26, 27, 28] (by decide +kernel) (by decide +kernel)
set_option maxRecDepth 20000 in
theorem gX1_canGo_X2_kindAt : GoodIn wsX1_canGo (wsV RX1 33 RX2 yX2_kindAt wsX2_kindAt) := goodIn_app (goodIn_of _ (by decide +kernel)) ggX1_canGo_X2_kindAt
set_option maxRecDepth 20000 in
theorem ggX1_canGo_X2_whoIsOn : GoodIn wsX1_canGo wsX2_whoIsOn := goodIn_r _ [10, 11, 12, 13, 14, 4, 15, 16, 21, 22, 23, 24, 25, 26, 27, 28] (by decide +kernel) (by decide +kernel)
set_option maxRecDepth 20000 in
theorem gX1_canGo_X2_whoIsOn : GoodIn wsX1_canGo (wsV RX1 36 RX2 yX2_whoIsOn wsX2_whoIsOn) := goodIn_app (goodIn_of _ (by decide +kernel)) ggX1_canGo_X2_whoIsOn
set_option maxRecDepth 20000 in
theorem ggX1_canGo_X2_isFoe : GoodIn wsX1_canGo wsX2_isFoe := goodIn_r _ [20, 12, 13, 14, 4, 15, 16, 21, 22, 23, 24, 25, 26, 27, 28] (by decide +kernel) (by decide +kernel)
set_option maxRecDepth 20000 in
theorem gX1_canGo_X2_isFoe : GoodIn wsX1_canGo (wsV RX1 39 RX2 yX2_isFoe wsX2_isFoe) := goodIn_app (goodIn_of _ (by decide +kernel)) ggX1_canGo_X2_isFoe
theorem dX1_canGo_0 : decode cX1_canGo 0 = .ok (.aload_n 0, 1) := by decide +kernel
theorem dX1_canGo_1 : decode cX1_canGo 1 = .ok (.iload_n 2, 1) := by decide +kernel
theorem dX1_canGo_2 : decode cX1_canGo 2 = .ok (.invokevirtual 33, 3) := by decide +kernel
theorem dX1_canGo_5 : decode cX1_canGo 5 = .ok (.iconst 1, 1) := by decide +kernel
theorem dX1_canGo_6 : decode cX1_canGo 6 = .ok (.if_icmp .ne 5, 3) := by decide +kernel
theorem dX1_canGo_9 : decode cX1_canGo 9 = .ok (.iconst 0, 1) := by decide +kernel
theorem dX1_canGo_10 : decode cX1_canGo 10 = .ok (.ireturn, 1) := by decide +kernel
theorem dX1_canGo_11 : decode cX1_canGo 11 = .ok (.aload_n 0, 1) := by decide +kernel
theorem dX1_canGo_12 : decode cX1_canGo 12 = .ok (.iload_n 2, 1) := by decide +kernel
theorem dX1_canGo_13 : decode cX1_canGo 13 = .ok (.invokevirtual 36, 3) := by decide +kernel
theorem dX1_canGo_16 : decode cX1_canGo 16 = .ok (.istore_n 3, 1) := by decide +kernel
theorem dX1_canGo_17 : decode cX1_canGo 17 = .ok (.iload_n 3, 1) := by decide +kernel
theorem dX1_canGo_18 : decode cX1_canGo 18 = .ok (.iconst (-1), 1) := by decide +kernel
theorem dX1_canGo_19 : decode cX1_canGo 19 = .ok (.if_icmp .eq 12, 3) := by decide +kernel
theorem dX1_canGo_22 : decode cX1_canGo 22 = .ok (.aload_n 0, 1) := by decide +kernel
theorem dX1_canGo_23 : decode cX1_canGo 23 = .ok (.iload_n 1, 1) := by decide +kernel
theorem dX1_canGo_24 : decode cX1_canGo 24 = .ok (.iload_n 3, 1) := by decide +kernel
theorem dX1_canGo_25 : decode cX1_canGo 25 = .ok (.invokevirtual 39, 3) := by decide +kernel
theorem dX1_canGo_28 : decode cX1_canGo 28 = .ok (.ifCond .eq 7, 3) := by decide +kernel
theorem dX1_canGo_31 : decode cX1_canGo 31 = .ok (.iconst 1, 1) := by decide +kernel
theorem dX1_canGo_32 : decode cX1_canGo 32 = .ok (.goto 4, 3) := by decide +kernel
theorem dX1_canGo_35 : decode cX1_canGo 35 = .ok (.iconst 0, 1) := by decide +kernel
theorem dX1_canGo_36 : decode cX1_canGo 36 = .ok (.ireturn, 1) := by decide +kernel
set_option maxRecDepth 20000 in
theorem ggX1_cellTowards_X2_trait : GoodIn wsX1_cellTowards wsX2_trait := goodIn_r _ [5, 6, 7, 8, 9, 10, 11, 12, 13, 14] (by decide +kernel) (by decide +kernel)
set_option maxRecDepth 20000 in
theorem gX1_cellTowards_X2_trait : GoodIn wsX1_cellTowards (wsV RX1 25 RX2 yX2_trait wsX2_trait) := goodIn_app (goodIn_of _ (by decide +kernel)) ggX1_cellTowards_X2_trait
theorem dX1_cellTowards_0 : decode cX1_cellTowards 0 = .ok (.iload_n 2, 1) := by decide +kernel
theorem dX1_cellTowards_1 : decode cX1_cellTowards 1 = .ok (.iconst 1, 1) := by decide +kernel
theorem dX1_cellTowards_2 : decode cX1_cellTowards 2 = .ok (.isub, 1) := by decide +kernel
theorem dX1_cellTowards_3 : decode cX1_cellTowards 3 = .ok (.istore_n 3, 1) := by decide +kernel
theorem dX1_cellTowards_4 : decode cX1_cellTowards 4 = .ok (.iload_n 3, 1) := by decide +kernel
theorem dX1_cellTowards_5 : decode cX1_cellTowards 5 = .ok (.ifCond .lt 19, 3) := by decide +kernel
theorem dX1_cellTowards_8 : decode cX1_cellTowards 8 = .ok (.iload_n 3, 1) := by decide +kernel
theorem dX1_cellTowards_9 : decode cX1_cellTowards 9 = .ok (.getstatic 43, 3) := by decide +kernel
theorem dX1_cellTowards_12 : decode cX1_cellTowards 12 = .ok (.arraylength, 1) := by decide +kernel
theorem dX1_cellTowards_13 : decode cX1_cellTowards 13 = .ok (.if_icmp .ge 11, 3) := by decide +kernel
theorem dX1_cellTowards_16 : decode cX1_cellTowards 16 = .ok (.getstatic 43, 3) := by decide +kernel
theorem dX1_cellTowards_19 : decode cX1_cellTowards 19 = .ok (.iload_n 3, 1) := by decide +kernel
theorem dX1_cellTowards_20 : decode cX1_cellTowards 20 = .ok (.iaload, 1) := by decide +kernel
theorem dX1_cellTowards_21 : decode cX1_cellTowards 21 = .ok (.goto 4, 3) := by decide +kernel
theorem dX1_cellTowards_24 : decode cX1_cellTowards 24 = .ok (.iconst 0, 1) := by decide +kernel
theorem dX1_cellTowards_25 : decode cX1_cellTowards 25 = .ok (.istore 4, 2) := by decide +kernel
theorem dX1_cellTowards_27 : decode cX1_cellTowards 27 = .ok (.aload_n 0, 1) := by decide +kernel
theorem dX1_cellTowards_28 : decode cX1_cellTowards 28 = .ok (.iload_n 1, 1) := by decide +kernel
theorem dX1_cellTowards_29 : decode cX1_cellTowards 29 = .ok (.iconst 1, 1) := by decide +kernel
theorem dX1_cellTowards_30 : decode cX1_cellTowards 30 = .ok (.invokevirtual 25, 3) := by decide +kernel
theorem dX1_cellTowards_33 : decode cX1_cellTowards 33 = .ok (.iload 4, 2) := by decide +kernel
theorem dX1_cellTowards_35 : decode cX1_cellTowards 35 = .ok (.iadd, 1) := by decide +kernel
theorem dX1_cellTowards_36 : decode cX1_cellTowards 36 = .ok (.ireturn, 1) := by decide +kernel
set_option maxRecDepth 20000 in
theorem ggX1_perform_X2_stackOf : GoodIn wsX1_perform wsX2_stackOf := goodIn_r _ [9, 10, 124, 125, 126, 127, 128, 129, 130, 131] (by decide +kernel) (by decide +kernel)
set_option maxRecDepth 20000 in
theorem gX1_perform_X2_stackOf : GoodIn wsX1_perform (wsV RX1 47 RX2 yX2_stackOf wsX2_stackOf) := goodIn_app (goodIn_of _ (by decide +kernel)) ggX1_perform_X2_stackOf
set_option maxRecDepth 20000 in
theorem ggX1_perform_X2_trait : GoodIn wsX1_perform wsX2_trait := goodIn_r _ [14, 15, 124, 125, 126, 127, 128, 129, 130, 131] (by decide +kernel) (by decide +kernel)
set_option maxRecDepth 20000 in
theorem gX1_perform_X2_trait : GoodIn wsX1_perform (wsV RX1 25 RX2 yX2_trait wsX2_trait) := goodIn_app (goodIn_of _ (by decide +kernel)) ggX1_perform_X2_trait
set_option maxRecDepth 20000 in
theorem ggX1_perform_X2_putTrait : GoodIn wsX1_perform wsX2_putTrait := goodIn_r _ [19, 15, 124, 125, 126, 127, 128, 129, 130, 131] (by decide +kernel) (by decide +kernel)
set_option maxRecDepth 20000 in
theorem gX1_perform_X2_putTrait : GoodIn wsX1_perform (wsV RX1 55 RX2 yX2_putTrait wsX2_putTrait) := goodIn_app (goodIn_of _ (by decide +kernel)) ggX1_perform_X2_putTrait
set_option maxRecDepth 20000 in
theorem ggX1_perform_X1_cellTowards : GoodIn wsX1_perform wsX1_cellTowards := goodIn_r _ [23, 11, 12, 13, 8, 14, 15, 124, 125, 126, 127, 128, 129, 130, 131] (by decide +kernel) (by decide +kernel)
set_option maxRecDepth 20000 in
theorem gX1_perform_X1_cellTowards : GoodIn wsX1_perform (va_wsS RX1 15 yX1_cellTowards wsX1_cellTowards) := goodIn_app (goodIn_of _ (by decide +kernel)) ggX1_perform_X1_cellTowards
set_option maxRecDepth 20000 in
theorem ggX1_perform_X1_go : GoodIn wsX1_perform wsX1_go := goodIn_r _ [26, 27, 28, 29, 8, 30, 31, 32, 12, 13, 14, 15, 33, 34, 35, 36, 37, 38, 3, 39, 40, 41, 42, 43, 44, 6, 7, 9, 10, 45, 46, 47, 48, 49, 2, 4, 50, 17, 18, 19, 51, 52, 53, 54, 55, 56, 57, 58, 59, 16, 124, 125, 126, 127, 128, 129, 130, 131] (by decide +kernel) (by decide +kernel)
set_option maxRecDepth 20000 in
theorem gX1_perform_X1_go : GoodIn wsX1_perform (va_wsS RX1 59 yX1_go wsX1_go) := goodIn_app (goodIn_of _ (by decide +kernel)) ggX1_perform_X1_go
set_option maxRecDepth 20000 in
theorem ggX1_perform_X1_conjure : GoodIn wsX1_perform wsX1_conjure := goodIn_r _ [62, 11, 12, 13, 8, 14, 15, 16, 17, 18, 19, 63, 64, 65, 66, 31, 40, 41, 42, 43, 32, 67, 68, 69, 70, 71, 72, 73, 74, 75, 3, 76, 37, 38, 39, 77, 78, 79, 80, 81, 82, 83, 84, 85, 86, 87, 88, 52, 53, 54, 55, 89, 90, 91, 92, 93, 94, 95, 49, 2, 4, 44, 6, 7, 9, 10, 96, 97, 98, 99, 100, 101, 102, 103, 104, 124, 125, 126, 127, 128, 129, 130, 131] (by decide +kernel) (by decide +kernel)
set_option maxRecDepth 20000 in
theorem gX1_perform_X1_conjure : GoodIn wsX1_perform (va_wsS RX1 62 yX1_conjure wsX1_conjure) := goodIn_app (goodIn_of _ (by decide +kernel)) ggX1_perform_X1_conjure
set_option maxRecDepth 20000 in
theorem ggX1_perform_X1_wearOff : GoodIn wsX1_perform wsX1_wearOff := goodIn_r _ [107, 1, 2, 3, 4, 108, 38, 39, 5, 6, 7, 8, 9, 10, 45, 46, 47, 48, 49, 32, 12, 13, 14, 15, 50, 17, 18, 19, 109, 41, 42, 43, 11, 16, 110, 97, 98, 99, 100, 111, 102, 103, 104, 124, 125, 126, 127, 128, 129, 130, 131] (by decide +kernel) (by decide +kernel)
set_option maxRecDepth 20000 in
theorem gX1_perform_X1_wearOff : GoodIn wsX1_perform (va_wsS RX1 70 yX1_wearOff wsX1_wearOff) := goodIn_app (goodIn_of _ (by decide +kernel)) ggX1_perform_X1_wearOff
set_option maxRecDepth 20000 in
theorem ggX1_perform_X1_passTime : GoodIn wsX1_perform wsX1_passTime := goodIn_r _ [114, 11, 12, 13, 8, 14, 15, 16, 17, 18, 19, 124, 125, 126, 127, 128, 129, 130, 131] (by decide +kernel) (by decide +kernel)
set_option maxRecDepth 20000 in
theorem gX1_perform_X1_passTime : GoodIn wsX1_perform (va_wsS RX1 74 yX1_passTime wsX1_passTime) := goodIn_app (goodIn_of _ (by decide +kernel)) ggX1_perform_X1_passTime
set_option maxRecDepth 20000 in
theorem ggX1_perform_X2_isAlive : GoodIn wsX1_perform wsX2_isAlive := goodIn_r _ [43, 32, 12, 13, 8, 14, 15, 124, 125, 126, 127, 128, 129, 130, 131] (by decide +kernel) (by decide +kernel)
set_option maxRecDepth 20000 in
theorem gX1_perform_X2_isAlive : GoodIn wsX1_perform (wsV RX1 9 RX2 yX2_isAlive wsX2_isAlive) := goodIn_app (goodIn_of _ (by decide +kernel)) ggX1_perform_X2_isAlive
set_option maxRecDepth 20000 in
theorem ggX1_perform_X2_look : GoodIn wsX1_perform wsX2_look := goodIn_r _ [118, 119, 32, 12, 13, 8, 14, 15, 120, 121, 122, 123, 77, 78, 79, 80, 71, 72, 73, 74, 75, 3, 76, 37, 38, 39, 81, 82, 83, 84, 85, 86, 87, 88, 52, 53, 54, 55, 89, 90, 91, 124, 125, 126, 127, 128, 129, 130, 131] (by decide +kernel) (by decide +kernel)
set_option maxRecDepth 20000 in
theorem gX1_perform_X2_look : GoodIn wsX1_perform (wsV RX1 78 RX2 yX2_look wsX2_look) := goodIn_app (goodIn_of _ (by decide +kernel)) ggX1_perform_X2_look
theorem dX1_perform_0 : decode cX1_perform 0 = .ok (.aload_n 0, 1) := by decide +kernel
theorem dX1_perform_1 : decode cX1_perform 1 = .ok (.iload_n 1, 1) := by decide +kernel
theorem dX1_perform_2 : decode cX1_perform 2 = .ok (.iconst 4, 1) := by decide +kernel
theorem dX1_perform_3 : decode cX1_perform 3 = .ok (.invokevirtual 47, 3) := by decide +kernel
theorem dX1_perform_6 : decode cX1_perform 6 = .ok (.ifCond .le 7, 3) := by decide +kernel
theorem dX1_perform_9 : decode cX1_perform 9 = .ok (.iconst 1, 1) := by decide +kernel
theorem dX1_perform_10 : decode cX1_perform 10 = .ok (.goto 4, 3) := by decide +kernel
theorem dX1_perform_13 : decode cX1_perform 13 = .ok (.iconst 0, 1) := by decide +kernel
theorem dX1_perform_14 : decode cX1_perform 14 = .ok (.istore_n 3, 1) := by decide +kernel
theorem dX1_perform_15 : decode cX1_perform 15 = .ok (.iconst 0, 1) := by decide +kernel
theorem dX1_perform_16 : decode cX1_perform 16 = .ok (.istore 4, 2) := by decide +kernel
theorem dX1_perform_18 : decode cX1_perform 18 = .ok (.iload_n 2, 1) := by decide +kernel
theorem dX1_perform_19 : decode cX1_perform 19 = .ok (.ifCond .ne 27, 3) := by decide +kernel
theorem dX1_perform_22 : decode cX1_perform 22 = .ok (.aload_n 0, 1) := by decide +kernel
theorem dX1_perform_23 : decode cX1_perform 23 = .ok (.iload_n 1, 1) := by decide +kernel
theorem dX1_perform_24 : decode cX1_perform 24 = .ok (.bipush 7, 2) := by decide +kernel
theorem dX1_perform_26 : decode cX1_perform 26 = .ok (.aload_n 0, 1) := by decide +kernel
theorem dX1_perform_27 : decode cX1_perform 27 = .ok (.iload_n 1, 1) := by decide +kernel
theorem dX1_perform_28 : decode cX1_perform 28 = .ok (.bipush 7, 2) := by decide +kernel
theorem dX1_perform_30 : decode cX1_perform 30 = .ok (.invokevirtual 25, 3) := by decide +kernel
theorem dX1_perform_33 : decode cX1_perform 33 = .ok (.iconst 1, 1) := by decide +kernel
theorem dX1_perform_34 : decode cX1_perform 34 = .ok (.iadd, 1) := by decide +kernel
theorem dX1_perform_35 : decode cX1_perform 35 = .ok (.bipush 9, 2) := by decide +kernel
theorem dX1_perform_37 : decode cX1_perform 37 = .ok (.invokestatic 50, 3) := by decide +kernel
theorem dX1_perform_40 : decode cX1_perform 40 = .ok (.invokevirtual 55, 3) := by decide +kernel
theorem dX1_perform_43 : decode cX1_perform 43 = .ok (.goto 30, 3) := by decide +kernel
theorem dX1_perform_46 : decode cX1_perform 46 = .ok (.iload_n 2, 1) := by decide +kernel
theorem dX1_perform_47 : decode cX1_perform 47 = .ok (.iconst 4, 1) := by decide +kernel
theorem dX1_perform_48 : decode cX1_perform 48 = .ok (.if_icmp .gt 19, 3) := by decide +kernel
theorem dX1_perform_51 : decode cX1_perform 51 = .ok (.aload_n 0, 1) := by decide +kernel
theorem dX1_perform_52 : decode cX1_perform 52 = .ok (.iload_n 1, 1) := by decide +kernel
theorem dX1_perform_53 : decode cX1_perform 53 = .ok (.aload_n 0, 1) := by decide +kernel
theorem dX1_perform_54 : decode cX1_perform 54 = .ok (.iload_n 1, 1) := by decide +kernel
theorem dX1_perform_55 : decode cX1_perform 55 = .ok (.iload_n 2, 1) := by decide +kernel
theorem dX1_perform_56 : decode cX1_perform 56 = .ok (.invokestatic 15, 3) := by decide +kernel
theorem dX1_perform_59 : decode cX1_perform 59 = .ok (.invokestatic 59, 3) := by decide +kernel
theorem dX1_perform_62 : decode cX1_perform 62 = .ok (.istore 4, 2) := by decide +kernel
theorem dX1_perform_64 : decode cX1_perform 64 = .ok (.goto 9, 3) := by decide +kernel
theorem dX1_perform_67 : decode cX1_perform 67 = .ok (.aload_n 0, 1) := by decide +kernel
theorem dX1_perform_68 : decode cX1_perform 68 = .ok (.iload_n 1, 1) := by decide +kernel
theorem dX1_perform_69 : decode cX1_perform 69 = .ok (.iload_n 2, 1) := by decide +kernel
theorem dX1_perform_70 : decode cX1_perform 70 = .ok (.invokestatic 62, 3) := by decide +kernel
theorem dX1_perform_73 : decode cX1_perform 73 = .ok (.aload_n 0, 1) := by decide +kernel
theorem dX1_perform_74 : decode cX1_perform 74 = .ok (.dup, 1) := by decide +kernel
theorem dX1_perform_75 : decode cX1_perform 75 = .ok (.getfield 66, 3) := by decide +kernel
theorem dX1_perform_78 : decode cX1_perform 78 = .ok (.iconst 1, 1) := by decide +kernel
theorem dX1_perform_79 : decode cX1_perform 79 = .ok (.iadd, 1) := by decide +kernel
theorem dX1_perform_80 : decode cX1_perform 80 = .ok (.putfield 66, 3) := by decide +kernel
theorem dX1_perform_83 : decode cX1_perform 83 = .ok (.aload_n 0, 1) := by decide +kernel
theorem dX1_perform_84 : decode cX1_perform 84 = .ok (.iload_n 1, 1) := by decide +kernel
theorem dX1_perform_85 : decode cX1_perform 85 = .ok (.invokestatic 70, 3) := by decide +kernel
theorem dX1_perform_88 : decode cX1_perform 88 = .ok (.aload_n 0, 1) := by decide +kernel
theorem dX1_perform_89 : decode cX1_perform 89 = .ok (.iload_n 1, 1) := by decide +kernel
theorem dX1_perform_90 : decode cX1_perform 90 = .ok (.iload_n 3, 1) := by decide +kernel
theorem dX1_perform_91 : decode cX1_perform 91 = .ok (.invokestatic 74, 3) := by decide +kernel
theorem dX1_perform_94 : decode cX1_perform 94 = .ok (.aload_n 0, 1) := by decide +kernel
theorem dX1_perform_95 : decode cX1_perform 95 = .ok (.iload_n 1, 1) := by decide +kernel
theorem dX1_perform_96 : decode cX1_perform 96 = .ok (.invokevirtual 9, 3) := by decide +kernel
theorem dX1_perform_99 : decode cX1_perform 99 = .ok (.ifCond .eq 8, 3) := by decide +kernel
theorem dX1_perform_102 : decode cX1_perform 102 = .ok (.aload_n 0, 1) := by decide +kernel
theorem dX1_perform_103 : decode cX1_perform 103 = .ok (.iload_n 1, 1) := by decide +kernel
theorem dX1_perform_104 : decode cX1_perform 104 = .ok (.invokevirtual 78, 3) := by decide +kernel
theorem dX1_perform_107 : decode cX1_perform 107 = .ok (.iload 4, 2) := by decide +kernel
theorem dX1_perform_109 : decode cX1_perform 109 = .ok (.ireturn, 1) := by decide +kernel
set_option maxRecDepth 20000 in
theorem ggX1_go_X2_whoIsOn : GoodIn wsX1_go wsX2_whoIsOn := goodIn_r _ [5, 6, 7, 8, 9, 4, 10, 11, 50, 51, 52, 53, 54, 55, 56, 57] (by decide +kernel) (by decide +kernel)
set_option maxRecDepth 20000 in
theorem gX1_go_X2_whoIsOn : GoodIn wsX1_go (wsV RX1 36 RX2 yX2_whoIsOn wsX2_whoIsOn) := goodIn_app (goodIn_of _ (by decide +kernel)) ggX1_go_X2_whoIsOn
set_option maxRecDepth 20000 in
theorem ggX1_go_X2_hitOf : GoodIn wsX1_go wsX2_hitOf := goodIn_r _ [15, 16, 17, 18, 19, 20, 21, 22, 4, 23, 7, 8, 9, 10, 11, 24, 25, 26, 27, 28, 50, 51, 52, 53, 54, 55, 56, 57] (by decide +kernel) (by decide +kernel)
set_option maxRecDepth 20000 in
theorem gX1_go_X2_hitOf : GoodIn wsX1_go (wsV RX1 85 RX2 yX2_hitOf wsX2_hitOf) := goodIn_app (goodIn_of _ (by decide +kernel)) ggX1_go_X2_hitOf
set_option maxRecDepth 20000 in
theorem ggX1_go_X2_takeLife : GoodIn wsX1_go wsX2_takeLife := goodIn_r _ [32, 33, 34, 18, 35, 7, 8, 9, 4, 10, 11, 36, 37, 38, 39, 50, 51, 52, 53, 54, 55, 56, 57] (by decide +kernel) (by decide +kernel)
set_option maxRecDepth 20000 in
theorem gX1_go_X2_takeLife : GoodIn wsX1_go (wsV RX1 88 RX2 yX2_takeLife wsX2_takeLife) := goodIn_app (goodIn_of _ (by decide +kernel)) ggX1_go_X2_takeLife
set_option maxRecDepth 20000 in
theorem ggX1_go_X2_kindAt : GoodIn wsX1_go wsX2_kindAt := goodIn_r _ [43, 44, 50, 51, 52, 53, 54, 55, 56, 57] (by decide +kernel) (by decide +kernel)
set_option maxRecDepth 20000 in
theorem gX1_go_X2_kindAt : GoodIn wsX1_go (wsV RX1 33 RX2 yX2_kindAt wsX2_kindAt) := goodIn_app (goodIn_of _ (by decide +kernel)) ggX1_go_X2_kindAt
set_option maxRecDepth 20000 in
theorem ggX1_go_X2_putKind : GoodIn wsX1_go wsX2_putKind := goodIn_r _ [48, 44, 50, 51, 52, 53, 54, 55, 56, 57] (by decide +kernel) (by decide +kernel)
set_option maxRecDepth 20000 in
theorem gX1_go_X2_putKind : GoodIn wsX1_go (wsV RX1 91 RX2 yX2_putKind wsX2_putKind) := goodIn_app (goodIn_of _ (by decide +kernel)) ggX1_go_X2_putKind
set_option maxRecDepth 20000 in
theorem ggX1_go_X2_putTrait : GoodIn wsX1_go wsX2_putTrait := goodIn_r _ [39, 11, 50, 51, 52, 53, 54, 55, 56, 57] (by decide +kernel) (by decide +kernel)
set_option maxRecDepth 20000 in
theorem gX1_go_X2_putTrait : GoodIn wsX1_go (wsV RX1 55 RX2 yX2_putTrait wsX2_putTrait) := goodIn_app (goodIn_of _ (by decide +kernel)) ggX1_go_X2_putTrait
theorem dX1_go_0 : decode cX1_go 0 = .ok (.aload_n 0, 1) := by decide +kernel
theorem dX1_go_1 : decode cX1_go 1 = .ok (.iload_n 2, 1) := by decide +kernel
theorem dX1_go_2 : decode cX1_go 2 = .ok (.invokevirtual 36, 3) := by decide +kernel
theorem dX1_go_5 : decode cX1_go 5 = .ok (.istore_n 3, 1) := by decide +kernel
theorem dX1_go_6 : decode cX1_go 6 = .ok (.iload_n 3, 1) := by decide +kernel
theorem dX1_go_7 : decode cX1_go 7 = .ok (.iconst (-1), 1) := by decide +kernel
theorem dX1_go_8 : decode cX1_go 8 = .ok (.if_icmp .eq 25, 3) := by decide +kernel
theorem dX1_go_11 : decode cX1_go 11 = .ok (.aload_n 0, 1) := by decide +kernel
theorem dX1_go_12 : decode cX1_go 12 = .ok (.dup, 1) := by decide +kernel
theorem dX1_go_13 : decode cX1_go 13 = .ok (.getfield 82, 3) := by decide +kernel
theorem dX1_go_16 : decode cX1_go 16 = .ok (.iconst 1, 1) := by decide +kernel
theorem dX1_go_17 : decode cX1_go 17 = .ok (.iadd, 1) := by decide +kernel
theorem dX1_go_18 : decode cX1_go 18 = .ok (.putfield 82, 3) := by decide +kernel
theorem dX1_go_21 : decode cX1_go 21 = .ok (.aload_n 0, 1) := by decide +kernel
theorem dX1_go_22 : decode cX1_go 22 = .ok (.iload_n 3, 1) := by decide +kernel
theorem dX1_go_23 : decode cX1_go 23 = .ok (.aload_n 0, 1) := by decide +kernel
theorem dX1_go_24 : decode cX1_go 24 = .ok (.iload_n 1, 1) := by decide +kernel
theorem dX1_go_25 : decode cX1_go 25 = .ok (.iload_n 3, 1) := by decide +kernel
theorem dX1_go_26 : decode cX1_go 26 = .ok (.invokevirtual 85, 3) := by decide +kernel
theorem dX1_go_29 : decode cX1_go 29 = .ok (.invokevirtual 88, 3) := by decide +kernel
theorem dX1_go_32 : decode cX1_go 32 = .ok (.ireturn, 1) := by decide +kernel
theorem dX1_go_33 : decode cX1_go 33 = .ok (.aload_n 0, 1) := by decide +kernel
theorem dX1_go_34 : decode cX1_go 34 = .ok (.iload_n 2, 1) := by decide +kernel
theorem dX1_go_35 : decode cX1_go 35 = .ok (.invokevirtual 33, 3) := by decide +kernel
theorem dX1_go_38 : decode cX1_go 38 = .ok (.iconst 2, 1) := by decide +kernel
theorem dX1_go_39 : decode cX1_go 39 = .ok (.if_icmp .ne 12, 3) := by decide +kernel
theorem dX1_go_42 : decode cX1_go 42 = .ok (.aload_n 0, 1) := by decide +kernel
theorem dX1_go_43 : decode cX1_go 43 = .ok (.iload_n 2, 1) := by decide +kernel
theorem dX1_go_44 : decode cX1_go 44 = .ok (.iconst 0, 1) := by decide +kernel
theorem dX1_go_45 : decode cX1_go 45 = .ok (.invokevirtual 91, 3) := by decide +kernel
theorem dX1_go_48 : decode cX1_go 48 = .ok (.goto 10, 3) := by decide +kernel
theorem dX1_go_51 : decode cX1_go 51 = .ok (.aload_n 0, 1) := by decide +kernel
theorem dX1_go_52 : decode cX1_go 52 = .ok (.iload_n 1, 1) := by decide +kernel
theorem dX1_go_53 : decode cX1_go 53 = .ok (.iconst 1, 1) := by decide +kernel
theorem dX1_go_54 : decode cX1_go 54 = .ok (.iload_n 2, 1) := by decide +kernel
theorem dX1_go_55 : decode cX1_go 55 = .ok (.invokevirtual 55, 3) := by decide +kernel
theorem dX1_go_58 : decode cX1_go 58 = .ok (.iconst 0, 1) := by decide +kernel
theorem dX1_go_59 : decode cX1_go 59 = .ok (.ireturn, 1) := by decide +kernel
set_option maxRecDepth 20000 in
theorem ggX1_conjure_X2_trait : GoodIn wsX1_conjure wsX2_trait := goodIn_r _ [5, 6, 75, 76, 77, 78, 79, 80, 81, 82] (by decide +kernel) (by decide +kernel)
set_option maxRecDepth 20000 in
theorem gX1_conjure_X2_trait : GoodIn wsX1_conjure (wsV RX1 25 RX2 yX2_trait wsX2_trait) := goodIn_app (goodIn_of _ (by decide +kernel)) ggX1_conjure_X2_trait
set_option maxRecDepth 20000 in
theorem ggX1_conjure_X2_putTrait : GoodIn wsX1_conjure wsX2_putTrait := goodIn_r _ [10, 6, 75, 76, 77, 78, 79, 80, 81, 82] (by decide +kernel) (by decide +kernel)
set_option maxRecDepth 20000 in
theorem gX1_conjure_X2_putTrait : GoodIn wsX1_conjure (wsV RX1 55 RX2 yX2_putTrait wsX2_putTrait) := goodIn_app (goodIn_of _ (by decide +kernel)) ggX1_conjure_X2_putTrait
set_option maxRecDepth 20000 in
theorem ggX1_conjure_X2_targetOf : GoodIn wsX1_conjure wsX2_targetOf := goodIn_r _ [14, 15, 16, 17, 18, 4, 19, 20, 2, 3, 5, 6, 21, 22, 23, 24, 25, 26, 27, 28, 29, 30, 31, 32, 33, 34, 35, 36, 37, 38, 39, 40, 41, 42, 43, 44, 45, 46, 47, 48, 49, 50, 51, 52, 53, 75, 76, 77, 78, 79, 80, 81, 82] (by decide +kernel) (by decide +kernel)
set_option maxRecDepth 20000 in
theorem gX1_conjure_X2_targetOf : GoodIn wsX1_conjure (wsV RX1 29 RX2 yX2_targetOf wsX2_targetOf) := goodIn_app (goodIn_of _ (by decide +kernel)) ggX1_conjure_X2_targetOf
set_option maxRecDepth 20000 in
theorem ggX1_conjure_X2_addEffect : GoodIn wsX1_conjure wsX2_addEffect := goodIn_r _ [57, 58, 59, 30, 60, 32, 33, 34, 61, 62, 63, 4, 64, 65, 66, 67, 68, 69, 70, 71, 72, 73, 74, 75, 76, 77, 78, 79, 80, 81, 82] (by decide +kernel) (by decide +kernel)
set_option maxRecDepth 20000 in
theorem gX1_conjure_X2_addEffect : GoodIn wsX1_conjure (wsV RX1 95 RX2 yX2_addEffect wsX2_addEffect) := goodIn_app (goodIn_of _ (by decide +kernel)) ggX1_conjure_X2_addEffect
theorem dX1_conjure_0 : decode cX1_conjure 0 = .ok (.aload_n 0, 1) := by decide +kernel
theorem dX1_conjure_1 : decode cX1_conjure 1 = .ok (.iload_n 1, 1) := by decide +kernel
theorem dX1_conjure_2 : decode cX1_conjure 2 = .ok (.bipush 7, 2) := by decide +kernel
theorem dX1_conjure_4 : decode cX1_conjure 4 = .ok (.aload_n 0, 1) := by decide +kernel
theorem dX1_conjure_5 : decode cX1_conjure 5 = .ok (.iload_n 1, 1) := by decide +kernel
theorem dX1_conjure_6 : decode cX1_conjure 6 = .ok (.bipush 7, 2) := by decide +kernel
theorem dX1_conjure_8 : decode cX1_conjure 8 = .ok (.invokevirtual 25, 3) := by decide +kernel
theorem dX1_conjure_11 : decode cX1_conjure 11 = .ok (.iconst 3, 1) := by decide +kernel
theorem dX1_conjure_12 : decode cX1_conjure 12 = .ok (.isub, 1) := by decide +kernel
theorem dX1_conjure_13 : decode cX1_conjure 13 = .ok (.invokevirtual 55, 3) := by decide +kernel
theorem dX1_conjure_16 : decode cX1_conjure 16 = .ok (.iload_n 2, 1) := by decide +kernel
theorem dX1_conjure_17 : decode cX1_conjure 17 = .ok (.iconst 5, 1) := by decide +kernel
theorem dX1_conjure_18 : decode cX1_conjure 18 = .ok (.if_icmp .ne 18, 3) := by decide +kernel
theorem dX1_conjure_21 : decode cX1_conjure 21 = .ok (.aload_n 0, 1) := by decide +kernel
theorem dX1_conjure_22 : decode cX1_conjure 22 = .ok (.aload_n 0, 1) := by decide +kernel
theorem dX1_conjure_23 : decode cX1_conjure 23 = .ok (.iload_n 1, 1) := by decide +kernel
theorem dX1_conjure_24 : decode cX1_conjure 24 = .ok (.invokevirtual 29, 3) := by decide +kernel
theorem dX1_conjure_27 : decode cX1_conjure 27 = .ok (.iconst 0, 1) := by decide +kernel
theorem dX1_conjure_28 : decode cX1_conjure 28 = .ok (.iconst 2, 1) := by decide +kernel
theorem dX1_conjure_29 : decode cX1_conjure 29 = .ok (.iconst 3, 1) := by decide +kernel
theorem dX1_conjure_30 : decode cX1_conjure 30 = .ok (.invokevirtual 95, 3) := by decide +kernel
theorem dX1_conjure_33 : decode cX1_conjure 33 = .ok (.goto 28, 3) := by decide +kernel
theorem dX1_conjure_36 : decode cX1_conjure 36 = .ok (.iload_n 2, 1) := by decide +kernel
theorem dX1_conjure_37 : decode cX1_conjure 37 = .ok (.bipush 6, 2) := by decide +kernel
theorem dX1_conjure_39 : decode cX1_conjure 39 = .ok (.if_icmp .ne 14, 3) := by decide +kernel
theorem dX1_conjure_42 : decode cX1_conjure 42 = .ok (.aload_n 0, 1) := by decide +kernel
theorem dX1_conjure_43 : decode cX1_conjure 43 = .ok (.iload_n 1, 1) := by decide +kernel
theorem dX1_conjure_44 : decode cX1_conjure 44 = .ok (.iconst 3, 1) := by decide +kernel
theorem dX1_conjure_45 : decode cX1_conjure 45 = .ok (.iconst 3, 1) := by decide +kernel
theorem dX1_conjure_46 : decode cX1_conjure 46 = .ok (.iconst 4, 1) := by decide +kernel
theorem dX1_conjure_47 : decode cX1_conjure 47 = .ok (.invokevirtual 95, 3) := by decide +kernel
theorem dX1_conjure_50 : decode cX1_conjure 50 = .ok (.goto 11, 3) := by decide +kernel
theorem dX1_conjure_53 : decode cX1_conjure 53 = .ok (.aload_n 0, 1) := by decide +kernel
theorem dX1_conjure_54 : decode cX1_conjure 54 = .ok (.iload_n 1, 1) := by decide +kernel
theorem dX1_conjure_55 : decode cX1_conjure 55 = .ok (.iconst 1, 1) := by decide +kernel
theorem dX1_conjure_56 : decode cX1_conjure 56 = .ok (.iconst 2, 1) := by decide +kernel
theorem dX1_conjure_57 : decode cX1_conjure 57 = .ok (.iconst 4, 1) := by decide +kernel
theorem dX1_conjure_58 : decode cX1_conjure 58 = .ok (.invokevirtual 95, 3) := by decide +kernel
theorem dX1_conjure_61 : decode cX1_conjure 61 = .ok (.return_, 1) := by decide +kernel
set_option maxRecDepth 20000 in
theorem ggX1_wearOff_X2_stackOf : GoodIn wsX1_wearOff wsX2_stackOf := goodIn_r _ [12, 13, 43, 44, 45, 46, 47, 48, 49, 50] (by decide +kernel) (by decide +kernel)
set_option maxRecDepth 20000 in
theorem gX1_wearOff_X2_stackOf : GoodIn wsX1_wearOff (wsV RX1 47 RX2 yX2_stackOf wsX2_stackOf) := goodIn_app (goodIn_of _ (by decide +kernel)) ggX1_wearOff_X2_stackOf
set_option maxRecDepth 20000 in
theorem ggX1_wearOff_X2_takeLife : GoodIn wsX1_wearOff wsX2_takeLife := goodIn_r _ [17, 18, 2, 3, 4, 19, 20, 21, 11, 22, 23, 24, 25, 26, 27, 43, 44, 45, 46, 47, 48, 49, 50] (by decide +kernel) (by decide +kernel)
set_option maxRecDepth 20000 in
theorem gX1_wearOff_X2_takeLife : GoodIn wsX1_wearOff (wsV RX1 88 RX2 yX2_takeLife wsX2_takeLife) := goodIn_app (goodIn_of _ (by decide +kernel)) ggX1_wearOff_X2_takeLife
set_option maxRecDepth 20000 in
theorem ggX1_wearOff_X2_isAlive : GoodIn wsX1_wearOff wsX2_isAlive := goodIn_r _ [31, 19, 20, 21, 11, 22, 23, 43, 44, 45, 46, 47, 48, 49, 50] (by decide +kernel) (by decide +kernel)
set_option maxRecDepth 20000 in
theorem gX1_wearOff_X2_isAlive : GoodIn wsX1_wearOff (wsV RX1 9 RX2 yX2_isAlive wsX2_isAlive) := goodIn_app (goodIn_of _ (by decide +kernel)) ggX1_wearOff_X2_isAlive
set_option maxRecDepth 20000 in
theorem ggX1_wearOff_X2_trait : GoodIn wsX1_wearOff wsX2_trait := goodIn_r _ [22, 23, 43, 44, 45, 46, 47, 48, 49, 50] (by decide +kernel) (by decide +kernel)
set_option maxRecDepth 20000 in
theorem gX1_wearOff_X2_trait : GoodIn wsX1_wearOff (wsV RX1 25 RX2 yX2_trait wsX2_trait) := goodIn_app (goodIn_of _ (by decide +kernel)) ggX1_wearOff_X2_trait
set_option maxRecDepth 20000 in
theorem ggX1_wearOff_X2_putTrait : GoodIn wsX1_wearOff wsX2_putTrait := goodIn_r _ [27, 23, 43, 44, 45, 46, 47, 48, 49, 50] (by decide +kernel) (by decide +kernel)
set_option maxRecDepth 20000 in
theorem gX1_wearOff_X2_putTrait : GoodIn wsX1_wearOff (wsV RX1 55 RX2 yX2_putTrait wsX2_putTrait) := goodIn_app (goodIn_of _ (by decide +kernel)) ggX1_wearOff_X2_putTrait
set_option maxRecDepth 20000 in
theorem ggX1_wearOff_X2_turnsOf : GoodIn wsX1_wearOff wsX2_turnsOf := goodIn_r _ [37, 38, 43, 44, 45, 46, 47, 48, 49, 50] (by decide +kernel) (by decide +kernel)
set_option maxRecDepth 20000 in
theorem gX1_wearOff_X2_turnsOf : GoodIn wsX1_wearOff (wsV RX1 99 RX2 yX2_turnsOf wsX2_turnsOf) := goodIn_app (goodIn_of _ (by decide +kernel)) ggX1_wearOff_X2_turnsOf
set_option maxRecDepth 20000 in
theorem ggX1_wearOff_X2_putEffect : GoodIn wsX1_wearOff wsX2_putEffect := goodIn_r _ [42, 13, 38, 43, 44, 45, 46, 47, 48, 49, 50] (by decide +kernel) (by decide +kernel)
set_option maxRecDepth 20000 in
theorem gX1_wearOff_X2_putEffect : GoodIn wsX1_wearOff (wsV RX1 105 RX2 yX2_putEffect wsX2_putEffect) := goodIn_app (goodIn_of _ (by decide +kernel)) ggX1_wearOff_X2_putEffect
theorem dX1_wearOff_0 : decode cX1_wearOff 0 = .ok (.aload_n 0, 1) := by decide +kernel
theorem dX1_wearOff_1 : decode cX1_wearOff 1 = .ok (.iload_n 1, 1) := by decide +kernel
theorem dX1_wearOff_2 : decode cX1_wearOff 2 = .ok (.aload_n 0, 1) := by decide +kernel
theorem dX1_wearOff_3 : decode cX1_wearOff 3 = .ok (.iload_n 1, 1) := by decide +kernel
theorem dX1_wearOff_4 : decode cX1_wearOff 4 = .ok (.iconst 0, 1) := by decide +kernel
theorem dX1_wearOff_5 : decode cX1_wearOff 5 = .ok (.invokevirtual 47, 3) := by decide +kernel
theorem dX1_wearOff_8 : decode cX1_wearOff 8 = .ok (.invokevirtual 88, 3) := by decide +kernel
theorem dX1_wearOff_11 : decode cX1_wearOff 11 = .ok (.pop, 1) := by decide +kernel
theorem dX1_wearOff_12 : decode cX1_wearOff 12 = .ok (.aload_n 0, 1) := by decide +kernel
theorem dX1_wearOff_13 : decode cX1_wearOff 13 = .ok (.iload_n 1, 1) := by decide +kernel
theorem dX1_wearOff_14 : decode cX1_wearOff 14 = .ok (.invokevirtual 9, 3) := by decide +kernel
theorem dX1_wearOff_17 : decode cX1_wearOff 17 = .ok (.ifCond .eq 33, 3) := by decide +kernel
theorem dX1_wearOff_20 : decode cX1_wearOff 20 = .ok (.aload_n 0, 1) := by decide +kernel
theorem dX1_wearOff_21 : decode cX1_wearOff 21 = .ok (.iload_n 1, 1) := by decide +kernel
theorem dX1_wearOff_22 : decode cX1_wearOff 22 = .ok (.iconst 2, 1) := by decide +kernel
theorem dX1_wearOff_23 : decode cX1_wearOff 23 = .ok (.invokevirtual 25, 3) := by decide +kernel
theorem dX1_wearOff_26 : decode cX1_wearOff 26 = .ok (.aload_n 0, 1) := by decide +kernel
theorem dX1_wearOff_27 : decode cX1_wearOff 27 = .ok (.iload_n 1, 1) := by decide +kernel
theorem dX1_wearOff_28 : decode cX1_wearOff 28 = .ok (.iconst 1, 1) := by decide +kernel
theorem dX1_wearOff_29 : decode cX1_wearOff 29 = .ok (.invokevirtual 47, 3) := by decide +kernel
theorem dX1_wearOff_32 : decode cX1_wearOff 32 = .ok (.iadd, 1) := by decide +kernel
theorem dX1_wearOff_33 : decode cX1_wearOff 33 = .ok (.istore_n 2, 1) := by decide +kernel
theorem dX1_wearOff_34 : decode cX1_wearOff 34 = .ok (.aload_n 0, 1) := by decide +kernel
theorem dX1_wearOff_35 : decode cX1_wearOff 35 = .ok (.iload_n 1, 1) := by decide +kernel
theorem dX1_wearOff_36 : decode cX1_wearOff 36 = .ok (.iconst 2, 1) := by decide +kernel
theorem dX1_wearOff_37 : decode cX1_wearOff 37 = .ok (.iload_n 2, 1) := by decide +kernel
theorem dX1_wearOff_38 : decode cX1_wearOff 38 = .ok (.aload_n 0, 1) := by decide +kernel
theorem dX1_wearOff_39 : decode cX1_wearOff 39 = .ok (.iload_n 1, 1) := by decide +kernel
theorem dX1_wearOff_40 : decode cX1_wearOff 40 = .ok (.iconst 3, 1) := by decide +kernel
theorem dX1_wearOff_41 : decode cX1_wearOff 41 = .ok (.invokevirtual 25, 3) := by decide +kernel
theorem dX1_wearOff_44 : decode cX1_wearOff 44 = .ok (.invokestatic 50, 3) := by decide +kernel
theorem dX1_wearOff_47 : decode cX1_wearOff 47 = .ok (.invokevirtual 55, 3) := by decide +kernel
theorem dX1_wearOff_50 : decode cX1_wearOff 50 = .ok (.iconst 0, 1) := by decide +kernel
theorem dX1_wearOff_51 : decode cX1_wearOff 51 = .ok (.istore_n 2, 1) := by decide +kernel
theorem dX1_wearOff_52 : decode cX1_wearOff 52 = .ok (.iload_n 2, 1) := by decide +kernel
theorem dX1_wearOff_53 : decode cX1_wearOff 53 = .ok (.iconst 5, 1) := by decide +kernel
theorem dX1_wearOff_54 : decode cX1_wearOff 54 = .ok (.if_icmp .ge 43, 3) := by decide +kernel
theorem dX1_wearOff_57 : decode cX1_wearOff 57 = .ok (.aload_n 0, 1) := by decide +kernel
theorem dX1_wearOff_58 : decode cX1_wearOff 58 = .ok (.iload_n 1, 1) := by decide +kernel
theorem dX1_wearOff_59 : decode cX1_wearOff 59 = .ok (.iload_n 2, 1) := by decide +kernel
theorem dX1_wearOff_60 : decode cX1_wearOff 60 = .ok (.invokevirtual 99, 3) := by decide +kernel
theorem dX1_wearOff_63 : decode cX1_wearOff 63 = .ok (.iconst 1, 1) := by decide +kernel
theorem dX1_wearOff_64 : decode cX1_wearOff 64 = .ok (.isub, 1) := by decide +kernel
theorem dX1_wearOff_65 : decode cX1_wearOff 65 = .ok (.istore_n 3, 1) := by decide +kernel
theorem dX1_wearOff_66 : decode cX1_wearOff 66 = .ok (.aload_n 0, 1) := by decide +kernel
theorem dX1_wearOff_67 : decode cX1_wearOff 67 = .ok (.iload_n 1, 1) := by decide +kernel
theorem dX1_wearOff_68 : decode cX1_wearOff 68 = .ok (.iload_n 2, 1) := by decide +kernel
theorem dX1_wearOff_69 : decode cX1_wearOff 69 = .ok (.iload_n 3, 1) := by decide +kernel
theorem dX1_wearOff_70 : decode cX1_wearOff 70 = .ok (.ifCond .le 12, 3) := by decide +kernel
theorem dX1_wearOff_73 : decode cX1_wearOff 73 = .ok (.aload_n 0, 1) := by decide +kernel
theorem dX1_wearOff_74 : decode cX1_wearOff 74 = .ok (.iload_n 1, 1) := by decide +kernel
theorem dX1_wearOff_75 : decode cX1_wearOff 75 = .ok (.iload_n 2, 1) := by decide +kernel
theorem dX1_wearOff_76 : decode cX1_wearOff 76 = .ok (.invokevirtual 47, 3) := by decide +kernel
theorem dX1_wearOff_79 : decode cX1_wearOff 79 = .ok (.goto 4, 3) := by decide +kernel
theorem dX1_wearOff_82 : decode cX1_wearOff 82 = .ok (.iconst 0, 1) := by decide +kernel
theorem dX1_wearOff_83 : decode cX1_wearOff 83 = .ok (.iload_n 3, 1) := by decide +kernel
theorem dX1_wearOff_84 : decode cX1_wearOff 84 = .ok (.iconst 0, 1) := by decide +kernel
theorem dX1_wearOff_85 : decode cX1_wearOff 85 = .ok (.invokestatic 102, 3) := by decide +kernel
theorem dX1_wearOff_88 : decode cX1_wearOff 88 = .ok (.invokevirtual 105, 3) := by decide +kernel
theorem dX1_wearOff_91 : decode cX1_wearOff 91 = .ok (.iinc 2 1, 3) := by decide +kernel
theorem dX1_wearOff_94 : decode cX1_wearOff 94 = .ok (.goto (-42), 3) := by decide +kernel
theorem dX1_wearOff_97 : decode cX1_wearOff 97 = .ok (.return_, 1) := by decide +kernel
set_option maxRecDepth 20000 in
theorem ggX1_passTime_X2_trait : GoodIn wsX1_passTime wsX2_trait := goodIn_r _ [5, 6, 11, 12, 13, 14, 15, 16, 17, 18] (by decide +kernel) (by decide +kernel)
set_option maxRecDepth 20000 in
theorem gX1_passTime_X2_trait : GoodIn wsX1_passTime (wsV RX1 25 RX2 yX2_trait wsX2_trait) := goodIn_app (goodIn_of _ (by decide +kernel)) ggX1_passTime_X2_trait
set_option maxRecDepth 20000 in
theorem ggX1_passTime_X2_putTrait : GoodIn wsX1_passTime wsX2_putTrait := goodIn_r _ [10, 6, 11, 12, 13, 14, 15, 16, 17, 18] (by decide +kernel) (by decide +kernel)
set_option maxRecDepth 20000 in
theorem gX1_passTime_X2_putTrait : GoodIn wsX1_passTime (wsV RX1 55 RX2 yX2_putTrait wsX2_putTrait) := goodIn_app (goodIn_of _ (by decide +kernel)) ggX1_passTime_X2_putTrait
theorem dX1_passTime_0 : decode cX1_passTime 0 = .ok (.aload_n 0, 1) := by decide +kernel
theorem dX1_passTime_1 : decode cX1_passTime 1 = .ok (.iload_n 1, 1) := by decide +kernel
theorem dX1_passTime_2 : decode cX1_passTime 2 = .ok (.bipush 6, 2) := by decide +kernel
theorem dX1_passTime_4 : decode cX1_passTime 4 = .ok (.invokevirtual 25, 3) := by decide +kernel
theorem dX1_passTime_7 : decode cX1_passTime 7 = .ok (.istore_n 3, 1) := by decide +kernel
theorem dX1_passTime_8 : decode cX1_passTime 8 = .ok (.iload_n 3, 1) := by decide +kernel
theorem dX1_passTime_9 : decode cX1_passTime 9 = .ok (.ifCond .le 10, 3) := by decide +kernel
theorem dX1_passTime_12 : decode cX1_passTime 12 = .ok (.bipush 12, 2) := by decide +kernel
theorem dX1_passTime_14 : decode cX1_passTime 14 = .ok (.iload_n 3, 1) := by decide +kernel
theorem dX1_passTime_15 : decode cX1_passTime 15 = .ok (.idiv, 1) := by decide +kernel
theorem dX1_passTime_16 : decode cX1_passTime 16 = .ok (.goto 4, 3) := by decide +kernel
theorem dX1_passTime_19 : decode cX1_passTime 19 = .ok (.iconst 0, 1) := by decide +kernel
theorem dX1_passTime_20 : decode cX1_passTime 20 = .ok (.istore 4, 2) := by decide +kernel
theorem dX1_passTime_22 : decode cX1_passTime 22 = .ok (.aload_n 0, 1) := by decide +kernel
theorem dX1_passTime_23 : decode cX1_passTime 23 = .ok (.iload_n 1, 1) := by decide +kernel
theorem dX1_passTime_24 : decode cX1_passTime 24 = .ok (.bipush 8, 2) := by decide +kernel
theorem dX1_passTime_26 : decode cX1_passTime 26 = .ok (.aload_n 0, 1) := by decide +kernel
theorem dX1_passTime_27 : decode cX1_passTime 27 = .ok (.iload_n 1, 1) := by decide +kernel
theorem dX1_passTime_28 : decode cX1_passTime 28 = .ok (.bipush 8, 2) := by decide +kernel
theorem dX1_passTime_30 : decode cX1_passTime 30 = .ok (.invokevirtual 25, 3) := by decide +kernel
theorem dX1_passTime_33 : decode cX1_passTime 33 = .ok (.iload_n 2, 1) := by decide +kernel
theorem dX1_passTime_34 : decode cX1_passTime 34 = .ok (.ifCond .eq 10, 3) := by decide +kernel
theorem dX1_passTime_37 : decode cX1_passTime 37 = .ok (.iconst 2, 1) := by decide +kernel
theorem dX1_passTime_38 : decode cX1_passTime 38 = .ok (.iload 4, 2) := by decide +kernel
theorem dX1_passTime_40 : decode cX1_passTime 40 = .ok (.imul, 1) := by decide +kernel
theorem dX1_passTime_41 : decode cX1_passTime 41 = .ok (.goto 5, 3) := by decide +kernel
theorem dX1_passTime_44 : decode cX1_passTime 44 = .ok (.iload 4, 2) := by decide +kernel
theorem dX1_passTime_46 : decode cX1_passTime 46 = .ok (.iadd, 1) := by decide +kernel
theorem dX1_passTime_47 : decode cX1_passTime 47 = .ok (.invokevirtual 55, 3) := by decide +kernel
theorem dX1_passTime_50 : decode cX1_passTime 50 = .ok (.return_, 1) := by decide +kernel
