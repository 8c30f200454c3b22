theorem dX5_init_0 : decode cX5_init 0 = .ok (.aload_n 0, 1) := by decide +kernel
theorem dX5_init_1 : decode cX5_init 1 = .ok (.invokespecial 3, 3) := by decide +kernel
theorem dX5_init_4 : decode cX5_init 4 = .ok (.aload_n 0, 1) := by decide +kernel
theorem dX5_init_5 : decode cX5_init 5 = .ok (.sipush 683, 3) := by decide +kernel
theorem dX5_init_8 : decode cX5_init 8 = .ok (.newarray .int, 2) := by decide +kernel
theorem dX5_init_10 : decode cX5_init 10 = .ok (.putfield 9, 3) := by decide +kernel
theorem dX5_init_13 : decode cX5_init 13 = .ok (.aload_n 0, 1) := by decide +kernel
theorem dX5_init_14 : decode cX5_init 14 = .ok (.iconst 5, 1) := by decide +kernel
theorem dX5_init_15 : decode cX5_init 15 = .ok (.anewarray 13, 3) := by decide +kernel
theorem dX5_init_18 : decode cX5_init 18 = .ok (.putfield 14, 3) := by decide +kernel
theorem dX5_init_21 : decode cX5_init 21 = .ok (.iconst 0, 1) := by decide +kernel
theorem dX5_init_22 : decode cX5_init 22 = .ok (.istore_n 1, 1) := by decide +kernel
theorem dX5_init_23 : decode cX5_init 23 = .ok (.iload_n 1, 1) := by decide +kernel
theorem dX5_init_24 : decode cX5_init 24 = .ok (.sipush 160, 3) := by decide +kernel
theorem dX5_init_27 : decode cX5_init 27 = .ok (.if_icmp .ge 16, 3) := by decide +kernel
theorem dX5_init_30 : decode cX5_init 30 = .ok (.aload_n 0, 1) := by decide +kernel
theorem dX5_init_31 : decode cX5_init 31 = .ok (.getfield 9, 3) := by decide +kernel
theorem dX5_init_34 : decode cX5_init 34 = .ok (.iload_n 1, 1) := by decide +kernel
theorem dX5_init_35 : decode cX5_init 35 = .ok (.iconst 1, 1) := by decide +kernel
theorem dX5_init_36 : decode cX5_init 36 = .ok (.iastore, 1) := by decide +kernel
theorem dX5_init_37 : decode cX5_init 37 = .ok (.iinc 1 1, 3) := by decide +kernel
theorem dX5_init_40 : decode cX5_init 40 = .ok (.goto (-17), 3) := by decide +kernel
theorem dX5_init_43 : decode cX5_init 43 = .ok (.return_, 1) := by decide +kernel
theorem dX5_thrown_0 : decode cX5_thrown 0 = .ok (.aload_n 0, 1) := by decide +kernel
theorem dX5_thrown_1 : decode cX5_thrown 1 = .ok (.getfield 18, 3) := by decide +kernel
theorem dX5_thrown_4 : decode cX5_thrown 4 = .ok (.ireturn, 1) := by decide +kernel
theorem dX5_no_0 : decode cX5_no 0 = .ok (.aload_n 0, 1) := by decide +kernel
theorem dX5_no_1 : decode cX5_no 1 = .ok (.iload_n 1, 1) := by decide +kernel
theorem dX5_no_2 : decode cX5_no 2 = .ok (.putfield 18, 3) := by decide +kernel
theorem dX5_no_5 : decode cX5_no 5 = .ok (.iconst 0, 1) := by decide +kernel
theorem dX5_no_6 : decode cX5_no 6 = .ok (.ireturn, 1) := by decide +kernel
theorem dX5_isIn_0 : decode cX5_isIn 0 = .ok (.iload_n 0, 1) := by decide +kernel
theorem dX5_isIn_1 : decode cX5_isIn 1 = .ok (.iload_n 1, 1) := by decide +kernel
theorem dX5_isIn_2 : decode cX5_isIn 2 = .ok (.if_icmp .lt 12, 3) := by decide +kernel
theorem dX5_isIn_5 : decode cX5_isIn 5 = .ok (.iload_n 0, 1) := by decide +kernel
theorem dX5_isIn_6 : decode cX5_isIn 6 = .ok (.iload_n 2, 1) := by decide +kernel
theorem dX5_isIn_7 : decode cX5_isIn 7 = .ok (.if_icmp .gt 7, 3) := by decide +kernel
theorem dX5_isIn_10 : decode cX5_isIn 10 = .ok (.iconst 1, 1) := by decide +kernel
theorem dX5_isIn_11 : decode cX5_isIn 11 = .ok (.goto 4, 3) := by decide +kernel
theorem dX5_isIn_14 : decode cX5_isIn 14 = .ok (.iconst 0, 1) := by decide +kernel
theorem dX5_isIn_15 : decode cX5_isIn 15 = .ok (.ireturn, 1) := by decide +kernel
set_option maxRecDepth 20000 in
theorem ggX5_isCell_X5_isIn : GoodIn wsX5_isCell wsX5_isIn := goodIn_r _ [4] (by decide +kernel) (by decide +kernel)
set_option maxRecDepth 20000 in
theorem gX5_isCell_X5_isIn : GoodIn wsX5_isCell (va_wsS RX5 22 yX5_isIn wsX5_isIn) := goodIn_app (goodIn_of _ (by decide +kernel)) ggX5_isCell_X5_isIn
theorem dX5_isCell_0 : decode cX5_isCell 0 = .ok (.iload_n 0, 1) := by decide +kernel
theorem dX5_isCell_1 : decode cX5_isCell 1 = .ok (.iconst 0, 1) := by decide +kernel
theorem dX5_isCell_2 : decode cX5_isCell 2 = .ok (.sipush 159, 3) := by decide +kernel
theorem dX5_isCell_5 : decode cX5_isCell 5 = .ok (.invokestatic 22, 3) := by decide +kernel
theorem dX5_isCell_8 : decode cX5_isCell 8 = .ok (.ireturn, 1) := by decide +kernel
theorem dX5_isEdge_0 : decode cX5_isEdge 0 = .ok (.iload_n 0, 1) := by decide +kernel
theorem dX5_isEdge_1 : decode cX5_isEdge 1 = .ok (.bipush 16, 2) := by decide +kernel
theorem dX5_isEdge_3 : decode cX5_isEdge 3 = .ok (.irem, 1) := by decide +kernel
theorem dX5_isEdge_4 : decode cX5_isEdge 4 = .ok (.ifCond .eq 28, 3) := by decide +kernel
theorem dX5_isEdge_7 : decode cX5_isEdge 7 = .ok (.iload_n 0, 1) := by decide +kernel
theorem dX5_isEdge_8 : decode cX5_isEdge 8 = .ok (.bipush 16, 2) := by decide +kernel
theorem dX5_isEdge_10 : decode cX5_isEdge 10 = .ok (.irem, 1) := by decide +kernel
theorem dX5_isEdge_11 : decode cX5_isEdge 11 = .ok (.bipush 15, 2) := by decide +kernel
theorem dX5_isEdge_13 : decode cX5_isEdge 13 = .ok (.if_icmp .eq 19, 3) := by decide +kernel
theorem dX5_isEdge_16 : decode cX5_isEdge 16 = .ok (.iload_n 0, 1) := by decide +kernel
theorem dX5_isEdge_17 : decode cX5_isEdge 17 = .ok (.bipush 16, 2) := by decide +kernel
theorem dX5_isEdge_19 : decode cX5_isEdge 19 = .ok (.idiv, 1) := by decide +kernel
theorem dX5_isEdge_20 : decode cX5_isEdge 20 = .ok (.ifCond .eq 12, 3) := by decide +kernel
theorem dX5_isEdge_23 : decode cX5_isEdge 23 = .ok (.iload_n 0, 1) := by decide +kernel
theorem dX5_isEdge_24 : decode cX5_isEdge 24 = .ok (.bipush 16, 2) := by decide +kernel
theorem dX5_isEdge_26 : decode cX5_isEdge 26 = .ok (.idiv, 1) := by decide +kernel
theorem dX5_isEdge_27 : decode cX5_isEdge 27 = .ok (.bipush 9, 2) := by decide +kernel
theorem dX5_isEdge_29 : decode cX5_isEdge 29 = .ok (.if_icmp .ne 7, 3) := by decide +kernel
theorem dX5_isEdge_32 : decode cX5_isEdge 32 = .ok (.iconst 1, 1) := by decide +kernel
theorem dX5_isEdge_33 : decode cX5_isEdge 33 = .ok (.goto 4, 3) := by decide +kernel
theorem dX5_isEdge_36 : decode cX5_isEdge 36 = .ok (.iconst 0, 1) := by decide +kernel
theorem dX5_isEdge_37 : decode cX5_isEdge 37 = .ok (.ireturn, 1) := by decide +kernel
set_option maxRecDepth 20000 in
theorem ggX5_isBeing_X5_isIn : GoodIn wsX5_isBeing wsX5_isIn := goodIn_r _ [5] (by decide +kernel) (by decide +kernel)
set_option maxRecDepth 20000 in
theorem gX5_isBeing_X5_isIn : GoodIn wsX5_isBeing (va_wsS RX5 22 yX5_isIn wsX5_isIn) := goodIn_app (goodIn_of _ (by decide +kernel)) ggX5_isBeing_X5_isIn
theorem dX5_isBeing_0 : decode cX5_isBeing 0 = .ok (.iload_n 1, 1) := by decide +kernel
theorem dX5_isBeing_1 : decode cX5_isBeing 1 = .ok (.iconst 0, 1) := by decide +kernel
theorem dX5_isBeing_2 : decode cX5_isBeing 2 = .ok (.aload_n 0, 1) := by decide +kernel
theorem dX5_isBeing_3 : decode cX5_isBeing 3 = .ok (.getfield 9, 3) := by decide +kernel
theorem dX5_isBeing_6 : decode cX5_isBeing 6 = .ok (.sipush 680, 3) := by decide +kernel
theorem dX5_isBeing_9 : decode cX5_isBeing 9 = .ok (.iaload, 1) := by decide +kernel
theorem dX5_isBeing_10 : decode cX5_isBeing 10 = .ok (.iconst 1, 1) := by decide +kernel
theorem dX5_isBeing_11 : decode cX5_isBeing 11 = .ok (.isub, 1) := by decide +kernel
theorem dX5_isBeing_12 : decode cX5_isBeing 12 = .ok (.invokestatic 22, 3) := by decide +kernel
theorem dX5_isBeing_15 : decode cX5_isBeing 15 = .ok (.ireturn, 1) := by decide +kernel
theorem dX5_its_0 : decode cX5_its 0 = .ok (.aload_n 0, 1) := by decide +kernel
theorem dX5_its_1 : decode cX5_its 1 = .ok (.getfield 9, 3) := by decide +kernel
theorem dX5_its_4 : decode cX5_its 4 = .ok (.sipush 480, 3) := by decide +kernel
theorem dX5_its_7 : decode cX5_its 7 = .ok (.iload_n 1, 1) := by decide +kernel
theorem dX5_its_8 : decode cX5_its 8 = .ok (.bipush 20, 2) := by decide +kernel
theorem dX5_its_10 : decode cX5_its 10 = .ok (.imul, 1) := by decide +kernel
theorem dX5_its_11 : decode cX5_its 11 = .ok (.iadd, 1) := by decide +kernel
theorem dX5_its_12 : decode cX5_its 12 = .ok (.iload_n 2, 1) := by decide +kernel
theorem dX5_its_13 : decode cX5_its 13 = .ok (.iadd, 1) := by decide +kernel
theorem dX5_its_14 : decode cX5_its 14 = .ok (.iaload, 1) := by decide +kernel
theorem dX5_its_15 : decode cX5_its 15 = .ok (.ireturn, 1) := by decide +kernel
theorem dX5_put_0 : decode cX5_put 0 = .ok (.aload_n 0, 1) := by decide +kernel
theorem dX5_put_1 : decode cX5_put 1 = .ok (.getfield 9, 3) := by decide +kernel
theorem dX5_put_4 : decode cX5_put 4 = .ok (.sipush 480, 3) := by decide +kernel
theorem dX5_put_7 : decode cX5_put 7 = .ok (.iload_n 1, 1) := by decide +kernel
theorem dX5_put_8 : decode cX5_put 8 = .ok (.bipush 20, 2) := by decide +kernel
theorem dX5_put_10 : decode cX5_put 10 = .ok (.imul, 1) := by decide +kernel
theorem dX5_put_11 : decode cX5_put 11 = .ok (.iadd, 1) := by decide +kernel
theorem dX5_put_12 : decode cX5_put 12 = .ok (.iload_n 2, 1) := by decide +kernel
theorem dX5_put_13 : decode cX5_put 13 = .ok (.iadd, 1) := by decide +kernel
theorem dX5_put_14 : decode cX5_put 14 = .ok (.iload_n 3, 1) := by decide +kernel
theorem dX5_put_15 : decode cX5_put 15 = .ok (.iastore, 1) := by decide +kernel
theorem dX5_put_16 : decode cX5_put 16 = .ok (.return_, 1) := by decide +kernel
set_option maxRecDepth 20000 in
theorem ggX5_isAlive_X5_its : GoodIn wsX5_isAlive wsX5_its := goodIn_r _ [5, 6, 7, 8, 9, 10] (by decide +kernel) (by decide +kernel)
set_option maxRecDepth 20000 in
theorem gX5_isAlive_X5_its : GoodIn wsX5_isAlive (wsV RX5 26 RX5 yX5_its wsX5_its) := goodIn_app (goodIn_of _ (by decide +kernel)) ggX5_isAlive_X5_its
theorem dX5_isAlive_0 : decode cX5_isAlive 0 = .ok (.aload_n 0, 1) := by decide +kernel
theorem dX5_isAlive_1 : decode cX5_isAlive 1 = .ok (.iload_n 1, 1) := by decide +kernel
theorem dX5_isAlive_2 : decode cX5_isAlive 2 = .ok (.iconst 1, 1) := by decide +kernel
theorem dX5_isAlive_3 : decode cX5_isAlive 3 = .ok (.invokevirtual 26, 3) := by decide +kernel
theorem dX5_isAlive_6 : decode cX5_isAlive 6 = .ok (.iconst (-1), 1) := by decide +kernel
theorem dX5_isAlive_7 : decode cX5_isAlive 7 = .ok (.if_icmp .eq 7, 3) := by decide +kernel
theorem dX5_isAlive_10 : decode cX5_isAlive 10 = .ok (.iconst 1, 1) := by decide +kernel
theorem dX5_isAlive_11 : decode cX5_isAlive 11 = .ok (.goto 4, 3) := by decide +kernel
theorem dX5_isAlive_14 : decode cX5_isAlive 14 = .ok (.iconst 0, 1) := by decide +kernel
theorem dX5_isAlive_15 : decode cX5_isAlive 15 = .ok (.ireturn, 1) := by decide +kernel
set_option maxRecDepth 20000 in
theorem ggX5_dig_X5_isIn : GoodIn wsX5_dig wsX5_isIn := goodIn_r _ [6] (by decide +kernel) (by decide +kernel)
set_option maxRecDepth 20000 in
theorem gX5_dig_X5_isIn : GoodIn wsX5_dig (va_wsS RX5 22 yX5_isIn wsX5_isIn) := goodIn_app (goodIn_of _ (by decide +kernel)) ggX5_dig_X5_isIn
set_option maxRecDepth 20000 in
theorem ggX5_dig_X5_no : GoodIn wsX5_dig wsX5_no := goodIn_r _ [10, 1, 14, 15, 16, 17] (by decide +kernel) (by decide +kernel)
set_option maxRecDepth 20000 in
theorem gX5_dig_X5_no : GoodIn wsX5_dig (wsV RX5 30 RX5 yX5_no wsX5_no) := goodIn_app (goodIn_of _ (by decide +kernel)) ggX5_dig_X5_no
set_option maxRecDepth 20000 in
theorem ggX5_dig_X5_isEdge : GoodIn wsX5_dig wsX5_isEdge := goodIn_r _ [13] (by decide +kernel) (by decide +kernel)
set_option maxRecDepth 20000 in
theorem gX5_dig_X5_isEdge : GoodIn wsX5_dig (va_wsS RX5 34 yX5_isEdge wsX5_isEdge) := goodIn_app (goodIn_of _ (by decide +kernel)) ggX5_dig_X5_isEdge
theorem dX5_dig_0 : decode cX5_dig 0 = .ok (.aload_n 0, 1) := by decide +kernel
theorem dX5_dig_1 : decode cX5_dig 1 = .ok (.iconst 0, 1) := by decide +kernel
theorem dX5_dig_2 : decode cX5_dig 2 = .ok (.putfield 18, 3) := by decide +kernel
theorem dX5_dig_5 : decode cX5_dig 5 = .ok (.iload_n 1, 1) := by decide +kernel
theorem dX5_dig_6 : decode cX5_dig 6 = .ok (.iconst 0, 1) := by decide +kernel
theorem dX5_dig_7 : decode cX5_dig 7 = .ok (.bipush 15, 2) := by decide +kernel
theorem dX5_dig_9 : decode cX5_dig 9 = .ok (.invokestatic 22, 3) := by decide +kernel
theorem dX5_dig_12 : decode cX5_dig 12 = .ok (.ifCond .eq 38, 3) := by decide +kernel
theorem dX5_dig_15 : decode cX5_dig 15 = .ok (.iload_n 2, 1) := by decide +kernel
theorem dX5_dig_16 : decode cX5_dig 16 = .ok (.iconst 0, 1) := by decide +kernel
theorem dX5_dig_17 : decode cX5_dig 17 = .ok (.bipush 9, 2) := by decide +kernel
theorem dX5_dig_19 : decode cX5_dig 19 = .ok (.invokestatic 22, 3) := by decide +kernel
theorem dX5_dig_22 : decode cX5_dig 22 = .ok (.ifCond .eq 28, 3) := by decide +kernel
theorem dX5_dig_25 : decode cX5_dig 25 = .ok (.iload_n 3, 1) := by decide +kernel
theorem dX5_dig_26 : decode cX5_dig 26 = .ok (.iconst 1, 1) := by decide +kernel
theorem dX5_dig_27 : decode cX5_dig 27 = .ok (.bipush 16, 2) := by decide +kernel
theorem dX5_dig_29 : decode cX5_dig 29 = .ok (.iload_n 1, 1) := by decide +kernel
theorem dX5_dig_30 : decode cX5_dig 30 = .ok (.isub, 1) := by decide +kernel
theorem dX5_dig_31 : decode cX5_dig 31 = .ok (.invokestatic 22, 3) := by decide +kernel
theorem dX5_dig_34 : decode cX5_dig 34 = .ok (.ifCond .eq 16, 3) := by decide +kernel
theorem dX5_dig_37 : decode cX5_dig 37 = .ok (.iload 4, 2) := by decide +kernel
theorem dX5_dig_39 : decode cX5_dig 39 = .ok (.iconst 1, 1) := by decide +kernel
theorem dX5_dig_40 : decode cX5_dig 40 = .ok (.bipush 10, 2) := by decide +kernel
theorem dX5_dig_42 : decode cX5_dig 42 = .ok (.iload_n 2, 1) := by decide +kernel
theorem dX5_dig_43 : decode cX5_dig 43 = .ok (.isub, 1) := by decide +kernel
theorem dX5_dig_44 : decode cX5_dig 44 = .ok (.invokestatic 22, 3) := by decide +kernel
theorem dX5_dig_47 : decode cX5_dig 47 = .ok (.ifCond .ne 9, 3) := by decide +kernel
theorem dX5_dig_50 : decode cX5_dig 50 = .ok (.aload_n 0, 1) := by decide +kernel
theorem dX5_dig_51 : decode cX5_dig 51 = .ok (.iconst 1, 1) := by decide +kernel
theorem dX5_dig_52 : decode cX5_dig 52 = .ok (.invokevirtual 30, 3) := by decide +kernel
theorem dX5_dig_55 : decode cX5_dig 55 = .ok (.ireturn, 1) := by decide +kernel
theorem dX5_dig_56 : decode cX5_dig 56 = .ok (.iconst 0, 1) := by decide +kernel
theorem dX5_dig_57 : decode cX5_dig 57 = .ok (.istore 5, 2) := by decide +kernel
theorem dX5_dig_59 : decode cX5_dig 59 = .ok (.iconst 0, 1) := by decide +kernel
theorem dX5_dig_60 : decode cX5_dig 60 = .ok (.istore 6, 2) := by decide +kernel
theorem dX5_dig_62 : decode cX5_dig 62 = .ok (.iload 6, 2) := by decide +kernel
theorem dX5_dig_64 : decode cX5_dig 64 = .ok (.sipush 160, 3) := by decide +kernel
theorem dX5_dig_67 : decode cX5_dig 67 = .ok (.if_icmp .ge 76, 3) := by decide +kernel
theorem dX5_dig_70 : decode cX5_dig 70 = .ok (.iload 6, 2) := by decide +kernel
theorem dX5_dig_72 : decode cX5_dig 72 = .ok (.invokestatic 34, 3) := by decide +kernel
theorem dX5_dig_75 : decode cX5_dig 75 = .ok (.ifCond .ne 62, 3) := by decide +kernel
theorem dX5_dig_78 : decode cX5_dig 78 = .ok (.iload 6, 2) := by decide +kernel
theorem dX5_dig_80 : decode cX5_dig 80 = .ok (.bipush 16, 2) := by decide +kernel
theorem dX5_dig_82 : decode cX5_dig 82 = .ok (.irem, 1) := by decide +kernel
theorem dX5_dig_83 : decode cX5_dig 83 = .ok (.iload_n 1, 1) := by decide +kernel
theorem dX5_dig_84 : decode cX5_dig 84 = .ok (.iload_n 1, 1) := by decide +kernel
theorem dX5_dig_85 : decode cX5_dig 85 = .ok (.iload_n 3, 1) := by decide +kernel
theorem dX5_dig_86 : decode cX5_dig 86 = .ok (.iadd, 1) := by decide +kernel
theorem dX5_dig_87 : decode cX5_dig 87 = .ok (.iconst 1, 1) := by decide +kernel
theorem dX5_dig_88 : decode cX5_dig 88 = .ok (.isub, 1) := by decide +kernel
theorem dX5_dig_89 : decode cX5_dig 89 = .ok (.invokestatic 22, 3) := by decide +kernel
theorem dX5_dig_92 : decode cX5_dig 92 = .ok (.ifCond .eq 45, 3) := by decide +kernel
theorem dX5_dig_95 : decode cX5_dig 95 = .ok (.iload 6, 2) := by decide +kernel
theorem dX5_dig_97 : decode cX5_dig 97 = .ok (.bipush 16, 2) := by decide +kernel
theorem dX5_dig_99 : decode cX5_dig 99 = .ok (.idiv, 1) := by decide +kernel
theorem dX5_dig_100 : decode cX5_dig 100 = .ok (.iload_n 2, 1) := by decide +kernel
theorem dX5_dig_101 : decode cX5_dig 101 = .ok (.iload_n 2, 1) := by decide +kernel
theorem dX5_dig_102 : decode cX5_dig 102 = .ok (.iload 4, 2) := by decide +kernel
theorem dX5_dig_104 : decode cX5_dig 104 = .ok (.iadd, 1) := by decide +kernel
theorem dX5_dig_105 : decode cX5_dig 105 = .ok (.iconst 1, 1) := by decide +kernel
theorem dX5_dig_106 : decode cX5_dig 106 = .ok (.isub, 1) := by decide +kernel
theorem dX5_dig_107 : decode cX5_dig 107 = .ok (.invokestatic 22, 3) := by decide +kernel
theorem dX5_dig_110 : decode cX5_dig 110 = .ok (.ifCond .eq 27, 3) := by decide +kernel
theorem dX5_dig_113 : decode cX5_dig 113 = .ok (.aload_n 0, 1) := by decide +kernel
theorem dX5_dig_114 : decode cX5_dig 114 = .ok (.getfield 9, 3) := by decide +kernel
theorem dX5_dig_117 : decode cX5_dig 117 = .ok (.iload 6, 2) := by decide +kernel
theorem dX5_dig_119 : decode cX5_dig 119 = .ok (.iaload, 1) := by decide +kernel
theorem dX5_dig_120 : decode cX5_dig 120 = .ok (.ifCond .ne 6, 3) := by decide +kernel
theorem dX5_dig_123 : decode cX5_dig 123 = .ok (.goto 14, 3) := by decide +kernel
theorem dX5_dig_126 : decode cX5_dig 126 = .ok (.aload_n 0, 1) := by decide +kernel
theorem dX5_dig_127 : decode cX5_dig 127 = .ok (.getfield 9, 3) := by decide +kernel
theorem dX5_dig_130 : decode cX5_dig 130 = .ok (.iload 6, 2) := by decide +kernel
theorem dX5_dig_132 : decode cX5_dig 132 = .ok (.iconst 0, 1) := by decide +kernel
theorem dX5_dig_133 : decode cX5_dig 133 = .ok (.iastore, 1) := by decide +kernel
theorem dX5_dig_134 : decode cX5_dig 134 = .ok (.iinc 5 1, 3) := by decide +kernel
theorem dX5_dig_137 : decode cX5_dig 137 = .ok (.iinc 6 1, 3) := by decide +kernel
theorem dX5_dig_140 : decode cX5_dig 140 = .ok (.goto (-78), 3) := by decide +kernel
theorem dX5_dig_143 : decode cX5_dig 143 = .ok (.iload 5, 2) := by decide +kernel
theorem dX5_dig_145 : decode cX5_dig 145 = .ok (.ireturn, 1) := by decide +kernel
set_option maxRecDepth 20000 in
theorem ggX5_set_X5_isCell : GoodIn wsX5_set wsX5_isCell := goodIn_r _ [6, 7, 8, 5, 9] (by decide +kernel) (by decide +kernel)
set_option maxRecDepth 20000 in
theorem gX5_set_X5_isCell : GoodIn wsX5_set (va_wsS RX5 38 yX5_isCell wsX5_isCell) := goodIn_app (goodIn_of _ (by decide +kernel)) ggX5_set_X5_isCell
set_option maxRecDepth 20000 in
theorem ggX5_set_X5_no : GoodIn wsX5_set wsX5_no := goodIn_r _ [13, 1, 25, 26, 27, 28] (by decide +kernel) (by decide +kernel)
set_option maxRecDepth 20000 in
theorem gX5_set_X5_no : GoodIn wsX5_set (wsV RX5 30 RX5 yX5_no wsX5_no) := goodIn_app (goodIn_of _ (by decide +kernel)) ggX5_set_X5_no
set_option maxRecDepth 20000 in
theorem ggX5_set_X5_isIn : GoodIn wsX5_set wsX5_isIn := goodIn_r _ [9] (by decide +kernel) (by decide +kernel)
set_option maxRecDepth 20000 in
theorem gX5_set_X5_isIn : GoodIn wsX5_set (va_wsS RX5 22 yX5_isIn wsX5_isIn) := goodIn_app (goodIn_of _ (by decide +kernel)) ggX5_set_X5_isIn
set_option maxRecDepth 20000 in
theorem ggX5_set_X5_isEdge : GoodIn wsX5_set wsX5_isEdge := goodIn_r _ [16] (by decide +kernel) (by decide +kernel)
set_option maxRecDepth 20000 in
theorem gX5_set_X5_isEdge : GoodIn wsX5_set (va_wsS RX5 34 yX5_isEdge wsX5_isEdge) := goodIn_app (goodIn_of _ (by decide +kernel)) ggX5_set_X5_isEdge
set_option maxRecDepth 20000 in
theorem ggX5_set_X5_onNow : GoodIn wsX5_set wsX5_onNow := goodIn_r _ [20, 2, 21, 22, 23, 5, 24, 25, 26, 27, 28] (by decide +kernel) (by decide +kernel)
set_option maxRecDepth 20000 in
theorem gX5_set_X5_onNow : GoodIn wsX5_set (wsV RX5 41 RX5 yX5_onNow wsX5_onNow) := goodIn_app (goodIn_of _ (by decide +kernel)) ggX5_set_X5_onNow
theorem dX5_set_0 : decode cX5_set 0 = .ok (.aload_n 0, 1) := by decide +kernel
theorem dX5_set_1 : decode cX5_set 1 = .ok (.iconst 0, 1) := by decide +kernel
theorem dX5_set_2 : decode cX5_set 2 = .ok (.putfield 18, 3) := by decide +kernel
theorem dX5_set_5 : decode cX5_set 5 = .ok (.iload_n 1, 1) := by decide +kernel
theorem dX5_set_6 : decode cX5_set 6 = .ok (.invokestatic 38, 3) := by decide +kernel
theorem dX5_set_9 : decode cX5_set 9 = .ok (.ifCond .ne 9, 3) := by decide +kernel
theorem dX5_set_12 : decode cX5_set 12 = .ok (.aload_n 0, 1) := by decide +kernel
theorem dX5_set_13 : decode cX5_set 13 = .ok (.iconst 1, 1) := by decide +kernel
theorem dX5_set_14 : decode cX5_set 14 = .ok (.invokevirtual 30, 3) := by decide +kernel
theorem dX5_set_17 : decode cX5_set 17 = .ok (.ireturn, 1) := by decide +kernel
theorem dX5_set_18 : decode cX5_set 18 = .ok (.iload_n 2, 1) := by decide +kernel
theorem dX5_set_19 : decode cX5_set 19 = .ok (.iconst 0, 1) := by decide +kernel
theorem dX5_set_20 : decode cX5_set 20 = .ok (.iconst 3, 1) := by decide +kernel
theorem dX5_set_21 : decode cX5_set 21 = .ok (.invokestatic 22, 3) := by decide +kernel
theorem dX5_set_24 : decode cX5_set 24 = .ok (.ifCond .eq 15, 3) := by decide +kernel
theorem dX5_set_27 : decode cX5_set 27 = .ok (.iload_n 1, 1) := by decide +kernel
theorem dX5_set_28 : decode cX5_set 28 = .ok (.invokestatic 34, 3) := by decide +kernel
theorem dX5_set_31 : decode cX5_set 31 = .ok (.ifCond .eq 14, 3) := by decide +kernel
theorem dX5_set_34 : decode cX5_set 34 = .ok (.iload_n 2, 1) := by decide +kernel
theorem dX5_set_35 : decode cX5_set 35 = .ok (.iconst 1, 1) := by decide +kernel
theorem dX5_set_36 : decode cX5_set 36 = .ok (.if_icmp .eq 9, 3) := by decide +kernel
theorem dX5_set_39 : decode cX5_set 39 = .ok (.aload_n 0, 1) := by decide +kernel
theorem dX5_set_40 : decode cX5_set 40 = .ok (.iconst 2, 1) := by decide +kernel
theorem dX5_set_41 : decode cX5_set 41 = .ok (.invokevirtual 30, 3) := by decide +kernel
theorem dX5_set_44 : decode cX5_set 44 = .ok (.ireturn, 1) := by decide +kernel
theorem dX5_set_45 : decode cX5_set 45 = .ok (.aload_n 0, 1) := by decide +kernel
theorem dX5_set_46 : decode cX5_set 46 = .ok (.iload_n 1, 1) := by decide +kernel
theorem dX5_set_47 : decode cX5_set 47 = .ok (.invokevirtual 41, 3) := by decide +kernel
theorem dX5_set_50 : decode cX5_set 50 = .ok (.iconst (-1), 1) := by decide +kernel
theorem dX5_set_51 : decode cX5_set 51 = .ok (.if_icmp .eq 18, 3) := by decide +kernel
theorem dX5_set_54 : decode cX5_set 54 = .ok (.iload_n 2, 1) := by decide +kernel
theorem dX5_set_55 : decode cX5_set 55 = .ok (.iconst 1, 1) := by decide +kernel
theorem dX5_set_56 : decode cX5_set 56 = .ok (.iconst 2, 1) := by decide +kernel
theorem dX5_set_57 : decode cX5_set 57 = .ok (.invokestatic 22, 3) := by decide +kernel
theorem dX5_set_60 : decode cX5_set 60 = .ok (.ifCond .eq 9, 3) := by decide +kernel
theorem dX5_set_63 : decode cX5_set 63 = .ok (.aload_n 0, 1) := by decide +kernel
theorem dX5_set_64 : decode cX5_set 64 = .ok (.iconst 3, 1) := by decide +kernel
theorem dX5_set_65 : decode cX5_set 65 = .ok (.invokevirtual 30, 3) := by decide +kernel
theorem dX5_set_68 : decode cX5_set 68 = .ok (.ireturn, 1) := by decide +kernel
theorem dX5_set_69 : decode cX5_set 69 = .ok (.aload_n 0, 1) := by decide +kernel
theorem dX5_set_70 : decode cX5_set 70 = .ok (.getfield 9, 3) := by decide +kernel
theorem dX5_set_73 : decode cX5_set 73 = .ok (.iload_n 1, 1) := by decide +kernel
theorem dX5_set_74 : decode cX5_set 74 = .ok (.iaload, 1) := by decide +kernel
theorem dX5_set_75 : decode cX5_set 75 = .ok (.istore_n 3, 1) := by decide +kernel
theorem dX5_set_76 : decode cX5_set 76 = .ok (.aload_n 0, 1) := by decide +kernel
theorem dX5_set_77 : decode cX5_set 77 = .ok (.getfield 9, 3) := by decide +kernel
theorem dX5_set_80 : decode cX5_set 80 = .ok (.iload_n 1, 1) := by decide +kernel
theorem dX5_set_81 : decode cX5_set 81 = .ok (.iload_n 2, 1) := by decide +kernel
theorem dX5_set_82 : decode cX5_set 82 = .ok (.iastore, 1) := by decide +kernel
theorem dX5_set_83 : decode cX5_set 83 = .ok (.iload_n 3, 1) := by decide +kernel
theorem dX5_set_84 : decode cX5_set 84 = .ok (.ireturn, 1) := by decide +kernel
set_option maxRecDepth 20000 in
theorem ggX5_cell_X5_isCell : GoodIn wsX5_cell wsX5_isCell := goodIn_r _ [6, 7, 8, 5, 9] (by decide +kernel) (by decide +kernel)
set_option maxRecDepth 20000 in
theorem gX5_cell_X5_isCell : GoodIn wsX5_cell (va_wsS RX5 38 yX5_isCell wsX5_isCell) := goodIn_app (goodIn_of _ (by decide +kernel)) ggX5_cell_X5_isCell
set_option maxRecDepth 20000 in
theorem ggX5_cell_X5_no : GoodIn wsX5_cell wsX5_no := goodIn_r _ [13, 1, 14, 15, 16, 17] (by decide +kernel) (by decide +kernel)
set_option maxRecDepth 20000 in
theorem gX5_cell_X5_no : GoodIn wsX5_cell (wsV RX5 30 RX5 yX5_no wsX5_no) := goodIn_app (goodIn_of _ (by decide +kernel)) ggX5_cell_X5_no
theorem dX5_cell_0 : decode cX5_cell 0 = .ok (.aload_n 0, 1) := by decide +kernel
theorem dX5_cell_1 : decode cX5_cell 1 = .ok (.iconst 0, 1) := by decide +kernel
theorem dX5_cell_2 : decode cX5_cell 2 = .ok (.putfield 18, 3) := by decide +kernel
theorem dX5_cell_5 : decode cX5_cell 5 = .ok (.iload_n 1, 1) := by decide +kernel
theorem dX5_cell_6 : decode cX5_cell 6 = .ok (.invokestatic 38, 3) := by decide +kernel
theorem dX5_cell_9 : decode cX5_cell 9 = .ok (.ifCond .eq 12, 3) := by decide +kernel
theorem dX5_cell_12 : decode cX5_cell 12 = .ok (.aload_n 0, 1) := by decide +kernel
theorem dX5_cell_13 : decode cX5_cell 13 = .ok (.getfield 9, 3) := by decide +kernel
theorem dX5_cell_16 : decode cX5_cell 16 = .ok (.iload_n 1, 1) := by decide +kernel
theorem dX5_cell_17 : decode cX5_cell 17 = .ok (.iaload, 1) := by decide +kernel
theorem dX5_cell_18 : decode cX5_cell 18 = .ok (.goto 8, 3) := by decide +kernel
theorem dX5_cell_21 : decode cX5_cell 21 = .ok (.aload_n 0, 1) := by decide +kernel
theorem dX5_cell_22 : decode cX5_cell 22 = .ok (.iconst 1, 1) := by decide +kernel
theorem dX5_cell_23 : decode cX5_cell 23 = .ok (.invokevirtual 30, 3) := by decide +kernel
theorem dX5_cell_26 : decode cX5_cell 26 = .ok (.ireturn, 1) := by decide +kernel
set_option maxRecDepth 20000 in
theorem ggX5_onNow_X5_its : GoodIn wsX5_onNow wsX5_its := goodIn_r _ [6, 1, 7, 8, 9, 10] (by decide +kernel) (by decide +kernel)
set_option maxRecDepth 20000 in
theorem gX5_onNow_X5_its : GoodIn wsX5_onNow (wsV RX5 26 RX5 yX5_its wsX5_its) := goodIn_app (goodIn_of _ (by decide +kernel)) ggX5_onNow_X5_its
theorem dX5_onNow_0 : decode cX5_onNow 0 = .ok (.iconst 0, 1) := by decide +kernel
theorem dX5_onNow_1 : decode cX5_onNow 1 = .ok (.istore_n 2, 1) := by decide +kernel
theorem dX5_onNow_2 : decode cX5_onNow 2 = .ok (.iload_n 2, 1) := by decide +kernel
theorem dX5_onNow_3 : decode cX5_onNow 3 = .ok (.aload_n 0, 1) := by decide +kernel
theorem dX5_onNow_4 : decode cX5_onNow 4 = .ok (.getfield 9, 3) := by decide +kernel
theorem dX5_onNow_7 : decode cX5_onNow 7 = .ok (.sipush 680, 3) := by decide +kernel
theorem dX5_onNow_10 : decode cX5_onNow 10 = .ok (.iaload, 1) := by decide +kernel
theorem dX5_onNow_11 : decode cX5_onNow 11 = .ok (.if_icmp .ge 21, 3) := by decide +kernel
theorem dX5_onNow_14 : decode cX5_onNow 14 = .ok (.aload_n 0, 1) := by decide +kernel
theorem dX5_onNow_15 : decode cX5_onNow 15 = .ok (.iload_n 2, 1) := by decide +kernel
theorem dX5_onNow_16 : decode cX5_onNow 16 = .ok (.iconst 1, 1) := by decide +kernel
theorem dX5_onNow_17 : decode cX5_onNow 17 = .ok (.invokevirtual 26, 3) := by decide +kernel
theorem dX5_onNow_20 : decode cX5_onNow 20 = .ok (.iload_n 1, 1) := by decide +kernel
theorem dX5_onNow_21 : decode cX5_onNow 21 = .ok (.if_icmp .ne 5, 3) := by decide +kernel
theorem dX5_onNow_24 : decode cX5_onNow 24 = .ok (.iload_n 2, 1) := by decide +kernel
theorem dX5_onNow_25 : decode cX5_onNow 25 = .ok (.ireturn, 1) := by decide +kernel
theorem dX5_onNow_26 : decode cX5_onNow 26 = .ok (.iinc 2 1, 3) := by decide +kernel
theorem dX5_onNow_29 : decode cX5_onNow 29 = .ok (.goto (-27), 3) := by decide +kernel
theorem dX5_onNow_32 : decode cX5_onNow 32 = .ok (.iconst (-1), 1) := by decide +kernel
theorem dX5_onNow_33 : decode cX5_onNow 33 = .ok (.ireturn, 1) := by decide +kernel
set_option maxRecDepth 20000 in
theorem ggX5_on_X5_isCell : GoodIn wsX5_on wsX5_isCell := goodIn_r _ [5, 6, 7, 4, 8] (by decide +kernel) (by decide +kernel)
set_option maxRecDepth 20000 in
theorem gX5_on_X5_isCell : GoodIn wsX5_on (va_wsS RX5 38 yX5_isCell wsX5_isCell) := goodIn_app (goodIn_of _ (by decide +kernel)) ggX5_on_X5_isCell
set_option maxRecDepth 20000 in
theorem ggX5_on_X5_onNow : GoodIn wsX5_on wsX5_onNow := goodIn_r _ [12, 13, 14, 15, 16, 4, 17, 22, 23, 24, 25] (by decide +kernel) (by decide +kernel)
set_option maxRecDepth 20000 in
theorem gX5_on_X5_onNow : GoodIn wsX5_on (wsV RX5 41 RX5 yX5_onNow wsX5_onNow) := goodIn_app (goodIn_of _ (by decide +kernel)) ggX5_on_X5_onNow
set_option maxRecDepth 20000 in
theorem ggX5_on_X5_no : GoodIn wsX5_on wsX5_no := goodIn_r _ [21, 1, 22, 23, 24, 25] (by decide +kernel) (by decide +kernel)
set_option maxRecDepth 20000 in
theorem gX5_on_X5_no : GoodIn wsX5_on (wsV RX5 30 RX5 yX5_no wsX5_no) := goodIn_app (goodIn_of _ (by decide +kernel)) ggX5_on_X5_no
theorem dX5_on_0 : decode cX5_on 0 = .ok (.aload_n 0, 1) := by decide +kernel
theorem dX5_on_1 : decode cX5_on 1 = .ok (.iconst 0, 1) := by decide +kernel
theorem dX5_on_2 : decode cX5_on 2 = .ok (.putfield 18, 3) := by decide +kernel
theorem dX5_on_5 : decode cX5_on 5 = .ok (.iload_n 1, 1) := by decide +kernel
theorem dX5_on_6 : decode cX5_on 6 = .ok (.invokestatic 38, 3) := by decide +kernel
theorem dX5_on_9 : decode cX5_on 9 = .ok (.ifCond .eq 11, 3) := by decide +kernel
theorem dX5_on_12 : decode cX5_on 12 = .ok (.aload_n 0, 1) := by decide +kernel
theorem dX5_on_13 : decode cX5_on 13 = .ok (.iload_n 1, 1) := by decide +kernel
theorem dX5_on_14 : decode cX5_on 14 = .ok (.invokevirtual 41, 3) := by decide +kernel
theorem dX5_on_17 : decode cX5_on 17 = .ok (.goto 8, 3) := by decide +kernel
theorem dX5_on_20 : decode cX5_on 20 = .ok (.aload_n 0, 1) := by decide +kernel
theorem dX5_on_21 : decode cX5_on 21 = .ok (.iconst 1, 1) := by decide +kernel
theorem dX5_on_22 : decode cX5_on 22 = .ok (.invokevirtual 30, 3) := by decide +kernel
theorem dX5_on_25 : decode cX5_on 25 = .ok (.ireturn, 1) := by decide +kernel
theorem dX5_apart_0 : decode cX5_apart 0 = .ok (.iload_n 0, 1) := by decide +kernel
theorem dX5_apart_1 : decode cX5_apart 1 = .ok (.bipush 16, 2) := by decide +kernel
theorem dX5_apart_3 : decode cX5_apart 3 = .ok (.irem, 1) := by decide +kernel
theorem dX5_apart_4 : decode cX5_apart 4 = .ok (.iload_n 1, 1) := by decide +kernel
theorem dX5_apart_5 : decode cX5_apart 5 = .ok (.bipush 16, 2) := by decide +kernel
theorem dX5_apart_7 : decode cX5_apart 7 = .ok (.irem, 1) := by decide +kernel
theorem dX5_apart_8 : decode cX5_apart 8 = .ok (.isub, 1) := by decide +kernel
theorem dX5_apart_9 : decode cX5_apart 9 = .ok (.invokestatic 44, 3) := by decide +kernel
theorem dX5_apart_12 : decode cX5_apart 12 = .ok (.iload_n 0, 1) := by decide +kernel
theorem dX5_apart_13 : decode cX5_apart 13 = .ok (.bipush 16, 2) := by decide +kernel
theorem dX5_apart_15 : decode cX5_apart 15 = .ok (.idiv, 1) := by decide +kernel
theorem dX5_apart_16 : decode cX5_apart 16 = .ok (.iload_n 1, 1) := by decide +kernel
theorem dX5_apart_17 : decode cX5_apart 17 = .ok (.bipush 16, 2) := by decide +kernel
theorem dX5_apart_19 : decode cX5_apart 19 = .ok (.idiv, 1) := by decide +kernel
theorem dX5_apart_20 : decode cX5_apart 20 = .ok (.isub, 1) := by decide +kernel
theorem dX5_apart_21 : decode cX5_apart 21 = .ok (.invokestatic 44, 3) := by decide +kernel
theorem dX5_apart_24 : decode cX5_apart 24 = .ok (.invokestatic 49, 3) := by decide +kernel
theorem dX5_apart_27 : decode cX5_apart 27 = .ok (.ireturn, 1) := by decide +kernel
theorem dX5_round_0 : decode cX5_round 0 = .ok (.iconst 2, 1) := by decide +kernel
theorem dX5_round_1 : decode cX5_round 1 = .ok (.iload_n 0, 1) := by decide +kernel
theorem dX5_round_2 : decode cX5_round 2 = .ok (.imul, 1) := by decide +kernel
theorem dX5_round_3 : decode cX5_round 3 = .ok (.iload_n 1, 1) := by decide +kernel
theorem dX5_round_4 : decode cX5_round 4 = .ok (.imul, 1) := by decide +kernel
theorem dX5_round_5 : decode cX5_round 5 = .ok (.iload_n 2, 1) := by decide +kernel
theorem dX5_round_6 : decode cX5_round 6 = .ok (.iadd, 1) := by decide +kernel
theorem dX5_round_7 : decode cX5_round 7 = .ok (.iconst 2, 1) := by decide +kernel
theorem dX5_round_8 : decode cX5_round 8 = .ok (.iload_n 2, 1) := by decide +kernel
theorem dX5_round_9 : decode cX5_round 9 = .ok (.imul, 1) := by decide +kernel
theorem dX5_round_10 : decode cX5_round 10 = .ok (.bipush 20, 2) := by decide +kernel
theorem dX5_round_12 : decode cX5_round 12 = .ok (.imul, 1) := by decide +kernel
theorem dX5_round_13 : decode cX5_round 13 = .ok (.iadd, 1) := by decide +kernel
theorem dX5_round_14 : decode cX5_round 14 = .ok (.istore_n 3, 1) := by decide +kernel
theorem dX5_round_15 : decode cX5_round 15 = .ok (.iload_n 3, 1) := by decide +kernel
theorem dX5_round_16 : decode cX5_round 16 = .ok (.iconst 2, 1) := by decide +kernel
theorem dX5_round_17 : decode cX5_round 17 = .ok (.iload_n 2, 1) := by decide +kernel
theorem dX5_round_18 : decode cX5_round 18 = .ok (.imul, 1) := by decide +kernel
theorem dX5_round_19 : decode cX5_round 19 = .ok (.idiv, 1) := by decide +kernel
theorem dX5_round_20 : decode cX5_round 20 = .ok (.bipush 20, 2) := by decide +kernel
theorem dX5_round_22 : decode cX5_round 22 = .ok (.isub, 1) := by decide +kernel
theorem dX5_round_23 : decode cX5_round 23 = .ok (.ireturn, 1) := by decide +kernel
set_option maxRecDepth 20000 in
theorem ggX5_isClear_X5_apart : GoodIn wsX5_isClear wsX5_apart := goodIn_r _ [5, 6, 7, 8, 9, 10, 11, 12] (by decide +kernel) (by decide +kernel)
set_option maxRecDepth 20000 in
theorem gX5_isClear_X5_apart : GoodIn wsX5_isClear (va_wsS RX5 52 yX5_apart wsX5_apart) := goodIn_app (goodIn_of _ (by decide +kernel)) ggX5_isClear_X5_apart
set_option maxRecDepth 20000 in
theorem ggX5_isClear_X5_round : GoodIn wsX5_isClear wsX5_round := goodIn_r _ [15] (by decide +kernel) (by decide +kernel)
set_option maxRecDepth 20000 in
theorem gX5_isClear_X5_round : GoodIn wsX5_isClear (va_wsS RX5 55 yX5_round wsX5_round) := goodIn_app (goodIn_of _ (by decide +kernel)) ggX5_isClear_X5_round
set_option maxRecDepth 20000 in
theorem ggX5_isClear_X5_isIn : GoodIn wsX5_isClear wsX5_isIn := goodIn_r _ [18] (by decide +kernel) (by decide +kernel)
set_option maxRecDepth 20000 in
theorem gX5_isClear_X5_isIn : GoodIn wsX5_isClear (va_wsS RX5 22 yX5_isIn wsX5_isIn) := goodIn_app (goodIn_of _ (by decide +kernel)) ggX5_isClear_X5_isIn
theorem dX5_isClear_0 : decode cX5_isClear 0 = .ok (.iload_n 1, 1) := by decide +kernel
theorem dX5_isClear_1 : decode cX5_isClear 1 = .ok (.iload_n 2, 1) := by decide +kernel
theorem dX5_isClear_2 : decode cX5_isClear 2 = .ok (.invokestatic 52, 3) := by decide +kernel
theorem dX5_isClear_5 : decode cX5_isClear 5 = .ok (.istore_n 3, 1) := by decide +kernel
theorem dX5_isClear_6 : decode cX5_isClear 6 = .ok (.iconst 1, 1) := by decide +kernel
theorem dX5_isClear_7 : decode cX5_isClear 7 = .ok (.istore 4, 2) := by decide +kernel
theorem dX5_isClear_9 : decode cX5_isClear 9 = .ok (.iload 4, 2) := by decide +kernel
theorem dX5_isClear_11 : decode cX5_isClear 11 = .ok (.iload_n 3, 1) := by decide +kernel
theorem dX5_isClear_12 : decode cX5_isClear 12 = .ok (.if_icmp .ge 72, 3) := by decide +kernel
theorem dX5_isClear_15 : decode cX5_isClear 15 = .ok (.iload_n 1, 1) := by decide +kernel
theorem dX5_isClear_16 : decode cX5_isClear 16 = .ok (.bipush 16, 2) := by decide +kernel
theorem dX5_isClear_18 : decode cX5_isClear 18 = .ok (.idiv, 1) := by decide +kernel
theorem dX5_isClear_19 : decode cX5_isClear 19 = .ok (.iload 4, 2) := by decide +kernel
theorem dX5_isClear_21 : decode cX5_isClear 21 = .ok (.iload_n 2, 1) := by decide +kernel
theorem dX5_isClear_22 : decode cX5_isClear 22 = .ok (.bipush 16, 2) := by decide +kernel
theorem dX5_isClear_24 : decode cX5_isClear 24 = .ok (.idiv, 1) := by decide +kernel
theorem dX5_isClear_25 : decode cX5_isClear 25 = .ok (.iload_n 1, 1) := by decide +kernel
theorem dX5_isClear_26 : decode cX5_isClear 26 = .ok (.bipush 16, 2) := by decide +kernel
theorem dX5_isClear_28 : decode cX5_isClear 28 = .ok (.idiv, 1) := by decide +kernel
theorem dX5_isClear_29 : decode cX5_isClear 29 = .ok (.isub, 1) := by decide +kernel
theorem dX5_isClear_30 : decode cX5_isClear 30 = .ok (.iload_n 3, 1) := by decide +kernel
theorem dX5_isClear_31 : decode cX5_isClear 31 = .ok (.invokestatic 55, 3) := by decide +kernel
theorem dX5_isClear_34 : decode cX5_isClear 34 = .ok (.iadd, 1) := by decide +kernel
theorem dX5_isClear_35 : decode cX5_isClear 35 = .ok (.bipush 16, 2) := by decide +kernel
theorem dX5_isClear_37 : decode cX5_isClear 37 = .ok (.imul, 1) := by decide +kernel
theorem dX5_isClear_38 : decode cX5_isClear 38 = .ok (.iload_n 1, 1) := by decide +kernel
theorem dX5_isClear_39 : decode cX5_isClear 39 = .ok (.bipush 16, 2) := by decide +kernel
theorem dX5_isClear_41 : decode cX5_isClear 41 = .ok (.irem, 1) := by decide +kernel
theorem dX5_isClear_42 : decode cX5_isClear 42 = .ok (.iadd, 1) := by decide +kernel
theorem dX5_isClear_43 : decode cX5_isClear 43 = .ok (.iload 4, 2) := by decide +kernel
theorem dX5_isClear_45 : decode cX5_isClear 45 = .ok (.iload_n 2, 1) := by decide +kernel
theorem dX5_isClear_46 : decode cX5_isClear 46 = .ok (.bipush 16, 2) := by decide +kernel
theorem dX5_isClear_48 : decode cX5_isClear 48 = .ok (.irem, 1) := by decide +kernel
theorem dX5_isClear_49 : decode cX5_isClear 49 = .ok (.iload_n 1, 1) := by decide +kernel
theorem dX5_isClear_50 : decode cX5_isClear 50 = .ok (.bipush 16, 2) := by decide +kernel
theorem dX5_isClear_52 : decode cX5_isClear 52 = .ok (.irem, 1) := by decide +kernel
theorem dX5_isClear_53 : decode cX5_isClear 53 = .ok (.isub, 1) := by decide +kernel
theorem dX5_isClear_54 : decode cX5_isClear 54 = .ok (.iload_n 3, 1) := by decide +kernel
theorem dX5_isClear_55 : decode cX5_isClear 55 = .ok (.invokestatic 55, 3) := by decide +kernel
theorem dX5_isClear_58 : decode cX5_isClear 58 = .ok (.iadd, 1) := by decide +kernel
theorem dX5_isClear_59 : decode cX5_isClear 59 = .ok (.istore 5, 2) := by decide +kernel
theorem dX5_isClear_61 : decode cX5_isClear 61 = .ok (.aload_n 0, 1) := by decide +kernel
theorem dX5_isClear_62 : decode cX5_isClear 62 = .ok (.getfield 9, 3) := by decide +kernel
theorem dX5_isClear_65 : decode cX5_isClear 65 = .ok (.iload 5, 2) := by decide +kernel
theorem dX5_isClear_67 : decode cX5_isClear 67 = .ok (.iaload, 1) := by decide +kernel
theorem dX5_isClear_68 : decode cX5_isClear 68 = .ok (.iconst 1, 1) := by decide +kernel
theorem dX5_isClear_69 : decode cX5_isClear 69 = .ok (.iconst 2, 1) := by decide +kernel
theorem dX5_isClear_70 : decode cX5_isClear 70 = .ok (.invokestatic 22, 3) := by decide +kernel
theorem dX5_isClear_73 : decode cX5_isClear 73 = .ok (.ifCond .eq 5, 3) := by decide +kernel
theorem dX5_isClear_76 : decode cX5_isClear 76 = .ok (.iconst 0, 1) := by decide +kernel
theorem dX5_isClear_77 : decode cX5_isClear 77 = .ok (.ireturn, 1) := by decide +kernel
theorem dX5_isClear_78 : decode cX5_isClear 78 = .ok (.iinc 4 1, 3) := by decide +kernel
theorem dX5_isClear_81 : decode cX5_isClear 81 = .ok (.goto (-72), 3) := by decide +kernel
theorem dX5_isClear_84 : decode cX5_isClear 84 = .ok (.iconst 1, 1) := by decide +kernel
theorem dX5_isClear_85 : decode cX5_isClear 85 = .ok (.ireturn, 1) := by decide +kernel
set_option maxRecDepth 20000 in
theorem ggX5_seesNow_X5_apart : GoodIn wsX5_seesNow wsX5_apart := goodIn_r _ [4, 5, 6, 7, 8, 9, 10, 11] (by decide +kernel) (by decide +kernel)
set_option maxRecDepth 20000 in
theorem gX5_seesNow_X5_apart : GoodIn wsX5_seesNow (va_wsS RX5 52 yX5_apart wsX5_apart) := goodIn_app (goodIn_of _ (by decide +kernel)) ggX5_seesNow_X5_apart
set_option maxRecDepth 20000 in
theorem ggX5_seesNow_X5_isClear : GoodIn wsX5_seesNow wsX5_isClear := goodIn_r _ [15, 16, 1, 2, 3, 4, 5, 6, 7, 8, 9, 10, 11, 17, 18, 19, 20, 21, 22, 23, 24, 25, 26] (by decide +kernel) (by decide +kernel)
set_option maxRecDepth 20000 in
theorem gX5_seesNow_X5_isClear : GoodIn wsX5_seesNow (wsV RX5 59 RX5 yX5_isClear wsX5_isClear) := goodIn_app (goodIn_of _ (by decide +kernel)) ggX5_seesNow_X5_isClear
theorem dX5_seesNow_0 : decode cX5_seesNow 0 = .ok (.iload_n 1, 1) := by decide +kernel
theorem dX5_seesNow_1 : decode cX5_seesNow 1 = .ok (.iload_n 2, 1) := by decide +kernel
theorem dX5_seesNow_2 : decode cX5_seesNow 2 = .ok (.invokestatic 52, 3) := by decide +kernel
theorem dX5_seesNow_5 : decode cX5_seesNow 5 = .ok (.bipush 7, 2) := by decide +kernel
theorem dX5_seesNow_7 : decode cX5_seesNow 7 = .ok (.if_icmp .gt 25, 3) := by decide +kernel
theorem dX5_seesNow_10 : decode cX5_seesNow 10 = .ok (.aload_n 0, 1) := by decide +kernel
theorem dX5_seesNow_11 : decode cX5_seesNow 11 = .ok (.iload_n 1, 1) := by decide +kernel
theorem dX5_seesNow_12 : decode cX5_seesNow 12 = .ok (.iload_n 2, 1) := by decide +kernel
theorem dX5_seesNow_13 : decode cX5_seesNow 13 = .ok (.invokevirtual 59, 3) := by decide +kernel
theorem dX5_seesNow_16 : decode cX5_seesNow 16 = .ok (.ifCond .ne 12, 3) := by decide +kernel
theorem dX5_seesNow_19 : decode cX5_seesNow 19 = .ok (.aload_n 0, 1) := by decide +kernel
theorem dX5_seesNow_20 : decode cX5_seesNow 20 = .ok (.iload_n 2, 1) := by decide +kernel
theorem dX5_seesNow_21 : decode cX5_seesNow 21 = .ok (.iload_n 1, 1) := by decide +kernel
theorem dX5_seesNow_22 : decode cX5_seesNow 22 = .ok (.invokevirtual 59, 3) := by decide +kernel
theorem dX5_seesNow_25 : decode cX5_seesNow 25 = .ok (.ifCond .eq 7, 3) := by decide +kernel
theorem dX5_seesNow_28 : decode cX5_seesNow 28 = .ok (.iconst 1, 1) := by decide +kernel
theorem dX5_seesNow_29 : decode cX5_seesNow 29 = .ok (.goto 4, 3) := by decide +kernel
theorem dX5_seesNow_32 : decode cX5_seesNow 32 = .ok (.iconst 0, 1) := by decide +kernel
theorem dX5_seesNow_33 : decode cX5_seesNow 33 = .ok (.ireturn, 1) := by decide +kernel
set_option maxRecDepth 20000 in
theorem ggX5_sees_X5_isCell : GoodIn wsX5_sees wsX5_isCell := goodIn_r _ [5, 6, 7, 4, 8] (by decide +kernel) (by decide +kernel)
set_option maxRecDepth 20000 in
theorem gX5_sees_X5_isCell : GoodIn wsX5_sees (va_wsS RX5 38 yX5_isCell wsX5_isCell) := goodIn_app (goodIn_of _ (by decide +kernel)) ggX5_sees_X5_isCell
set_option maxRecDepth 20000 in
theorem ggX5_sees_X5_seesNow : GoodIn wsX5_sees wsX5_seesNow := goodIn_r _ [12, 13, 14, 4, 15, 16, 17, 18, 19, 20, 21, 22, 23, 24, 25, 26, 27, 28, 29, 30, 6, 7, 8, 31, 32, 33, 34] (by decide +kernel) (by decide +kernel)
set_option maxRecDepth 20000 in
theorem gX5_sees_X5_seesNow : GoodIn wsX5_sees (wsV RX5 63 RX5 yX5_seesNow wsX5_seesNow) := goodIn_app (goodIn_of _ (by decide +kernel)) ggX5_sees_X5_seesNow
theorem dX5_sees_0 : decode cX5_sees 0 = .ok (.aload_n 0, 1) := by decide +kernel
theorem dX5_sees_1 : decode cX5_sees 1 = .ok (.iload_n 1, 1) := by decide +kernel
theorem dX5_sees_2 : decode cX5_sees 2 = .ok (.invokestatic 38, 3) := by decide +kernel
theorem dX5_sees_5 : decode cX5_sees 5 = .ok (.ifCond .eq 14, 3) := by decide +kernel
theorem dX5_sees_8 : decode cX5_sees 8 = .ok (.iload_n 2, 1) := by decide +kernel
theorem dX5_sees_9 : decode cX5_sees 9 = .ok (.invokestatic 38, 3) := by decide +kernel
theorem dX5_sees_12 : decode cX5_sees 12 = .ok (.ifCond .eq 7, 3) := by decide +kernel
theorem dX5_sees_15 : decode cX5_sees 15 = .ok (.iconst 0, 1) := by decide +kernel
theorem dX5_sees_16 : decode cX5_sees 16 = .ok (.goto 4, 3) := by decide +kernel
theorem dX5_sees_19 : decode cX5_sees 19 = .ok (.iconst 1, 1) := by decide +kernel
theorem dX5_sees_20 : decode cX5_sees 20 = .ok (.putfield 18, 3) := by decide +kernel
theorem dX5_sees_23 : decode cX5_sees 23 = .ok (.aload_n 0, 1) := by decide +kernel
theorem dX5_sees_24 : decode cX5_sees 24 = .ok (.getfield 18, 3) := by decide +kernel
theorem dX5_sees_27 : decode cX5_sees 27 = .ok (.ifCond .ne 16, 3) := by decide +kernel
theorem dX5_sees_30 : decode cX5_sees 30 = .ok (.aload_n 0, 1) := by decide +kernel
theorem dX5_sees_31 : decode cX5_sees 31 = .ok (.iload_n 1, 1) := by decide +kernel
theorem dX5_sees_32 : decode cX5_sees 32 = .ok (.iload_n 2, 1) := by decide +kernel
theorem dX5_sees_33 : decode cX5_sees 33 = .ok (.invokevirtual 63, 3) := by decide +kernel
theorem dX5_sees_36 : decode cX5_sees 36 = .ok (.ifCond .eq 7, 3) := by decide +kernel
theorem dX5_sees_39 : decode cX5_sees 39 = .ok (.iconst 1, 1) := by decide +kernel
theorem dX5_sees_40 : decode cX5_sees 40 = .ok (.goto 4, 3) := by decide +kernel
theorem dX5_sees_43 : decode cX5_sees 43 = .ok (.iconst 0, 1) := by decide +kernel
theorem dX5_sees_44 : decode cX5_sees 44 = .ok (.ireturn, 1) := by decide +kernel
set_option maxRecDepth 20000 in
theorem ggX5_knows_X5_isIn : GoodIn wsX5_knows wsX5_isIn := goodIn_r _ [6] (by decide +kernel) (by decide +kernel)
set_option maxRecDepth 20000 in
theorem gX5_knows_X5_isIn : GoodIn wsX5_knows (va_wsS RX5 22 yX5_isIn wsX5_isIn) := goodIn_app (goodIn_of _ (by decide +kernel)) ggX5_knows_X5_isIn
set_option maxRecDepth 20000 in
theorem ggX5_knows_X5_isCell : GoodIn wsX5_knows wsX5_isCell := goodIn_r _ [9, 3, 4, 5, 6] (by decide +kernel) (by decide +kernel)
set_option maxRecDepth 20000 in
theorem gX5_knows_X5_isCell : GoodIn wsX5_knows (va_wsS RX5 38 yX5_isCell wsX5_isCell) := goodIn_app (goodIn_of _ (by decide +kernel)) ggX5_knows_X5_isCell
theorem dX5_knows_0 : decode cX5_knows 0 = .ok (.aload_n 0, 1) := by decide +kernel
theorem dX5_knows_1 : decode cX5_knows 1 = .ok (.iload_n 1, 1) := by decide +kernel
theorem dX5_knows_2 : decode cX5_knows 2 = .ok (.iconst 0, 1) := by decide +kernel
theorem dX5_knows_3 : decode cX5_knows 3 = .ok (.iconst 1, 1) := by decide +kernel
theorem dX5_knows_4 : decode cX5_knows 4 = .ok (.invokestatic 22, 3) := by decide +kernel
theorem dX5_knows_7 : decode cX5_knows 7 = .ok (.ifCond .ne 7, 3) := by decide +kernel
theorem dX5_knows_10 : decode cX5_knows 10 = .ok (.iconst 1, 1) := by decide +kernel
theorem dX5_knows_11 : decode cX5_knows 11 = .ok (.goto 15, 3) := by decide +kernel
theorem dX5_knows_14 : decode cX5_knows 14 = .ok (.iload_n 2, 1) := by decide +kernel
theorem dX5_knows_15 : decode cX5_knows 15 = .ok (.invokestatic 38, 3) := by decide +kernel
theorem dX5_knows_18 : decode cX5_knows 18 = .ok (.ifCond .eq 7, 3) := by decide +kernel
theorem dX5_knows_21 : decode cX5_knows 21 = .ok (.iconst 0, 1) := by decide +kernel
theorem dX5_knows_22 : decode cX5_knows 22 = .ok (.goto 4, 3) := by decide +kernel
theorem dX5_knows_25 : decode cX5_knows 25 = .ok (.iconst 2, 1) := by decide +kernel
theorem dX5_knows_26 : decode cX5_knows 26 = .ok (.putfield 18, 3) := by decide +kernel
theorem dX5_knows_29 : decode cX5_knows 29 = .ok (.aload_n 0, 1) := by decide +kernel
theorem dX5_knows_30 : decode cX5_knows 30 = .ok (.getfield 18, 3) := by decide +kernel
theorem dX5_knows_33 : decode cX5_knows 33 = .ok (.ifCond .ne 27, 3) := by decide +kernel
theorem dX5_knows_36 : decode cX5_knows 36 = .ok (.aload_n 0, 1) := by decide +kernel
theorem dX5_knows_37 : decode cX5_knows 37 = .ok (.getfield 9, 3) := by decide +kernel
theorem dX5_knows_40 : decode cX5_knows 40 = .ok (.sipush 160, 3) := by decide +kernel
theorem dX5_knows_43 : decode cX5_knows 43 = .ok (.iload_n 1, 1) := by decide +kernel
theorem dX5_knows_44 : decode cX5_knows 44 = .ok (.sipush 160, 3) := by decide +kernel
theorem dX5_knows_47 : decode cX5_knows 47 = .ok (.imul, 1) := by decide +kernel
theorem dX5_knows_48 : decode cX5_knows 48 = .ok (.iadd, 1) := by decide +kernel
theorem dX5_knows_49 : decode cX5_knows 49 = .ok (.iload_n 2, 1) := by decide +kernel
theorem dX5_knows_50 : decode cX5_knows 50 = .ok (.iadd, 1) := by decide +kernel
theorem dX5_knows_51 : decode cX5_knows 51 = .ok (.iaload, 1) := by decide +kernel
theorem dX5_knows_52 : decode cX5_knows 52 = .ok (.iconst 1, 1) := by decide +kernel
theorem dX5_knows_53 : decode cX5_knows 53 = .ok (.if_icmp .ne 7, 3) := by decide +kernel
theorem dX5_knows_56 : decode cX5_knows 56 = .ok (.iconst 1, 1) := by decide +kernel
theorem dX5_knows_57 : decode cX5_knows 57 = .ok (.goto 4, 3) := by decide +kernel
theorem dX5_knows_60 : decode cX5_knows 60 = .ok (.iconst 0, 1) := by decide +kernel
theorem dX5_knows_61 : decode cX5_knows 61 = .ok (.ireturn, 1) := by decide +kernel
set_option maxRecDepth 20000 in
theorem ggX5_look_X5_isAlive : GoodIn wsX5_look wsX5_isAlive := goodIn_r _ [6, 7, 8, 9, 5, 10, 1, 35, 36, 37, 38] (by decide +kernel) (by decide +kernel)
set_option maxRecDepth 20000 in
theorem gX5_look_X5_isAlive : GoodIn wsX5_look (wsV RX5 66 RX5 yX5_isAlive wsX5_isAlive) := goodIn_app (goodIn_of _ (by decide +kernel)) ggX5_look_X5_isAlive
set_option maxRecDepth 20000 in
theorem ggX5_look_X5_its : GoodIn wsX5_look wsX5_its := goodIn_r _ [10, 1, 35, 36, 37, 38] (by decide +kernel) (by decide +kernel)
set_option maxRecDepth 20000 in
theorem gX5_look_X5_its : GoodIn wsX5_look (wsV RX5 26 RX5 yX5_its wsX5_its) := goodIn_app (goodIn_of _ (by decide +kernel)) ggX5_look_X5_its
set_option maxRecDepth 20000 in
theorem ggX5_look_X5_seesNow : GoodIn wsX5_look wsX5_seesNow := goodIn_r _ [14, 15, 16, 5, 17, 18, 19, 20, 21, 22, 23, 24, 25, 26, 27, 28, 1, 29, 30, 31, 32, 33, 34, 35, 36, 37, 38] (by decide +kernel) (by decide +kernel)
set_option maxRecDepth 20000 in
theorem gX5_look_X5_seesNow : GoodIn wsX5_look (wsV RX5 63 RX5 yX5_seesNow wsX5_seesNow) := goodIn_app (goodIn_of _ (by decide +kernel)) ggX5_look_X5_seesNow
theorem dX5_look_0 : decode cX5_look 0 = .ok (.aload_n 0, 1) := by decide +kernel
theorem dX5_look_1 : decode cX5_look 1 = .ok (.iload_n 1, 1) := by decide +kernel
theorem dX5_look_2 : decode cX5_look 2 = .ok (.invokevirtual 66, 3) := by decide +kernel
theorem dX5_look_5 : decode cX5_look 5 = .ok (.ifCond .ne 4, 3) := by decide +kernel
theorem dX5_look_8 : decode cX5_look 8 = .ok (.return_, 1) := by decide +kernel
theorem dX5_look_9 : decode cX5_look 9 = .ok (.iconst 0, 1) := by decide +kernel
theorem dX5_look_10 : decode cX5_look 10 = .ok (.istore_n 2, 1) := by decide +kernel
theorem dX5_look_11 : decode cX5_look 11 = .ok (.iload_n 2, 1) := by decide +kernel
theorem dX5_look_12 : decode cX5_look 12 = .ok (.sipush 160, 3) := by decide +kernel
theorem dX5_look_15 : decode cX5_look 15 = .ok (.if_icmp .ge 45, 3) := by decide +kernel
theorem dX5_look_18 : decode cX5_look 18 = .ok (.aload_n 0, 1) := by decide +kernel
theorem dX5_look_19 : decode cX5_look 19 = .ok (.aload_n 0, 1) := by decide +kernel
theorem dX5_look_20 : decode cX5_look 20 = .ok (.iload_n 1, 1) := by decide +kernel
theorem dX5_look_21 : decode cX5_look 21 = .ok (.iconst 1, 1) := by decide +kernel
theorem dX5_look_22 : decode cX5_look 22 = .ok (.invokevirtual 26, 3) := by decide +kernel
theorem dX5_look_25 : decode cX5_look 25 = .ok (.iload_n 2, 1) := by decide +kernel
theorem dX5_look_26 : decode cX5_look 26 = .ok (.invokevirtual 63, 3) := by decide +kernel
theorem dX5_look_29 : decode cX5_look 29 = .ok (.ifCond .eq 25, 3) := by decide +kernel
theorem dX5_look_32 : decode cX5_look 32 = .ok (.aload_n 0, 1) := by decide +kernel
theorem dX5_look_33 : decode cX5_look 33 = .ok (.getfield 9, 3) := by decide +kernel
theorem dX5_look_36 : decode cX5_look 36 = .ok (.sipush 160, 3) := by decide +kernel
theorem dX5_look_39 : decode cX5_look 39 = .ok (.aload_n 0, 1) := by decide +kernel
theorem dX5_look_40 : decode cX5_look 40 = .ok (.iload_n 1, 1) := by decide +kernel
theorem dX5_look_41 : decode cX5_look 41 = .ok (.iconst 0, 1) := by decide +kernel
theorem dX5_look_42 : decode cX5_look 42 = .ok (.invokevirtual 26, 3) := by decide +kernel
theorem dX5_look_45 : decode cX5_look 45 = .ok (.sipush 160, 3) := by decide +kernel
theorem dX5_look_48 : decode cX5_look 48 = .ok (.imul, 1) := by decide +kernel
theorem dX5_look_49 : decode cX5_look 49 = .ok (.iadd, 1) := by decide +kernel
theorem dX5_look_50 : decode cX5_look 50 = .ok (.iload_n 2, 1) := by decide +kernel
theorem dX5_look_51 : decode cX5_look 51 = .ok (.iadd, 1) := by decide +kernel
theorem dX5_look_52 : decode cX5_look 52 = .ok (.iconst 1, 1) := by decide +kernel
theorem dX5_look_53 : decode cX5_look 53 = .ok (.iastore, 1) := by decide +kernel
theorem dX5_look_54 : decode cX5_look 54 = .ok (.iinc 2 1, 3) := by decide +kernel
theorem dX5_look_57 : decode cX5_look 57 = .ok (.goto (-46), 3) := by decide +kernel
theorem dX5_look_60 : decode cX5_look 60 = .ok (.return_, 1) := by decide +kernel
set_option maxRecDepth 20000 in
theorem ggX5_turn_X5_isAlive : GoodIn wsX5_turn wsX5_isAlive := goodIn_r _ [6, 7, 8, 9, 5, 10, 1, 11, 12, 13, 14] (by decide +kernel) (by decide +kernel)
set_option maxRecDepth 20000 in
theorem gX5_turn_X5_isAlive : GoodIn wsX5_turn (wsV RX5 66 RX5 yX5_isAlive wsX5_isAlive) := goodIn_app (goodIn_of _ (by decide +kernel)) ggX5_turn_X5_isAlive
set_option maxRecDepth 20000 in
theorem ggX5_turn_X5_its : GoodIn wsX5_turn wsX5_its := goodIn_r _ [10, 1, 11, 12, 13, 14] (by decide +kernel) (by decide +kernel)
set_option maxRecDepth 20000 in
theorem gX5_turn_X5_its : GoodIn wsX5_turn (wsV RX5 26 RX5 yX5_its wsX5_its) := goodIn_app (goodIn_of _ (by decide +kernel)) ggX5_turn_X5_its
theorem dX5_turn_0 : decode cX5_turn 0 = .ok (.iconst (-1), 1) := by decide +kernel
theorem dX5_turn_1 : decode cX5_turn 1 = .ok (.istore_n 1, 1) := by decide +kernel
theorem dX5_turn_2 : decode cX5_turn 2 = .ok (.iconst 0, 1) := by decide +kernel
theorem dX5_turn_3 : decode cX5_turn 3 = .ok (.istore_n 2, 1) := by decide +kernel
theorem dX5_turn_4 : decode cX5_turn 4 = .ok (.iload_n 2, 1) := by decide +kernel
theorem dX5_turn_5 : decode cX5_turn 5 = .ok (.aload_n 0, 1) := by decide +kernel
theorem dX5_turn_6 : decode cX5_turn 6 = .ok (.getfield 9, 3) := by decide +kernel
theorem dX5_turn_9 : decode cX5_turn 9 = .ok (.sipush 680, 3) := by decide +kernel
theorem dX5_turn_12 : decode cX5_turn 12 = .ok (.iaload, 1) := by decide +kernel
theorem dX5_turn_13 : decode cX5_turn 13 = .ok (.if_icmp .ge 41, 3) := by decide +kernel
theorem dX5_turn_16 : decode cX5_turn 16 = .ok (.aload_n 0, 1) := by decide +kernel
theorem dX5_turn_17 : decode cX5_turn 17 = .ok (.iload_n 2, 1) := by decide +kernel
theorem dX5_turn_18 : decode cX5_turn 18 = .ok (.invokevirtual 66, 3) := by decide +kernel
theorem dX5_turn_21 : decode cX5_turn 21 = .ok (.ifCond .eq 27, 3) := by decide +kernel
theorem dX5_turn_24 : decode cX5_turn 24 = .ok (.iload_n 1, 1) := by decide +kernel
theorem dX5_turn_25 : decode cX5_turn 25 = .ok (.iconst (-1), 1) := by decide +kernel
theorem dX5_turn_26 : decode cX5_turn 26 = .ok (.if_icmp .eq 20, 3) := by decide +kernel
theorem dX5_turn_29 : decode cX5_turn 29 = .ok (.aload_n 0, 1) := by decide +kernel
theorem dX5_turn_30 : decode cX5_turn 30 = .ok (.iload_n 2, 1) := by decide +kernel
theorem dX5_turn_31 : decode cX5_turn 31 = .ok (.bipush 8, 2) := by decide +kernel
theorem dX5_turn_33 : decode cX5_turn 33 = .ok (.invokevirtual 26, 3) := by decide +kernel
theorem dX5_turn_36 : decode cX5_turn 36 = .ok (.aload_n 0, 1) := by decide +kernel
theorem dX5_turn_37 : decode cX5_turn 37 = .ok (.iload_n 1, 1) := by decide +kernel
theorem dX5_turn_38 : decode cX5_turn 38 = .ok (.bipush 8, 2) := by decide +kernel
theorem dX5_turn_40 : decode cX5_turn 40 = .ok (.invokevirtual 26, 3) := by decide +kernel
theorem dX5_turn_43 : decode cX5_turn 43 = .ok (.if_icmp .ge 5, 3) := by decide +kernel
theorem dX5_turn_46 : decode cX5_turn 46 = .ok (.iload_n 2, 1) := by decide +kernel
theorem dX5_turn_47 : decode cX5_turn 47 = .ok (.istore_n 1, 1) := by decide +kernel
theorem dX5_turn_48 : decode cX5_turn 48 = .ok (.iinc 2 1, 3) := by decide +kernel
theorem dX5_turn_51 : decode cX5_turn 51 = .ok (.goto (-47), 3) := by decide +kernel
theorem dX5_turn_54 : decode cX5_turn 54 = .ok (.iload_n 1, 1) := by decide +kernel
theorem dX5_turn_55 : decode cX5_turn 55 = .ok (.ireturn, 1) := by decide +kernel
set_option maxRecDepth 20000 in
theorem ggX5_come_X5_isCell : GoodIn wsX5_come wsX5_isCell := goodIn_r _ [11, 12, 13, 10, 14] (by decide +kernel) (by decide +kernel)
set_option maxRecDepth 20000 in
theorem gX5_come_X5_isCell : GoodIn wsX5_come (va_wsS RX5 38 yX5_isCell wsX5_isCell) := goodIn_app (goodIn_of _ (by decide +kernel)) ggX5_come_X5_isCell
set_option maxRecDepth 20000 in
theorem ggX5_come_X5_no : GoodIn wsX5_come wsX5_no := goodIn_r _ [18, 1, 60, 61, 62, 63] (by decide +kernel) (by decide +kernel)
set_option maxRecDepth 20000 in
theorem gX5_come_X5_no : GoodIn wsX5_come (wsV RX5 30 RX5 yX5_no wsX5_no) := goodIn_app (goodIn_of _ (by decide +kernel)) ggX5_come_X5_no
set_option maxRecDepth 20000 in
theorem ggX5_come_X5_isIn : GoodIn wsX5_come wsX5_isIn := goodIn_r _ [14] (by decide +kernel) (by decide +kernel)
set_option maxRecDepth 20000 in
theorem gX5_come_X5_isIn : GoodIn wsX5_come (va_wsS RX5 22 yX5_isIn wsX5_isIn) := goodIn_app (goodIn_of _ (by decide +kernel)) ggX5_come_X5_isIn
set_option maxRecDepth 20000 in
theorem ggX5_come_X5_onNow : GoodIn wsX5_come wsX5_onNow := goodIn_r _ [22, 2, 23, 24, 25, 10, 26, 60, 61, 62, 63] (by decide +kernel) (by decide +kernel)
set_option maxRecDepth 20000 in
theorem gX5_come_X5_onNow : GoodIn wsX5_come (wsV RX5 41 RX5 yX5_onNow wsX5_onNow) := goodIn_app (goodIn_of _ (by decide +kernel)) ggX5_come_X5_onNow
set_option maxRecDepth 20000 in
theorem ggX5_come_X5_turn : GoodIn wsX5_come wsX5_turn := goodIn_r _ [30, 2, 31, 32, 33, 10, 34, 23, 24, 25, 26, 60, 61, 62, 63] (by decide +kernel) (by decide +kernel)
set_option maxRecDepth 20000 in
theorem gX5_come_X5_turn : GoodIn wsX5_come (wsV RX5 69 RX5 yX5_turn wsX5_turn) := goodIn_app (goodIn_of _ (by decide +kernel)) ggX5_come_X5_turn
set_option maxRecDepth 20000 in
theorem ggX5_come_X5_its : GoodIn wsX5_come wsX5_its := goodIn_r _ [26, 2, 60, 61, 62, 63] (by decide +kernel) (by decide +kernel)
set_option maxRecDepth 20000 in
theorem gX5_come_X5_its : GoodIn wsX5_come (wsV RX5 26 RX5 yX5_its wsX5_its) := goodIn_app (goodIn_of _ (by decide +kernel)) ggX5_come_X5_its
set_option maxRecDepth 20000 in
theorem ggX5_come_X5_look : GoodIn wsX5_come wsX5_look := goodIn_r _ [38, 2, 31, 32, 33, 10, 34, 23, 24, 25, 26, 39, 40, 41, 42, 43, 44, 45, 46, 47, 48, 49, 50, 51, 52, 53, 54, 55, 56, 57, 58, 59, 12, 13, 14, 60, 61, 62, 63] (by decide +kernel) (by decide +kernel)
set_option maxRecDepth 20000 in
theorem gX5_come_X5_look : GoodIn wsX5_come (wsV RX5 79 RX5 yX5_look wsX5_look) := goodIn_app (goodIn_of _ (by decide +kernel)) ggX5_come_X5_look
theorem dX5_come_0 : decode cX5_come 0 = .ok (.aload_n 0, 1) := by decide +kernel
theorem dX5_come_1 : decode cX5_come 1 = .ok (.iconst 0, 1) := by decide +kernel
theorem dX5_come_2 : decode cX5_come 2 = .ok (.putfield 18, 3) := by decide +kernel
theorem dX5_come_5 : decode cX5_come 5 = .ok (.iload_n 2, 1) := by decide +kernel
theorem dX5_come_6 : decode cX5_come 6 = .ok (.invokestatic 38, 3) := by decide +kernel
theorem dX5_come_9 : decode cX5_come 9 = .ok (.ifCond .ne 9, 3) := by decide +kernel
theorem dX5_come_12 : decode cX5_come 12 = .ok (.aload_n 0, 1) := by decide +kernel
theorem dX5_come_13 : decode cX5_come 13 = .ok (.iconst 1, 1) := by decide +kernel
theorem dX5_come_14 : decode cX5_come 14 = .ok (.invokevirtual 30, 3) := by decide +kernel
theorem dX5_come_17 : decode cX5_come 17 = .ok (.ireturn, 1) := by decide +kernel
theorem dX5_come_18 : decode cX5_come 18 = .ok (.iload_n 1, 1) := by decide +kernel
theorem dX5_come_19 : decode cX5_come 19 = .ok (.iconst 0, 1) := by decide +kernel
theorem dX5_come_20 : decode cX5_come 20 = .ok (.iconst 1, 1) := by decide +kernel
theorem dX5_come_21 : decode cX5_come 21 = .ok (.invokestatic 22, 3) := by decide +kernel
theorem dX5_come_24 : decode cX5_come 24 = .ok (.ifCond .eq 13, 3) := by decide +kernel
theorem dX5_come_27 : decode cX5_come 27 = .ok (.iload_n 3, 1) := by decide +kernel
theorem dX5_come_28 : decode cX5_come 28 = .ok (.iconst 1, 1) := by decide +kernel
theorem dX5_come_29 : decode cX5_come 29 = .ok (.bipush 60, 2) := by decide +kernel
theorem dX5_come_31 : decode cX5_come 31 = .ok (.invokestatic 22, 3) := by decide +kernel
theorem dX5_come_34 : decode cX5_come 34 = .ok (.ifCond .ne 9, 3) := by decide +kernel
theorem dX5_come_37 : decode cX5_come 37 = .ok (.aload_n 0, 1) := by decide +kernel
theorem dX5_come_38 : decode cX5_come 38 = .ok (.iconst 2, 1) := by decide +kernel
theorem dX5_come_39 : decode cX5_come 39 = .ok (.invokevirtual 30, 3) := by decide +kernel
theorem dX5_come_42 : decode cX5_come 42 = .ok (.ireturn, 1) := by decide +kernel
theorem dX5_come_43 : decode cX5_come 43 = .ok (.aload_n 0, 1) := by decide +kernel
theorem dX5_come_44 : decode cX5_come 44 = .ok (.getfield 9, 3) := by decide +kernel
theorem dX5_come_47 : decode cX5_come 47 = .ok (.sipush 680, 3) := by decide +kernel
theorem dX5_come_50 : decode cX5_come 50 = .ok (.iaload, 1) := by decide +kernel
theorem dX5_come_51 : decode cX5_come 51 = .ok (.bipush 10, 2) := by decide +kernel
theorem dX5_come_53 : decode cX5_come 53 = .ok (.if_icmp .eq 26, 3) := by decide +kernel
theorem dX5_come_56 : decode cX5_come 56 = .ok (.aload_n 0, 1) := by decide +kernel
theorem dX5_come_57 : decode cX5_come 57 = .ok (.getfield 9, 3) := by decide +kernel
theorem dX5_come_60 : decode cX5_come 60 = .ok (.iload_n 2, 1) := by decide +kernel
theorem dX5_come_61 : decode cX5_come 61 = .ok (.iaload, 1) := by decide +kernel
theorem dX5_come_62 : decode cX5_come 62 = .ok (.iconst 1, 1) := by decide +kernel
theorem dX5_come_63 : decode cX5_come 63 = .ok (.iconst 2, 1) := by decide +kernel
theorem dX5_come_64 : decode cX5_come 64 = .ok (.invokestatic 22, 3) := by decide +kernel
theorem dX5_come_67 : decode cX5_come 67 = .ok (.ifCond .ne 12, 3) := by decide +kernel
theorem dX5_come_70 : decode cX5_come 70 = .ok (.aload_n 0, 1) := by decide +kernel
theorem dX5_come_71 : decode cX5_come 71 = .ok (.iload_n 2, 1) := by decide +kernel
theorem dX5_come_72 : decode cX5_come 72 = .ok (.invokevirtual 41, 3) := by decide +kernel
theorem dX5_come_75 : decode cX5_come 75 = .ok (.iconst (-1), 1) := by decide +kernel
theorem dX5_come_76 : decode cX5_come 76 = .ok (.if_icmp .eq 9, 3) := by decide +kernel
theorem dX5_come_79 : decode cX5_come 79 = .ok (.aload_n 0, 1) := by decide +kernel
theorem dX5_come_80 : decode cX5_come 80 = .ok (.iconst 3, 1) := by decide +kernel
theorem dX5_come_81 : decode cX5_come 81 = .ok (.invokevirtual 30, 3) := by decide +kernel
theorem dX5_come_84 : decode cX5_come 84 = .ok (.ireturn, 1) := by decide +kernel
theorem dX5_come_85 : decode cX5_come 85 = .ok (.aload_n 0, 1) := by decide +kernel
theorem dX5_come_86 : decode cX5_come 86 = .ok (.invokevirtual 69, 3) := by decide +kernel
theorem dX5_come_89 : decode cX5_come 89 = .ok (.istore 4, 2) := by decide +kernel
theorem dX5_come_91 : decode cX5_come 91 = .ok (.bipush 9, 2) := by decide +kernel
theorem dX5_come_93 : decode cX5_come 93 = .ok (.newarray .int, 2) := by decide +kernel
theorem dX5_come_95 : decode cX5_come 95 = .ok (.dup, 1) := by decide +kernel
theorem dX5_come_96 : decode cX5_come 96 = .ok (.iconst 0, 1) := by decide +kernel
theorem dX5_come_97 : decode cX5_come 97 = .ok (.iload_n 1, 1) := by decide +kernel
theorem dX5_come_98 : decode cX5_come 98 = .ok (.iastore, 1) := by decide +kernel
theorem dX5_come_99 : decode cX5_come 99 = .ok (.dup, 1) := by decide +kernel
theorem dX5_come_100 : decode cX5_come 100 = .ok (.iconst 1, 1) := by decide +kernel
theorem dX5_come_101 : decode cX5_come 101 = .ok (.iload_n 2, 1) := by decide +kernel
theorem dX5_come_102 : decode cX5_come 102 = .ok (.iastore, 1) := by decide +kernel
theorem dX5_come_103 : decode cX5_come 103 = .ok (.dup, 1) := by decide +kernel
theorem dX5_come_104 : decode cX5_come 104 = .ok (.iconst 2, 1) := by decide +kernel
theorem dX5_come_105 : decode cX5_come 105 = .ok (.iload_n 3, 1) := by decide +kernel
theorem dX5_come_106 : decode cX5_come 106 = .ok (.iastore, 1) := by decide +kernel
theorem dX5_come_107 : decode cX5_come 107 = .ok (.dup, 1) := by decide +kernel
theorem dX5_come_108 : decode cX5_come 108 = .ok (.iconst 3, 1) := by decide +kernel
theorem dX5_come_109 : decode cX5_come 109 = .ok (.iload_n 3, 1) := by decide +kernel
theorem dX5_come_110 : decode cX5_come 110 = .ok (.iastore, 1) := by decide +kernel
theorem dX5_come_111 : decode cX5_come 111 = .ok (.dup, 1) := by decide +kernel
theorem dX5_come_112 : decode cX5_come 112 = .ok (.iconst 4, 1) := by decide +kernel
theorem dX5_come_113 : decode cX5_come 113 = .ok (.iconst 5, 1) := by decide +kernel
theorem dX5_come_114 : decode cX5_come 114 = .ok (.iastore, 1) := by decide +kernel
theorem dX5_come_115 : decode cX5_come 115 = .ok (.dup, 1) := by decide +kernel
theorem dX5_come_116 : decode cX5_come 116 = .ok (.iconst 5, 1) := by decide +kernel
theorem dX5_come_117 : decode cX5_come 117 = .ok (.iconst 2, 1) := by decide +kernel
theorem dX5_come_118 : decode cX5_come 118 = .ok (.iastore, 1) := by decide +kernel
theorem dX5_come_119 : decode cX5_come 119 = .ok (.dup, 1) := by decide +kernel
theorem dX5_come_120 : decode cX5_come 120 = .ok (.bipush 6, 2) := by decide +kernel
theorem dX5_come_122 : decode cX5_come 122 = .ok (.iconst 2, 1) := by decide +kernel
theorem dX5_come_123 : decode cX5_come 123 = .ok (.iastore, 1) := by decide +kernel
theorem dX5_come_124 : decode cX5_come 124 = .ok (.dup, 1) := by decide +kernel
theorem dX5_come_125 : decode cX5_come 125 = .ok (.bipush 7, 2) := by decide +kernel
theorem dX5_come_127 : decode cX5_come 127 = .ok (.iconst 3, 1) := by decide +kernel
theorem dX5_come_128 : decode cX5_come 128 = .ok (.iastore, 1) := by decide +kernel
theorem dX5_come_129 : decode cX5_come 129 = .ok (.dup, 1) := by decide +kernel
theorem dX5_come_130 : decode cX5_come 130 = .ok (.bipush 8, 2) := by decide +kernel
theorem dX5_come_132 : decode cX5_come 132 = .ok (.iload 4, 2) := by decide +kernel
theorem dX5_come_134 : decode cX5_come 134 = .ok (.iconst (-1), 1) := by decide +kernel
theorem dX5_come_135 : decode cX5_come 135 = .ok (.if_icmp .ne 7, 3) := by decide +kernel
theorem dX5_come_138 : decode cX5_come 138 = .ok (.iconst 0, 1) := by decide +kernel
theorem dX5_come_139 : decode cX5_come 139 = .ok (.goto 11, 3) := by decide +kernel
theorem dX5_come_142 : decode cX5_come 142 = .ok (.aload_n 0, 1) := by decide +kernel
theorem dX5_come_143 : decode cX5_come 143 = .ok (.iload 4, 2) := by decide +kernel
theorem dX5_come_145 : decode cX5_come 145 = .ok (.bipush 8, 2) := by decide +kernel
theorem dX5_come_147 : decode cX5_come 147 = .ok (.invokevirtual 26, 3) := by decide +kernel
theorem dX5_come_150 : decode cX5_come 150 = .ok (.iastore, 1) := by decide +kernel
theorem dX5_come_151 : decode cX5_come 151 = .ok (.astore 5, 2) := by decide +kernel
theorem dX5_come_153 : decode cX5_come 153 = .ok (.aload_n 0, 1) := by decide +kernel
theorem dX5_come_154 : decode cX5_come 154 = .ok (.getfield 9, 3) := by decide +kernel
theorem dX5_come_157 : decode cX5_come 157 = .ok (.sipush 680, 3) := by decide +kernel
theorem dX5_come_160 : decode cX5_come 160 = .ok (.dup2, 1) := by decide +kernel
theorem dX5_come_161 : decode cX5_come 161 = .ok (.iaload, 1) := by decide +kernel
theorem dX5_come_162 : decode cX5_come 162 = .ok (.dup_x2, 1) := by decide +kernel
theorem dX5_come_163 : decode cX5_come 163 = .ok (.iconst 1, 1) := by decide +kernel
theorem dX5_come_164 : decode cX5_come 164 = .ok (.iadd, 1) := by decide +kernel
theorem dX5_come_165 : decode cX5_come 165 = .ok (.iastore, 1) := by decide +kernel
theorem dX5_come_166 : decode cX5_come 166 = .ok (.istore 6, 2) := by decide +kernel
theorem dX5_come_168 : decode cX5_come 168 = .ok (.aload 5, 2) := by decide +kernel
theorem dX5_come_170 : decode cX5_come 170 = .ok (.iconst 0, 1) := by decide +kernel
theorem dX5_come_171 : decode cX5_come 171 = .ok (.aload_n 0, 1) := by decide +kernel
theorem dX5_come_172 : decode cX5_come 172 = .ok (.getfield 9, 3) := by decide +kernel
theorem dX5_come_175 : decode cX5_come 175 = .ok (.sipush 480, 3) := by decide +kernel
theorem dX5_come_178 : decode cX5_come 178 = .ok (.iload 6, 2) := by decide +kernel
theorem dX5_come_180 : decode cX5_come 180 = .ok (.bipush 20, 2) := by decide +kernel
theorem dX5_come_182 : decode cX5_come 182 = .ok (.imul, 1) := by decide +kernel
theorem dX5_come_183 : decode cX5_come 183 = .ok (.iadd, 1) := by decide +kernel
theorem dX5_come_184 : decode cX5_come 184 = .ok (.aload 5, 2) := by decide +kernel
theorem dX5_come_186 : decode cX5_come 186 = .ok (.arraylength, 1) := by decide +kernel
theorem dX5_come_187 : decode cX5_come 187 = .ok (.invokestatic 73, 3) := by decide +kernel
theorem dX5_come_190 : decode cX5_come 190 = .ok (.aload_n 0, 1) := by decide +kernel
theorem dX5_come_191 : decode cX5_come 191 = .ok (.iload 6, 2) := by decide +kernel
theorem dX5_come_193 : decode cX5_come 193 = .ok (.invokevirtual 79, 3) := by decide +kernel
theorem dX5_come_196 : decode cX5_come 196 = .ok (.iload 6, 2) := by decide +kernel
theorem dX5_come_198 : decode cX5_come 198 = .ok (.ireturn, 1) := by decide +kernel
set_option maxRecDepth 20000 in
theorem ggX5_become_X5_isBeing : GoodIn wsX5_become wsX5_isBeing := goodIn_r _ [6, 7, 8, 9, 5, 10, 23, 24, 25, 26] (by decide +kernel) (by decide +kernel)
set_option maxRecDepth 20000 in
theorem gX5_become_X5_isBeing : GoodIn wsX5_become (wsV RX5 83 RX5 yX5_isBeing wsX5_isBeing) := goodIn_app (goodIn_of _ (by decide +kernel)) ggX5_become_X5_isBeing
set_option maxRecDepth 20000 in
theorem ggX5_become_X5_no : GoodIn wsX5_become wsX5_no := goodIn_r _ [14, 1, 23, 24, 25, 26] (by decide +kernel) (by decide +kernel)
set_option maxRecDepth 20000 in
theorem gX5_become_X5_no : GoodIn wsX5_become (wsV RX5 30 RX5 yX5_no wsX5_no) := goodIn_app (goodIn_of _ (by decide +kernel)) ggX5_become_X5_no
set_option maxRecDepth 20000 in
theorem ggX5_become_X5_isIn : GoodIn wsX5_become wsX5_isIn := goodIn_r _ [10] (by decide +kernel) (by decide +kernel)
set_option maxRecDepth 20000 in
theorem gX5_become_X5_isIn : GoodIn wsX5_become (va_wsS RX5 22 yX5_isIn wsX5_isIn) := goodIn_app (goodIn_of _ (by decide +kernel)) ggX5_become_X5_isIn
set_option maxRecDepth 20000 in
theorem ggX5_become_X5_its : GoodIn wsX5_become wsX5_its := goodIn_r _ [18, 7, 23, 24, 25, 26] (by decide +kernel) (by decide +kernel)
set_option maxRecDepth 20000 in
theorem gX5_become_X5_its : GoodIn wsX5_become (wsV RX5 26 RX5 yX5_its wsX5_its) := goodIn_app (goodIn_of _ (by decide +kernel)) ggX5_become_X5_its
set_option maxRecDepth 20000 in
theorem ggX5_become_X5_put : GoodIn wsX5_become wsX5_put := goodIn_r _ [22, 7, 23, 24, 25, 26] (by decide +kernel) (by decide +kernel)
set_option maxRecDepth 20000 in
theorem gX5_become_X5_put : GoodIn wsX5_become (wsV RX5 86 RX5 yX5_put wsX5_put) := goodIn_app (goodIn_of _ (by decide +kernel)) ggX5_become_X5_put
theorem dX5_become_0 : decode cX5_become 0 = .ok (.aload_n 0, 1) := by decide +kernel
theorem dX5_become_1 : decode cX5_become 1 = .ok (.iconst 0, 1) := by decide +kernel
theorem dX5_become_2 : decode cX5_become 2 = .ok (.putfield 18, 3) := by decide +kernel
theorem dX5_become_5 : decode cX5_become 5 = .ok (.aload_n 0, 1) := by decide +kernel
theorem dX5_become_6 : decode cX5_become 6 = .ok (.iload_n 1, 1) := by decide +kernel
theorem dX5_become_7 : decode cX5_become 7 = .ok (.invokevirtual 83, 3) := by decide +kernel
theorem dX5_become_10 : decode cX5_become 10 = .ok (.ifCond .ne 9, 3) := by decide +kernel
theorem dX5_become_13 : decode cX5_become 13 = .ok (.aload_n 0, 1) := by decide +kernel
theorem dX5_become_14 : decode cX5_become 14 = .ok (.iconst 1, 1) := by decide +kernel
theorem dX5_become_15 : decode cX5_become 15 = .ok (.invokevirtual 30, 3) := by decide +kernel
theorem dX5_become_18 : decode cX5_become 18 = .ok (.ireturn, 1) := by decide +kernel
theorem dX5_become_19 : decode cX5_become 19 = .ok (.iload_n 2, 1) := by decide +kernel
theorem dX5_become_20 : decode cX5_become 20 = .ok (.iconst 0, 1) := by decide +kernel
theorem dX5_become_21 : decode cX5_become 21 = .ok (.bipush 20, 2) := by decide +kernel
theorem dX5_become_23 : decode cX5_become 23 = .ok (.invokestatic 22, 3) := by decide +kernel
theorem dX5_become_26 : decode cX5_become 26 = .ok (.ifCond .eq 23, 3) := by decide +kernel
theorem dX5_become_29 : decode cX5_become 29 = .ok (.iload_n 3, 1) := by decide +kernel
theorem dX5_become_30 : decode cX5_become 30 = .ok (.iconst 0, 1) := by decide +kernel
theorem dX5_become_31 : decode cX5_become 31 = .ok (.bipush 20, 2) := by decide +kernel
theorem dX5_become_33 : decode cX5_become 33 = .ok (.invokestatic 22, 3) := by decide +kernel
theorem dX5_become_36 : decode cX5_become 36 = .ok (.ifCond .eq 13, 3) := by decide +kernel
theorem dX5_become_39 : decode cX5_become 39 = .ok (.iload 4, 2) := by decide +kernel
theorem dX5_become_41 : decode cX5_become 41 = .ok (.iconst 1, 1) := by decide +kernel
theorem dX5_become_42 : decode cX5_become 42 = .ok (.iconst 4, 1) := by decide +kernel
theorem dX5_become_43 : decode cX5_become 43 = .ok (.invokestatic 22, 3) := by decide +kernel
theorem dX5_become_46 : decode cX5_become 46 = .ok (.ifCond .ne 9, 3) := by decide +kernel
theorem dX5_become_49 : decode cX5_become 49 = .ok (.aload_n 0, 1) := by decide +kernel
theorem dX5_become_50 : decode cX5_become 50 = .ok (.iconst 2, 1) := by decide +kernel
theorem dX5_become_51 : decode cX5_become 51 = .ok (.invokevirtual 30, 3) := by decide +kernel
theorem dX5_become_54 : decode cX5_become 54 = .ok (.ireturn, 1) := by decide +kernel
theorem dX5_become_55 : decode cX5_become 55 = .ok (.aload_n 0, 1) := by decide +kernel
theorem dX5_become_56 : decode cX5_become 56 = .ok (.iload_n 1, 1) := by decide +kernel
theorem dX5_become_57 : decode cX5_become 57 = .ok (.iconst 4, 1) := by decide +kernel
theorem dX5_become_58 : decode cX5_become 58 = .ok (.invokevirtual 26, 3) := by decide +kernel
theorem dX5_become_61 : decode cX5_become 61 = .ok (.istore 5, 2) := by decide +kernel
theorem dX5_become_63 : decode cX5_become 63 = .ok (.aload_n 0, 1) := by decide +kernel
theorem dX5_become_64 : decode cX5_become 64 = .ok (.iload_n 1, 1) := by decide +kernel
theorem dX5_become_65 : decode cX5_become 65 = .ok (.iconst 4, 1) := by decide +kernel
theorem dX5_become_66 : decode cX5_become 66 = .ok (.iload_n 2, 1) := by decide +kernel
theorem dX5_become_67 : decode cX5_become 67 = .ok (.invokevirtual 86, 3) := by decide +kernel
theorem dX5_become_70 : decode cX5_become 70 = .ok (.aload_n 0, 1) := by decide +kernel
theorem dX5_become_71 : decode cX5_become 71 = .ok (.iload_n 1, 1) := by decide +kernel
theorem dX5_become_72 : decode cX5_become 72 = .ok (.iconst 5, 1) := by decide +kernel
theorem dX5_become_73 : decode cX5_become 73 = .ok (.iload_n 3, 1) := by decide +kernel
theorem dX5_become_74 : decode cX5_become 74 = .ok (.invokevirtual 86, 3) := by decide +kernel
theorem dX5_become_77 : decode cX5_become 77 = .ok (.aload_n 0, 1) := by decide +kernel
theorem dX5_become_78 : decode cX5_become 78 = .ok (.iload_n 1, 1) := by decide +kernel
theorem dX5_become_79 : decode cX5_become 79 = .ok (.bipush 6, 2) := by decide +kernel
theorem dX5_become_81 : decode cX5_become 81 = .ok (.iload 4, 2) := by decide +kernel
theorem dX5_become_83 : decode cX5_become 83 = .ok (.invokevirtual 86, 3) := by decide +kernel
theorem dX5_become_86 : decode cX5_become 86 = .ok (.iload 5, 2) := by decide +kernel
theorem dX5_become_88 : decode cX5_become 88 = .ok (.ireturn, 1) := by decide +kernel
set_option maxRecDepth 20000 in
theorem ggX5_layNow_X5_its : GoodIn wsX5_layNow wsX5_its := goodIn_r _ [12, 13, 18, 19, 20, 21] (by decide +kernel) (by decide +kernel)
set_option maxRecDepth 20000 in
theorem gX5_layNow_X5_its : GoodIn wsX5_layNow (wsV RX5 26 RX5 yX5_its wsX5_its) := goodIn_app (goodIn_of _ (by decide +kernel)) ggX5_layNow_X5_its
set_option maxRecDepth 20000 in
theorem ggX5_layNow_X5_put : GoodIn wsX5_layNow wsX5_put := goodIn_r _ [17, 13, 18, 19, 20, 21] (by decide +kernel) (by decide +kernel)
set_option maxRecDepth 20000 in
theorem gX5_layNow_X5_put : GoodIn wsX5_layNow (wsV RX5 86 RX5 yX5_put wsX5_put) := goodIn_app (goodIn_of _ (by decide +kernel)) ggX5_layNow_X5_put
theorem dX5_layNow_0 : decode cX5_layNow 0 = .ok (.aload_n 0, 1) := by decide +kernel
theorem dX5_layNow_1 : decode cX5_layNow 1 = .ok (.iload_n 1, 1) := by decide +kernel
theorem dX5_layNow_2 : decode cX5_layNow 2 = .ok (.bipush 10, 2) := by decide +kernel
theorem dX5_layNow_4 : decode cX5_layNow 4 = .ok (.iload_n 2, 1) := by decide +kernel
theorem dX5_layNow_5 : decode cX5_layNow 5 = .ok (.iadd, 1) := by decide +kernel
theorem dX5_layNow_6 : decode cX5_layNow 6 = .ok (.bipush 9, 2) := by decide +kernel
theorem dX5_layNow_8 : decode cX5_layNow 8 = .ok (.aload_n 0, 1) := by decide +kernel
theorem dX5_layNow_9 : decode cX5_layNow 9 = .ok (.iload_n 1, 1) := by decide +kernel
theorem dX5_layNow_10 : decode cX5_layNow 10 = .ok (.bipush 10, 2) := by decide +kernel
theorem dX5_layNow_12 : decode cX5_layNow 12 = .ok (.iload_n 2, 1) := by decide +kernel
theorem dX5_layNow_13 : decode cX5_layNow 13 = .ok (.iadd, 1) := by decide +kernel
theorem dX5_layNow_14 : decode cX5_layNow 14 = .ok (.invokevirtual 26, 3) := by decide +kernel
theorem dX5_layNow_17 : decode cX5_layNow 17 = .ok (.iload_n 3, 1) := by decide +kernel
theorem dX5_layNow_18 : decode cX5_layNow 18 = .ok (.iadd, 1) := by decide +kernel
theorem dX5_layNow_19 : decode cX5_layNow 19 = .ok (.invokestatic 90, 3) := by decide +kernel
theorem dX5_layNow_22 : decode cX5_layNow 22 = .ok (.invokevirtual 86, 3) := by decide +kernel
theorem dX5_layNow_25 : decode cX5_layNow 25 = .ok (.aload_n 0, 1) := by decide +kernel
theorem dX5_layNow_26 : decode cX5_layNow 26 = .ok (.iload_n 1, 1) := by decide +kernel
theorem dX5_layNow_27 : decode cX5_layNow 27 = .ok (.bipush 15, 2) := by decide +kernel
theorem dX5_layNow_29 : decode cX5_layNow 29 = .ok (.iload_n 2, 1) := by decide +kernel
theorem dX5_layNow_30 : decode cX5_layNow 30 = .ok (.iadd, 1) := by decide +kernel
theorem dX5_layNow_31 : decode cX5_layNow 31 = .ok (.aload_n 0, 1) := by decide +kernel
theorem dX5_layNow_32 : decode cX5_layNow 32 = .ok (.iload_n 1, 1) := by decide +kernel
theorem dX5_layNow_33 : decode cX5_layNow 33 = .ok (.bipush 15, 2) := by decide +kernel
theorem dX5_layNow_35 : decode cX5_layNow 35 = .ok (.iload_n 2, 1) := by decide +kernel
theorem dX5_layNow_36 : decode cX5_layNow 36 = .ok (.iadd, 1) := by decide +kernel
theorem dX5_layNow_37 : decode cX5_layNow 37 = .ok (.invokevirtual 26, 3) := by decide +kernel
theorem dX5_layNow_40 : decode cX5_layNow 40 = .ok (.iload 4, 2) := by decide +kernel
theorem dX5_layNow_42 : decode cX5_layNow 42 = .ok (.invokestatic 49, 3) := by decide +kernel
theorem dX5_layNow_45 : decode cX5_layNow 45 = .ok (.invokevirtual 86, 3) := by decide +kernel
theorem dX5_layNow_48 : decode cX5_layNow 48 = .ok (.return_, 1) := by decide +kernel
set_option maxRecDepth 20000 in
theorem ggX5_lay_X5_isBeing : GoodIn wsX5_lay wsX5_isBeing := goodIn_r _ [6, 7, 8, 9, 5, 10, 38, 39, 40, 41] (by decide +kernel) (by decide +kernel)
set_option maxRecDepth 20000 in
theorem gX5_lay_X5_isBeing : GoodIn wsX5_lay (wsV RX5 83 RX5 yX5_isBeing wsX5_isBeing) := goodIn_app (goodIn_of _ (by decide +kernel)) ggX5_lay_X5_isBeing
set_option maxRecDepth 20000 in
theorem ggX5_lay_X5_no : GoodIn wsX5_lay wsX5_no := goodIn_r _ [14, 1, 38, 39, 40, 41] (by decide +kernel) (by decide +kernel)
set_option maxRecDepth 20000 in
theorem gX5_lay_X5_no : GoodIn wsX5_lay (wsV RX5 30 RX5 yX5_no wsX5_no) := goodIn_app (goodIn_of _ (by decide +kernel)) ggX5_lay_X5_no
set_option maxRecDepth 20000 in
theorem ggX5_lay_X5_isIn : GoodIn wsX5_lay wsX5_isIn := goodIn_r _ [10] (by decide +kernel) (by decide +kernel)
set_option maxRecDepth 20000 in
theorem gX5_lay_X5_isIn : GoodIn wsX5_lay (va_wsS RX5 22 yX5_isIn wsX5_isIn) := goodIn_app (goodIn_of _ (by decide +kernel)) ggX5_lay_X5_isIn
set_option maxRecDepth 20000 in
theorem ggX5_lay_X5_isAlive : GoodIn wsX5_lay wsX5_isAlive := goodIn_r _ [18, 19, 20, 21, 5, 22, 7, 38, 39, 40, 41] (by decide +kernel) (by decide +kernel)
set_option maxRecDepth 20000 in
theorem gX5_lay_X5_isAlive : GoodIn wsX5_lay (wsV RX5 66 RX5 yX5_isAlive wsX5_isAlive) := goodIn_app (goodIn_of _ (by decide +kernel)) ggX5_lay_X5_isAlive
set_option maxRecDepth 20000 in
theorem ggX5_lay_X5_layNow : GoodIn wsX5_lay wsX5_layNow := goodIn_r _ [26, 27, 28, 29, 30, 31, 32, 33, 19, 20, 21, 5, 22, 7, 34, 35, 36, 37, 38, 39, 40, 41] (by decide +kernel) (by decide +kernel)
set_option maxRecDepth 20000 in
theorem gX5_lay_X5_layNow : GoodIn wsX5_lay (wsV RX5 93 RX5 yX5_layNow wsX5_layNow) := goodIn_app (goodIn_of _ (by decide +kernel)) ggX5_lay_X5_layNow
set_option maxRecDepth 20000 in
theorem ggX5_lay_X5_its : GoodIn wsX5_lay wsX5_its := goodIn_r _ [22, 7, 38, 39, 40, 41] (by decide +kernel) (by decide +kernel)
set_option maxRecDepth 20000 in
theorem gX5_lay_X5_its : GoodIn wsX5_lay (wsV RX5 26 RX5 yX5_its wsX5_its) := goodIn_app (goodIn_of _ (by decide +kernel)) ggX5_lay_X5_its
theorem dX5_lay_0 : decode cX5_lay 0 = .ok (.aload_n 0, 1) := by decide +kernel
theorem dX5_lay_1 : decode cX5_lay 1 = .ok (.iconst 0, 1) := by decide +kernel
theorem dX5_lay_2 : decode cX5_lay 2 = .ok (.putfield 18, 3) := by decide +kernel
theorem dX5_lay_5 : decode cX5_lay 5 = .ok (.aload_n 0, 1) := by decide +kernel
theorem dX5_lay_6 : decode cX5_lay 6 = .ok (.iload_n 1, 1) := by decide +kernel
theorem dX5_lay_7 : decode cX5_lay 7 = .ok (.invokevirtual 83, 3) := by decide +kernel
theorem dX5_lay_10 : decode cX5_lay 10 = .ok (.ifCond .ne 9, 3) := by decide +kernel
theorem dX5_lay_13 : decode cX5_lay 13 = .ok (.aload_n 0, 1) := by decide +kernel
theorem dX5_lay_14 : decode cX5_lay 14 = .ok (.iconst 1, 1) := by decide +kernel
theorem dX5_lay_15 : decode cX5_lay 15 = .ok (.invokevirtual 30, 3) := by decide +kernel
theorem dX5_lay_18 : decode cX5_lay 18 = .ok (.ireturn, 1) := by decide +kernel
theorem dX5_lay_19 : decode cX5_lay 19 = .ok (.iload_n 2, 1) := by decide +kernel
theorem dX5_lay_20 : decode cX5_lay 20 = .ok (.iconst 0, 1) := by decide +kernel
theorem dX5_lay_21 : decode cX5_lay 21 = .ok (.iconst 4, 1) := by decide +kernel
theorem dX5_lay_22 : decode cX5_lay 22 = .ok (.invokestatic 22, 3) := by decide +kernel
theorem dX5_lay_25 : decode cX5_lay 25 = .ok (.ifCond .eq 24, 3) := by decide +kernel
theorem dX5_lay_28 : decode cX5_lay 28 = .ok (.iload_n 3, 1) := by decide +kernel
theorem dX5_lay_29 : decode cX5_lay 29 = .ok (.iconst 1, 1) := by decide +kernel
theorem dX5_lay_30 : decode cX5_lay 30 = .ok (.bipush 9, 2) := by decide +kernel
theorem dX5_lay_32 : decode cX5_lay 32 = .ok (.invokestatic 22, 3) := by decide +kernel
theorem dX5_lay_35 : decode cX5_lay 35 = .ok (.ifCond .eq 14, 3) := by decide +kernel
theorem dX5_lay_38 : decode cX5_lay 38 = .ok (.iload 4, 2) := by decide +kernel
theorem dX5_lay_40 : decode cX5_lay 40 = .ok (.iconst 1, 1) := by decide +kernel
theorem dX5_lay_41 : decode cX5_lay 41 = .ok (.bipush 20, 2) := by decide +kernel
theorem dX5_lay_43 : decode cX5_lay 43 = .ok (.invokestatic 22, 3) := by decide +kernel
theorem dX5_lay_46 : decode cX5_lay 46 = .ok (.ifCond .ne 9, 3) := by decide +kernel
theorem dX5_lay_49 : decode cX5_lay 49 = .ok (.aload_n 0, 1) := by decide +kernel
theorem dX5_lay_50 : decode cX5_lay 50 = .ok (.iconst 2, 1) := by decide +kernel
theorem dX5_lay_51 : decode cX5_lay 51 = .ok (.invokevirtual 30, 3) := by decide +kernel
theorem dX5_lay_54 : decode cX5_lay 54 = .ok (.ireturn, 1) := by decide +kernel
theorem dX5_lay_55 : decode cX5_lay 55 = .ok (.aload_n 0, 1) := by decide +kernel
theorem dX5_lay_56 : decode cX5_lay 56 = .ok (.iload_n 1, 1) := by decide +kernel
theorem dX5_lay_57 : decode cX5_lay 57 = .ok (.invokevirtual 66, 3) := by decide +kernel
theorem dX5_lay_60 : decode cX5_lay 60 = .ok (.ifCond .ne 9, 3) := by decide +kernel
theorem dX5_lay_63 : decode cX5_lay 63 = .ok (.aload_n 0, 1) := by decide +kernel
theorem dX5_lay_64 : decode cX5_lay 64 = .ok (.iconst 3, 1) := by decide +kernel
theorem dX5_lay_65 : decode cX5_lay 65 = .ok (.invokevirtual 30, 3) := by decide +kernel
theorem dX5_lay_68 : decode cX5_lay 68 = .ok (.ireturn, 1) := by decide +kernel
theorem dX5_lay_69 : decode cX5_lay 69 = .ok (.aload_n 0, 1) := by decide +kernel
theorem dX5_lay_70 : decode cX5_lay 70 = .ok (.iload_n 1, 1) := by decide +kernel
theorem dX5_lay_71 : decode cX5_lay 71 = .ok (.iload_n 2, 1) := by decide +kernel
theorem dX5_lay_72 : decode cX5_lay 72 = .ok (.iload_n 3, 1) := by decide +kernel
theorem dX5_lay_73 : decode cX5_lay 73 = .ok (.iload 4, 2) := by decide +kernel
theorem dX5_lay_75 : decode cX5_lay 75 = .ok (.invokevirtual 93, 3) := by decide +kernel
theorem dX5_lay_78 : decode cX5_lay 78 = .ok (.aload_n 0, 1) := by decide +kernel
theorem dX5_lay_79 : decode cX5_lay 79 = .ok (.iload_n 1, 1) := by decide +kernel
theorem dX5_lay_80 : decode cX5_lay 80 = .ok (.bipush 10, 2) := by decide +kernel
theorem dX5_lay_82 : decode cX5_lay 82 = .ok (.iload_n 2, 1) := by decide +kernel
theorem dX5_lay_83 : decode cX5_lay 83 = .ok (.iadd, 1) := by decide +kernel
theorem dX5_lay_84 : decode cX5_lay 84 = .ok (.invokevirtual 26, 3) := by decide +kernel
theorem dX5_lay_87 : decode cX5_lay 87 = .ok (.ireturn, 1) := by decide +kernel
set_option maxRecDepth 20000 in
theorem ggX5_isAfraid_X5_its : GoodIn wsX5_isAfraid wsX5_its := goodIn_r _ [5, 6, 7, 8, 9, 10] (by decide +kernel) (by decide +kernel)
set_option maxRecDepth 20000 in
theorem gX5_isAfraid_X5_its : GoodIn wsX5_isAfraid (wsV RX5 26 RX5 yX5_its wsX5_its) := goodIn_app (goodIn_of _ (by decide +kernel)) ggX5_isAfraid_X5_its
theorem dX5_isAfraid_0 : decode cX5_isAfraid 0 = .ok (.iconst 3, 1) := by decide +kernel
theorem dX5_isAfraid_1 : decode cX5_isAfraid 1 = .ok (.aload_n 0, 1) := by decide +kernel
theorem dX5_isAfraid_2 : decode cX5_isAfraid 2 = .ok (.iload_n 1, 1) := by decide +kernel
theorem dX5_isAfraid_3 : decode cX5_isAfraid 3 = .ok (.iconst 2, 1) := by decide +kernel
theorem dX5_isAfraid_4 : decode cX5_isAfraid 4 = .ok (.invokevirtual 26, 3) := by decide +kernel
theorem dX5_isAfraid_7 : decode cX5_isAfraid 7 = .ok (.imul, 1) := by decide +kernel
theorem dX5_isAfraid_8 : decode cX5_isAfraid 8 = .ok (.aload_n 0, 1) := by decide +kernel
theorem dX5_isAfraid_9 : decode cX5_isAfraid 9 = .ok (.iload_n 1, 1) := by decide +kernel
theorem dX5_isAfraid_10 : decode cX5_isAfraid 10 = .ok (.iconst 3, 1) := by decide +kernel
theorem dX5_isAfraid_11 : decode cX5_isAfraid 11 = .ok (.invokevirtual 26, 3) := by decide +kernel
theorem dX5_isAfraid_14 : decode cX5_isAfraid 14 = .ok (.if_icmp .ge 7, 3) := by decide +kernel
theorem dX5_isAfraid_17 : decode cX5_isAfraid 17 = .ok (.iconst 1, 1) := by decide +kernel
theorem dX5_isAfraid_18 : decode cX5_isAfraid 18 = .ok (.goto 4, 3) := by decide +kernel
theorem dX5_isAfraid_21 : decode cX5_isAfraid 21 = .ok (.iconst 0, 1) := by decide +kernel
theorem dX5_isAfraid_22 : decode cX5_isAfraid 22 = .ok (.ireturn, 1) := by decide +kernel
set_option maxRecDepth 20000 in
theorem ggX5_ofNow_X5_isAfraid : GoodIn wsX5_ofNow wsX5_isAfraid := goodIn_r _ [5, 6, 7, 8, 4, 9, 10, 11, 12, 13, 14] (by decide +kernel) (by decide +kernel)
set_option maxRecDepth 20000 in
theorem gX5_ofNow_X5_isAfraid : GoodIn wsX5_ofNow (wsV RX5 97 RX5 yX5_isAfraid wsX5_isAfraid) := goodIn_app (goodIn_of _ (by decide +kernel)) ggX5_ofNow_X5_isAfraid
set_option maxRecDepth 20000 in
theorem ggX5_ofNow_X5_its : GoodIn wsX5_ofNow wsX5_its := goodIn_r _ [9, 10, 11, 12, 13, 14] (by decide +kernel) (by decide +kernel)
set_option maxRecDepth 20000 in
theorem gX5_ofNow_X5_its : GoodIn wsX5_ofNow (wsV RX5 26 RX5 yX5_its wsX5_its) := goodIn_app (goodIn_of _ (by decide +kernel)) ggX5_ofNow_X5_its
theorem dX5_ofNow_0 : decode cX5_ofNow 0 = .ok (.iload_n 2, 1) := by decide +kernel
theorem dX5_ofNow_1 : decode cX5_ofNow 1 = .ok (.bipush 9, 2) := by decide +kernel
theorem dX5_ofNow_3 : decode cX5_ofNow 3 = .ok (.if_icmp .ne 19, 3) := by decide +kernel
theorem dX5_ofNow_6 : decode cX5_ofNow 6 = .ok (.aload_n 0, 1) := by decide +kernel
theorem dX5_ofNow_7 : decode cX5_ofNow 7 = .ok (.iload_n 1, 1) := by decide +kernel
theorem dX5_ofNow_8 : decode cX5_ofNow 8 = .ok (.invokevirtual 97, 3) := by decide +kernel
theorem dX5_ofNow_11 : decode cX5_ofNow 11 = .ok (.ifCond .eq 7, 3) := by decide +kernel
theorem dX5_ofNow_14 : decode cX5_ofNow 14 = .ok (.iconst 1, 1) := by decide +kernel
theorem dX5_ofNow_15 : decode cX5_ofNow 15 = .ok (.goto 13, 3) := by decide +kernel
theorem dX5_ofNow_18 : decode cX5_ofNow 18 = .ok (.iconst 0, 1) := by decide +kernel
theorem dX5_ofNow_19 : decode cX5_ofNow 19 = .ok (.goto 9, 3) := by decide +kernel
theorem dX5_ofNow_22 : decode cX5_ofNow 22 = .ok (.aload_n 0, 1) := by decide +kernel
theorem dX5_ofNow_23 : decode cX5_ofNow 23 = .ok (.iload_n 1, 1) := by decide +kernel
theorem dX5_ofNow_24 : decode cX5_ofNow 24 = .ok (.iload_n 2, 1) := by decide +kernel
theorem dX5_ofNow_25 : decode cX5_ofNow 25 = .ok (.invokevirtual 26, 3) := by decide +kernel
theorem dX5_ofNow_28 : decode cX5_ofNow 28 = .ok (.ireturn, 1) := by decide +kernel
set_option maxRecDepth 20000 in
theorem ggX5_of_X5_isBeing : GoodIn wsX5_of wsX5_isBeing := goodIn_r _ [6, 7, 8, 9, 5, 10, 27, 28, 29, 30] (by decide +kernel) (by decide +kernel)
set_option maxRecDepth 20000 in
theorem gX5_of_X5_isBeing : GoodIn wsX5_of (wsV RX5 83 RX5 yX5_isBeing wsX5_isBeing) := goodIn_app (goodIn_of _ (by decide +kernel)) ggX5_of_X5_isBeing
set_option maxRecDepth 20000 in
theorem ggX5_of_X5_no : GoodIn wsX5_of wsX5_no := goodIn_r _ [14, 1, 27, 28, 29, 30] (by decide +kernel) (by decide +kernel)
set_option maxRecDepth 20000 in
theorem gX5_of_X5_no : GoodIn wsX5_of (wsV RX5 30 RX5 yX5_no wsX5_no) := goodIn_app (goodIn_of _ (by decide +kernel)) ggX5_of_X5_no
set_option maxRecDepth 20000 in
theorem ggX5_of_X5_isIn : GoodIn wsX5_of wsX5_isIn := goodIn_r _ [10] (by decide +kernel) (by decide +kernel)
set_option maxRecDepth 20000 in
theorem gX5_of_X5_isIn : GoodIn wsX5_of (va_wsS RX5 22 yX5_isIn wsX5_isIn) := goodIn_app (goodIn_of _ (by decide +kernel)) ggX5_of_X5_isIn
set_option maxRecDepth 20000 in
theorem ggX5_of_X5_ofNow : GoodIn wsX5_of wsX5_ofNow := goodIn_r _ [18, 19, 20, 21, 5, 22, 23, 24, 25, 26, 7, 27, 28, 29, 30] (by decide +kernel) (by decide +kernel)
set_option maxRecDepth 20000 in
theorem gX5_of_X5_ofNow : GoodIn wsX5_of (wsV RX5 100 RX5 yX5_ofNow wsX5_ofNow) := goodIn_app (goodIn_of _ (by decide +kernel)) ggX5_of_X5_ofNow
theorem dX5_of_0 : decode cX5_of 0 = .ok (.aload_n 0, 1) := by decide +kernel
theorem dX5_of_1 : decode cX5_of 1 = .ok (.iconst 0, 1) := by decide +kernel
theorem dX5_of_2 : decode cX5_of 2 = .ok (.putfield 18, 3) := by decide +kernel
theorem dX5_of_5 : decode cX5_of 5 = .ok (.aload_n 0, 1) := by decide +kernel
theorem dX5_of_6 : decode cX5_of 6 = .ok (.iload_n 1, 1) := by decide +kernel
theorem dX5_of_7 : decode cX5_of 7 = .ok (.invokevirtual 83, 3) := by decide +kernel
theorem dX5_of_10 : decode cX5_of 10 = .ok (.ifCond .ne 9, 3) := by decide +kernel
theorem dX5_of_13 : decode cX5_of 13 = .ok (.aload_n 0, 1) := by decide +kernel
theorem dX5_of_14 : decode cX5_of 14 = .ok (.iconst 1, 1) := by decide +kernel
theorem dX5_of_15 : decode cX5_of 15 = .ok (.invokevirtual 30, 3) := by decide +kernel
theorem dX5_of_18 : decode cX5_of 18 = .ok (.ireturn, 1) := by decide +kernel
theorem dX5_of_19 : decode cX5_of 19 = .ok (.iload_n 2, 1) := by decide +kernel
theorem dX5_of_20 : decode cX5_of 20 = .ok (.iconst 0, 1) := by decide +kernel
theorem dX5_of_21 : decode cX5_of 21 = .ok (.bipush 9, 2) := by decide +kernel
theorem dX5_of_23 : decode cX5_of 23 = .ok (.invokestatic 22, 3) := by decide +kernel
theorem dX5_of_26 : decode cX5_of 26 = .ok (.ifCond .eq 12, 3) := by decide +kernel
theorem dX5_of_29 : decode cX5_of 29 = .ok (.aload_n 0, 1) := by decide +kernel
theorem dX5_of_30 : decode cX5_of 30 = .ok (.iload_n 1, 1) := by decide +kernel
theorem dX5_of_31 : decode cX5_of 31 = .ok (.iload_n 2, 1) := by decide +kernel
theorem dX5_of_32 : decode cX5_of 32 = .ok (.invokevirtual 100, 3) := by decide +kernel
theorem dX5_of_35 : decode cX5_of 35 = .ok (.goto 8, 3) := by decide +kernel
theorem dX5_of_38 : decode cX5_of 38 = .ok (.aload_n 0, 1) := by decide +kernel
theorem dX5_of_39 : decode cX5_of 39 = .ok (.iconst 2, 1) := by decide +kernel
theorem dX5_of_40 : decode cX5_of 40 = .ok (.invokevirtual 30, 3) := by decide +kernel
theorem dX5_of_43 : decode cX5_of 43 = .ok (.ireturn, 1) := by decide +kernel
set_option maxRecDepth 20000 in
theorem ggX5_effect_X5_isBeing : GoodIn wsX5_effect wsX5_isBeing := goodIn_r _ [6, 7, 8, 9, 5, 10, 19, 20, 21, 22] (by decide +kernel) (by decide +kernel)
set_option maxRecDepth 20000 in
theorem gX5_effect_X5_isBeing : GoodIn wsX5_effect (wsV RX5 83 RX5 yX5_isBeing wsX5_isBeing) := goodIn_app (goodIn_of _ (by decide +kernel)) ggX5_effect_X5_isBeing
set_option maxRecDepth 20000 in
theorem ggX5_effect_X5_no : GoodIn wsX5_effect wsX5_no := goodIn_r _ [14, 1, 19, 20, 21, 22] (by decide +kernel) (by decide +kernel)
set_option maxRecDepth 20000 in
theorem gX5_effect_X5_no : GoodIn wsX5_effect (wsV RX5 30 RX5 yX5_no wsX5_no) := goodIn_app (goodIn_of _ (by decide +kernel)) ggX5_effect_X5_no
set_option maxRecDepth 20000 in
theorem ggX5_effect_X5_isIn : GoodIn wsX5_effect wsX5_isIn := goodIn_r _ [10] (by decide +kernel) (by decide +kernel)
set_option maxRecDepth 20000 in
theorem gX5_effect_X5_isIn : GoodIn wsX5_effect (va_wsS RX5 22 yX5_isIn wsX5_isIn) := goodIn_app (goodIn_of _ (by decide +kernel)) ggX5_effect_X5_isIn
set_option maxRecDepth 20000 in
theorem ggX5_effect_X5_its : GoodIn wsX5_effect wsX5_its := goodIn_r _ [18, 7, 19, 20, 21, 22] (by decide +kernel) (by decide +kernel)
set_option maxRecDepth 20000 in
theorem gX5_effect_X5_its : GoodIn wsX5_effect (wsV RX5 26 RX5 yX5_its wsX5_its) := goodIn_app (goodIn_of _ (by decide +kernel)) ggX5_effect_X5_its
theorem dX5_effect_0 : decode cX5_effect 0 = .ok (.aload_n 0, 1) := by decide +kernel
theorem dX5_effect_1 : decode cX5_effect 1 = .ok (.iconst 0, 1) := by decide +kernel
theorem dX5_effect_2 : decode cX5_effect 2 = .ok (.putfield 18, 3) := by decide +kernel
theorem dX5_effect_5 : decode cX5_effect 5 = .ok (.aload_n 0, 1) := by decide +kernel
theorem dX5_effect_6 : decode cX5_effect 6 = .ok (.iload_n 1, 1) := by decide +kernel
theorem dX5_effect_7 : decode cX5_effect 7 = .ok (.invokevirtual 83, 3) := by decide +kernel
theorem dX5_effect_10 : decode cX5_effect 10 = .ok (.ifCond .ne 9, 3) := by decide +kernel
theorem dX5_effect_13 : decode cX5_effect 13 = .ok (.aload_n 0, 1) := by decide +kernel
theorem dX5_effect_14 : decode cX5_effect 14 = .ok (.iconst 1, 1) := by decide +kernel
theorem dX5_effect_15 : decode cX5_effect 15 = .ok (.invokevirtual 30, 3) := by decide +kernel
theorem dX5_effect_18 : decode cX5_effect 18 = .ok (.ireturn, 1) := by decide +kernel
theorem dX5_effect_19 : decode cX5_effect 19 = .ok (.iload_n 2, 1) := by decide +kernel
theorem dX5_effect_20 : decode cX5_effect 20 = .ok (.iconst 0, 1) := by decide +kernel
theorem dX5_effect_21 : decode cX5_effect 21 = .ok (.iconst 4, 1) := by decide +kernel
theorem dX5_effect_22 : decode cX5_effect 22 = .ok (.invokestatic 22, 3) := by decide +kernel
theorem dX5_effect_25 : decode cX5_effect 25 = .ok (.ifCond .eq 24, 3) := by decide +kernel
theorem dX5_effect_28 : decode cX5_effect 28 = .ok (.aload_n 0, 1) := by decide +kernel
theorem dX5_effect_29 : decode cX5_effect 29 = .ok (.iload_n 1, 1) := by decide +kernel
theorem dX5_effect_30 : decode cX5_effect 30 = .ok (.iload_n 3, 1) := by decide +kernel
theorem dX5_effect_31 : decode cX5_effect 31 = .ok (.ifCond .eq 8, 3) := by decide +kernel
theorem dX5_effect_34 : decode cX5_effect 34 = .ok (.bipush 15, 2) := by decide +kernel
theorem dX5_effect_36 : decode cX5_effect 36 = .ok (.goto 5, 3) := by decide +kernel
theorem dX5_effect_39 : decode cX5_effect 39 = .ok (.bipush 10, 2) := by decide +kernel
theorem dX5_effect_41 : decode cX5_effect 41 = .ok (.iload_n 2, 1) := by decide +kernel
theorem dX5_effect_42 : decode cX5_effect 42 = .ok (.iadd, 1) := by decide +kernel
theorem dX5_effect_43 : decode cX5_effect 43 = .ok (.invokevirtual 26, 3) := by decide +kernel
theorem dX5_effect_46 : decode cX5_effect 46 = .ok (.goto 8, 3) := by decide +kernel
theorem dX5_effect_49 : decode cX5_effect 49 = .ok (.aload_n 0, 1) := by decide +kernel
theorem dX5_effect_50 : decode cX5_effect 50 = .ok (.iconst 2, 1) := by decide +kernel
theorem dX5_effect_51 : decode cX5_effect 51 = .ok (.invokevirtual 30, 3) := by decide +kernel
theorem dX5_effect_54 : decode cX5_effect 54 = .ok (.ireturn, 1) := by decide +kernel
set_option maxRecDepth 20000 in
theorem ggX5_alive_X5_isAlive : GoodIn wsX5_alive wsX5_isAlive := goodIn_r _ [6, 7, 8, 9, 5, 10, 1, 11, 12, 13, 14] (by decide +kernel) (by decide +kernel)
set_option maxRecDepth 20000 in
theorem gX5_alive_X5_isAlive : GoodIn wsX5_alive (wsV RX5 66 RX5 yX5_isAlive wsX5_isAlive) := goodIn_app (goodIn_of _ (by decide +kernel)) ggX5_alive_X5_isAlive
set_option maxRecDepth 20000 in
theorem ggX5_alive_X5_its : GoodIn wsX5_alive wsX5_its := goodIn_r _ [10, 1, 11, 12, 13, 14] (by decide +kernel) (by decide +kernel)
set_option maxRecDepth 20000 in
theorem gX5_alive_X5_its : GoodIn wsX5_alive (wsV RX5 26 RX5 yX5_its wsX5_its) := goodIn_app (goodIn_of _ (by decide +kernel)) ggX5_alive_X5_its
theorem dX5_alive_0 : decode cX5_alive 0 = .ok (.iconst 0, 1) := by decide +kernel
theorem dX5_alive_1 : decode cX5_alive 1 = .ok (.istore_n 2, 1) := by decide +kernel
theorem dX5_alive_2 : decode cX5_alive 2 = .ok (.iconst 0, 1) := by decide +kernel
theorem dX5_alive_3 : decode cX5_alive 3 = .ok (.istore_n 3, 1) := by decide +kernel
theorem dX5_alive_4 : decode cX5_alive 4 = .ok (.iload_n 3, 1) := by decide +kernel
theorem dX5_alive_5 : decode cX5_alive 5 = .ok (.aload_n 0, 1) := by decide +kernel
theorem dX5_alive_6 : decode cX5_alive 6 = .ok (.getfield 9, 3) := by decide +kernel
theorem dX5_alive_9 : decode cX5_alive 9 = .ok (.sipush 680, 3) := by decide +kernel
theorem dX5_alive_12 : decode cX5_alive 12 = .ok (.iaload, 1) := by decide +kernel
theorem dX5_alive_13 : decode cX5_alive 13 = .ok (.if_icmp .ge 35, 3) := by decide +kernel
theorem dX5_alive_16 : decode cX5_alive 16 = .ok (.iload_n 2, 1) := by decide +kernel
theorem dX5_alive_17 : decode cX5_alive 17 = .ok (.aload_n 0, 1) := by decide +kernel
theorem dX5_alive_18 : decode cX5_alive 18 = .ok (.iload_n 3, 1) := by decide +kernel
theorem dX5_alive_19 : decode cX5_alive 19 = .ok (.invokevirtual 66, 3) := by decide +kernel
theorem dX5_alive_22 : decode cX5_alive 22 = .ok (.ifCond .eq 17, 3) := by decide +kernel
theorem dX5_alive_25 : decode cX5_alive 25 = .ok (.aload_n 0, 1) := by decide +kernel
theorem dX5_alive_26 : decode cX5_alive 26 = .ok (.iload_n 3, 1) := by decide +kernel
theorem dX5_alive_27 : decode cX5_alive 27 = .ok (.iconst 0, 1) := by decide +kernel
theorem dX5_alive_28 : decode cX5_alive 28 = .ok (.invokevirtual 26, 3) := by decide +kernel
theorem dX5_alive_31 : decode cX5_alive 31 = .ok (.iload_n 1, 1) := by decide +kernel
theorem dX5_alive_32 : decode cX5_alive 32 = .ok (.if_icmp .ne 7, 3) := by decide +kernel
theorem dX5_alive_35 : decode cX5_alive 35 = .ok (.iconst 1, 1) := by decide +kernel
theorem dX5_alive_36 : decode cX5_alive 36 = .ok (.goto 4, 3) := by decide +kernel
theorem dX5_alive_39 : decode cX5_alive 39 = .ok (.iconst 0, 1) := by decide +kernel
theorem dX5_alive_40 : decode cX5_alive 40 = .ok (.iadd, 1) := by decide +kernel
theorem dX5_alive_41 : decode cX5_alive 41 = .ok (.istore_n 2, 1) := by decide +kernel
theorem dX5_alive_42 : decode cX5_alive 42 = .ok (.iinc 3 1, 3) := by decide +kernel
theorem dX5_alive_45 : decode cX5_alive 45 = .ok (.goto (-41), 3) := by decide +kernel
theorem dX5_alive_48 : decode cX5_alive 48 = .ok (.iload_n 2, 1) := by decide +kernel
theorem dX5_alive_49 : decode cX5_alive 49 = .ok (.ireturn, 1) := by decide +kernel
set_option maxRecDepth 20000 in
theorem ggX5_manyNow_X5_alive : GoodIn wsX5_manyNow wsX5_alive := goodIn_r _ [7, 1, 8, 9, 10, 6, 11, 12, 13, 14, 15, 20, 21, 22, 23] (by decide +kernel) (by decide +kernel)
set_option maxRecDepth 20000 in
theorem gX5_manyNow_X5_alive : GoodIn wsX5_manyNow (wsV RX5 103 RX5 yX5_alive wsX5_alive) := goodIn_app (goodIn_of _ (by decide +kernel)) ggX5_manyNow_X5_alive
set_option maxRecDepth 20000 in
theorem ggX5_manyNow_X5_turn : GoodIn wsX5_manyNow wsX5_turn := goodIn_r _ [19, 1, 8, 9, 10, 6, 11, 12, 13, 14, 15, 20, 21, 22, 23] (by decide +kernel) (by decide +kernel)
set_option maxRecDepth 20000 in
theorem gX5_manyNow_X5_turn : GoodIn wsX5_manyNow (wsV RX5 69 RX5 yX5_turn wsX5_turn) := goodIn_app (goodIn_of _ (by decide +kernel)) ggX5_manyNow_X5_turn
theorem dX5_manyNow_0 : decode cX5_manyNow 0 = .ok (.iconst 0, 1) := by decide +kernel
theorem dX5_manyNow_1 : decode cX5_manyNow 1 = .ok (.istore_n 2, 1) := by decide +kernel
theorem dX5_manyNow_2 : decode cX5_manyNow 2 = .ok (.iload_n 1, 1) := by decide +kernel
theorem dX5_manyNow_3 : decode cX5_manyNow 3 = .ok (.tableswitch 94 0 8 #[49, 58, 58, 66, 71, 80, 94, 94, 89], 49) := by decide +kernel
theorem dX5_manyNow_52 : decode cX5_manyNow 52 = .ok (.aload_n 0, 1) := by decide +kernel
theorem dX5_manyNow_53 : decode cX5_manyNow 53 = .ok (.getfield 9, 3) := by decide +kernel
theorem dX5_manyNow_56 : decode cX5_manyNow 56 = .ok (.sipush 680, 3) := by decide +kernel
theorem dX5_manyNow_59 : decode cX5_manyNow 59 = .ok (.iaload, 1) := by decide +kernel
theorem dX5_manyNow_60 : decode cX5_manyNow 60 = .ok (.ireturn, 1) := by decide +kernel
theorem dX5_manyNow_61 : decode cX5_manyNow 61 = .ok (.aload_n 0, 1) := by decide +kernel
theorem dX5_manyNow_62 : decode cX5_manyNow 62 = .ok (.iload_n 1, 1) := by decide +kernel
theorem dX5_manyNow_63 : decode cX5_manyNow 63 = .ok (.iconst 1, 1) := by decide +kernel
theorem dX5_manyNow_64 : decode cX5_manyNow 64 = .ok (.isub, 1) := by decide +kernel
theorem dX5_manyNow_65 : decode cX5_manyNow 65 = .ok (.invokevirtual 103, 3) := by decide +kernel
theorem dX5_manyNow_68 : decode cX5_manyNow 68 = .ok (.ireturn, 1) := by decide +kernel
theorem dX5_manyNow_69 : decode cX5_manyNow 69 = .ok (.aload_n 0, 1) := by decide +kernel
theorem dX5_manyNow_70 : decode cX5_manyNow 70 = .ok (.invokevirtual 69, 3) := by decide +kernel
theorem dX5_manyNow_73 : decode cX5_manyNow 73 = .ok (.ireturn, 1) := by decide +kernel
theorem dX5_manyNow_74 : decode cX5_manyNow 74 = .ok (.aload_n 0, 1) := by decide +kernel
theorem dX5_manyNow_75 : decode cX5_manyNow 75 = .ok (.getfield 9, 3) := by decide +kernel
theorem dX5_manyNow_78 : decode cX5_manyNow 78 = .ok (.sipush 681, 3) := by decide +kernel
theorem dX5_manyNow_81 : decode cX5_manyNow 81 = .ok (.iaload, 1) := by decide +kernel
theorem dX5_manyNow_82 : decode cX5_manyNow 82 = .ok (.ireturn, 1) := by decide +kernel
theorem dX5_manyNow_83 : decode cX5_manyNow 83 = .ok (.aload_n 0, 1) := by decide +kernel
theorem dX5_manyNow_84 : decode cX5_manyNow 84 = .ok (.getfield 9, 3) := by decide +kernel
theorem dX5_manyNow_87 : decode cX5_manyNow 87 = .ok (.sipush 682, 3) := by decide +kernel
theorem dX5_manyNow_90 : decode cX5_manyNow 90 = .ok (.iaload, 1) := by decide +kernel
theorem dX5_manyNow_91 : decode cX5_manyNow 91 = .ok (.ireturn, 1) := by decide +kernel
theorem dX5_manyNow_92 : decode cX5_manyNow 92 = .ok (.aload_n 0, 1) := by decide +kernel
theorem dX5_manyNow_93 : decode cX5_manyNow 93 = .ok (.getfield 106, 3) := by decide +kernel
theorem dX5_manyNow_96 : decode cX5_manyNow 96 = .ok (.ireturn, 1) := by decide +kernel
theorem dX5_manyNow_97 : decode cX5_manyNow 97 = .ok (.iconst 0, 1) := by decide +kernel
theorem dX5_manyNow_98 : decode cX5_manyNow 98 = .ok (.istore_n 3, 1) := by decide +kernel
theorem dX5_manyNow_99 : decode cX5_manyNow 99 = .ok (.iload_n 3, 1) := by decide +kernel
theorem dX5_manyNow_100 : decode cX5_manyNow 100 = .ok (.sipush 160, 3) := by decide +kernel
theorem dX5_manyNow_103 : decode cX5_manyNow 103 = .ok (.if_icmp .ge 31, 3) := by decide +kernel
theorem dX5_manyNow_106 : decode cX5_manyNow 106 = .ok (.iload_n 2, 1) := by decide +kernel
theorem dX5_manyNow_107 : decode cX5_manyNow 107 = .ok (.aload_n 0, 1) := by decide +kernel
theorem dX5_manyNow_108 : decode cX5_manyNow 108 = .ok (.getfield 9, 3) := by decide +kernel
theorem dX5_manyNow_111 : decode cX5_manyNow 111 = .ok (.sipush 160, 3) := by decide +kernel
theorem dX5_manyNow_114 : decode cX5_manyNow 114 = .ok (.iload_n 1, 1) := by decide +kernel
theorem dX5_manyNow_115 : decode cX5_manyNow 115 = .ok (.bipush 6, 2) := by decide +kernel
theorem dX5_manyNow_117 : decode cX5_manyNow 117 = .ok (.isub, 1) := by decide +kernel
theorem dX5_manyNow_118 : decode cX5_manyNow 118 = .ok (.sipush 160, 3) := by decide +kernel
theorem dX5_manyNow_121 : decode cX5_manyNow 121 = .ok (.imul, 1) := by decide +kernel
theorem dX5_manyNow_122 : decode cX5_manyNow 122 = .ok (.iadd, 1) := by decide +kernel
theorem dX5_manyNow_123 : decode cX5_manyNow 123 = .ok (.iload_n 3, 1) := by decide +kernel
theorem dX5_manyNow_124 : decode cX5_manyNow 124 = .ok (.iadd, 1) := by decide +kernel
theorem dX5_manyNow_125 : decode cX5_manyNow 125 = .ok (.iaload, 1) := by decide +kernel
theorem dX5_manyNow_126 : decode cX5_manyNow 126 = .ok (.iadd, 1) := by decide +kernel
theorem dX5_manyNow_127 : decode cX5_manyNow 127 = .ok (.istore_n 2, 1) := by decide +kernel
theorem dX5_manyNow_128 : decode cX5_manyNow 128 = .ok (.iinc 3 1, 3) := by decide +kernel
theorem dX5_manyNow_131 : decode cX5_manyNow 131 = .ok (.goto (-32), 3) := by decide +kernel
theorem dX5_manyNow_134 : decode cX5_manyNow 134 = .ok (.iload_n 2, 1) := by decide +kernel
theorem dX5_manyNow_135 : decode cX5_manyNow 135 = .ok (.ireturn, 1) := by decide +kernel
set_option maxRecDepth 20000 in
theorem ggX5_many_X5_isIn : GoodIn wsX5_many wsX5_isIn := goodIn_r _ [5] (by decide +kernel) (by decide +kernel)
set_option maxRecDepth 20000 in
theorem gX5_many_X5_isIn : GoodIn wsX5_many (va_wsS RX5 22 yX5_isIn wsX5_isIn) := goodIn_app (goodIn_of _ (by decide +kernel)) ggX5_many_X5_isIn
set_option maxRecDepth 20000 in
theorem ggX5_many_X5_manyNow : GoodIn wsX5_many wsX5_manyNow := goodIn_r _ [9, 10, 11, 12, 13, 14, 4, 15, 16, 17, 18, 19, 20, 21, 22, 23, 24, 25, 26, 27, 32, 33, 34, 35] (by decide +kernel) (by decide +kernel)
set_option maxRecDepth 20000 in
theorem gX5_many_X5_manyNow : GoodIn wsX5_many (wsV RX5 109 RX5 yX5_manyNow wsX5_manyNow) := goodIn_app (goodIn_of _ (by decide +kernel)) ggX5_many_X5_manyNow
set_option maxRecDepth 20000 in
theorem ggX5_many_X5_no : GoodIn wsX5_many wsX5_no := goodIn_r _ [31, 1, 32, 33, 34, 35] (by decide +kernel) (by decide +kernel)
set_option maxRecDepth 20000 in
theorem gX5_many_X5_no : GoodIn wsX5_many (wsV RX5 30 RX5 yX5_no wsX5_no) := goodIn_app (goodIn_of _ (by decide +kernel)) ggX5_many_X5_no
theorem dX5_many_0 : decode cX5_many 0 = .ok (.aload_n 0, 1) := by decide +kernel
theorem dX5_many_1 : decode cX5_many 1 = .ok (.iconst 0, 1) := by decide +kernel
theorem dX5_many_2 : decode cX5_many 2 = .ok (.putfield 18, 3) := by decide +kernel
theorem dX5_many_5 : decode cX5_many 5 = .ok (.iload_n 1, 1) := by decide +kernel
theorem dX5_many_6 : decode cX5_many 6 = .ok (.iconst 0, 1) := by decide +kernel
theorem dX5_many_7 : decode cX5_many 7 = .ok (.bipush 8, 2) := by decide +kernel
theorem dX5_many_9 : decode cX5_many 9 = .ok (.invokestatic 22, 3) := by decide +kernel
theorem dX5_many_12 : decode cX5_many 12 = .ok (.ifCond .eq 11, 3) := by decide +kernel
theorem dX5_many_15 : decode cX5_many 15 = .ok (.aload_n 0, 1) := by decide +kernel
theorem dX5_many_16 : decode cX5_many 16 = .ok (.iload_n 1, 1) := by decide +kernel
theorem dX5_many_17 : decode cX5_many 17 = .ok (.invokevirtual 109, 3) := by decide +kernel
theorem dX5_many_20 : decode cX5_many 20 = .ok (.goto 8, 3) := by decide +kernel
theorem dX5_many_23 : decode cX5_many 23 = .ok (.aload_n 0, 1) := by decide +kernel
theorem dX5_many_24 : decode cX5_many 24 = .ok (.iconst 1, 1) := by decide +kernel
theorem dX5_many_25 : decode cX5_many 25 = .ok (.invokevirtual 30, 3) := by decide +kernel
theorem dX5_many_28 : decode cX5_many 28 = .ok (.ireturn, 1) := by decide +kernel
set_option maxRecDepth 20000 in
theorem ggX5_targetNow_X5_isAlive : GoodIn wsX5_targetNow wsX5_isAlive := goodIn_r _ [6, 7, 8, 9, 5, 10, 1, 35, 36, 37, 38] (by decide +kernel) (by decide +kernel)
set_option maxRecDepth 20000 in
theorem gX5_targetNow_X5_isAlive : GoodIn wsX5_targetNow (wsV RX5 66 RX5 yX5_isAlive wsX5_isAlive) := goodIn_app (goodIn_of _ (by decide +kernel)) ggX5_targetNow_X5_isAlive
set_option maxRecDepth 20000 in
theorem ggX5_targetNow_X5_its : GoodIn wsX5_targetNow wsX5_its := goodIn_r _ [10, 1, 35, 36, 37, 38] (by decide +kernel) (by decide +kernel)
set_option maxRecDepth 20000 in
theorem gX5_targetNow_X5_its : GoodIn wsX5_targetNow (wsV RX5 26 RX5 yX5_its wsX5_its) := goodIn_app (goodIn_of _ (by decide +kernel)) ggX5_targetNow_X5_its
set_option maxRecDepth 20000 in
theorem ggX5_targetNow_X5_seesNow : GoodIn wsX5_targetNow wsX5_seesNow := goodIn_r _ [14, 15, 16, 5, 17, 18, 19, 20, 21, 22, 23, 24, 25, 26, 27, 28, 1, 29, 30, 31, 32, 33, 34, 35, 36, 37, 38] (by decide +kernel) (by decide +kernel)
set_option maxRecDepth 20000 in
theorem gX5_targetNow_X5_seesNow : GoodIn wsX5_targetNow (wsV RX5 63 RX5 yX5_seesNow wsX5_seesNow) := goodIn_app (goodIn_of _ (by decide +kernel)) ggX5_targetNow_X5_seesNow
set_option maxRecDepth 20000 in
theorem ggX5_targetNow_X5_apart : GoodIn wsX5_targetNow wsX5_apart := goodIn_r _ [17, 18, 19, 20, 21, 22, 23, 24] (by decide +kernel) (by decide +kernel)
set_option maxRecDepth 20000 in
theorem gX5_targetNow_X5_apart : GoodIn wsX5_targetNow (va_wsS RX5 52 yX5_apart wsX5_apart) := goodIn_app (goodIn_of _ (by decide +kernel)) ggX5_targetNow_X5_apart
theorem dX5_targetNow_0 : decode cX5_targetNow 0 = .ok (.iconst (-1), 1) := by decide +kernel
theorem dX5_targetNow_1 : decode cX5_targetNow 1 = .ok (.istore_n 2, 1) := by decide +kernel
theorem dX5_targetNow_2 : decode cX5_targetNow 2 = .ok (.iconst 0, 1) := by decide +kernel
theorem dX5_targetNow_3 : decode cX5_targetNow 3 = .ok (.istore_n 3, 1) := by decide +kernel
theorem dX5_targetNow_4 : decode cX5_targetNow 4 = .ok (.iload_n 3, 1) := by decide +kernel
theorem dX5_targetNow_5 : decode cX5_targetNow 5 = .ok (.aload_n 0, 1) := by decide +kernel
theorem dX5_targetNow_6 : decode cX5_targetNow 6 = .ok (.getfield 9, 3) := by decide +kernel
theorem dX5_targetNow_9 : decode cX5_targetNow 9 = .ok (.sipush 680, 3) := by decide +kernel
theorem dX5_targetNow_12 : decode cX5_targetNow 12 = .ok (.iaload, 1) := by decide +kernel
theorem dX5_targetNow_13 : decode cX5_targetNow 13 = .ok (.if_icmp .ge 102, 3) := by decide +kernel
theorem dX5_targetNow_16 : decode cX5_targetNow 16 = .ok (.aload_n 0, 1) := by decide +kernel
theorem dX5_targetNow_17 : decode cX5_targetNow 17 = .ok (.iload_n 1, 1) := by decide +kernel
theorem dX5_targetNow_18 : decode cX5_targetNow 18 = .ok (.invokevirtual 66, 3) := by decide +kernel
theorem dX5_targetNow_21 : decode cX5_targetNow 21 = .ok (.ifCond .eq 94, 3) := by decide +kernel
theorem dX5_targetNow_24 : decode cX5_targetNow 24 = .ok (.aload_n 0, 1) := by decide +kernel
theorem dX5_targetNow_25 : decode cX5_targetNow 25 = .ok (.iload_n 3, 1) := by decide +kernel
theorem dX5_targetNow_26 : decode cX5_targetNow 26 = .ok (.invokevirtual 66, 3) := by decide +kernel
theorem dX5_targetNow_29 : decode cX5_targetNow 29 = .ok (.ifCond .eq 80, 3) := by decide +kernel
theorem dX5_targetNow_32 : decode cX5_targetNow 32 = .ok (.aload_n 0, 1) := by decide +kernel
theorem dX5_targetNow_33 : decode cX5_targetNow 33 = .ok (.iload_n 3, 1) := by decide +kernel
theorem dX5_targetNow_34 : decode cX5_targetNow 34 = .ok (.iconst 0, 1) := by decide +kernel
theorem dX5_targetNow_35 : decode cX5_targetNow 35 = .ok (.invokevirtual 26, 3) := by decide +kernel
theorem dX5_targetNow_38 : decode cX5_targetNow 38 = .ok (.aload_n 0, 1) := by decide +kernel
theorem dX5_targetNow_39 : decode cX5_targetNow 39 = .ok (.iload_n 1, 1) := by decide +kernel
theorem dX5_targetNow_40 : decode cX5_targetNow 40 = .ok (.iconst 0, 1) := by decide +kernel
theorem dX5_targetNow_41 : decode cX5_targetNow 41 = .ok (.invokevirtual 26, 3) := by decide +kernel
theorem dX5_targetNow_44 : decode cX5_targetNow 44 = .ok (.if_icmp .eq 65, 3) := by decide +kernel
theorem dX5_targetNow_47 : decode cX5_targetNow 47 = .ok (.aload_n 0, 1) := by decide +kernel
theorem dX5_targetNow_48 : decode cX5_targetNow 48 = .ok (.aload_n 0, 1) := by decide +kernel
theorem dX5_targetNow_49 : decode cX5_targetNow 49 = .ok (.iload_n 1, 1) := by decide +kernel
theorem dX5_targetNow_50 : decode cX5_targetNow 50 = .ok (.iconst 1, 1) := by decide +kernel
theorem dX5_targetNow_51 : decode cX5_targetNow 51 = .ok (.invokevirtual 26, 3) := by decide +kernel
theorem dX5_targetNow_54 : decode cX5_targetNow 54 = .ok (.aload_n 0, 1) := by decide +kernel
theorem dX5_targetNow_55 : decode cX5_targetNow 55 = .ok (.iload_n 3, 1) := by decide +kernel
theorem dX5_targetNow_56 : decode cX5_targetNow 56 = .ok (.iconst 1, 1) := by decide +kernel
theorem dX5_targetNow_57 : decode cX5_targetNow 57 = .ok (.invokevirtual 26, 3) := by decide +kernel
theorem dX5_targetNow_60 : decode cX5_targetNow 60 = .ok (.invokevirtual 63, 3) := by decide +kernel
theorem dX5_targetNow_63 : decode cX5_targetNow 63 = .ok (.ifCond .ne 6, 3) := by decide +kernel
theorem dX5_targetNow_66 : decode cX5_targetNow 66 = .ok (.goto 43, 3) := by decide +kernel
theorem dX5_targetNow_69 : decode cX5_targetNow 69 = .ok (.iload_n 2, 1) := by decide +kernel
theorem dX5_targetNow_70 : decode cX5_targetNow 70 = .ok (.iconst (-1), 1) := by decide +kernel
theorem dX5_targetNow_71 : decode cX5_targetNow 71 = .ok (.if_icmp .eq 36, 3) := by decide +kernel
theorem dX5_targetNow_74 : decode cX5_targetNow 74 = .ok (.aload_n 0, 1) := by decide +kernel
theorem dX5_targetNow_75 : decode cX5_targetNow 75 = .ok (.iload_n 1, 1) := by decide +kernel
theorem dX5_targetNow_76 : decode cX5_targetNow 76 = .ok (.iconst 1, 1) := by decide +kernel
theorem dX5_targetNow_77 : decode cX5_targetNow 77 = .ok (.invokevirtual 26, 3) := by decide +kernel
theorem dX5_targetNow_80 : decode cX5_targetNow 80 = .ok (.aload_n 0, 1) := by decide +kernel
theorem dX5_targetNow_81 : decode cX5_targetNow 81 = .ok (.iload_n 3, 1) := by decide +kernel
theorem dX5_targetNow_82 : decode cX5_targetNow 82 = .ok (.iconst 1, 1) := by decide +kernel
theorem dX5_targetNow_83 : decode cX5_targetNow 83 = .ok (.invokevirtual 26, 3) := by decide +kernel
theorem dX5_targetNow_86 : decode cX5_targetNow 86 = .ok (.invokestatic 52, 3) := by decide +kernel
theorem dX5_targetNow_89 : decode cX5_targetNow 89 = .ok (.aload_n 0, 1) := by decide +kernel
theorem dX5_targetNow_90 : decode cX5_targetNow 90 = .ok (.iload_n 1, 1) := by decide +kernel
theorem dX5_targetNow_91 : decode cX5_targetNow 91 = .ok (.iconst 1, 1) := by decide +kernel
theorem dX5_targetNow_92 : decode cX5_targetNow 92 = .ok (.invokevirtual 26, 3) := by decide +kernel
theorem dX5_targetNow_95 : decode cX5_targetNow 95 = .ok (.aload_n 0, 1) := by decide +kernel
theorem dX5_targetNow_96 : decode cX5_targetNow 96 = .ok (.iload_n 2, 1) := by decide +kernel
theorem dX5_targetNow_97 : decode cX5_targetNow 97 = .ok (.iconst 1, 1) := by decide +kernel
theorem dX5_targetNow_98 : decode cX5_targetNow 98 = .ok (.invokevirtual 26, 3) := by decide +kernel
theorem dX5_targetNow_101 : decode cX5_targetNow 101 = .ok (.invokestatic 52, 3) := by decide +kernel
theorem dX5_targetNow_104 : decode cX5_targetNow 104 = .ok (.if_icmp .ge 5, 3) := by decide +kernel
theorem dX5_targetNow_107 : decode cX5_targetNow 107 = .ok (.iload_n 3, 1) := by decide +kernel
theorem dX5_targetNow_108 : decode cX5_targetNow 108 = .ok (.istore_n 2, 1) := by decide +kernel
theorem dX5_targetNow_109 : decode cX5_targetNow 109 = .ok (.iinc 3 1, 3) := by decide +kernel
theorem dX5_targetNow_112 : decode cX5_targetNow 112 = .ok (.goto (-108), 3) := by decide +kernel
theorem dX5_targetNow_115 : decode cX5_targetNow 115 = .ok (.iload_n 2, 1) := by decide +kernel
theorem dX5_targetNow_116 : decode cX5_targetNow 116 = .ok (.ireturn, 1) := by decide +kernel
theorem dX5_beside_0 : decode cX5_beside 0 = .ok (.iload_n 0, 1) := by decide +kernel
theorem dX5_beside_1 : decode cX5_beside 1 = .ok (.iload_n 1, 1) := by decide +kernel
theorem dX5_beside_2 : decode cX5_beside 2 = .ok (.ifCond .ne 8, 3) := by decide +kernel
theorem dX5_beside_5 : decode cX5_beside 5 = .ok (.bipush (-16), 2) := by decide +kernel
theorem dX5_beside_7 : decode cX5_beside 7 = .ok (.goto 23, 3) := by decide +kernel
theorem dX5_beside_10 : decode cX5_beside 10 = .ok (.iload_n 1, 1) := by decide +kernel
theorem dX5_beside_11 : decode cX5_beside 11 = .ok (.iconst 1, 1) := by decide +kernel
theorem dX5_beside_12 : decode cX5_beside 12 = .ok (.if_icmp .ne 7, 3) := by decide +kernel
theorem dX5_beside_15 : decode cX5_beside 15 = .ok (.iconst 1, 1) := by decide +kernel
theorem dX5_beside_16 : decode cX5_beside 16 = .ok (.goto 14, 3) := by decide +kernel
theorem dX5_beside_19 : decode cX5_beside 19 = .ok (.iload_n 1, 1) := by decide +kernel
theorem dX5_beside_20 : decode cX5_beside 20 = .ok (.iconst 2, 1) := by decide +kernel
theorem dX5_beside_21 : decode cX5_beside 21 = .ok (.if_icmp .ne 8, 3) := by decide +kernel
theorem dX5_beside_24 : decode cX5_beside 24 = .ok (.bipush 16, 2) := by decide +kernel
theorem dX5_beside_26 : decode cX5_beside 26 = .ok (.goto 4, 3) := by decide +kernel
theorem dX5_beside_29 : decode cX5_beside 29 = .ok (.iconst (-1), 1) := by decide +kernel
theorem dX5_beside_30 : decode cX5_beside 30 = .ok (.iadd, 1) := by decide +kernel
theorem dX5_beside_31 : decode cX5_beside 31 = .ok (.ireturn, 1) := by decide +kernel
set_option maxRecDepth 20000 in
theorem ggX5_isPossible_X5_its : GoodIn wsX5_isPossible wsX5_its := goodIn_r _ [6, 1, 46, 47, 48, 49] (by decide +kernel) (by decide +kernel)
set_option maxRecDepth 20000 in
theorem gX5_isPossible_X5_its : GoodIn wsX5_isPossible (wsV RX5 26 RX5 yX5_its wsX5_its) := goodIn_app (goodIn_of _ (by decide +kernel)) ggX5_isPossible_X5_its
set_option maxRecDepth 20000 in
theorem ggX5_isPossible_X5_targetNow : GoodIn wsX5_isPossible wsX5_targetNow := goodIn_r _ [10, 1, 11, 12, 13, 5, 14, 2, 3, 4, 6, 15, 16, 17, 18, 19, 20, 21, 22, 23, 24, 25, 26, 27, 28, 29, 30, 31, 32, 33, 34, 35, 36, 37, 38, 46, 47, 48, 49] (by decide +kernel) (by decide +kernel)
set_option maxRecDepth 20000 in
theorem gX5_isPossible_X5_targetNow : GoodIn wsX5_isPossible (wsV RX5 112 RX5 yX5_targetNow wsX5_targetNow) := goodIn_app (goodIn_of _ (by decide +kernel)) ggX5_isPossible_X5_targetNow
set_option maxRecDepth 20000 in
theorem ggX5_isPossible_X5_beside : GoodIn wsX5_isPossible wsX5_beside := goodIn_r _ [41] (by decide +kernel) (by decide +kernel)
set_option maxRecDepth 20000 in
theorem gX5_isPossible_X5_beside : GoodIn wsX5_isPossible (va_wsS RX5 115 yX5_beside wsX5_beside) := goodIn_app (goodIn_of _ (by decide +kernel)) ggX5_isPossible_X5_beside
set_option maxRecDepth 20000 in
theorem ggX5_isPossible_X5_onNow : GoodIn wsX5_isPossible wsX5_onNow := goodIn_r _ [45, 1, 2, 3, 4, 5, 6, 46, 47, 48, 49] (by decide +kernel) (by decide +kernel)
set_option maxRecDepth 20000 in
theorem gX5_isPossible_X5_onNow : GoodIn wsX5_isPossible (wsV RX5 41 RX5 yX5_onNow wsX5_onNow) := goodIn_app (goodIn_of _ (by decide +kernel)) ggX5_isPossible_X5_onNow
theorem dX5_isPossible_0 : decode cX5_isPossible 0 = .ok (.iload_n 2, 1) := by decide +kernel
theorem dX5_isPossible_1 : decode cX5_isPossible 1 = .ok (.ifCond .ne 5, 3) := by decide +kernel
theorem dX5_isPossible_4 : decode cX5_isPossible 4 = .ok (.iconst 1, 1) := by decide +kernel
theorem dX5_isPossible_5 : decode cX5_isPossible 5 = .ok (.ireturn, 1) := by decide +kernel
theorem dX5_isPossible_6 : decode cX5_isPossible 6 = .ok (.iload_n 2, 1) := by decide +kernel
theorem dX5_isPossible_7 : decode cX5_isPossible 7 = .ok (.iconst 4, 1) := by decide +kernel
theorem dX5_isPossible_8 : decode cX5_isPossible 8 = .ok (.if_icmp .le 34, 3) := by decide +kernel
theorem dX5_isPossible_11 : decode cX5_isPossible 11 = .ok (.aload_n 0, 1) := by decide +kernel
theorem dX5_isPossible_12 : decode cX5_isPossible 12 = .ok (.iload_n 1, 1) := by decide +kernel
theorem dX5_isPossible_13 : decode cX5_isPossible 13 = .ok (.bipush 7, 2) := by decide +kernel
theorem dX5_isPossible_15 : decode cX5_isPossible 15 = .ok (.invokevirtual 26, 3) := by decide +kernel
theorem dX5_isPossible_18 : decode cX5_isPossible 18 = .ok (.iconst 3, 1) := by decide +kernel
theorem dX5_isPossible_19 : decode cX5_isPossible 19 = .ok (.if_icmp .lt 21, 3) := by decide +kernel
theorem dX5_isPossible_22 : decode cX5_isPossible 22 = .ok (.iload_n 2, 1) := by decide +kernel
theorem dX5_isPossible_23 : decode cX5_isPossible 23 = .ok (.iconst 5, 1) := by decide +kernel
theorem dX5_isPossible_24 : decode cX5_isPossible 24 = .ok (.if_icmp .ne 12, 3) := by decide +kernel
theorem dX5_isPossible_27 : decode cX5_isPossible 27 = .ok (.aload_n 0, 1) := by decide +kernel
theorem dX5_isPossible_28 : decode cX5_isPossible 28 = .ok (.iload_n 1, 1) := by decide +kernel
theorem dX5_isPossible_29 : decode cX5_isPossible 29 = .ok (.invokevirtual 112, 3) := by decide +kernel
theorem dX5_isPossible_32 : decode cX5_isPossible 32 = .ok (.iconst (-1), 1) := by decide +kernel
theorem dX5_isPossible_33 : decode cX5_isPossible 33 = .ok (.if_icmp .eq 7, 3) := by decide +kernel
theorem dX5_isPossible_36 : decode cX5_isPossible 36 = .ok (.iconst 1, 1) := by decide +kernel
theorem dX5_isPossible_37 : decode cX5_isPossible 37 = .ok (.goto 4, 3) := by decide +kernel
theorem dX5_isPossible_40 : decode cX5_isPossible 40 = .ok (.iconst 0, 1) := by decide +kernel
theorem dX5_isPossible_41 : decode cX5_isPossible 41 = .ok (.ireturn, 1) := by decide +kernel
theorem dX5_isPossible_42 : decode cX5_isPossible 42 = .ok (.aload_n 0, 1) := by decide +kernel
theorem dX5_isPossible_43 : decode cX5_isPossible 43 = .ok (.iload_n 1, 1) := by decide +kernel
theorem dX5_isPossible_44 : decode cX5_isPossible 44 = .ok (.iconst 1, 1) := by decide +kernel
theorem dX5_isPossible_45 : decode cX5_isPossible 45 = .ok (.invokevirtual 26, 3) := by decide +kernel
theorem dX5_isPossible_48 : decode cX5_isPossible 48 = .ok (.iload_n 2, 1) := by decide +kernel
theorem dX5_isPossible_49 : decode cX5_isPossible 49 = .ok (.iconst 1, 1) := by decide +kernel
theorem dX5_isPossible_50 : decode cX5_isPossible 50 = .ok (.isub, 1) := by decide +kernel
theorem dX5_isPossible_51 : decode cX5_isPossible 51 = .ok (.invokestatic 115, 3) := by decide +kernel
theorem dX5_isPossible_54 : decode cX5_isPossible 54 = .ok (.istore_n 3, 1) := by decide +kernel
theorem dX5_isPossible_55 : decode cX5_isPossible 55 = .ok (.aload_n 0, 1) := by decide +kernel
theorem dX5_isPossible_56 : decode cX5_isPossible 56 = .ok (.iload_n 3, 1) := by decide +kernel
theorem dX5_isPossible_57 : decode cX5_isPossible 57 = .ok (.invokevirtual 41, 3) := by decide +kernel
theorem dX5_isPossible_60 : decode cX5_isPossible 60 = .ok (.istore 4, 2) := by decide +kernel
theorem dX5_isPossible_62 : decode cX5_isPossible 62 = .ok (.aload_n 0, 1) := by decide +kernel
theorem dX5_isPossible_63 : decode cX5_isPossible 63 = .ok (.getfield 9, 3) := by decide +kernel
theorem dX5_isPossible_66 : decode cX5_isPossible 66 = .ok (.iload_n 3, 1) := by decide +kernel
theorem dX5_isPossible_67 : decode cX5_isPossible 67 = .ok (.iaload, 1) := by decide +kernel
theorem dX5_isPossible_68 : decode cX5_isPossible 68 = .ok (.iconst 1, 1) := by decide +kernel
theorem dX5_isPossible_69 : decode cX5_isPossible 69 = .ok (.if_icmp .eq 29, 3) := by decide +kernel
theorem dX5_isPossible_72 : decode cX5_isPossible 72 = .ok (.iload 4, 2) := by decide +kernel
theorem dX5_isPossible_74 : decode cX5_isPossible 74 = .ok (.iconst (-1), 1) := by decide +kernel
theorem dX5_isPossible_75 : decode cX5_isPossible 75 = .ok (.if_icmp .eq 19, 3) := by decide +kernel
theorem dX5_isPossible_78 : decode cX5_isPossible 78 = .ok (.aload_n 0, 1) := by decide +kernel
theorem dX5_isPossible_79 : decode cX5_isPossible 79 = .ok (.iload 4, 2) := by decide +kernel
theorem dX5_isPossible_81 : decode cX5_isPossible 81 = .ok (.iconst 0, 1) := by decide +kernel
theorem dX5_isPossible_82 : decode cX5_isPossible 82 = .ok (.invokevirtual 26, 3) := by decide +kernel
theorem dX5_isPossible_85 : decode cX5_isPossible 85 = .ok (.aload_n 0, 1) := by decide +kernel
theorem dX5_isPossible_86 : decode cX5_isPossible 86 = .ok (.iload_n 1, 1) := by decide +kernel
theorem dX5_isPossible_87 : decode cX5_isPossible 87 = .ok (.iconst 0, 1) := by decide +kernel
theorem dX5_isPossible_88 : decode cX5_isPossible 88 = .ok (.invokevirtual 26, 3) := by decide +kernel
theorem dX5_isPossible_91 : decode cX5_isPossible 91 = .ok (.if_icmp .eq 7, 3) := by decide +kernel
theorem dX5_isPossible_94 : decode cX5_isPossible 94 = .ok (.iconst 1, 1) := by decide +kernel
theorem dX5_isPossible_95 : decode cX5_isPossible 95 = .ok (.goto 4, 3) := by decide +kernel
theorem dX5_isPossible_98 : decode cX5_isPossible 98 = .ok (.iconst 0, 1) := by decide +kernel
theorem dX5_isPossible_99 : decode cX5_isPossible 99 = .ok (.ireturn, 1) := by decide +kernel
set_option maxRecDepth 20000 in
theorem ggX5_hitNow_X5_its : GoodIn wsX5_hitNow wsX5_its := goodIn_r _ [9, 10, 11, 12, 13, 14] (by decide +kernel) (by decide +kernel)
set_option maxRecDepth 20000 in
theorem gX5_hitNow_X5_its : GoodIn wsX5_hitNow (wsV RX5 26 RX5 yX5_its wsX5_its) := goodIn_app (goodIn_of _ (by decide +kernel)) ggX5_hitNow_X5_its
theorem dX5_hitNow_0 : decode cX5_hitNow 0 = .ok (.iconst 1, 1) := by decide +kernel
theorem dX5_hitNow_1 : decode cX5_hitNow 1 = .ok (.aload_n 0, 1) := by decide +kernel
theorem dX5_hitNow_2 : decode cX5_hitNow 2 = .ok (.iload_n 1, 1) := by decide +kernel
theorem dX5_hitNow_3 : decode cX5_hitNow 3 = .ok (.iconst 4, 1) := by decide +kernel
theorem dX5_hitNow_4 : decode cX5_hitNow 4 = .ok (.invokevirtual 26, 3) := by decide +kernel
theorem dX5_hitNow_7 : decode cX5_hitNow 7 = .ok (.aload_n 0, 1) := by decide +kernel
theorem dX5_hitNow_8 : decode cX5_hitNow 8 = .ok (.iload_n 1, 1) := by decide +kernel
theorem dX5_hitNow_9 : decode cX5_hitNow 9 = .ok (.bipush 12, 2) := by decide +kernel
theorem dX5_hitNow_11 : decode cX5_hitNow 11 = .ok (.invokevirtual 26, 3) := by decide +kernel
theorem dX5_hitNow_14 : decode cX5_hitNow 14 = .ok (.iadd, 1) := by decide +kernel
theorem dX5_hitNow_15 : decode cX5_hitNow 15 = .ok (.aload_n 0, 1) := by decide +kernel
theorem dX5_hitNow_16 : decode cX5_hitNow 16 = .ok (.iload_n 2, 1) := by decide +kernel
theorem dX5_hitNow_17 : decode cX5_hitNow 17 = .ok (.iconst 5, 1) := by decide +kernel
theorem dX5_hitNow_18 : decode cX5_hitNow 18 = .ok (.invokevirtual 26, 3) := by decide +kernel
theorem dX5_hitNow_21 : decode cX5_hitNow 21 = .ok (.isub, 1) := by decide +kernel
theorem dX5_hitNow_22 : decode cX5_hitNow 22 = .ok (.aload_n 0, 1) := by decide +kernel
theorem dX5_hitNow_23 : decode cX5_hitNow 23 = .ok (.iload_n 2, 1) := by decide +kernel
theorem dX5_hitNow_24 : decode cX5_hitNow 24 = .ok (.bipush 13, 2) := by decide +kernel
theorem dX5_hitNow_26 : decode cX5_hitNow 26 = .ok (.invokevirtual 26, 3) := by decide +kernel
theorem dX5_hitNow_29 : decode cX5_hitNow 29 = .ok (.isub, 1) := by decide +kernel
theorem dX5_hitNow_30 : decode cX5_hitNow 30 = .ok (.invokestatic 49, 3) := by decide +kernel
theorem dX5_hitNow_33 : decode cX5_hitNow 33 = .ok (.ireturn, 1) := by decide +kernel
set_option maxRecDepth 20000 in
theorem ggX5_take_X5_its : GoodIn wsX5_take wsX5_its := goodIn_r _ [9, 10, 15, 16, 17, 18] (by decide +kernel) (by decide +kernel)
set_option maxRecDepth 20000 in
theorem gX5_take_X5_its : GoodIn wsX5_take (wsV RX5 26 RX5 yX5_its wsX5_its) := goodIn_app (goodIn_of _ (by decide +kernel)) ggX5_take_X5_its
set_option maxRecDepth 20000 in
theorem ggX5_take_X5_put : GoodIn wsX5_take wsX5_put := goodIn_r _ [14, 10, 15, 16, 17, 18] (by decide +kernel) (by decide +kernel)
set_option maxRecDepth 20000 in
theorem gX5_take_X5_put : GoodIn wsX5_take (wsV RX5 86 RX5 yX5_put wsX5_put) := goodIn_app (goodIn_of _ (by decide +kernel)) ggX5_take_X5_put
theorem dX5_take_0 : decode cX5_take 0 = .ok (.aload_n 0, 1) := by decide +kernel
theorem dX5_take_1 : decode cX5_take 1 = .ok (.iload_n 1, 1) := by decide +kernel
theorem dX5_take_2 : decode cX5_take 2 = .ok (.iconst 2, 1) := by decide +kernel
theorem dX5_take_3 : decode cX5_take 3 = .ok (.invokevirtual 26, 3) := by decide +kernel
theorem dX5_take_6 : decode cX5_take 6 = .ok (.iload_n 2, 1) := by decide +kernel
theorem dX5_take_7 : decode cX5_take 7 = .ok (.isub, 1) := by decide +kernel
theorem dX5_take_8 : decode cX5_take 8 = .ok (.istore_n 3, 1) := by decide +kernel
theorem dX5_take_9 : decode cX5_take 9 = .ok (.aload_n 0, 1) := by decide +kernel
theorem dX5_take_10 : decode cX5_take 10 = .ok (.iload_n 1, 1) := by decide +kernel
theorem dX5_take_11 : decode cX5_take 11 = .ok (.iconst 2, 1) := by decide +kernel
theorem dX5_take_12 : decode cX5_take 12 = .ok (.iconst 0, 1) := by decide +kernel
theorem dX5_take_13 : decode cX5_take 13 = .ok (.iload_n 3, 1) := by decide +kernel
theorem dX5_take_14 : decode cX5_take 14 = .ok (.invokestatic 49, 3) := by decide +kernel
theorem dX5_take_17 : decode cX5_take 17 = .ok (.invokevirtual 86, 3) := by decide +kernel
theorem dX5_take_20 : decode cX5_take 20 = .ok (.iload_n 3, 1) := by decide +kernel
theorem dX5_take_21 : decode cX5_take 21 = .ok (.ifCond .gt 10, 3) := by decide +kernel
theorem dX5_take_24 : decode cX5_take 24 = .ok (.aload_n 0, 1) := by decide +kernel
theorem dX5_take_25 : decode cX5_take 25 = .ok (.iload_n 1, 1) := by decide +kernel
theorem dX5_take_26 : decode cX5_take 26 = .ok (.iconst 1, 1) := by decide +kernel
theorem dX5_take_27 : decode cX5_take 27 = .ok (.iconst (-1), 1) := by decide +kernel
theorem dX5_take_28 : decode cX5_take 28 = .ok (.invokevirtual 86, 3) := by decide +kernel
theorem dX5_take_31 : decode cX5_take 31 = .ok (.return_, 1) := by decide +kernel
set_option maxRecDepth 20000 in
theorem ggX5_goNow_X5_its : GoodIn wsX5_goNow wsX5_its := goodIn_r _ [10, 1, 33, 34, 35, 36] (by decide +kernel) (by decide +kernel)
set_option maxRecDepth 20000 in
theorem gX5_goNow_X5_its : GoodIn wsX5_goNow (wsV RX5 26 RX5 yX5_its wsX5_its) := goodIn_app (goodIn_of _ (by decide +kernel)) ggX5_goNow_X5_its
set_option maxRecDepth 20000 in
theorem ggX5_goNow_X5_beside : GoodIn wsX5_goNow wsX5_beside := goodIn_r _ [13] (by decide +kernel) (by decide +kernel)
set_option maxRecDepth 20000 in
theorem gX5_goNow_X5_beside : GoodIn wsX5_goNow (va_wsS RX5 115 yX5_beside wsX5_beside) := goodIn_app (goodIn_of _ (by decide +kernel)) ggX5_goNow_X5_beside
set_option maxRecDepth 20000 in
theorem ggX5_goNow_X5_onNow : GoodIn wsX5_goNow wsX5_onNow := goodIn_r _ [17, 1, 6, 7, 8, 9, 10, 33, 34, 35, 36] (by decide +kernel) (by decide +kernel)
set_option maxRecDepth 20000 in
theorem gX5_goNow_X5_onNow : GoodIn wsX5_goNow (wsV RX5 41 RX5 yX5_onNow wsX5_onNow) := goodIn_app (goodIn_of _ (by decide +kernel)) ggX5_goNow_X5_onNow
set_option maxRecDepth 20000 in
theorem ggX5_goNow_X5_put : GoodIn wsX5_goNow wsX5_put := goodIn_r _ [21, 1, 33, 34, 35, 36] (by decide +kernel) (by decide +kernel)
set_option maxRecDepth 20000 in
theorem gX5_goNow_X5_put : GoodIn wsX5_goNow (wsV RX5 86 RX5 yX5_put wsX5_put) := goodIn_app (goodIn_of _ (by decide +kernel)) ggX5_goNow_X5_put
set_option maxRecDepth 20000 in
theorem ggX5_goNow_X5_hitNow : GoodIn wsX5_goNow wsX5_hitNow := goodIn_r _ [25, 26, 27, 4, 28, 6, 7, 8, 9, 10, 1, 33, 34, 35, 36] (by decide +kernel) (by decide +kernel)
set_option maxRecDepth 20000 in
theorem gX5_goNow_X5_hitNow : GoodIn wsX5_goNow (wsV RX5 118 RX5 yX5_hitNow wsX5_hitNow) := goodIn_app (goodIn_of _ (by decide +kernel)) ggX5_goNow_X5_hitNow
set_option maxRecDepth 20000 in
theorem ggX5_goNow_X5_take : GoodIn wsX5_goNow wsX5_take := goodIn_r _ [32, 26, 27, 4, 28, 6, 7, 8, 9, 10, 1, 18, 19, 20, 21, 33, 34, 35, 36] (by decide +kernel) (by decide +kernel)
set_option maxRecDepth 20000 in
theorem gX5_goNow_X5_take : GoodIn wsX5_goNow (wsV RX5 121 RX5 yX5_take wsX5_take) := goodIn_app (goodIn_of _ (by decide +kernel)) ggX5_goNow_X5_take
theorem dX5_goNow_0 : decode cX5_goNow 0 = .ok (.aload_n 0, 1) := by decide +kernel
theorem dX5_goNow_1 : decode cX5_goNow 1 = .ok (.iload_n 1, 1) := by decide +kernel
theorem dX5_goNow_2 : decode cX5_goNow 2 = .ok (.iconst 1, 1) := by decide +kernel
theorem dX5_goNow_3 : decode cX5_goNow 3 = .ok (.invokevirtual 26, 3) := by decide +kernel
theorem dX5_goNow_6 : decode cX5_goNow 6 = .ok (.iload_n 2, 1) := by decide +kernel
theorem dX5_goNow_7 : decode cX5_goNow 7 = .ok (.invokestatic 115, 3) := by decide +kernel
theorem dX5_goNow_10 : decode cX5_goNow 10 = .ok (.istore_n 3, 1) := by decide +kernel
theorem dX5_goNow_11 : decode cX5_goNow 11 = .ok (.aload_n 0, 1) := by decide +kernel
theorem dX5_goNow_12 : decode cX5_goNow 12 = .ok (.iload_n 3, 1) := by decide +kernel
theorem dX5_goNow_13 : decode cX5_goNow 13 = .ok (.invokevirtual 41, 3) := by decide +kernel
theorem dX5_goNow_16 : decode cX5_goNow 16 = .ok (.istore 4, 2) := by decide +kernel
theorem dX5_goNow_18 : decode cX5_goNow 18 = .ok (.iload 4, 2) := by decide +kernel
theorem dX5_goNow_20 : decode cX5_goNow 20 = .ok (.iconst (-1), 1) := by decide +kernel
theorem dX5_goNow_21 : decode cX5_goNow 21 = .ok (.if_icmp .ne 32, 3) := by decide +kernel
theorem dX5_goNow_24 : decode cX5_goNow 24 = .ok (.aload_n 0, 1) := by decide +kernel
theorem dX5_goNow_25 : decode cX5_goNow 25 = .ok (.getfield 9, 3) := by decide +kernel
theorem dX5_goNow_28 : decode cX5_goNow 28 = .ok (.iload_n 3, 1) := by decide +kernel
theorem dX5_goNow_29 : decode cX5_goNow 29 = .ok (.iaload, 1) := by decide +kernel
theorem dX5_goNow_30 : decode cX5_goNow 30 = .ok (.iconst 2, 1) := by decide +kernel
theorem dX5_goNow_31 : decode cX5_goNow 31 = .ok (.if_icmp .ne 13, 3) := by decide +kernel
theorem dX5_goNow_34 : decode cX5_goNow 34 = .ok (.aload_n 0, 1) := by decide +kernel
theorem dX5_goNow_35 : decode cX5_goNow 35 = .ok (.getfield 9, 3) := by decide +kernel
theorem dX5_goNow_38 : decode cX5_goNow 38 = .ok (.iload_n 3, 1) := by decide +kernel
theorem dX5_goNow_39 : decode cX5_goNow 39 = .ok (.iconst 0, 1) := by decide +kernel
theorem dX5_goNow_40 : decode cX5_goNow 40 = .ok (.iastore, 1) := by decide +kernel
theorem dX5_goNow_41 : decode cX5_goNow 41 = .ok (.goto 10, 3) := by decide +kernel
theorem dX5_goNow_44 : decode cX5_goNow 44 = .ok (.aload_n 0, 1) := by decide +kernel
theorem dX5_goNow_45 : decode cX5_goNow 45 = .ok (.iload_n 1, 1) := by decide +kernel
theorem dX5_goNow_46 : decode cX5_goNow 46 = .ok (.iconst 1, 1) := by decide +kernel
theorem dX5_goNow_47 : decode cX5_goNow 47 = .ok (.iload_n 3, 1) := by decide +kernel
theorem dX5_goNow_48 : decode cX5_goNow 48 = .ok (.invokevirtual 86, 3) := by decide +kernel
theorem dX5_goNow_51 : decode cX5_goNow 51 = .ok (.iconst 0, 1) := by decide +kernel
theorem dX5_goNow_52 : decode cX5_goNow 52 = .ok (.ireturn, 1) := by decide +kernel
theorem dX5_goNow_53 : decode cX5_goNow 53 = .ok (.aload_n 0, 1) := by decide +kernel
theorem dX5_goNow_54 : decode cX5_goNow 54 = .ok (.iload 4, 2) := by decide +kernel
theorem dX5_goNow_56 : decode cX5_goNow 56 = .ok (.iconst 2, 1) := by decide +kernel
theorem dX5_goNow_57 : decode cX5_goNow 57 = .ok (.invokevirtual 26, 3) := by decide +kernel
theorem dX5_goNow_60 : decode cX5_goNow 60 = .ok (.aload_n 0, 1) := by decide +kernel
theorem dX5_goNow_61 : decode cX5_goNow 61 = .ok (.iload_n 1, 1) := by decide +kernel
theorem dX5_goNow_62 : decode cX5_goNow 62 = .ok (.iload 4, 2) := by decide +kernel
theorem dX5_goNow_64 : decode cX5_goNow 64 = .ok (.invokevirtual 118, 3) := by decide +kernel
theorem dX5_goNow_67 : decode cX5_goNow 67 = .ok (.invokestatic 90, 3) := by decide +kernel
theorem dX5_goNow_70 : decode cX5_goNow 70 = .ok (.istore 5, 2) := by decide +kernel
theorem dX5_goNow_72 : decode cX5_goNow 72 = .ok (.aload_n 0, 1) := by decide +kernel
theorem dX5_goNow_73 : decode cX5_goNow 73 = .ok (.iload 4, 2) := by decide +kernel
theorem dX5_goNow_75 : decode cX5_goNow 75 = .ok (.aload_n 0, 1) := by decide +kernel
theorem dX5_goNow_76 : decode cX5_goNow 76 = .ok (.iload_n 1, 1) := by decide +kernel
theorem dX5_goNow_77 : decode cX5_goNow 77 = .ok (.iload 4, 2) := by decide +kernel
theorem dX5_goNow_79 : decode cX5_goNow 79 = .ok (.invokevirtual 118, 3) := by decide +kernel
theorem dX5_goNow_82 : decode cX5_goNow 82 = .ok (.invokevirtual 121, 3) := by decide +kernel
theorem dX5_goNow_85 : decode cX5_goNow 85 = .ok (.aload_n 0, 1) := by decide +kernel
theorem dX5_goNow_86 : decode cX5_goNow 86 = .ok (.getfield 9, 3) := by decide +kernel
theorem dX5_goNow_89 : decode cX5_goNow 89 = .ok (.sipush 682, 3) := by decide +kernel
theorem dX5_goNow_92 : decode cX5_goNow 92 = .ok (.dup2, 1) := by decide +kernel
theorem dX5_goNow_93 : decode cX5_goNow 93 = .ok (.iaload, 1) := by decide +kernel
theorem dX5_goNow_94 : decode cX5_goNow 94 = .ok (.iconst 1, 1) := by decide +kernel
theorem dX5_goNow_95 : decode cX5_goNow 95 = .ok (.iadd, 1) := by decide +kernel
theorem dX5_goNow_96 : decode cX5_goNow 96 = .ok (.iastore, 1) := by decide +kernel
theorem dX5_goNow_97 : decode cX5_goNow 97 = .ok (.iload 5, 2) := by decide +kernel
theorem dX5_goNow_99 : decode cX5_goNow 99 = .ok (.ireturn, 1) := by decide +kernel
set_option maxRecDepth 20000 in
theorem ggX5_actNow_X5_its : GoodIn wsX5_actNow wsX5_its := goodIn_r _ [10, 5, 73, 74, 75, 76] (by decide +kernel) (by decide +kernel)
set_option maxRecDepth 20000 in
theorem gX5_actNow_X5_its : GoodIn wsX5_actNow (wsV RX5 26 RX5 yX5_its wsX5_its) := goodIn_app (goodIn_of _ (by decide +kernel)) ggX5_actNow_X5_its
set_option maxRecDepth 20000 in
theorem ggX5_actNow_X5_put : GoodIn wsX5_actNow wsX5_put := goodIn_r _ [14, 5, 73, 74, 75, 76] (by decide +kernel) (by decide +kernel)
set_option maxRecDepth 20000 in
theorem gX5_actNow_X5_put : GoodIn wsX5_actNow (wsV RX5 86 RX5 yX5_put wsX5_put) := goodIn_app (goodIn_of _ (by decide +kernel)) ggX5_actNow_X5_put
set_option maxRecDepth 20000 in
theorem ggX5_actNow_X5_isIn : GoodIn wsX5_actNow wsX5_isIn := goodIn_r _ [17] (by decide +kernel) (by decide +kernel)
set_option maxRecDepth 20000 in
theorem gX5_actNow_X5_isIn : GoodIn wsX5_actNow (va_wsS RX5 22 yX5_isIn wsX5_isIn) := goodIn_app (goodIn_of _ (by decide +kernel)) ggX5_actNow_X5_isIn
set_option maxRecDepth 20000 in
theorem ggX5_actNow_X5_goNow : GoodIn wsX5_actNow wsX5_goNow := goodIn_r _ [21, 5, 1, 2, 3, 4, 6, 7, 8, 9, 10, 22, 23, 24, 25, 26, 27, 28, 11, 12, 13, 14, 29, 30, 31, 32, 33, 34, 35, 36, 37, 38, 39, 73, 74, 75, 76] (by decide +kernel) (by decide +kernel)
set_option maxRecDepth 20000 in
theorem gX5_actNow_X5_goNow : GoodIn wsX5_actNow (wsV RX5 125 RX5 yX5_goNow wsX5_goNow) := goodIn_app (goodIn_of _ (by decide +kernel)) ggX5_actNow_X5_goNow
set_option maxRecDepth 20000 in
theorem ggX5_actNow_X5_targetNow : GoodIn wsX5_actNow wsX5_targetNow := goodIn_r _ [43, 5, 44, 45, 46, 9, 47, 6, 7, 8, 10, 48, 49, 50, 51, 52, 53, 54, 55, 56, 3, 57, 33, 34, 35, 58, 59, 60, 61, 62, 63, 64, 15, 16, 17, 73, 74, 75, 76] (by decide +kernel) (by decide +kernel)
set_option maxRecDepth 20000 in
theorem gX5_actNow_X5_targetNow : GoodIn wsX5_actNow (wsV RX5 112 RX5 yX5_targetNow wsX5_targetNow) := goodIn_app (goodIn_of _ (by decide +kernel)) ggX5_actNow_X5_targetNow
set_option maxRecDepth 20000 in
theorem ggX5_actNow_X5_layNow : GoodIn wsX5_actNow wsX5_layNow := goodIn_r _ [68, 1, 2, 3, 4, 33, 34, 35, 6, 7, 8, 9, 10, 5, 11, 12, 13, 14, 73, 74, 75, 76] (by decide +kernel) (by decide +kernel)
set_option maxRecDepth 20000 in
theorem gX5_actNow_X5_layNow : GoodIn wsX5_actNow (wsV RX5 93 RX5 yX5_layNow wsX5_layNow) := goodIn_app (goodIn_of _ (by decide +kernel)) ggX5_actNow_X5_layNow
set_option maxRecDepth 20000 in
theorem ggX5_actNow_X5_take : GoodIn wsX5_actNow wsX5_take := goodIn_r _ [39, 33, 34, 3, 35, 6, 7, 8, 9, 10, 5, 11, 12, 13, 14, 73, 74, 75, 76] (by decide +kernel) (by decide +kernel)
set_option maxRecDepth 20000 in
theorem gX5_actNow_X5_take : GoodIn wsX5_actNow (wsV RX5 121 RX5 yX5_take wsX5_take) := goodIn_app (goodIn_of _ (by decide +kernel)) ggX5_actNow_X5_take
set_option maxRecDepth 20000 in
theorem ggX5_actNow_X5_isAlive : GoodIn wsX5_actNow wsX5_isAlive := goodIn_r _ [47, 6, 7, 8, 9, 10, 5, 73, 74, 75, 76] (by decide +kernel) (by decide +kernel)
set_option maxRecDepth 20000 in
theorem gX5_actNow_X5_isAlive : GoodIn wsX5_actNow (wsV RX5 66 RX5 yX5_isAlive wsX5_isAlive) := goodIn_app (goodIn_of _ (by decide +kernel)) ggX5_actNow_X5_isAlive
set_option maxRecDepth 20000 in
theorem ggX5_actNow_X5_look : GoodIn wsX5_actNow wsX5_look := goodIn_r _ [72, 5, 44, 45, 46, 9, 47, 6, 7, 8, 10, 48, 49, 50, 51, 52, 53, 54, 55, 56, 3, 57, 33, 34, 35, 58, 59, 60, 61, 62, 63, 64, 15, 16, 17, 73, 74, 75, 76] (by decide +kernel) (by decide +kernel)
set_option maxRecDepth 20000 in
theorem gX5_actNow_X5_look : GoodIn wsX5_actNow (wsV RX5 79 RX5 yX5_look wsX5_look) := goodIn_app (goodIn_of _ (by decide +kernel)) ggX5_actNow_X5_look
theorem dX5_actNow_0 : decode cX5_actNow 0 = .ok (.aload_n 0, 1) := by decide +kernel
theorem dX5_actNow_1 : decode cX5_actNow 1 = .ok (.iload_n 1, 1) := by decide +kernel
theorem dX5_actNow_2 : decode cX5_actNow 2 = .ok (.bipush 14, 2) := by decide +kernel
theorem dX5_actNow_4 : decode cX5_actNow 4 = .ok (.invokevirtual 26, 3) := by decide +kernel
theorem dX5_actNow_7 : decode cX5_actNow 7 = .ok (.ifCond .le 7, 3) := by decide +kernel
theorem dX5_actNow_10 : decode cX5_actNow 10 = .ok (.iconst 1, 1) := by decide +kernel
theorem dX5_actNow_11 : decode cX5_actNow 11 = .ok (.goto 4, 3) := by decide +kernel
theorem dX5_actNow_14 : decode cX5_actNow 14 = .ok (.iconst 0, 1) := by decide +kernel
theorem dX5_actNow_15 : decode cX5_actNow 15 = .ok (.istore_n 3, 1) := by decide +kernel
theorem dX5_actNow_16 : decode cX5_actNow 16 = .ok (.iconst 0, 1) := by decide +kernel
theorem dX5_actNow_17 : decode cX5_actNow 17 = .ok (.istore 4, 2) := by decide +kernel
theorem dX5_actNow_19 : decode cX5_actNow 19 = .ok (.iload_n 2, 1) := by decide +kernel
theorem dX5_actNow_20 : decode cX5_actNow 20 = .ok (.ifCond .ne 24, 3) := by decide +kernel
theorem dX5_actNow_23 : decode cX5_actNow 23 = .ok (.aload_n 0, 1) := by decide +kernel
theorem dX5_actNow_24 : decode cX5_actNow 24 = .ok (.iload_n 1, 1) := by decide +kernel
theorem dX5_actNow_25 : decode cX5_actNow 25 = .ok (.bipush 7, 2) := by decide +kernel
theorem dX5_actNow_27 : decode cX5_actNow 27 = .ok (.bipush 9, 2) := by decide +kernel
theorem dX5_actNow_29 : decode cX5_actNow 29 = .ok (.aload_n 0, 1) := by decide +kernel
theorem dX5_actNow_30 : decode cX5_actNow 30 = .ok (.iload_n 1, 1) := by decide +kernel
theorem dX5_actNow_31 : decode cX5_actNow 31 = .ok (.bipush 7, 2) := by decide +kernel
theorem dX5_actNow_33 : decode cX5_actNow 33 = .ok (.invokevirtual 26, 3) := by decide +kernel
theorem dX5_actNow_36 : decode cX5_actNow 36 = .ok (.iconst 1, 1) := by decide +kernel
theorem dX5_actNow_37 : decode cX5_actNow 37 = .ok (.iadd, 1) := by decide +kernel
theorem dX5_actNow_38 : decode cX5_actNow 38 = .ok (.invokestatic 90, 3) := by decide +kernel
theorem dX5_actNow_41 : decode cX5_actNow 41 = .ok (.invokevirtual 86, 3) := by decide +kernel
theorem dX5_actNow_44 : decode cX5_actNow 44 = .ok (.iload_n 2, 1) := by decide +kernel
theorem dX5_actNow_45 : decode cX5_actNow 45 = .ok (.iconst 1, 1) := by decide +kernel
theorem dX5_actNow_46 : decode cX5_actNow 46 = .ok (.iconst 4, 1) := by decide +kernel
theorem dX5_actNow_47 : decode cX5_actNow 47 = .ok (.invokestatic 22, 3) := by decide +kernel
theorem dX5_actNow_50 : decode cX5_actNow 50 = .ok (.ifCond .eq 13, 3) := by decide +kernel
theorem dX5_actNow_53 : decode cX5_actNow 53 = .ok (.aload_n 0, 1) := by decide +kernel
theorem dX5_actNow_54 : decode cX5_actNow 54 = .ok (.iload_n 1, 1) := by decide +kernel
theorem dX5_actNow_55 : decode cX5_actNow 55 = .ok (.iload_n 2, 1) := by decide +kernel
theorem dX5_actNow_56 : decode cX5_actNow 56 = .ok (.iconst 1, 1) := by decide +kernel
theorem dX5_actNow_57 : decode cX5_actNow 57 = .ok (.isub, 1) := by decide +kernel
theorem dX5_actNow_58 : decode cX5_actNow 58 = .ok (.invokevirtual 125, 3) := by decide +kernel
theorem dX5_actNow_61 : decode cX5_actNow 61 = .ok (.istore 4, 2) := by decide +kernel
theorem dX5_actNow_63 : decode cX5_actNow 63 = .ok (.iload_n 2, 1) := by decide +kernel
theorem dX5_actNow_64 : decode cX5_actNow 64 = .ok (.iconst 4, 1) := by decide +kernel
theorem dX5_actNow_65 : decode cX5_actNow 65 = .ok (.if_icmp .le 19, 3) := by decide +kernel
theorem dX5_actNow_68 : decode cX5_actNow 68 = .ok (.aload_n 0, 1) := by decide +kernel
theorem dX5_actNow_69 : decode cX5_actNow 69 = .ok (.iload_n 1, 1) := by decide +kernel
theorem dX5_actNow_70 : decode cX5_actNow 70 = .ok (.bipush 7, 2) := by decide +kernel
theorem dX5_actNow_72 : decode cX5_actNow 72 = .ok (.aload_n 0, 1) := by decide +kernel
theorem dX5_actNow_73 : decode cX5_actNow 73 = .ok (.iload_n 1, 1) := by decide +kernel
theorem dX5_actNow_74 : decode cX5_actNow 74 = .ok (.bipush 7, 2) := by decide +kernel
theorem dX5_actNow_76 : decode cX5_actNow 76 = .ok (.invokevirtual 26, 3) := by decide +kernel
theorem dX5_actNow_79 : decode cX5_actNow 79 = .ok (.iconst 3, 1) := by decide +kernel
theorem dX5_actNow_80 : decode cX5_actNow 80 = .ok (.isub, 1) := by decide +kernel
theorem dX5_actNow_81 : decode cX5_actNow 81 = .ok (.invokevirtual 86, 3) := by decide +kernel
theorem dX5_actNow_84 : decode cX5_actNow 84 = .ok (.iload_n 2, 1) := by decide +kernel
theorem dX5_actNow_85 : decode cX5_actNow 85 = .ok (.iconst 5, 1) := by decide +kernel
theorem dX5_actNow_86 : decode cX5_actNow 86 = .ok (.if_icmp .ne 15, 3) := by decide +kernel
theorem dX5_actNow_89 : decode cX5_actNow 89 = .ok (.aload_n 0, 1) := by decide +kernel
theorem dX5_actNow_90 : decode cX5_actNow 90 = .ok (.aload_n 0, 1) := by decide +kernel
theorem dX5_actNow_91 : decode cX5_actNow 91 = .ok (.iload_n 1, 1) := by decide +kernel
theorem dX5_actNow_92 : decode cX5_actNow 92 = .ok (.invokevirtual 112, 3) := by decide +kernel
theorem dX5_actNow_95 : decode cX5_actNow 95 = .ok (.iconst 0, 1) := by decide +kernel
theorem dX5_actNow_96 : decode cX5_actNow 96 = .ok (.iconst 2, 1) := by decide +kernel
theorem dX5_actNow_97 : decode cX5_actNow 97 = .ok (.iconst 3, 1) := by decide +kernel
theorem dX5_actNow_98 : decode cX5_actNow 98 = .ok (.invokevirtual 93, 3) := by decide +kernel
theorem dX5_actNow_101 : decode cX5_actNow 101 = .ok (.iload_n 2, 1) := by decide +kernel
theorem dX5_actNow_102 : decode cX5_actNow 102 = .ok (.bipush 6, 2) := by decide +kernel
theorem dX5_actNow_104 : decode cX5_actNow 104 = .ok (.if_icmp .ne 11, 3) := by decide +kernel
theorem dX5_actNow_107 : decode cX5_actNow 107 = .ok (.aload_n 0, 1) := by decide +kernel
theorem dX5_actNow_108 : decode cX5_actNow 108 = .ok (.iload_n 1, 1) := by decide +kernel
theorem dX5_actNow_109 : decode cX5_actNow 109 = .ok (.iconst 3, 1) := by decide +kernel
theorem dX5_actNow_110 : decode cX5_actNow 110 = .ok (.iconst 3, 1) := by decide +kernel
theorem dX5_actNow_111 : decode cX5_actNow 111 = .ok (.iconst 4, 1) := by decide +kernel
theorem dX5_actNow_112 : decode cX5_actNow 112 = .ok (.invokevirtual 93, 3) := by decide +kernel
theorem dX5_actNow_115 : decode cX5_actNow 115 = .ok (.iload_n 2, 1) := by decide +kernel
theorem dX5_actNow_116 : decode cX5_actNow 116 = .ok (.bipush 7, 2) := by decide +kernel
theorem dX5_actNow_118 : decode cX5_actNow 118 = .ok (.if_icmp .ne 11, 3) := by decide +kernel
theorem dX5_actNow_121 : decode cX5_actNow 121 = .ok (.aload_n 0, 1) := by decide +kernel
theorem dX5_actNow_122 : decode cX5_actNow 122 = .ok (.iload_n 1, 1) := by decide +kernel
theorem dX5_actNow_123 : decode cX5_actNow 123 = .ok (.iconst 1, 1) := by decide +kernel
theorem dX5_actNow_124 : decode cX5_actNow 124 = .ok (.iconst 2, 1) := by decide +kernel
theorem dX5_actNow_125 : decode cX5_actNow 125 = .ok (.iconst 4, 1) := by decide +kernel
theorem dX5_actNow_126 : decode cX5_actNow 126 = .ok (.invokevirtual 93, 3) := by decide +kernel
theorem dX5_actNow_129 : decode cX5_actNow 129 = .ok (.aload_n 0, 1) := by decide +kernel
theorem dX5_actNow_130 : decode cX5_actNow 130 = .ok (.iload_n 1, 1) := by decide +kernel
theorem dX5_actNow_131 : decode cX5_actNow 131 = .ok (.aload_n 0, 1) := by decide +kernel
theorem dX5_actNow_132 : decode cX5_actNow 132 = .ok (.iload_n 1, 1) := by decide +kernel
theorem dX5_actNow_133 : decode cX5_actNow 133 = .ok (.bipush 10, 2) := by decide +kernel
theorem dX5_actNow_135 : decode cX5_actNow 135 = .ok (.invokevirtual 26, 3) := by decide +kernel
theorem dX5_actNow_138 : decode cX5_actNow 138 = .ok (.invokevirtual 121, 3) := by decide +kernel
theorem dX5_actNow_141 : decode cX5_actNow 141 = .ok (.aload_n 0, 1) := by decide +kernel
theorem dX5_actNow_142 : decode cX5_actNow 142 = .ok (.iload_n 1, 1) := by decide +kernel
theorem dX5_actNow_143 : decode cX5_actNow 143 = .ok (.invokevirtual 66, 3) := by decide +kernel
theorem dX5_actNow_146 : decode cX5_actNow 146 = .ok (.ifCond .eq 32, 3) := by decide +kernel
theorem dX5_actNow_149 : decode cX5_actNow 149 = .ok (.aload_n 0, 1) := by decide +kernel
theorem dX5_actNow_150 : decode cX5_actNow 150 = .ok (.iload_n 1, 1) := by decide +kernel
theorem dX5_actNow_151 : decode cX5_actNow 151 = .ok (.iconst 2, 1) := by decide +kernel
theorem dX5_actNow_152 : decode cX5_actNow 152 = .ok (.aload_n 0, 1) := by decide +kernel
theorem dX5_actNow_153 : decode cX5_actNow 153 = .ok (.iload_n 1, 1) := by decide +kernel
theorem dX5_actNow_154 : decode cX5_actNow 154 = .ok (.iconst 3, 1) := by decide +kernel
theorem dX5_actNow_155 : decode cX5_actNow 155 = .ok (.invokevirtual 26, 3) := by decide +kernel
theorem dX5_actNow_158 : decode cX5_actNow 158 = .ok (.aload_n 0, 1) := by decide +kernel
theorem dX5_actNow_159 : decode cX5_actNow 159 = .ok (.iload_n 1, 1) := by decide +kernel
theorem dX5_actNow_160 : decode cX5_actNow 160 = .ok (.iconst 2, 1) := by decide +kernel
theorem dX5_actNow_161 : decode cX5_actNow 161 = .ok (.invokevirtual 26, 3) := by decide +kernel
theorem dX5_actNow_164 : decode cX5_actNow 164 = .ok (.aload_n 0, 1) := by decide +kernel
theorem dX5_actNow_165 : decode cX5_actNow 165 = .ok (.iload_n 1, 1) := by decide +kernel
theorem dX5_actNow_166 : decode cX5_actNow 166 = .ok (.bipush 11, 2) := by decide +kernel
theorem dX5_actNow_168 : decode cX5_actNow 168 = .ok (.invokevirtual 26, 3) := by decide +kernel
theorem dX5_actNow_171 : decode cX5_actNow 171 = .ok (.iadd, 1) := by decide +kernel
theorem dX5_actNow_172 : decode cX5_actNow 172 = .ok (.invokestatic 90, 3) := by decide +kernel
theorem dX5_actNow_175 : decode cX5_actNow 175 = .ok (.invokevirtual 86, 3) := by decide +kernel
theorem dX5_actNow_178 : decode cX5_actNow 178 = .ok (.iconst 0, 1) := by decide +kernel
theorem dX5_actNow_179 : decode cX5_actNow 179 = .ok (.istore 5, 2) := by decide +kernel
theorem dX5_actNow_181 : decode cX5_actNow 181 = .ok (.iload 5, 2) := by decide +kernel
theorem dX5_actNow_183 : decode cX5_actNow 183 = .ok (.iconst 5, 1) := by decide +kernel
theorem dX5_actNow_184 : decode cX5_actNow 184 = .ok (.if_icmp .ge 71, 3) := by decide +kernel
theorem dX5_actNow_187 : decode cX5_actNow 187 = .ok (.aload_n 0, 1) := by decide +kernel
theorem dX5_actNow_188 : decode cX5_actNow 188 = .ok (.iload_n 1, 1) := by decide +kernel
theorem dX5_actNow_189 : decode cX5_actNow 189 = .ok (.bipush 15, 2) := by decide +kernel
theorem dX5_actNow_191 : decode cX5_actNow 191 = .ok (.iload 5, 2) := by decide +kernel
theorem dX5_actNow_193 : decode cX5_actNow 193 = .ok (.iadd, 1) := by decide +kernel
theorem dX5_actNow_194 : decode cX5_actNow 194 = .ok (.invokevirtual 26, 3) := by decide +kernel
theorem dX5_actNow_197 : decode cX5_actNow 197 = .ok (.ifCond .ne 6, 3) := by decide +kernel
theorem dX5_actNow_200 : decode cX5_actNow 200 = .ok (.goto 49, 3) := by decide +kernel
theorem dX5_actNow_203 : decode cX5_actNow 203 = .ok (.aload_n 0, 1) := by decide +kernel
theorem dX5_actNow_204 : decode cX5_actNow 204 = .ok (.iload_n 1, 1) := by decide +kernel
theorem dX5_actNow_205 : decode cX5_actNow 205 = .ok (.bipush 15, 2) := by decide +kernel
theorem dX5_actNow_207 : decode cX5_actNow 207 = .ok (.iload 5, 2) := by decide +kernel
theorem dX5_actNow_209 : decode cX5_actNow 209 = .ok (.iadd, 1) := by decide +kernel
theorem dX5_actNow_210 : decode cX5_actNow 210 = .ok (.aload_n 0, 1) := by decide +kernel
theorem dX5_actNow_211 : decode cX5_actNow 211 = .ok (.iload_n 1, 1) := by decide +kernel
theorem dX5_actNow_212 : decode cX5_actNow 212 = .ok (.bipush 15, 2) := by decide +kernel
theorem dX5_actNow_214 : decode cX5_actNow 214 = .ok (.iload 5, 2) := by decide +kernel
theorem dX5_actNow_216 : decode cX5_actNow 216 = .ok (.iadd, 1) := by decide +kernel
theorem dX5_actNow_217 : decode cX5_actNow 217 = .ok (.invokevirtual 26, 3) := by decide +kernel
theorem dX5_actNow_220 : decode cX5_actNow 220 = .ok (.iconst 1, 1) := by decide +kernel
theorem dX5_actNow_221 : decode cX5_actNow 221 = .ok (.isub, 1) := by decide +kernel
theorem dX5_actNow_222 : decode cX5_actNow 222 = .ok (.invokevirtual 86, 3) := by decide +kernel
theorem dX5_actNow_225 : decode cX5_actNow 225 = .ok (.aload_n 0, 1) := by decide +kernel
theorem dX5_actNow_226 : decode cX5_actNow 226 = .ok (.iload_n 1, 1) := by decide +kernel
theorem dX5_actNow_227 : decode cX5_actNow 227 = .ok (.bipush 15, 2) := by decide +kernel
theorem dX5_actNow_229 : decode cX5_actNow 229 = .ok (.iload 5, 2) := by decide +kernel
theorem dX5_actNow_231 : decode cX5_actNow 231 = .ok (.iadd, 1) := by decide +kernel
theorem dX5_actNow_232 : decode cX5_actNow 232 = .ok (.invokevirtual 26, 3) := by decide +kernel
theorem dX5_actNow_235 : decode cX5_actNow 235 = .ok (.ifCond .ne 14, 3) := by decide +kernel
theorem dX5_actNow_238 : decode cX5_actNow 238 = .ok (.aload_n 0, 1) := by decide +kernel
theorem dX5_actNow_239 : decode cX5_actNow 239 = .ok (.iload_n 1, 1) := by decide +kernel
theorem dX5_actNow_240 : decode cX5_actNow 240 = .ok (.bipush 10, 2) := by decide +kernel
theorem dX5_actNow_242 : decode cX5_actNow 242 = .ok (.iload 5, 2) := by decide +kernel
theorem dX5_actNow_244 : decode cX5_actNow 244 = .ok (.iadd, 1) := by decide +kernel
theorem dX5_actNow_245 : decode cX5_actNow 245 = .ok (.iconst 0, 1) := by decide +kernel
theorem dX5_actNow_246 : decode cX5_actNow 246 = .ok (.invokevirtual 86, 3) := by decide +kernel
theorem dX5_actNow_249 : decode cX5_actNow 249 = .ok (.iinc 5 1, 3) := by decide +kernel
theorem dX5_actNow_252 : decode cX5_actNow 252 = .ok (.goto (-71), 3) := by decide +kernel
theorem dX5_actNow_255 : decode cX5_actNow 255 = .ok (.aload_n 0, 1) := by decide +kernel
theorem dX5_actNow_256 : decode cX5_actNow 256 = .ok (.iload_n 1, 1) := by decide +kernel
theorem dX5_actNow_257 : decode cX5_actNow 257 = .ok (.bipush 8, 2) := by decide +kernel
theorem dX5_actNow_259 : decode cX5_actNow 259 = .ok (.aload_n 0, 1) := by decide +kernel
theorem dX5_actNow_260 : decode cX5_actNow 260 = .ok (.iload_n 1, 1) := by decide +kernel
theorem dX5_actNow_261 : decode cX5_actNow 261 = .ok (.bipush 8, 2) := by decide +kernel
theorem dX5_actNow_263 : decode cX5_actNow 263 = .ok (.invokevirtual 26, 3) := by decide +kernel
theorem dX5_actNow_266 : decode cX5_actNow 266 = .ok (.bipush 12, 2) := by decide +kernel
theorem dX5_actNow_268 : decode cX5_actNow 268 = .ok (.aload_n 0, 1) := by decide +kernel
theorem dX5_actNow_269 : decode cX5_actNow 269 = .ok (.iload_n 1, 1) := by decide +kernel
theorem dX5_actNow_270 : decode cX5_actNow 270 = .ok (.bipush 6, 2) := by decide +kernel
theorem dX5_actNow_272 : decode cX5_actNow 272 = .ok (.invokevirtual 26, 3) := by decide +kernel
theorem dX5_actNow_275 : decode cX5_actNow 275 = .ok (.idiv, 1) := by decide +kernel
theorem dX5_actNow_276 : decode cX5_actNow 276 = .ok (.iload_n 3, 1) := by decide +kernel
theorem dX5_actNow_277 : decode cX5_actNow 277 = .ok (.ifCond .eq 7, 3) := by decide +kernel
theorem dX5_actNow_280 : decode cX5_actNow 280 = .ok (.iconst 2, 1) := by decide +kernel
theorem dX5_actNow_281 : decode cX5_actNow 281 = .ok (.goto 4, 3) := by decide +kernel
theorem dX5_actNow_284 : decode cX5_actNow 284 = .ok (.iconst 1, 1) := by decide +kernel
theorem dX5_actNow_285 : decode cX5_actNow 285 = .ok (.imul, 1) := by decide +kernel
theorem dX5_actNow_286 : decode cX5_actNow 286 = .ok (.iadd, 1) := by decide +kernel
theorem dX5_actNow_287 : decode cX5_actNow 287 = .ok (.invokevirtual 86, 3) := by decide +kernel
theorem dX5_actNow_290 : decode cX5_actNow 290 = .ok (.aload_n 0, 1) := by decide +kernel
theorem dX5_actNow_291 : decode cX5_actNow 291 = .ok (.getfield 9, 3) := by decide +kernel
theorem dX5_actNow_294 : decode cX5_actNow 294 = .ok (.sipush 681, 3) := by decide +kernel
theorem dX5_actNow_297 : decode cX5_actNow 297 = .ok (.dup2, 1) := by decide +kernel
theorem dX5_actNow_298 : decode cX5_actNow 298 = .ok (.iaload, 1) := by decide +kernel
theorem dX5_actNow_299 : decode cX5_actNow 299 = .ok (.iconst 1, 1) := by decide +kernel
theorem dX5_actNow_300 : decode cX5_actNow 300 = .ok (.iadd, 1) := by decide +kernel
theorem dX5_actNow_301 : decode cX5_actNow 301 = .ok (.iastore, 1) := by decide +kernel
theorem dX5_actNow_302 : decode cX5_actNow 302 = .ok (.aload_n 0, 1) := by decide +kernel
theorem dX5_actNow_303 : decode cX5_actNow 303 = .ok (.iload_n 1, 1) := by decide +kernel
theorem dX5_actNow_304 : decode cX5_actNow 304 = .ok (.invokevirtual 79, 3) := by decide +kernel
theorem dX5_actNow_307 : decode cX5_actNow 307 = .ok (.iload 4, 2) := by decide +kernel
theorem dX5_actNow_309 : decode cX5_actNow 309 = .ok (.ireturn, 1) := by decide +kernel
set_option maxRecDepth 20000 in
theorem ggX5_act_X5_isIn : GoodIn wsX5_act wsX5_isIn := goodIn_r _ [5] (by decide +kernel) (by decide +kernel)
set_option maxRecDepth 20000 in
theorem gX5_act_X5_isIn : GoodIn wsX5_act (va_wsS RX5 22 yX5_isIn wsX5_isIn) := goodIn_app (goodIn_of _ (by decide +kernel)) ggX5_act_X5_isIn
set_option maxRecDepth 20000 in
theorem ggX5_act_X5_no : GoodIn wsX5_act wsX5_no := goodIn_r _ [9, 1, 90, 91, 92, 93] (by decide +kernel) (by decide +kernel)
set_option maxRecDepth 20000 in
theorem gX5_act_X5_no : GoodIn wsX5_act (wsV RX5 30 RX5 yX5_no wsX5_no) := goodIn_app (goodIn_of _ (by decide +kernel)) ggX5_act_X5_no
set_option maxRecDepth 20000 in
theorem ggX5_act_X5_turn : GoodIn wsX5_act wsX5_turn := goodIn_r _ [13, 14, 15, 16, 17, 4, 18, 19, 20, 21, 22, 90, 91, 92, 93] (by decide +kernel) (by decide +kernel)
set_option maxRecDepth 20000 in
theorem gX5_act_X5_turn : GoodIn wsX5_act (wsV RX5 69 RX5 yX5_turn wsX5_turn) := goodIn_app (goodIn_of _ (by decide +kernel)) ggX5_act_X5_turn
set_option maxRecDepth 20000 in
theorem ggX5_act_X5_isPossible : GoodIn wsX5_act wsX5_isPossible := goodIn_r _ [26, 14, 19, 20, 21, 4, 22, 27, 28, 29, 30, 15, 16, 17, 18, 31, 32, 33, 34, 35, 36, 37, 38, 39, 40, 41, 42, 43, 44, 45, 46, 47, 48, 49, 50, 51, 2, 3, 5, 52, 53, 54, 55, 56, 57, 58, 90, 91, 92, 93] (by decide +kernel) (by decide +kernel)
set_option maxRecDepth 20000 in
theorem gX5_act_X5_isPossible : GoodIn wsX5_act (wsV RX5 128 RX5 yX5_isPossible wsX5_isPossible) := goodIn_app (goodIn_of _ (by decide +kernel)) ggX5_act_X5_isPossible
set_option maxRecDepth 20000 in
theorem ggX5_act_X5_actNow : GoodIn wsX5_act wsX5_actNow := goodIn_r _ [62, 63, 64, 40, 65, 14, 19, 20, 21, 4, 22, 66, 67, 68, 69, 2, 3, 5, 70, 71, 72, 73, 52, 53, 54, 55, 56, 57, 58, 74, 75, 76, 77, 42, 43, 44, 78, 79, 80, 81, 27, 28, 29, 30, 15, 16, 17, 18, 31, 32, 33, 34, 35, 36, 37, 38, 39, 41, 45, 46, 47, 48, 49, 50, 51, 82, 83, 84, 85, 86, 87, 88, 89, 90, 91, 92, 93] (by decide +kernel) (by decide +kernel)
set_option maxRecDepth 20000 in
theorem gX5_act_X5_actNow : GoodIn wsX5_act (wsV RX5 131 RX5 yX5_actNow wsX5_actNow) := goodIn_app (goodIn_of _ (by decide +kernel)) ggX5_act_X5_actNow
theorem dX5_act_0 : decode cX5_act 0 = .ok (.aload_n 0, 1) := by decide +kernel
theorem dX5_act_1 : decode cX5_act 1 = .ok (.iconst 0, 1) := by decide +kernel
theorem dX5_act_2 : decode cX5_act 2 = .ok (.putfield 18, 3) := by decide +kernel
theorem dX5_act_5 : decode cX5_act 5 = .ok (.iload_n 1, 1) := by decide +kernel
theorem dX5_act_6 : decode cX5_act 6 = .ok (.iconst 0, 1) := by decide +kernel
theorem dX5_act_7 : decode cX5_act 7 = .ok (.bipush 7, 2) := by decide +kernel
theorem dX5_act_9 : decode cX5_act 9 = .ok (.invokestatic 22, 3) := by decide +kernel
theorem dX5_act_12 : decode cX5_act 12 = .ok (.ifCond .ne 9, 3) := by decide +kernel
theorem dX5_act_15 : decode cX5_act 15 = .ok (.aload_n 0, 1) := by decide +kernel
theorem dX5_act_16 : decode cX5_act 16 = .ok (.iconst 1, 1) := by decide +kernel
theorem dX5_act_17 : decode cX5_act 17 = .ok (.invokevirtual 30, 3) := by decide +kernel
theorem dX5_act_20 : decode cX5_act 20 = .ok (.ireturn, 1) := by decide +kernel
theorem dX5_act_21 : decode cX5_act 21 = .ok (.aload_n 0, 1) := by decide +kernel
theorem dX5_act_22 : decode cX5_act 22 = .ok (.invokevirtual 69, 3) := by decide +kernel
theorem dX5_act_25 : decode cX5_act 25 = .ok (.istore_n 2, 1) := by decide +kernel
theorem dX5_act_26 : decode cX5_act 26 = .ok (.iload_n 2, 1) := by decide +kernel
theorem dX5_act_27 : decode cX5_act 27 = .ok (.iconst (-1), 1) := by decide +kernel
theorem dX5_act_28 : decode cX5_act 28 = .ok (.if_icmp .eq 12, 3) := by decide +kernel
theorem dX5_act_31 : decode cX5_act 31 = .ok (.aload_n 0, 1) := by decide +kernel
theorem dX5_act_32 : decode cX5_act 32 = .ok (.iload_n 2, 1) := by decide +kernel
theorem dX5_act_33 : decode cX5_act 33 = .ok (.iload_n 1, 1) := by decide +kernel
theorem dX5_act_34 : decode cX5_act 34 = .ok (.invokevirtual 128, 3) := by decide +kernel
theorem dX5_act_37 : decode cX5_act 37 = .ok (.ifCond .ne 9, 3) := by decide +kernel
theorem dX5_act_40 : decode cX5_act 40 = .ok (.aload_n 0, 1) := by decide +kernel
theorem dX5_act_41 : decode cX5_act 41 = .ok (.iconst 2, 1) := by decide +kernel
theorem dX5_act_42 : decode cX5_act 42 = .ok (.invokevirtual 30, 3) := by decide +kernel
theorem dX5_act_45 : decode cX5_act 45 = .ok (.ireturn, 1) := by decide +kernel
theorem dX5_act_46 : decode cX5_act 46 = .ok (.aload_n 0, 1) := by decide +kernel
theorem dX5_act_47 : decode cX5_act 47 = .ok (.iload_n 2, 1) := by decide +kernel
theorem dX5_act_48 : decode cX5_act 48 = .ok (.iload_n 1, 1) := by decide +kernel
theorem dX5_act_49 : decode cX5_act 49 = .ok (.invokevirtual 131, 3) := by decide +kernel
theorem dX5_act_52 : decode cX5_act 52 = .ok (.ireturn, 1) := by decide +kernel
set_option maxRecDepth 20000 in
theorem ggX5_followNow_X5_alive : GoodIn wsX5_followNow wsX5_alive := goodIn_r _ [5, 6, 7, 8, 9, 4, 10, 11, 12, 13, 14, 130, 131, 132, 133] (by decide +kernel) (by decide +kernel)
set_option maxRecDepth 20000 in
theorem gX5_followNow_X5_alive : GoodIn wsX5_followNow (wsV RX5 103 RX5 yX5_alive wsX5_alive) := goodIn_app (goodIn_of _ (by decide +kernel)) ggX5_followNow_X5_alive
set_option maxRecDepth 20000 in
theorem ggX5_followNow_X5_turn : GoodIn wsX5_followNow wsX5_turn := goodIn_r _ [18, 6, 7, 8, 9, 4, 10, 11, 12, 13, 14, 130, 131, 132, 133] (by decide +kernel) (by decide +kernel)
set_option maxRecDepth 20000 in
theorem gX5_followNow_X5_turn : GoodIn wsX5_followNow (wsV RX5 69 RX5 yX5_turn wsX5_turn) := goodIn_app (goodIn_of _ (by decide +kernel)) ggX5_followNow_X5_turn
set_option maxRecDepth 20000 in
theorem ggX5_followNow_X5_planNow : GoodIn wsX5_followNow wsX5_planNow := goodIn_r _ [22, 23, 24, 25, 4, 26, 27, 6, 7, 8, 9, 10, 11, 12, 13, 14, 28, 29, 30, 31, 32, 33, 34, 35, 36, 37, 38, 39, 40, 41, 42, 43, 44, 45, 46, 47, 48, 49, 50, 51, 52, 53, 54, 55, 56, 57, 58, 59, 60, 61, 62, 63, 64, 65, 66, 67, 68, 69, 70, 71, 72, 73, 74, 75, 76, 77, 78, 79, 80, 81, 82, 83, 84, 85, 86, 87, 88, 89, 90, 91, 92, 93, 94, 95, 96, 97, 98, 99, 100, 101, 102, 130, 131, 132, 133] (by decide +kernel) (by decide +kernel)
set_option maxRecDepth 20000 in
theorem gX5_followNow_X5_planNow : GoodIn wsX5_followNow (wsV RX5 134 RX5 yX5_planNow wsX5_planNow) := goodIn_app (goodIn_of _ (by decide +kernel)) ggX5_followNow_X5_planNow
set_option maxRecDepth 20000 in
theorem ggX5_followNow_X5_actNow : GoodIn wsX5_followNow wsX5_actNow := goodIn_r _ [106, 107, 108, 45, 109, 6, 11, 12, 13, 4, 14, 110, 111, 112, 113, 57, 58, 59, 114, 115, 116, 117, 69, 70, 71, 65, 66, 67, 68, 96, 97, 98, 99, 47, 48, 49, 118, 119, 120, 121, 32, 33, 34, 35, 7, 8, 9, 10, 36, 37, 38, 39, 40, 41, 42, 43, 44, 46, 50, 51, 52, 53, 54, 55, 56, 122, 123, 124, 125, 126, 127, 128, 129, 130, 131, 132, 133] (by decide +kernel) (by decide +kernel)
set_option maxRecDepth 20000 in
theorem gX5_followNow_X5_actNow : GoodIn wsX5_followNow (wsV RX5 131 RX5 yX5_actNow wsX5_actNow) := goodIn_app (goodIn_of _ (by decide +kernel)) ggX5_followNow_X5_actNow
theorem dX5_followNow_0 : decode cX5_followNow 0 = .ok (.iconst 0, 1) := by decide +kernel
theorem dX5_followNow_1 : decode cX5_followNow 1 = .ok (.istore_n 2, 1) := by decide +kernel
theorem dX5_followNow_2 : decode cX5_followNow 2 = .ok (.iload_n 2, 1) := by decide +kernel
theorem dX5_followNow_3 : decode cX5_followNow 3 = .ok (.iload_n 1, 1) := by decide +kernel
theorem dX5_followNow_4 : decode cX5_followNow 4 = .ok (.if_icmp .ge 41, 3) := by decide +kernel
theorem dX5_followNow_7 : decode cX5_followNow 7 = .ok (.aload_n 0, 1) := by decide +kernel
theorem dX5_followNow_8 : decode cX5_followNow 8 = .ok (.iconst 0, 1) := by decide +kernel
theorem dX5_followNow_9 : decode cX5_followNow 9 = .ok (.invokevirtual 103, 3) := by decide +kernel
theorem dX5_followNow_12 : decode cX5_followNow 12 = .ok (.ifCond .le 33, 3) := by decide +kernel
theorem dX5_followNow_15 : decode cX5_followNow 15 = .ok (.aload_n 0, 1) := by decide +kernel
theorem dX5_followNow_16 : decode cX5_followNow 16 = .ok (.iconst 1, 1) := by decide +kernel
theorem dX5_followNow_17 : decode cX5_followNow 17 = .ok (.invokevirtual 103, 3) := by decide +kernel
theorem dX5_followNow_20 : decode cX5_followNow 20 = .ok (.ifCond .le 25, 3) := by decide +kernel
theorem dX5_followNow_23 : decode cX5_followNow 23 = .ok (.aload_n 0, 1) := by decide +kernel
theorem dX5_followNow_24 : decode cX5_followNow 24 = .ok (.invokevirtual 69, 3) := by decide +kernel
theorem dX5_followNow_27 : decode cX5_followNow 27 = .ok (.istore_n 3, 1) := by decide +kernel
theorem dX5_followNow_28 : decode cX5_followNow 28 = .ok (.aload_n 0, 1) := by decide +kernel
theorem dX5_followNow_29 : decode cX5_followNow 29 = .ok (.iload_n 3, 1) := by decide +kernel
theorem dX5_followNow_30 : decode cX5_followNow 30 = .ok (.aload_n 0, 1) := by decide +kernel
theorem dX5_followNow_31 : decode cX5_followNow 31 = .ok (.iload_n 3, 1) := by decide +kernel
theorem dX5_followNow_32 : decode cX5_followNow 32 = .ok (.invokevirtual 134, 3) := by decide +kernel
theorem dX5_followNow_35 : decode cX5_followNow 35 = .ok (.invokevirtual 131, 3) := by decide +kernel
theorem dX5_followNow_38 : decode cX5_followNow 38 = .ok (.pop, 1) := by decide +kernel
theorem dX5_followNow_39 : decode cX5_followNow 39 = .ok (.iinc 2 1, 3) := by decide +kernel
theorem dX5_followNow_42 : decode cX5_followNow 42 = .ok (.goto (-40), 3) := by decide +kernel
theorem dX5_followNow_45 : decode cX5_followNow 45 = .ok (.iload_n 2, 1) := by decide +kernel
theorem dX5_followNow_46 : decode cX5_followNow 46 = .ok (.ireturn, 1) := by decide +kernel
set_option maxRecDepth 20000 in
theorem ggX5_follow_X5_isIn : GoodIn wsX5_follow wsX5_isIn := goodIn_r _ [5] (by decide +kernel) (by decide +kernel)
set_option maxRecDepth 20000 in
theorem gX5_follow_X5_isIn : GoodIn wsX5_follow (va_wsS RX5 22 yX5_isIn wsX5_isIn) := goodIn_app (goodIn_of _ (by decide +kernel)) ggX5_follow_X5_isIn
set_option maxRecDepth 20000 in
theorem ggX5_follow_X5_followNow : GoodIn wsX5_follow wsX5_followNow := goodIn_r _ [9, 10, 11, 12, 4, 13, 14, 15, 16, 17, 18, 19, 20, 21, 22, 23, 24, 25, 26, 27, 28, 29, 30, 31, 32, 33, 34, 35, 36, 37, 38, 39, 40, 41, 42, 43, 44, 45, 46, 47, 48, 49, 50, 51, 52, 53, 54, 55, 56, 57, 58, 59, 60, 61, 62, 63, 64, 2, 3, 5, 65, 66, 67, 68, 69, 70, 71, 72, 73, 74, 75, 76, 77, 78, 79, 80, 81, 82, 83, 84, 85, 86, 87, 88, 89, 90, 91, 92, 93, 94, 95, 96, 97, 98, 99, 100, 101, 102, 103, 104, 105, 106, 107, 108, 109, 110, 111, 112, 113, 114, 115, 116, 117, 118, 119, 120, 121, 122, 123, 124, 125, 126, 127, 128, 129, 130, 131, 132, 133, 134, 139, 140, 141, 142] (by decide +kernel) (by decide +kernel)
set_option maxRecDepth 20000 in
theorem gX5_follow_X5_followNow : GoodIn wsX5_follow (wsV RX5 137 RX5 yX5_followNow wsX5_followNow) := goodIn_app (goodIn_of _ (by decide +kernel)) ggX5_follow_X5_followNow
set_option maxRecDepth 20000 in
theorem ggX5_follow_X5_no : GoodIn wsX5_follow wsX5_no := goodIn_r _ [138, 1, 139, 140, 141, 142] (by decide +kernel) (by decide +kernel)
set_option maxRecDepth 20000 in
theorem gX5_follow_X5_no : GoodIn wsX5_follow (wsV RX5 30 RX5 yX5_no wsX5_no) := goodIn_app (goodIn_of _ (by decide +kernel)) ggX5_follow_X5_no
theorem dX5_follow_0 : decode cX5_follow 0 = .ok (.aload_n 0, 1) := by decide +kernel
theorem dX5_follow_1 : decode cX5_follow 1 = .ok (.iconst 0, 1) := by decide +kernel
theorem dX5_follow_2 : decode cX5_follow 2 = .ok (.putfield 18, 3) := by decide +kernel
theorem dX5_follow_5 : decode cX5_follow 5 = .ok (.iload_n 1, 1) := by decide +kernel
theorem dX5_follow_6 : decode cX5_follow 6 = .ok (.iconst 1, 1) := by decide +kernel
theorem dX5_follow_7 : decode cX5_follow 7 = .ok (.bipush 40, 2) := by decide +kernel
theorem dX5_follow_9 : decode cX5_follow 9 = .ok (.invokestatic 22, 3) := by decide +kernel
theorem dX5_follow_12 : decode cX5_follow 12 = .ok (.ifCond .eq 11, 3) := by decide +kernel
theorem dX5_follow_15 : decode cX5_follow 15 = .ok (.aload_n 0, 1) := by decide +kernel
theorem dX5_follow_16 : decode cX5_follow 16 = .ok (.iload_n 1, 1) := by decide +kernel
theorem dX5_follow_17 : decode cX5_follow 17 = .ok (.invokevirtual 137, 3) := by decide +kernel
theorem dX5_follow_20 : decode cX5_follow 20 = .ok (.goto 8, 3) := by decide +kernel
theorem dX5_follow_23 : decode cX5_follow 23 = .ok (.aload_n 0, 1) := by decide +kernel
theorem dX5_follow_24 : decode cX5_follow 24 = .ok (.iconst 1, 1) := by decide +kernel
theorem dX5_follow_25 : decode cX5_follow 25 = .ok (.invokevirtual 30, 3) := by decide +kernel
theorem dX5_follow_28 : decode cX5_follow 28 = .ok (.ireturn, 1) := by decide +kernel
set_option maxRecDepth 20000 in
theorem ggX5_target_X5_isBeing : GoodIn wsX5_target wsX5_isBeing := goodIn_r _ [6, 7, 8, 9, 5, 10, 48, 49, 50, 51] (by decide +kernel) (by decide +kernel)
set_option maxRecDepth 20000 in
theorem gX5_target_X5_isBeing : GoodIn wsX5_target (wsV RX5 83 RX5 yX5_isBeing wsX5_isBeing) := goodIn_app (goodIn_of _ (by decide +kernel)) ggX5_target_X5_isBeing
set_option maxRecDepth 20000 in
theorem ggX5_target_X5_targetNow : GoodIn wsX5_target wsX5_targetNow := goodIn_r _ [14, 7, 15, 16, 17, 5, 18, 19, 20, 21, 22, 23, 24, 25, 26, 27, 28, 29, 30, 31, 32, 33, 34, 35, 36, 37, 38, 39, 40, 41, 42, 43, 8, 9, 10, 48, 49, 50, 51] (by decide +kernel) (by decide +kernel)
set_option maxRecDepth 20000 in
theorem gX5_target_X5_targetNow : GoodIn wsX5_target (wsV RX5 112 RX5 yX5_targetNow wsX5_targetNow) := goodIn_app (goodIn_of _ (by decide +kernel)) ggX5_target_X5_targetNow
set_option maxRecDepth 20000 in
theorem ggX5_target_X5_no : GoodIn wsX5_target wsX5_no := goodIn_r _ [47, 1, 48, 49, 50, 51] (by decide +kernel) (by decide +kernel)
set_option maxRecDepth 20000 in
theorem gX5_target_X5_no : GoodIn wsX5_target (wsV RX5 30 RX5 yX5_no wsX5_no) := goodIn_app (goodIn_of _ (by decide +kernel)) ggX5_target_X5_no
theorem dX5_target_0 : decode cX5_target 0 = .ok (.aload_n 0, 1) := by decide +kernel
theorem dX5_target_1 : decode cX5_target 1 = .ok (.iconst 0, 1) := by decide +kernel
theorem dX5_target_2 : decode cX5_target 2 = .ok (.putfield 18, 3) := by decide +kernel
theorem dX5_target_5 : decode cX5_target 5 = .ok (.aload_n 0, 1) := by decide +kernel
theorem dX5_target_6 : decode cX5_target 6 = .ok (.iload_n 1, 1) := by decide +kernel
theorem dX5_target_7 : decode cX5_target 7 = .ok (.invokevirtual 83, 3) := by decide +kernel
theorem dX5_target_10 : decode cX5_target 10 = .ok (.ifCond .eq 11, 3) := by decide +kernel
theorem dX5_target_13 : decode cX5_target 13 = .ok (.aload_n 0, 1) := by decide +kernel
theorem dX5_target_14 : decode cX5_target 14 = .ok (.iload_n 1, 1) := by decide +kernel
theorem dX5_target_15 : decode cX5_target 15 = .ok (.invokevirtual 112, 3) := by decide +kernel
theorem dX5_target_18 : decode cX5_target 18 = .ok (.goto 8, 3) := by decide +kernel
theorem dX5_target_21 : decode cX5_target 21 = .ok (.aload_n 0, 1) := by decide +kernel
theorem dX5_target_22 : decode cX5_target 22 = .ok (.iconst 1, 1) := by decide +kernel
theorem dX5_target_23 : decode cX5_target 23 = .ok (.invokevirtual 30, 3) := by decide +kernel
theorem dX5_target_26 : decode cX5_target 26 = .ok (.ireturn, 1) := by decide +kernel
theorem dX5_costOf_0 : decode cX5_costOf 0 = .ok (.aload_n 0, 1) := by decide +kernel
theorem dX5_costOf_1 : decode cX5_costOf 1 = .ok (.getfield 9, 3) := by decide +kernel
theorem dX5_costOf_4 : decode cX5_costOf 4 = .ok (.iload_n 1, 1) := by decide +kernel
theorem dX5_costOf_5 : decode cX5_costOf 5 = .ok (.iaload, 1) := by decide +kernel
theorem dX5_costOf_6 : decode cX5_costOf 6 = .ok (.ifCond .ne 7, 3) := by decide +kernel
theorem dX5_costOf_9 : decode cX5_costOf 9 = .ok (.iconst 1, 1) := by decide +kernel
theorem dX5_costOf_10 : decode cX5_costOf 10 = .ok (.goto 4, 3) := by decide +kernel
theorem dX5_costOf_13 : decode cX5_costOf 13 = .ok (.iconst 2, 1) := by decide +kernel
theorem dX5_costOf_14 : decode cX5_costOf 14 = .ok (.ireturn, 1) := by decide +kernel
set_option maxRecDepth 20000 in
theorem ggX5_ways_X5_onNow : GoodIn wsX5_ways wsX5_onNow := goodIn_r _ [8, 2, 9, 10, 11, 7, 12, 20, 21, 22, 23] (by decide +kernel) (by decide +kernel)
set_option maxRecDepth 20000 in
theorem gX5_ways_X5_onNow : GoodIn wsX5_ways (wsV RX5 41 RX5 yX5_onNow wsX5_onNow) := goodIn_app (goodIn_of _ (by decide +kernel)) ggX5_ways_X5_onNow
set_option maxRecDepth 20000 in
theorem ggX5_ways_X5_beside : GoodIn wsX5_ways wsX5_beside := goodIn_r _ [15] (by decide +kernel) (by decide +kernel)
set_option maxRecDepth 20000 in
theorem gX5_ways_X5_beside : GoodIn wsX5_ways (va_wsS RX5 115 yX5_beside wsX5_beside) := goodIn_app (goodIn_of _ (by decide +kernel)) ggX5_ways_X5_beside
set_option maxRecDepth 20000 in
theorem ggX5_ways_X5_costOf : GoodIn wsX5_ways wsX5_costOf := goodIn_r _ [19, 2, 20, 21, 22, 23] (by decide +kernel) (by decide +kernel)
set_option maxRecDepth 20000 in
theorem gX5_ways_X5_costOf : GoodIn wsX5_ways (wsV RX5 140 RX5 yX5_costOf wsX5_costOf) := goodIn_app (goodIn_of _ (by decide +kernel)) ggX5_ways_X5_costOf
theorem dX5_ways_0 : decode cX5_ways 0 = .ok (.sipush 160, 3) := by decide +kernel
theorem dX5_ways_3 : decode cX5_ways 3 = .ok (.newarray .int, 2) := by decide +kernel
theorem dX5_ways_5 : decode cX5_ways 5 = .ok (.astore_n 3, 1) := by decide +kernel
theorem dX5_ways_6 : decode cX5_ways 6 = .ok (.iconst 0, 1) := by decide +kernel
theorem dX5_ways_7 : decode cX5_ways 7 = .ok (.istore 4, 2) := by decide +kernel
theorem dX5_ways_9 : decode cX5_ways 9 = .ok (.iload 4, 2) := by decide +kernel
theorem dX5_ways_11 : decode cX5_ways 11 = .ok (.sipush 160, 3) := by decide +kernel
theorem dX5_ways_14 : decode cX5_ways 14 = .ok (.if_icmp .ge 14, 3) := by decide +kernel
theorem dX5_ways_17 : decode cX5_ways 17 = .ok (.aload_n 3, 1) := by decide +kernel
theorem dX5_ways_18 : decode cX5_ways 18 = .ok (.iload 4, 2) := by decide +kernel
theorem dX5_ways_20 : decode cX5_ways 20 = .ok (.iconst (-1), 1) := by decide +kernel
theorem dX5_ways_21 : decode cX5_ways 21 = .ok (.iastore, 1) := by decide +kernel
theorem dX5_ways_22 : decode cX5_ways 22 = .ok (.iinc 4 1, 3) := by decide +kernel
theorem dX5_ways_25 : decode cX5_ways 25 = .ok (.goto (-16), 3) := by decide +kernel
theorem dX5_ways_28 : decode cX5_ways 28 = .ok (.aload_n 3, 1) := by decide +kernel
theorem dX5_ways_29 : decode cX5_ways 29 = .ok (.iload_n 2, 1) := by decide +kernel
theorem dX5_ways_30 : decode cX5_ways 30 = .ok (.iconst 0, 1) := by decide +kernel
theorem dX5_ways_31 : decode cX5_ways 31 = .ok (.iastore, 1) := by decide +kernel
theorem dX5_ways_32 : decode cX5_ways 32 = .ok (.aload_n 0, 1) := by decide +kernel
theorem dX5_ways_33 : decode cX5_ways 33 = .ok (.getfield 9, 3) := by decide +kernel
theorem dX5_ways_36 : decode cX5_ways 36 = .ok (.iload_n 2, 1) := by decide +kernel
theorem dX5_ways_37 : decode cX5_ways 37 = .ok (.iaload, 1) := by decide +kernel
theorem dX5_ways_38 : decode cX5_ways 38 = .ok (.iconst 1, 1) := by decide +kernel
theorem dX5_ways_39 : decode cX5_ways 39 = .ok (.if_icmp .ne 5, 3) := by decide +kernel
theorem dX5_ways_42 : decode cX5_ways 42 = .ok (.aload_n 3, 1) := by decide +kernel
theorem dX5_ways_43 : decode cX5_ways 43 = .ok (.areturn, 1) := by decide +kernel
theorem dX5_ways_44 : decode cX5_ways 44 = .ok (.sipush 160, 3) := by decide +kernel
theorem dX5_ways_47 : decode cX5_ways 47 = .ok (.newarray .int, 2) := by decide +kernel
theorem dX5_ways_49 : decode cX5_ways 49 = .ok (.astore 4, 2) := by decide +kernel
theorem dX5_ways_51 : decode cX5_ways 51 = .ok (.sipush 160, 3) := by decide +kernel
theorem dX5_ways_54 : decode cX5_ways 54 = .ok (.newarray .boolean, 2) := by decide +kernel
theorem dX5_ways_56 : decode cX5_ways 56 = .ok (.astore 5, 2) := by decide +kernel
theorem dX5_ways_58 : decode cX5_ways 58 = .ok (.aload 4, 2) := by decide +kernel
theorem dX5_ways_60 : decode cX5_ways 60 = .ok (.iconst 0, 1) := by decide +kernel
theorem dX5_ways_61 : decode cX5_ways 61 = .ok (.iload_n 2, 1) := by decide +kernel
theorem dX5_ways_62 : decode cX5_ways 62 = .ok (.iastore, 1) := by decide +kernel
theorem dX5_ways_63 : decode cX5_ways 63 = .ok (.iconst 1, 1) := by decide +kernel
theorem dX5_ways_64 : decode cX5_ways 64 = .ok (.istore 6, 2) := by decide +kernel
theorem dX5_ways_66 : decode cX5_ways 66 = .ok (.iconst 0, 1) := by decide +kernel
theorem dX5_ways_67 : decode cX5_ways 67 = .ok (.istore 7, 2) := by decide +kernel
theorem dX5_ways_69 : decode cX5_ways 69 = .ok (.iload 6, 2) := by decide +kernel
theorem dX5_ways_71 : decode cX5_ways 71 = .ok (.ifCond .le 182, 3) := by decide +kernel
theorem dX5_ways_74 : decode cX5_ways 74 = .ok (.aload 4, 2) := by decide +kernel
theorem dX5_ways_76 : decode cX5_ways 76 = .ok (.iload 7, 2) := by decide +kernel
theorem dX5_ways_78 : decode cX5_ways 78 = .ok (.iaload, 1) := by decide +kernel
theorem dX5_ways_79 : decode cX5_ways 79 = .ok (.istore 8, 2) := by decide +kernel
theorem dX5_ways_81 : decode cX5_ways 81 = .ok (.aload 5, 2) := by decide +kernel
theorem dX5_ways_83 : decode cX5_ways 83 = .ok (.iload 8, 2) := by decide +kernel
theorem dX5_ways_85 : decode cX5_ways 85 = .ok (.iconst 0, 1) := by decide +kernel
theorem dX5_ways_86 : decode cX5_ways 86 = .ok (.bastore, 1) := by decide +kernel
theorem dX5_ways_87 : decode cX5_ways 87 = .ok (.iinc 6 (-1), 3) := by decide +kernel
theorem dX5_ways_90 : decode cX5_ways 90 = .ok (.iload 8, 2) := by decide +kernel
theorem dX5_ways_92 : decode cX5_ways 92 = .ok (.iload_n 2, 1) := by decide +kernel
theorem dX5_ways_93 : decode cX5_ways 93 = .ok (.if_icmp .eq 37, 3) := by decide +kernel
theorem dX5_ways_96 : decode cX5_ways 96 = .ok (.aload_n 0, 1) := by decide +kernel
theorem dX5_ways_97 : decode cX5_ways 97 = .ok (.getfield 9, 3) := by decide +kernel
theorem dX5_ways_100 : decode cX5_ways 100 = .ok (.iload 8, 2) := by decide +kernel
theorem dX5_ways_102 : decode cX5_ways 102 = .ok (.iaload, 1) := by decide +kernel
theorem dX5_ways_103 : decode cX5_ways 103 = .ok (.iconst 1, 1) := by decide +kernel
theorem dX5_ways_104 : decode cX5_ways 104 = .ok (.if_icmp .eq 136, 3) := by decide +kernel
theorem dX5_ways_107 : decode cX5_ways 107 = .ok (.aload_n 0, 1) := by decide +kernel
theorem dX5_ways_108 : decode cX5_ways 108 = .ok (.iload 8, 2) := by decide +kernel
theorem dX5_ways_110 : decode cX5_ways 110 = .ok (.invokevirtual 41, 3) := by decide +kernel
theorem dX5_ways_113 : decode cX5_ways 113 = .ok (.iconst (-1), 1) := by decide +kernel
theorem dX5_ways_114 : decode cX5_ways 114 = .ok (.if_icmp .eq 16, 3) := by decide +kernel
theorem dX5_ways_117 : decode cX5_ways 117 = .ok (.aload_n 0, 1) := by decide +kernel
theorem dX5_ways_118 : decode cX5_ways 118 = .ok (.iload 8, 2) := by decide +kernel
theorem dX5_ways_120 : decode cX5_ways 120 = .ok (.invokevirtual 41, 3) := by decide +kernel
theorem dX5_ways_123 : decode cX5_ways 123 = .ok (.iload_n 1, 1) := by decide +kernel
theorem dX5_ways_124 : decode cX5_ways 124 = .ok (.if_icmp .eq 6, 3) := by decide +kernel
theorem dX5_ways_127 : decode cX5_ways 127 = .ok (.goto 113, 3) := by decide +kernel
theorem dX5_ways_130 : decode cX5_ways 130 = .ok (.iconst 0, 1) := by decide +kernel
theorem dX5_ways_131 : decode cX5_ways 131 = .ok (.istore 9, 2) := by decide +kernel
theorem dX5_ways_133 : decode cX5_ways 133 = .ok (.iload 9, 2) := by decide +kernel
theorem dX5_ways_135 : decode cX5_ways 135 = .ok (.iconst 4, 1) := by decide +kernel
theorem dX5_ways_136 : decode cX5_ways 136 = .ok (.if_icmp .ge 104, 3) := by decide +kernel
theorem dX5_ways_139 : decode cX5_ways 139 = .ok (.iload 8, 2) := by decide +kernel
theorem dX5_ways_141 : decode cX5_ways 141 = .ok (.iload 9, 2) := by decide +kernel
theorem dX5_ways_143 : decode cX5_ways 143 = .ok (.invokestatic 115, 3) := by decide +kernel
theorem dX5_ways_146 : decode cX5_ways 146 = .ok (.istore 10, 2) := by decide +kernel
theorem dX5_ways_148 : decode cX5_ways 148 = .ok (.aload_n 3, 1) := by decide +kernel
theorem dX5_ways_149 : decode cX5_ways 149 = .ok (.iload 8, 2) := by decide +kernel
theorem dX5_ways_151 : decode cX5_ways 151 = .ok (.iaload, 1) := by decide +kernel
theorem dX5_ways_152 : decode cX5_ways 152 = .ok (.aload_n 0, 1) := by decide +kernel
theorem dX5_ways_153 : decode cX5_ways 153 = .ok (.iload 8, 2) := by decide +kernel
theorem dX5_ways_155 : decode cX5_ways 155 = .ok (.invokevirtual 140, 3) := by decide +kernel
theorem dX5_ways_158 : decode cX5_ways 158 = .ok (.iadd, 1) := by decide +kernel
theorem dX5_ways_159 : decode cX5_ways 159 = .ok (.istore 11, 2) := by decide +kernel
theorem dX5_ways_161 : decode cX5_ways 161 = .ok (.aload_n 0, 1) := by decide +kernel
theorem dX5_ways_162 : decode cX5_ways 162 = .ok (.getfield 9, 3) := by decide +kernel
theorem dX5_ways_165 : decode cX5_ways 165 = .ok (.iload 10, 2) := by decide +kernel
theorem dX5_ways_167 : decode cX5_ways 167 = .ok (.iaload, 1) := by decide +kernel
theorem dX5_ways_168 : decode cX5_ways 168 = .ok (.iconst 1, 1) := by decide +kernel
theorem dX5_ways_169 : decode cX5_ways 169 = .ok (.if_icmp .eq 65, 3) := by decide +kernel
theorem dX5_ways_172 : decode cX5_ways 172 = .ok (.aload_n 3, 1) := by decide +kernel
theorem dX5_ways_173 : decode cX5_ways 173 = .ok (.iload 10, 2) := by decide +kernel
theorem dX5_ways_175 : decode cX5_ways 175 = .ok (.iaload, 1) := by decide +kernel
theorem dX5_ways_176 : decode cX5_ways 176 = .ok (.iconst (-1), 1) := by decide +kernel
theorem dX5_ways_177 : decode cX5_ways 177 = .ok (.if_icmp .eq 15, 3) := by decide +kernel
theorem dX5_ways_180 : decode cX5_ways 180 = .ok (.aload_n 3, 1) := by decide +kernel
theorem dX5_ways_181 : decode cX5_ways 181 = .ok (.iload 10, 2) := by decide +kernel
theorem dX5_ways_183 : decode cX5_ways 183 = .ok (.iaload, 1) := by decide +kernel
theorem dX5_ways_184 : decode cX5_ways 184 = .ok (.iload 11, 2) := by decide +kernel
theorem dX5_ways_186 : decode cX5_ways 186 = .ok (.if_icmp .gt 6, 3) := by decide +kernel
theorem dX5_ways_189 : decode cX5_ways 189 = .ok (.goto 45, 3) := by decide +kernel
theorem dX5_ways_192 : decode cX5_ways 192 = .ok (.aload_n 3, 1) := by decide +kernel
theorem dX5_ways_193 : decode cX5_ways 193 = .ok (.iload 10, 2) := by decide +kernel
theorem dX5_ways_195 : decode cX5_ways 195 = .ok (.iload 11, 2) := by decide +kernel
theorem dX5_ways_197 : decode cX5_ways 197 = .ok (.iastore, 1) := by decide +kernel
theorem dX5_ways_198 : decode cX5_ways 198 = .ok (.aload 5, 2) := by decide +kernel
theorem dX5_ways_200 : decode cX5_ways 200 = .ok (.iload 10, 2) := by decide +kernel
theorem dX5_ways_202 : decode cX5_ways 202 = .ok (.baload, 1) := by decide +kernel
theorem dX5_ways_203 : decode cX5_ways 203 = .ok (.ifCond .eq 6, 3) := by decide +kernel
theorem dX5_ways_206 : decode cX5_ways 206 = .ok (.goto 28, 3) := by decide +kernel
theorem dX5_ways_209 : decode cX5_ways 209 = .ok (.aload 5, 2) := by decide +kernel
theorem dX5_ways_211 : decode cX5_ways 211 = .ok (.iload 10, 2) := by decide +kernel
theorem dX5_ways_213 : decode cX5_ways 213 = .ok (.iconst 1, 1) := by decide +kernel
theorem dX5_ways_214 : decode cX5_ways 214 = .ok (.bastore, 1) := by decide +kernel
theorem dX5_ways_215 : decode cX5_ways 215 = .ok (.aload 4, 2) := by decide +kernel
theorem dX5_ways_217 : decode cX5_ways 217 = .ok (.iload 7, 2) := by decide +kernel
theorem dX5_ways_219 : decode cX5_ways 219 = .ok (.iconst 1, 1) := by decide +kernel
theorem dX5_ways_220 : decode cX5_ways 220 = .ok (.iadd, 1) := by decide +kernel
theorem dX5_ways_221 : decode cX5_ways 221 = .ok (.iload 6, 2) := by decide +kernel
theorem dX5_ways_223 : decode cX5_ways 223 = .ok (.iinc 6 1, 3) := by decide +kernel
theorem dX5_ways_226 : decode cX5_ways 226 = .ok (.iadd, 1) := by decide +kernel
theorem dX5_ways_227 : decode cX5_ways 227 = .ok (.sipush 160, 3) := by decide +kernel
theorem dX5_ways_230 : decode cX5_ways 230 = .ok (.irem, 1) := by decide +kernel
theorem dX5_ways_231 : decode cX5_ways 231 = .ok (.iload 10, 2) := by decide +kernel
theorem dX5_ways_233 : decode cX5_ways 233 = .ok (.iastore, 1) := by decide +kernel
theorem dX5_ways_234 : decode cX5_ways 234 = .ok (.iinc 9 1, 3) := by decide +kernel
theorem dX5_ways_237 : decode cX5_ways 237 = .ok (.goto (-104), 3) := by decide +kernel
theorem dX5_ways_240 : decode cX5_ways 240 = .ok (.iload 7, 2) := by decide +kernel
theorem dX5_ways_242 : decode cX5_ways 242 = .ok (.iconst 1, 1) := by decide +kernel
theorem dX5_ways_243 : decode cX5_ways 243 = .ok (.iadd, 1) := by decide +kernel
theorem dX5_ways_244 : decode cX5_ways 244 = .ok (.sipush 160, 3) := by decide +kernel
theorem dX5_ways_247 : decode cX5_ways 247 = .ok (.irem, 1) := by decide +kernel
theorem dX5_ways_248 : decode cX5_ways 248 = .ok (.istore 7, 2) := by decide +kernel
theorem dX5_ways_250 : decode cX5_ways 250 = .ok (.goto (-181), 3) := by decide +kernel
theorem dX5_ways_253 : decode cX5_ways 253 = .ok (.aload_n 3, 1) := by decide +kernel
theorem dX5_ways_254 : decode cX5_ways 254 = .ok (.areturn, 1) := by decide +kernel
set_option maxRecDepth 20000 in
theorem ggX5_way_X5_isBeing : GoodIn wsX5_way wsX5_isBeing := goodIn_r _ [6, 7, 8, 9, 5, 10, 43, 44, 45, 46] (by decide +kernel) (by decide +kernel)
set_option maxRecDepth 20000 in
theorem gX5_way_X5_isBeing : GoodIn wsX5_way (wsV RX5 83 RX5 yX5_isBeing wsX5_isBeing) := goodIn_app (goodIn_of _ (by decide +kernel)) ggX5_way_X5_isBeing
set_option maxRecDepth 20000 in
theorem ggX5_way_X5_isCell : GoodIn wsX5_way wsX5_isCell := goodIn_r _ [13, 8, 9, 5, 10] (by decide +kernel) (by decide +kernel)
set_option maxRecDepth 20000 in
theorem gX5_way_X5_isCell : GoodIn wsX5_way (va_wsS RX5 38 yX5_isCell wsX5_isCell) := goodIn_app (goodIn_of _ (by decide +kernel)) ggX5_way_X5_isCell
set_option maxRecDepth 20000 in
theorem ggX5_way_X5_no : GoodIn wsX5_way wsX5_no := goodIn_r _ [17, 1, 43, 44, 45, 46] (by decide +kernel) (by decide +kernel)
set_option maxRecDepth 20000 in
theorem gX5_way_X5_no : GoodIn wsX5_way (wsV RX5 30 RX5 yX5_no wsX5_no) := goodIn_app (goodIn_of _ (by decide +kernel)) ggX5_way_X5_no
set_option maxRecDepth 20000 in
theorem ggX5_way_X5_isAlive : GoodIn wsX5_way wsX5_isAlive := goodIn_r _ [21, 22, 23, 24, 5, 25, 7, 43, 44, 45, 46] (by decide +kernel) (by decide +kernel)
set_option maxRecDepth 20000 in
theorem gX5_way_X5_isAlive : GoodIn wsX5_way (wsV RX5 66 RX5 yX5_isAlive wsX5_isAlive) := goodIn_app (goodIn_of _ (by decide +kernel)) ggX5_way_X5_isAlive
set_option maxRecDepth 20000 in
theorem ggX5_way_X5_ways : GoodIn wsX5_way wsX5_ways := goodIn_r _ [29, 30, 7, 31, 32, 33, 34, 5, 35, 22, 23, 24, 25, 36, 37, 38, 39, 40, 41, 42, 43, 44, 45, 46] (by decide +kernel) (by decide +kernel)
set_option maxRecDepth 20000 in
theorem gX5_way_X5_ways : GoodIn wsX5_way (wsV RX5 143 RX5 yX5_ways wsX5_ways) := goodIn_app (goodIn_of _ (by decide +kernel)) ggX5_way_X5_ways
set_option maxRecDepth 20000 in
theorem ggX5_way_X5_its : GoodIn wsX5_way wsX5_its := goodIn_r _ [25, 7, 43, 44, 45, 46] (by decide +kernel) (by decide +kernel)
set_option maxRecDepth 20000 in
theorem gX5_way_X5_its : GoodIn wsX5_way (wsV RX5 26 RX5 yX5_its wsX5_its) := goodIn_app (goodIn_of _ (by decide +kernel)) ggX5_way_X5_its
theorem dX5_way_0 : decode cX5_way 0 = .ok (.aload_n 0, 1) := by decide +kernel
theorem dX5_way_1 : decode cX5_way 1 = .ok (.iconst 0, 1) := by decide +kernel
theorem dX5_way_2 : decode cX5_way 2 = .ok (.putfield 18, 3) := by decide +kernel
theorem dX5_way_5 : decode cX5_way 5 = .ok (.aload_n 0, 1) := by decide +kernel
theorem dX5_way_6 : decode cX5_way 6 = .ok (.iload_n 1, 1) := by decide +kernel
theorem dX5_way_7 : decode cX5_way 7 = .ok (.invokevirtual 83, 3) := by decide +kernel
theorem dX5_way_10 : decode cX5_way 10 = .ok (.ifCond .eq 10, 3) := by decide +kernel
theorem dX5_way_13 : decode cX5_way 13 = .ok (.iload_n 2, 1) := by decide +kernel
theorem dX5_way_14 : decode cX5_way 14 = .ok (.invokestatic 38, 3) := by decide +kernel
theorem dX5_way_17 : decode cX5_way 17 = .ok (.ifCond .ne 9, 3) := by decide +kernel
theorem dX5_way_20 : decode cX5_way 20 = .ok (.aload_n 0, 1) := by decide +kernel
theorem dX5_way_21 : decode cX5_way 21 = .ok (.iconst 1, 1) := by decide +kernel
theorem dX5_way_22 : decode cX5_way 22 = .ok (.invokevirtual 30, 3) := by decide +kernel
theorem dX5_way_25 : decode cX5_way 25 = .ok (.ireturn, 1) := by decide +kernel
theorem dX5_way_26 : decode cX5_way 26 = .ok (.aload_n 0, 1) := by decide +kernel
theorem dX5_way_27 : decode cX5_way 27 = .ok (.iload_n 1, 1) := by decide +kernel
theorem dX5_way_28 : decode cX5_way 28 = .ok (.invokevirtual 66, 3) := by decide +kernel
theorem dX5_way_31 : decode cX5_way 31 = .ok (.ifCond .eq 19, 3) := by decide +kernel
theorem dX5_way_34 : decode cX5_way 34 = .ok (.aload_n 0, 1) := by decide +kernel
theorem dX5_way_35 : decode cX5_way 35 = .ok (.iload_n 1, 1) := by decide +kernel
theorem dX5_way_36 : decode cX5_way 36 = .ok (.iload_n 2, 1) := by decide +kernel
theorem dX5_way_37 : decode cX5_way 37 = .ok (.invokevirtual 143, 3) := by decide +kernel
theorem dX5_way_40 : decode cX5_way 40 = .ok (.aload_n 0, 1) := by decide +kernel
theorem dX5_way_41 : decode cX5_way 41 = .ok (.iload_n 1, 1) := by decide +kernel
theorem dX5_way_42 : decode cX5_way 42 = .ok (.iconst 1, 1) := by decide +kernel
theorem dX5_way_43 : decode cX5_way 43 = .ok (.invokevirtual 26, 3) := by decide +kernel
theorem dX5_way_46 : decode cX5_way 46 = .ok (.iaload, 1) := by decide +kernel
theorem dX5_way_47 : decode cX5_way 47 = .ok (.goto 4, 3) := by decide +kernel
theorem dX5_way_50 : decode cX5_way 50 = .ok (.iconst (-1), 1) := by decide +kernel
theorem dX5_way_51 : decode cX5_way 51 = .ok (.ireturn, 1) := by decide +kernel
set_option maxRecDepth 20000 in
theorem ggX5_prey_X5_targetNow : GoodIn wsX5_prey wsX5_targetNow := goodIn_r _ [6, 1, 7, 8, 9, 5, 10, 11, 12, 13, 14, 15, 16, 17, 18, 19, 20, 21, 22, 23, 24, 25, 26, 27, 28, 29, 30, 31, 32, 33, 34, 35, 36, 37, 38, 39, 40, 41, 42] (by decide +kernel) (by decide +kernel)
set_option maxRecDepth 20000 in
theorem gX5_prey_X5_targetNow : GoodIn wsX5_prey (wsV RX5 112 RX5 yX5_targetNow wsX5_targetNow) := goodIn_app (goodIn_of _ (by decide +kernel)) ggX5_prey_X5_targetNow
set_option maxRecDepth 20000 in
theorem ggX5_prey_X5_isAlive : GoodIn wsX5_prey wsX5_isAlive := goodIn_r _ [10, 11, 12, 13, 5, 14, 1, 39, 40, 41, 42] (by decide +kernel) (by decide +kernel)
set_option maxRecDepth 20000 in
theorem gX5_prey_X5_isAlive : GoodIn wsX5_prey (wsV RX5 66 RX5 yX5_isAlive wsX5_isAlive) := goodIn_app (goodIn_of _ (by decide +kernel)) ggX5_prey_X5_isAlive
set_option maxRecDepth 20000 in
theorem ggX5_prey_X5_its : GoodIn wsX5_prey wsX5_its := goodIn_r _ [14, 1, 39, 40, 41, 42] (by decide +kernel) (by decide +kernel)
set_option maxRecDepth 20000 in
theorem gX5_prey_X5_its : GoodIn wsX5_prey (wsV RX5 26 RX5 yX5_its wsX5_its) := goodIn_app (goodIn_of _ (by decide +kernel)) ggX5_prey_X5_its
theorem dX5_prey_0 : decode cX5_prey 0 = .ok (.aload_n 0, 1) := by decide +kernel
theorem dX5_prey_1 : decode cX5_prey 1 = .ok (.iload_n 1, 1) := by decide +kernel
theorem dX5_prey_2 : decode cX5_prey 2 = .ok (.invokevirtual 112, 3) := by decide +kernel
theorem dX5_prey_5 : decode cX5_prey 5 = .ok (.istore_n 2, 1) := by decide +kernel
theorem dX5_prey_6 : decode cX5_prey 6 = .ok (.iconst 0, 1) := by decide +kernel
theorem dX5_prey_7 : decode cX5_prey 7 = .ok (.istore_n 3, 1) := by decide +kernel
theorem dX5_prey_8 : decode cX5_prey 8 = .ok (.iload_n 3, 1) := by decide +kernel
theorem dX5_prey_9 : decode cX5_prey 9 = .ok (.aload_n 0, 1) := by decide +kernel
theorem dX5_prey_10 : decode cX5_prey 10 = .ok (.getfield 9, 3) := by decide +kernel
theorem dX5_prey_13 : decode cX5_prey 13 = .ok (.sipush 680, 3) := by decide +kernel
theorem dX5_prey_16 : decode cX5_prey 16 = .ok (.iaload, 1) := by decide +kernel
theorem dX5_prey_17 : decode cX5_prey 17 = .ok (.if_icmp .ge 39, 3) := by decide +kernel
theorem dX5_prey_20 : decode cX5_prey 20 = .ok (.iload_n 2, 1) := by decide +kernel
theorem dX5_prey_21 : decode cX5_prey 21 = .ok (.iconst (-1), 1) := by decide +kernel
theorem dX5_prey_22 : decode cX5_prey 22 = .ok (.if_icmp .ne 34, 3) := by decide +kernel
theorem dX5_prey_25 : decode cX5_prey 25 = .ok (.aload_n 0, 1) := by decide +kernel
theorem dX5_prey_26 : decode cX5_prey 26 = .ok (.iload_n 3, 1) := by decide +kernel
theorem dX5_prey_27 : decode cX5_prey 27 = .ok (.invokevirtual 66, 3) := by decide +kernel
theorem dX5_prey_30 : decode cX5_prey 30 = .ok (.ifCond .eq 20, 3) := by decide +kernel
theorem dX5_prey_33 : decode cX5_prey 33 = .ok (.aload_n 0, 1) := by decide +kernel
theorem dX5_prey_34 : decode cX5_prey 34 = .ok (.iload_n 3, 1) := by decide +kernel
theorem dX5_prey_35 : decode cX5_prey 35 = .ok (.iconst 0, 1) := by decide +kernel
theorem dX5_prey_36 : decode cX5_prey 36 = .ok (.invokevirtual 26, 3) := by decide +kernel
theorem dX5_prey_39 : decode cX5_prey 39 = .ok (.aload_n 0, 1) := by decide +kernel
theorem dX5_prey_40 : decode cX5_prey 40 = .ok (.iload_n 1, 1) := by decide +kernel
theorem dX5_prey_41 : decode cX5_prey 41 = .ok (.iconst 0, 1) := by decide +kernel
theorem dX5_prey_42 : decode cX5_prey 42 = .ok (.invokevirtual 26, 3) := by decide +kernel
theorem dX5_prey_45 : decode cX5_prey 45 = .ok (.if_icmp .eq 5, 3) := by decide +kernel
theorem dX5_prey_48 : decode cX5_prey 48 = .ok (.iload_n 3, 1) := by decide +kernel
theorem dX5_prey_49 : decode cX5_prey 49 = .ok (.istore_n 2, 1) := by decide +kernel
theorem dX5_prey_50 : decode cX5_prey 50 = .ok (.iinc 3 1, 3) := by decide +kernel
theorem dX5_prey_53 : decode cX5_prey 53 = .ok (.goto (-45), 3) := by decide +kernel
theorem dX5_prey_56 : decode cX5_prey 56 = .ok (.iload_n 2, 1) := by decide +kernel
theorem dX5_prey_57 : decode cX5_prey 57 = .ok (.ireturn, 1) := by decide +kernel
set_option maxRecDepth 20000 in
theorem ggX5_worthOfGo_X5_its : GoodIn wsX5_worthOfGo wsX5_its := goodIn_r _ [6, 1, 26, 27, 28, 29] (by decide +kernel) (by decide +kernel)
set_option maxRecDepth 20000 in
theorem gX5_worthOfGo_X5_its : GoodIn wsX5_worthOfGo (wsV RX5 26 RX5 yX5_its wsX5_its) := goodIn_app (goodIn_of _ (by decide +kernel)) ggX5_worthOfGo_X5_its
set_option maxRecDepth 20000 in
theorem ggX5_worthOfGo_X5_beside : GoodIn wsX5_worthOfGo wsX5_beside := goodIn_r _ [9] (by decide +kernel) (by decide +kernel)
set_option maxRecDepth 20000 in
theorem gX5_worthOfGo_X5_beside : GoodIn wsX5_worthOfGo (va_wsS RX5 115 yX5_beside wsX5_beside) := goodIn_app (goodIn_of _ (by decide +kernel)) ggX5_worthOfGo_X5_beside
set_option maxRecDepth 20000 in
theorem ggX5_worthOfGo_X5_onNow : GoodIn wsX5_worthOfGo wsX5_onNow := goodIn_r _ [13, 1, 2, 3, 4, 5, 6, 26, 27, 28, 29] (by decide +kernel) (by decide +kernel)
set_option maxRecDepth 20000 in
theorem gX5_worthOfGo_X5_onNow : GoodIn wsX5_worthOfGo (wsV RX5 41 RX5 yX5_onNow wsX5_onNow) := goodIn_app (goodIn_of _ (by decide +kernel)) ggX5_worthOfGo_X5_onNow
set_option maxRecDepth 20000 in
theorem ggX5_worthOfGo_X5_hitNow : GoodIn wsX5_worthOfGo wsX5_hitNow := goodIn_r _ [17, 18, 19, 20, 21, 2, 3, 4, 5, 6, 1, 26, 27, 28, 29] (by decide +kernel) (by decide +kernel)
set_option maxRecDepth 20000 in
theorem gX5_worthOfGo_X5_hitNow : GoodIn wsX5_worthOfGo (wsV RX5 118 RX5 yX5_hitNow wsX5_hitNow) := goodIn_app (goodIn_of _ (by decide +kernel)) ggX5_worthOfGo_X5_hitNow
set_option maxRecDepth 20000 in
theorem ggX5_worthOfGo_X5_isAfraid : GoodIn wsX5_worthOfGo wsX5_isAfraid := goodIn_r _ [25, 2, 3, 4, 5, 6, 1, 26, 27, 28, 29] (by decide +kernel) (by decide +kernel)
set_option maxRecDepth 20000 in
theorem gX5_worthOfGo_X5_isAfraid : GoodIn wsX5_worthOfGo (wsV RX5 97 RX5 yX5_isAfraid wsX5_isAfraid) := goodIn_app (goodIn_of _ (by decide +kernel)) ggX5_worthOfGo_X5_isAfraid
theorem dX5_worthOfGo_0 : decode cX5_worthOfGo 0 = .ok (.aload_n 0, 1) := by decide +kernel
theorem dX5_worthOfGo_1 : decode cX5_worthOfGo 1 = .ok (.iload_n 1, 1) := by decide +kernel
theorem dX5_worthOfGo_2 : decode cX5_worthOfGo 2 = .ok (.iconst 1, 1) := by decide +kernel
theorem dX5_worthOfGo_3 : decode cX5_worthOfGo 3 = .ok (.invokevirtual 26, 3) := by decide +kernel
theorem dX5_worthOfGo_6 : decode cX5_worthOfGo 6 = .ok (.iload_n 2, 1) := by decide +kernel
theorem dX5_worthOfGo_7 : decode cX5_worthOfGo 7 = .ok (.invokestatic 115, 3) := by decide +kernel
theorem dX5_worthOfGo_10 : decode cX5_worthOfGo 10 = .ok (.istore 4, 2) := by decide +kernel
theorem dX5_worthOfGo_12 : decode cX5_worthOfGo 12 = .ok (.aload_n 0, 1) := by decide +kernel
theorem dX5_worthOfGo_13 : decode cX5_worthOfGo 13 = .ok (.iload 4, 2) := by decide +kernel
theorem dX5_worthOfGo_15 : decode cX5_worthOfGo 15 = .ok (.invokevirtual 41, 3) := by decide +kernel
theorem dX5_worthOfGo_18 : decode cX5_worthOfGo 18 = .ok (.istore 5, 2) := by decide +kernel
theorem dX5_worthOfGo_20 : decode cX5_worthOfGo 20 = .ok (.iload 5, 2) := by decide +kernel
theorem dX5_worthOfGo_22 : decode cX5_worthOfGo 22 = .ok (.iconst (-1), 1) := by decide +kernel
theorem dX5_worthOfGo_23 : decode cX5_worthOfGo 23 = .ok (.if_icmp .eq 40, 3) := by decide +kernel
theorem dX5_worthOfGo_26 : decode cX5_worthOfGo 26 = .ok (.bipush 20, 2) := by decide +kernel
theorem dX5_worthOfGo_28 : decode cX5_worthOfGo 28 = .ok (.iconst 3, 1) := by decide +kernel
theorem dX5_worthOfGo_29 : decode cX5_worthOfGo 29 = .ok (.aload_n 0, 1) := by decide +kernel
theorem dX5_worthOfGo_30 : decode cX5_worthOfGo 30 = .ok (.iload_n 1, 1) := by decide +kernel
theorem dX5_worthOfGo_31 : decode cX5_worthOfGo 31 = .ok (.iload 5, 2) := by decide +kernel
theorem dX5_worthOfGo_33 : decode cX5_worthOfGo 33 = .ok (.invokevirtual 118, 3) := by decide +kernel
theorem dX5_worthOfGo_36 : decode cX5_worthOfGo 36 = .ok (.imul, 1) := by decide +kernel
theorem dX5_worthOfGo_37 : decode cX5_worthOfGo 37 = .ok (.iadd, 1) := by decide +kernel
theorem dX5_worthOfGo_38 : decode cX5_worthOfGo 38 = .ok (.aload_n 0, 1) := by decide +kernel
theorem dX5_worthOfGo_39 : decode cX5_worthOfGo 39 = .ok (.iload_n 1, 1) := by decide +kernel
theorem dX5_worthOfGo_40 : decode cX5_worthOfGo 40 = .ok (.iload 5, 2) := by decide +kernel
theorem dX5_worthOfGo_42 : decode cX5_worthOfGo 42 = .ok (.invokevirtual 118, 3) := by decide +kernel
theorem dX5_worthOfGo_45 : decode cX5_worthOfGo 45 = .ok (.aload_n 0, 1) := by decide +kernel
theorem dX5_worthOfGo_46 : decode cX5_worthOfGo 46 = .ok (.iload 5, 2) := by decide +kernel
theorem dX5_worthOfGo_48 : decode cX5_worthOfGo 48 = .ok (.iconst 2, 1) := by decide +kernel
theorem dX5_worthOfGo_49 : decode cX5_worthOfGo 49 = .ok (.invokevirtual 26, 3) := by decide +kernel
theorem dX5_worthOfGo_52 : decode cX5_worthOfGo 52 = .ok (.if_icmp .lt 8, 3) := by decide +kernel
theorem dX5_worthOfGo_55 : decode cX5_worthOfGo 55 = .ok (.bipush 30, 2) := by decide +kernel
theorem dX5_worthOfGo_57 : decode cX5_worthOfGo 57 = .ok (.goto 4, 3) := by decide +kernel
theorem dX5_worthOfGo_60 : decode cX5_worthOfGo 60 = .ok (.iconst 0, 1) := by decide +kernel
theorem dX5_worthOfGo_61 : decode cX5_worthOfGo 61 = .ok (.iadd, 1) := by decide +kernel
theorem dX5_worthOfGo_62 : decode cX5_worthOfGo 62 = .ok (.ireturn, 1) := by decide +kernel
theorem dX5_worthOfGo_63 : decode cX5_worthOfGo 63 = .ok (.aload_n 0, 1) := by decide +kernel
theorem dX5_worthOfGo_64 : decode cX5_worthOfGo 64 = .ok (.getfield 9, 3) := by decide +kernel
theorem dX5_worthOfGo_67 : decode cX5_worthOfGo 67 = .ok (.iload 4, 2) := by decide +kernel
theorem dX5_worthOfGo_69 : decode cX5_worthOfGo 69 = .ok (.iaload, 1) := by decide +kernel
theorem dX5_worthOfGo_70 : decode cX5_worthOfGo 70 = .ok (.iconst 2, 1) := by decide +kernel
theorem dX5_worthOfGo_71 : decode cX5_worthOfGo 71 = .ok (.if_icmp .ne 6, 3) := by decide +kernel
theorem dX5_worthOfGo_74 : decode cX5_worthOfGo 74 = .ok (.bipush 6, 2) := by decide +kernel
theorem dX5_worthOfGo_76 : decode cX5_worthOfGo 76 = .ok (.ireturn, 1) := by decide +kernel
theorem dX5_worthOfGo_77 : decode cX5_worthOfGo 77 = .ok (.aload_n 3, 1) := by decide +kernel
theorem dX5_worthOfGo_78 : decode cX5_worthOfGo 78 = .ok (.aload_n 0, 1) := by decide +kernel
theorem dX5_worthOfGo_79 : decode cX5_worthOfGo 79 = .ok (.iload_n 1, 1) := by decide +kernel
theorem dX5_worthOfGo_80 : decode cX5_worthOfGo 80 = .ok (.iconst 1, 1) := by decide +kernel
theorem dX5_worthOfGo_81 : decode cX5_worthOfGo 81 = .ok (.invokevirtual 26, 3) := by decide +kernel
theorem dX5_worthOfGo_84 : decode cX5_worthOfGo 84 = .ok (.iaload, 1) := by decide +kernel
theorem dX5_worthOfGo_85 : decode cX5_worthOfGo 85 = .ok (.istore 6, 2) := by decide +kernel
theorem dX5_worthOfGo_87 : decode cX5_worthOfGo 87 = .ok (.aload_n 3, 1) := by decide +kernel
theorem dX5_worthOfGo_88 : decode cX5_worthOfGo 88 = .ok (.iload 4, 2) := by decide +kernel
theorem dX5_worthOfGo_90 : decode cX5_worthOfGo 90 = .ok (.iaload, 1) := by decide +kernel
theorem dX5_worthOfGo_91 : decode cX5_worthOfGo 91 = .ok (.istore 7, 2) := by decide +kernel
theorem dX5_worthOfGo_93 : decode cX5_worthOfGo 93 = .ok (.iload 6, 2) := by decide +kernel
theorem dX5_worthOfGo_95 : decode cX5_worthOfGo 95 = .ok (.iconst (-1), 1) := by decide +kernel
theorem dX5_worthOfGo_96 : decode cX5_worthOfGo 96 = .ok (.if_icmp .eq 9, 3) := by decide +kernel
theorem dX5_worthOfGo_99 : decode cX5_worthOfGo 99 = .ok (.iload 7, 2) := by decide +kernel
theorem dX5_worthOfGo_101 : decode cX5_worthOfGo 101 = .ok (.iconst (-1), 1) := by decide +kernel
theorem dX5_worthOfGo_102 : decode cX5_worthOfGo 102 = .ok (.if_icmp .ne 5, 3) := by decide +kernel
theorem dX5_worthOfGo_105 : decode cX5_worthOfGo 105 = .ok (.iconst 0, 1) := by decide +kernel
theorem dX5_worthOfGo_106 : decode cX5_worthOfGo 106 = .ok (.ireturn, 1) := by decide +kernel
theorem dX5_worthOfGo_107 : decode cX5_worthOfGo 107 = .ok (.bipush 10, 2) := by decide +kernel
theorem dX5_worthOfGo_109 : decode cX5_worthOfGo 109 = .ok (.iconst 4, 1) := by decide +kernel
theorem dX5_worthOfGo_110 : decode cX5_worthOfGo 110 = .ok (.aload_n 0, 1) := by decide +kernel
theorem dX5_worthOfGo_111 : decode cX5_worthOfGo 111 = .ok (.iload_n 1, 1) := by decide +kernel
theorem dX5_worthOfGo_112 : decode cX5_worthOfGo 112 = .ok (.invokevirtual 97, 3) := by decide +kernel
theorem dX5_worthOfGo_115 : decode cX5_worthOfGo 115 = .ok (.ifCond .eq 11, 3) := by decide +kernel
theorem dX5_worthOfGo_118 : decode cX5_worthOfGo 118 = .ok (.iload 7, 2) := by decide +kernel
theorem dX5_worthOfGo_120 : decode cX5_worthOfGo 120 = .ok (.iload 6, 2) := by decide +kernel
theorem dX5_worthOfGo_122 : decode cX5_worthOfGo 122 = .ok (.isub, 1) := by decide +kernel
theorem dX5_worthOfGo_123 : decode cX5_worthOfGo 123 = .ok (.goto 8, 3) := by decide +kernel
theorem dX5_worthOfGo_126 : decode cX5_worthOfGo 126 = .ok (.iload 6, 2) := by decide +kernel
theorem dX5_worthOfGo_128 : decode cX5_worthOfGo 128 = .ok (.iload 7, 2) := by decide +kernel
theorem dX5_worthOfGo_130 : decode cX5_worthOfGo 130 = .ok (.isub, 1) := by decide +kernel
theorem dX5_worthOfGo_131 : decode cX5_worthOfGo 131 = .ok (.imul, 1) := by decide +kernel
theorem dX5_worthOfGo_132 : decode cX5_worthOfGo 132 = .ok (.iadd, 1) := by decide +kernel
theorem dX5_worthOfGo_133 : decode cX5_worthOfGo 133 = .ok (.ireturn, 1) := by decide +kernel
set_option maxRecDepth 20000 in
theorem ggX5_isThreatened_X5_its : GoodIn wsX5_isThreatened wsX5_its := goodIn_r _ [5, 6, 18, 19, 20, 21] (by decide +kernel) (by decide +kernel)
set_option maxRecDepth 20000 in
theorem gX5_isThreatened_X5_its : GoodIn wsX5_isThreatened (wsV RX5 26 RX5 yX5_its wsX5_its) := goodIn_app (goodIn_of _ (by decide +kernel)) ggX5_isThreatened_X5_its
set_option maxRecDepth 20000 in
theorem ggX5_isThreatened_X5_beside : GoodIn wsX5_isThreatened wsX5_beside := goodIn_r _ [9] (by decide +kernel) (by decide +kernel)
set_option maxRecDepth 20000 in
theorem gX5_isThreatened_X5_beside : GoodIn wsX5_isThreatened (va_wsS RX5 115 yX5_beside wsX5_beside) := goodIn_app (goodIn_of _ (by decide +kernel)) ggX5_isThreatened_X5_beside
set_option maxRecDepth 20000 in
theorem ggX5_isThreatened_X5_onNow : GoodIn wsX5_isThreatened wsX5_onNow := goodIn_r _ [13, 6, 1, 2, 3, 4, 5, 18, 19, 20, 21] (by decide +kernel) (by decide +kernel)
set_option maxRecDepth 20000 in
theorem gX5_isThreatened_X5_onNow : GoodIn wsX5_isThreatened (wsV RX5 41 RX5 yX5_onNow wsX5_onNow) := goodIn_app (goodIn_of _ (by decide +kernel)) ggX5_isThreatened_X5_onNow
set_option maxRecDepth 20000 in
theorem ggX5_isThreatened_X5_isAfraid : GoodIn wsX5_isThreatened wsX5_isAfraid := goodIn_r _ [17, 1, 2, 3, 4, 5, 6, 18, 19, 20, 21] (by decide +kernel) (by decide +kernel)
set_option maxRecDepth 20000 in
theorem gX5_isThreatened_X5_isAfraid : GoodIn wsX5_isThreatened (wsV RX5 97 RX5 yX5_isAfraid wsX5_isAfraid) := goodIn_app (goodIn_of _ (by decide +kernel)) ggX5_isThreatened_X5_isAfraid
theorem dX5_isThreatened_0 : decode cX5_isThreatened 0 = .ok (.iconst 0, 1) := by decide +kernel
theorem dX5_isThreatened_1 : decode cX5_isThreatened 1 = .ok (.istore_n 2, 1) := by decide +kernel
theorem dX5_isThreatened_2 : decode cX5_isThreatened 2 = .ok (.iload_n 2, 1) := by decide +kernel
theorem dX5_isThreatened_3 : decode cX5_isThreatened 3 = .ok (.iconst 4, 1) := by decide +kernel
theorem dX5_isThreatened_4 : decode cX5_isThreatened 4 = .ok (.if_icmp .ge 46, 3) := by decide +kernel
theorem dX5_isThreatened_7 : decode cX5_isThreatened 7 = .ok (.aload_n 0, 1) := by decide +kernel
theorem dX5_isThreatened_8 : decode cX5_isThreatened 8 = .ok (.aload_n 0, 1) := by decide +kernel
theorem dX5_isThreatened_9 : decode cX5_isThreatened 9 = .ok (.iload_n 1, 1) := by decide +kernel
theorem dX5_isThreatened_10 : decode cX5_isThreatened 10 = .ok (.iconst 1, 1) := by decide +kernel
theorem dX5_isThreatened_11 : decode cX5_isThreatened 11 = .ok (.invokevirtual 26, 3) := by decide +kernel
theorem dX5_isThreatened_14 : decode cX5_isThreatened 14 = .ok (.iload_n 2, 1) := by decide +kernel
theorem dX5_isThreatened_15 : decode cX5_isThreatened 15 = .ok (.invokestatic 115, 3) := by decide +kernel
theorem dX5_isThreatened_18 : decode cX5_isThreatened 18 = .ok (.invokevirtual 41, 3) := by decide +kernel
theorem dX5_isThreatened_21 : decode cX5_isThreatened 21 = .ok (.istore_n 3, 1) := by decide +kernel
theorem dX5_isThreatened_22 : decode cX5_isThreatened 22 = .ok (.iload_n 3, 1) := by decide +kernel
theorem dX5_isThreatened_23 : decode cX5_isThreatened 23 = .ok (.iconst (-1), 1) := by decide +kernel
theorem dX5_isThreatened_24 : decode cX5_isThreatened 24 = .ok (.if_icmp .eq 20, 3) := by decide +kernel
theorem dX5_isThreatened_27 : decode cX5_isThreatened 27 = .ok (.aload_n 0, 1) := by decide +kernel
theorem dX5_isThreatened_28 : decode cX5_isThreatened 28 = .ok (.iload_n 3, 1) := by decide +kernel
theorem dX5_isThreatened_29 : decode cX5_isThreatened 29 = .ok (.iconst 0, 1) := by decide +kernel
theorem dX5_isThreatened_30 : decode cX5_isThreatened 30 = .ok (.invokevirtual 26, 3) := by decide +kernel
theorem dX5_isThreatened_33 : decode cX5_isThreatened 33 = .ok (.aload_n 0, 1) := by decide +kernel
theorem dX5_isThreatened_34 : decode cX5_isThreatened 34 = .ok (.iload_n 1, 1) := by decide +kernel
theorem dX5_isThreatened_35 : decode cX5_isThreatened 35 = .ok (.iconst 0, 1) := by decide +kernel
theorem dX5_isThreatened_36 : decode cX5_isThreatened 36 = .ok (.invokevirtual 26, 3) := by decide +kernel
theorem dX5_isThreatened_39 : decode cX5_isThreatened 39 = .ok (.if_icmp .eq 5, 3) := by decide +kernel
theorem dX5_isThreatened_42 : decode cX5_isThreatened 42 = .ok (.iconst 1, 1) := by decide +kernel
theorem dX5_isThreatened_43 : decode cX5_isThreatened 43 = .ok (.ireturn, 1) := by decide +kernel
theorem dX5_isThreatened_44 : decode cX5_isThreatened 44 = .ok (.iinc 2 1, 3) := by decide +kernel
theorem dX5_isThreatened_47 : decode cX5_isThreatened 47 = .ok (.goto (-45), 3) := by decide +kernel
theorem dX5_isThreatened_50 : decode cX5_isThreatened 50 = .ok (.aload_n 0, 1) := by decide +kernel
theorem dX5_isThreatened_51 : decode cX5_isThreatened 51 = .ok (.iload_n 1, 1) := by decide +kernel
theorem dX5_isThreatened_52 : decode cX5_isThreatened 52 = .ok (.invokevirtual 97, 3) := by decide +kernel
theorem dX5_isThreatened_55 : decode cX5_isThreatened 55 = .ok (.ireturn, 1) := by decide +kernel
set_option maxRecDepth 20000 in
theorem ggX5_worthOf_X5_targetNow : GoodIn wsX5_worthOf wsX5_targetNow := goodIn_r _ [5, 6, 7, 8, 9, 4, 10, 11, 12, 13, 14, 15, 16, 17, 18, 19, 20, 21, 22, 23, 24, 25, 26, 27, 28, 29, 30, 31, 32, 33, 34, 35, 36, 37, 38, 62, 63, 64, 65] (by decide +kernel) (by decide +kernel)
set_option maxRecDepth 20000 in
theorem gX5_worthOf_X5_targetNow : GoodIn wsX5_worthOf (wsV RX5 112 RX5 yX5_targetNow wsX5_targetNow) := goodIn_app (goodIn_of _ (by decide +kernel)) ggX5_worthOf_X5_targetNow
set_option maxRecDepth 20000 in
theorem ggX5_worthOf_X5_its : GoodIn wsX5_worthOf wsX5_its := goodIn_r _ [14, 6, 62, 63, 64, 65] (by decide +kernel) (by decide +kernel)
set_option maxRecDepth 20000 in
theorem gX5_worthOf_X5_its : GoodIn wsX5_worthOf (wsV RX5 26 RX5 yX5_its wsX5_its) := goodIn_app (goodIn_of _ (by decide +kernel)) ggX5_worthOf_X5_its
set_option maxRecDepth 20000 in
theorem ggX5_worthOf_X5_isThreatened : GoodIn wsX5_worthOf wsX5_isThreatened := goodIn_r _ [42, 11, 12, 13, 4, 14, 6, 43, 44, 45, 46, 47, 48, 49, 50, 51, 52, 53, 62, 63, 64, 65] (by decide +kernel) (by decide +kernel)
set_option maxRecDepth 20000 in
theorem gX5_worthOf_X5_isThreatened : GoodIn wsX5_worthOf (wsV RX5 147 RX5 yX5_isThreatened wsX5_isThreatened) := goodIn_app (goodIn_of _ (by decide +kernel)) ggX5_worthOf_X5_isThreatened
set_option maxRecDepth 20000 in
theorem ggX5_worthOf_X5_worthOfGo : GoodIn wsX5_worthOf wsX5_worthOfGo := goodIn_r _ [57, 6, 11, 12, 13, 4, 14, 43, 44, 45, 46, 47, 48, 49, 58, 59, 60, 61, 26, 27, 24, 28, 50, 51, 52, 53, 62, 63, 64, 65] (by decide +kernel) (by decide +kernel)
set_option maxRecDepth 20000 in
theorem gX5_worthOf_X5_worthOfGo : GoodIn wsX5_worthOf (wsV RX5 150 RX5 yX5_worthOfGo wsX5_worthOfGo) := goodIn_app (goodIn_of _ (by decide +kernel)) ggX5_worthOf_X5_worthOfGo
theorem dX5_worthOf_0 : decode cX5_worthOf 0 = .ok (.iload_n 2, 1) := by decide +kernel
theorem dX5_worthOf_1 : decode cX5_worthOf 1 = .ok (.tableswitch 113 0 7 #[47, 113, 113, 113, 113, 49, 64, 89], 47) := by decide +kernel
theorem dX5_worthOf_48 : decode cX5_worthOf 48 = .ok (.iconst 1, 1) := by decide +kernel
theorem dX5_worthOf_49 : decode cX5_worthOf 49 = .ok (.ireturn, 1) := by decide +kernel
theorem dX5_worthOf_50 : decode cX5_worthOf 50 = .ok (.bipush 14, 2) := by decide +kernel
theorem dX5_worthOf_52 : decode cX5_worthOf 52 = .ok (.aload_n 0, 1) := by decide +kernel
theorem dX5_worthOf_53 : decode cX5_worthOf 53 = .ok (.aload_n 0, 1) := by decide +kernel
theorem dX5_worthOf_54 : decode cX5_worthOf 54 = .ok (.iload_n 1, 1) := by decide +kernel
theorem dX5_worthOf_55 : decode cX5_worthOf 55 = .ok (.invokevirtual 112, 3) := by decide +kernel
theorem dX5_worthOf_58 : decode cX5_worthOf 58 = .ok (.bipush 10, 2) := by decide +kernel
theorem dX5_worthOf_60 : decode cX5_worthOf 60 = .ok (.invokevirtual 26, 3) := by decide +kernel
theorem dX5_worthOf_63 : decode cX5_worthOf 63 = .ok (.isub, 1) := by decide +kernel
theorem dX5_worthOf_64 : decode cX5_worthOf 64 = .ok (.ireturn, 1) := by decide +kernel
theorem dX5_worthOf_65 : decode cX5_worthOf 65 = .ok (.aload_n 0, 1) := by decide +kernel
theorem dX5_worthOf_66 : decode cX5_worthOf 66 = .ok (.iload_n 1, 1) := by decide +kernel
theorem dX5_worthOf_67 : decode cX5_worthOf 67 = .ok (.invokevirtual 147, 3) := by decide +kernel
theorem dX5_worthOf_70 : decode cX5_worthOf 70 = .ok (.ifCond .eq 18, 3) := by decide +kernel
theorem dX5_worthOf_73 : decode cX5_worthOf 73 = .ok (.bipush 24, 2) := by decide +kernel
theorem dX5_worthOf_75 : decode cX5_worthOf 75 = .ok (.iconst 3, 1) := by decide +kernel
theorem dX5_worthOf_76 : decode cX5_worthOf 76 = .ok (.aload_n 0, 1) := by decide +kernel
theorem dX5_worthOf_77 : decode cX5_worthOf 77 = .ok (.iload_n 1, 1) := by decide +kernel
theorem dX5_worthOf_78 : decode cX5_worthOf 78 = .ok (.bipush 13, 2) := by decide +kernel
theorem dX5_worthOf_80 : decode cX5_worthOf 80 = .ok (.invokevirtual 26, 3) := by decide +kernel
theorem dX5_worthOf_83 : decode cX5_worthOf 83 = .ok (.imul, 1) := by decide +kernel
theorem dX5_worthOf_84 : decode cX5_worthOf 84 = .ok (.isub, 1) := by decide +kernel
theorem dX5_worthOf_85 : decode cX5_worthOf 85 = .ok (.goto 4, 3) := by decide +kernel
theorem dX5_worthOf_88 : decode cX5_worthOf 88 = .ok (.iconst 0, 1) := by decide +kernel
theorem dX5_worthOf_89 : decode cX5_worthOf 89 = .ok (.ireturn, 1) := by decide +kernel
theorem dX5_worthOf_90 : decode cX5_worthOf 90 = .ok (.aload_n 0, 1) := by decide +kernel
theorem dX5_worthOf_91 : decode cX5_worthOf 91 = .ok (.iload_n 1, 1) := by decide +kernel
theorem dX5_worthOf_92 : decode cX5_worthOf 92 = .ok (.iconst 3, 1) := by decide +kernel
theorem dX5_worthOf_93 : decode cX5_worthOf 93 = .ok (.invokevirtual 26, 3) := by decide +kernel
theorem dX5_worthOf_96 : decode cX5_worthOf 96 = .ok (.aload_n 0, 1) := by decide +kernel
theorem dX5_worthOf_97 : decode cX5_worthOf 97 = .ok (.iload_n 1, 1) := by decide +kernel
theorem dX5_worthOf_98 : decode cX5_worthOf 98 = .ok (.iconst 2, 1) := by decide +kernel
theorem dX5_worthOf_99 : decode cX5_worthOf 99 = .ok (.invokevirtual 26, 3) := by decide +kernel
theorem dX5_worthOf_102 : decode cX5_worthOf 102 = .ok (.isub, 1) := by decide +kernel
theorem dX5_worthOf_103 : decode cX5_worthOf 103 = .ok (.iconst 2, 1) := by decide +kernel
theorem dX5_worthOf_104 : decode cX5_worthOf 104 = .ok (.aload_n 0, 1) := by decide +kernel
theorem dX5_worthOf_105 : decode cX5_worthOf 105 = .ok (.iload_n 1, 1) := by decide +kernel
theorem dX5_worthOf_106 : decode cX5_worthOf 106 = .ok (.bipush 11, 2) := by decide +kernel
theorem dX5_worthOf_108 : decode cX5_worthOf 108 = .ok (.invokevirtual 26, 3) := by decide +kernel
theorem dX5_worthOf_111 : decode cX5_worthOf 111 = .ok (.imul, 1) := by decide +kernel
theorem dX5_worthOf_112 : decode cX5_worthOf 112 = .ok (.isub, 1) := by decide +kernel
theorem dX5_worthOf_113 : decode cX5_worthOf 113 = .ok (.ireturn, 1) := by decide +kernel
theorem dX5_worthOf_114 : decode cX5_worthOf 114 = .ok (.aload_n 0, 1) := by decide +kernel
theorem dX5_worthOf_115 : decode cX5_worthOf 115 = .ok (.iload_n 1, 1) := by decide +kernel
theorem dX5_worthOf_116 : decode cX5_worthOf 116 = .ok (.iload_n 2, 1) := by decide +kernel
theorem dX5_worthOf_117 : decode cX5_worthOf 117 = .ok (.iconst 1, 1) := by decide +kernel
theorem dX5_worthOf_118 : decode cX5_worthOf 118 = .ok (.isub, 1) := by decide +kernel
theorem dX5_worthOf_119 : decode cX5_worthOf 119 = .ok (.aload_n 3, 1) := by decide +kernel
theorem dX5_worthOf_120 : decode cX5_worthOf 120 = .ok (.invokevirtual 150, 3) := by decide +kernel
theorem dX5_worthOf_123 : decode cX5_worthOf 123 = .ok (.ireturn, 1) := by decide +kernel
set_option maxRecDepth 20000 in
theorem ggX5_worths_X5_isAlive : GoodIn wsX5_worths wsX5_isAlive := goodIn_r _ [7, 8, 9, 10, 6, 11, 2, 84, 85, 86, 87] (by decide +kernel) (by decide +kernel)
set_option maxRecDepth 20000 in
theorem gX5_worths_X5_isAlive : GoodIn wsX5_worths (wsV RX5 66 RX5 yX5_isAlive wsX5_isAlive) := goodIn_app (goodIn_of _ (by decide +kernel)) ggX5_worths_X5_isAlive
set_option maxRecDepth 20000 in
theorem ggX5_worths_X5_prey : GoodIn wsX5_worths wsX5_prey := goodIn_r _ [15, 2, 16, 17, 18, 6, 19, 3, 4, 5, 7, 8, 9, 10, 11, 20, 21, 22, 23, 24, 25, 26, 27, 28, 29, 30, 31, 32, 33, 34, 35, 36, 37, 38, 39, 40, 41, 42, 43, 84, 85, 86, 87] (by decide +kernel) (by decide +kernel)
set_option maxRecDepth 20000 in
theorem gX5_worths_X5_prey : GoodIn wsX5_worths (wsV RX5 154 RX5 yX5_prey wsX5_prey) := goodIn_app (goodIn_of _ (by decide +kernel)) ggX5_worths_X5_prey
set_option maxRecDepth 20000 in
theorem ggX5_worths_X5_its : GoodIn wsX5_worths wsX5_its := goodIn_r _ [11, 2, 84, 85, 86, 87] (by decide +kernel) (by decide +kernel)
set_option maxRecDepth 20000 in
theorem gX5_worths_X5_its : GoodIn wsX5_worths (wsV RX5 26 RX5 yX5_its wsX5_its) := goodIn_app (goodIn_of _ (by decide +kernel)) ggX5_worths_X5_its
set_option maxRecDepth 20000 in
theorem ggX5_worths_X5_ways : GoodIn wsX5_worths wsX5_ways := goodIn_r _ [47, 1, 2, 48, 49, 50, 51, 6, 52, 8, 9, 10, 11, 53, 54, 55, 56, 57, 58, 59, 84, 85, 86, 87] (by decide +kernel) (by decide +kernel)
set_option maxRecDepth 20000 in
theorem gX5_worths_X5_ways : GoodIn wsX5_worths (wsV RX5 143 RX5 yX5_ways wsX5_ways) := goodIn_app (goodIn_of _ (by decide +kernel)) ggX5_worths_X5_ways
set_option maxRecDepth 20000 in
theorem ggX5_worths_X5_isPossible : GoodIn wsX5_worths wsX5_isPossible := goodIn_r _ [63, 2, 8, 9, 10, 6, 11, 16, 17, 18, 19, 3, 4, 5, 7, 20, 21, 22, 23, 24, 25, 26, 27, 28, 29, 30, 31, 32, 33, 34, 35, 36, 37, 38, 39, 40, 41, 42, 43, 53, 54, 55, 49, 50, 51, 52, 84, 85, 86, 87] (by decide +kernel) (by decide +kernel)
set_option maxRecDepth 20000 in
theorem gX5_worths_X5_isPossible : GoodIn wsX5_worths (wsV RX5 128 RX5 yX5_isPossible wsX5_isPossible) := goodIn_app (goodIn_of _ (by decide +kernel)) ggX5_worths_X5_isPossible
set_option maxRecDepth 20000 in
theorem ggX5_worths_X5_worthOf : GoodIn wsX5_worths wsX5_worthOf := goodIn_r _ [67, 16, 17, 18, 6, 19, 2, 3, 4, 5, 7, 8, 9, 10, 11, 20, 21, 22, 23, 24, 25, 26, 27, 28, 29, 30, 31, 32, 33, 34, 35, 36, 37, 38, 39, 40, 41, 42, 43, 68, 69, 70, 71, 53, 54, 55, 49, 50, 51, 52, 72, 73, 74, 75, 76, 77, 78, 79, 80, 81, 82, 83, 84, 85, 86, 87] (by decide +kernel) (by decide +kernel)
set_option maxRecDepth 20000 in
theorem gX5_worths_X5_worthOf : GoodIn wsX5_worths (wsV RX5 157 RX5 yX5_worthOf wsX5_worthOf) := goodIn_app (goodIn_of _ (by decide +kernel)) ggX5_worths_X5_worthOf
set_option maxRecDepth 20000 in
theorem ggX5_worths_X5_isIn : GoodIn wsX5_worths wsX5_isIn := goodIn_r _ [43] (by decide +kernel) (by decide +kernel)
set_option maxRecDepth 20000 in
theorem gX5_worths_X5_isIn : GoodIn wsX5_worths (va_wsS RX5 22 yX5_isIn wsX5_isIn) := goodIn_app (goodIn_of _ (by decide +kernel)) ggX5_worths_X5_isIn
set_option maxRecDepth 20000 in
theorem ggX5_worths_X5_beside : GoodIn wsX5_worths wsX5_beside := goodIn_r _ [55] (by decide +kernel) (by decide +kernel)
set_option maxRecDepth 20000 in
theorem gX5_worths_X5_beside : GoodIn wsX5_worths (va_wsS RX5 115 yX5_beside wsX5_beside) := goodIn_app (goodIn_of _ (by decide +kernel)) ggX5_worths_X5_beside
theorem dX5_worths_0 : decode cX5_worths 0 = .ok (.bipush 8, 2) := by decide +kernel
theorem dX5_worths_2 : decode cX5_worths 2 = .ok (.newarray .int, 2) := by decide +kernel
theorem dX5_worths_4 : decode cX5_worths 4 = .ok (.astore_n 2, 1) := by decide +kernel
theorem dX5_worths_5 : decode cX5_worths 5 = .ok (.aload_n 0, 1) := by decide +kernel
theorem dX5_worths_6 : decode cX5_worths 6 = .ok (.iload_n 1, 1) := by decide +kernel
theorem dX5_worths_7 : decode cX5_worths 7 = .ok (.invokevirtual 66, 3) := by decide +kernel
theorem dX5_worths_10 : decode cX5_worths 10 = .ok (.ifCond .eq 11, 3) := by decide +kernel
theorem dX5_worths_13 : decode cX5_worths 13 = .ok (.aload_n 0, 1) := by decide +kernel
theorem dX5_worths_14 : decode cX5_worths 14 = .ok (.iload_n 1, 1) := by decide +kernel
theorem dX5_worths_15 : decode cX5_worths 15 = .ok (.invokevirtual 154, 3) := by decide +kernel
theorem dX5_worths_18 : decode cX5_worths 18 = .ok (.goto 4, 3) := by decide +kernel
theorem dX5_worths_21 : decode cX5_worths 21 = .ok (.iconst (-1), 1) := by decide +kernel
theorem dX5_worths_22 : decode cX5_worths 22 = .ok (.istore_n 3, 1) := by decide +kernel
theorem dX5_worths_23 : decode cX5_worths 23 = .ok (.sipush 160, 3) := by decide +kernel
theorem dX5_worths_26 : decode cX5_worths 26 = .ok (.newarray .int, 2) := by decide +kernel
theorem dX5_worths_28 : decode cX5_worths 28 = .ok (.astore 4, 2) := by decide +kernel
theorem dX5_worths_30 : decode cX5_worths 30 = .ok (.iload_n 3, 1) := by decide +kernel
theorem dX5_worths_31 : decode cX5_worths 31 = .ok (.iconst (-1), 1) := by decide +kernel
theorem dX5_worths_32 : decode cX5_worths 32 = .ok (.if_icmp .eq 16, 3) := by decide +kernel
theorem dX5_worths_35 : decode cX5_worths 35 = .ok (.aload_n 0, 1) := by decide +kernel
theorem dX5_worths_36 : decode cX5_worths 36 = .ok (.iload_n 1, 1) := by decide +kernel
theorem dX5_worths_37 : decode cX5_worths 37 = .ok (.aload_n 0, 1) := by decide +kernel
theorem dX5_worths_38 : decode cX5_worths 38 = .ok (.iload_n 3, 1) := by decide +kernel
theorem dX5_worths_39 : decode cX5_worths 39 = .ok (.iconst 1, 1) := by decide +kernel
theorem dX5_worths_40 : decode cX5_worths 40 = .ok (.invokevirtual 26, 3) := by decide +kernel
theorem dX5_worths_43 : decode cX5_worths 43 = .ok (.invokevirtual 143, 3) := by decide +kernel
theorem dX5_worths_46 : decode cX5_worths 46 = .ok (.astore 4, 2) := by decide +kernel
theorem dX5_worths_48 : decode cX5_worths 48 = .ok (.iconst 0, 1) := by decide +kernel
theorem dX5_worths_49 : decode cX5_worths 49 = .ok (.istore 5, 2) := by decide +kernel
theorem dX5_worths_51 : decode cX5_worths 51 = .ok (.iload 5, 2) := by decide +kernel
theorem dX5_worths_53 : decode cX5_worths 53 = .ok (.bipush 8, 2) := by decide +kernel
theorem dX5_worths_55 : decode cX5_worths 55 = .ok (.if_icmp .ge 110, 3) := by decide +kernel
theorem dX5_worths_58 : decode cX5_worths 58 = .ok (.aload_n 2, 1) := by decide +kernel
theorem dX5_worths_59 : decode cX5_worths 59 = .ok (.iload 5, 2) := by decide +kernel
theorem dX5_worths_61 : decode cX5_worths 61 = .ok (.aload_n 0, 1) := by decide +kernel
theorem dX5_worths_62 : decode cX5_worths 62 = .ok (.iload_n 1, 1) := by decide +kernel
theorem dX5_worths_63 : decode cX5_worths 63 = .ok (.invokevirtual 66, 3) := by decide +kernel
theorem dX5_worths_66 : decode cX5_worths 66 = .ok (.ifCond .eq 13, 3) := by decide +kernel
theorem dX5_worths_69 : decode cX5_worths 69 = .ok (.aload_n 0, 1) := by decide +kernel
theorem dX5_worths_70 : decode cX5_worths 70 = .ok (.iload_n 1, 1) := by decide +kernel
theorem dX5_worths_71 : decode cX5_worths 71 = .ok (.iload 5, 2) := by decide +kernel
theorem dX5_worths_73 : decode cX5_worths 73 = .ok (.invokevirtual 128, 3) := by decide +kernel
theorem dX5_worths_76 : decode cX5_worths 76 = .ok (.ifCond .ne 9, 3) := by decide +kernel
theorem dX5_worths_79 : decode cX5_worths 79 = .ok (.sipush (-1000), 3) := by decide +kernel
theorem dX5_worths_82 : decode cX5_worths 82 = .ok (.goto 12, 3) := by decide +kernel
theorem dX5_worths_85 : decode cX5_worths 85 = .ok (.aload_n 0, 1) := by decide +kernel
theorem dX5_worths_86 : decode cX5_worths 86 = .ok (.iload_n 1, 1) := by decide +kernel
theorem dX5_worths_87 : decode cX5_worths 87 = .ok (.iload 5, 2) := by decide +kernel
theorem dX5_worths_89 : decode cX5_worths 89 = .ok (.aload 4, 2) := by decide +kernel
theorem dX5_worths_91 : decode cX5_worths 91 = .ok (.invokevirtual 157, 3) := by decide +kernel
theorem dX5_worths_94 : decode cX5_worths 94 = .ok (.iastore, 1) := by decide +kernel
theorem dX5_worths_95 : decode cX5_worths 95 = .ok (.iload 5, 2) := by decide +kernel
theorem dX5_worths_97 : decode cX5_worths 97 = .ok (.iconst 1, 1) := by decide +kernel
theorem dX5_worths_98 : decode cX5_worths 98 = .ok (.iconst 4, 1) := by decide +kernel
theorem dX5_worths_99 : decode cX5_worths 99 = .ok (.invokestatic 22, 3) := by decide +kernel
theorem dX5_worths_102 : decode cX5_worths 102 = .ok (.ifCond .eq 17, 3) := by decide +kernel
theorem dX5_worths_105 : decode cX5_worths 105 = .ok (.aload_n 2, 1) := by decide +kernel
theorem dX5_worths_106 : decode cX5_worths 106 = .ok (.iload 5, 2) := by decide +kernel
theorem dX5_worths_108 : decode cX5_worths 108 = .ok (.iaload, 1) := by decide +kernel
theorem dX5_worths_109 : decode cX5_worths 109 = .ok (.sipush (-1000), 3) := by decide +kernel
theorem dX5_worths_112 : decode cX5_worths 112 = .ok (.if_icmp .eq 7, 3) := by decide +kernel
theorem dX5_worths_115 : decode cX5_worths 115 = .ok (.iconst 1, 1) := by decide +kernel
theorem dX5_worths_116 : decode cX5_worths 116 = .ok (.goto 4, 3) := by decide +kernel
theorem dX5_worths_119 : decode cX5_worths 119 = .ok (.iconst 0, 1) := by decide +kernel
theorem dX5_worths_120 : decode cX5_worths 120 = .ok (.istore 6, 2) := by decide +kernel
theorem dX5_worths_122 : decode cX5_worths 122 = .ok (.iload 6, 2) := by decide +kernel
theorem dX5_worths_124 : decode cX5_worths 124 = .ok (.ifCond .eq 35, 3) := by decide +kernel
theorem dX5_worths_127 : decode cX5_worths 127 = .ok (.iload_n 3, 1) := by decide +kernel
theorem dX5_worths_128 : decode cX5_worths 128 = .ok (.iconst (-1), 1) := by decide +kernel
theorem dX5_worths_129 : decode cX5_worths 129 = .ok (.if_icmp .ne 30, 3) := by decide +kernel
theorem dX5_worths_132 : decode cX5_worths 132 = .ok (.aload_n 0, 1) := by decide +kernel
theorem dX5_worths_133 : decode cX5_worths 133 = .ok (.getfield 9, 3) := by decide +kernel
theorem dX5_worths_136 : decode cX5_worths 136 = .ok (.aload_n 0, 1) := by decide +kernel
theorem dX5_worths_137 : decode cX5_worths 137 = .ok (.iload_n 1, 1) := by decide +kernel
theorem dX5_worths_138 : decode cX5_worths 138 = .ok (.iconst 1, 1) := by decide +kernel
theorem dX5_worths_139 : decode cX5_worths 139 = .ok (.invokevirtual 26, 3) := by decide +kernel
theorem dX5_worths_142 : decode cX5_worths 142 = .ok (.iload 5, 2) := by decide +kernel
theorem dX5_worths_144 : decode cX5_worths 144 = .ok (.iconst 1, 1) := by decide +kernel
theorem dX5_worths_145 : decode cX5_worths 145 = .ok (.isub, 1) := by decide +kernel
theorem dX5_worths_146 : decode cX5_worths 146 = .ok (.invokestatic 115, 3) := by decide +kernel
theorem dX5_worths_149 : decode cX5_worths 149 = .ok (.iaload, 1) := by decide +kernel
theorem dX5_worths_150 : decode cX5_worths 150 = .ok (.iconst 2, 1) := by decide +kernel
theorem dX5_worths_151 : decode cX5_worths 151 = .ok (.if_icmp .eq 8, 3) := by decide +kernel
theorem dX5_worths_154 : decode cX5_worths 154 = .ok (.aload_n 2, 1) := by decide +kernel
theorem dX5_worths_155 : decode cX5_worths 155 = .ok (.iload 5, 2) := by decide +kernel
theorem dX5_worths_157 : decode cX5_worths 157 = .ok (.iconst 0, 1) := by decide +kernel
theorem dX5_worths_158 : decode cX5_worths 158 = .ok (.iastore, 1) := by decide +kernel
theorem dX5_worths_159 : decode cX5_worths 159 = .ok (.iinc 5 1, 3) := by decide +kernel
theorem dX5_worths_162 : decode cX5_worths 162 = .ok (.goto (-111), 3) := by decide +kernel
theorem dX5_worths_165 : decode cX5_worths 165 = .ok (.aload_n 2, 1) := by decide +kernel
theorem dX5_worths_166 : decode cX5_worths 166 = .ok (.areturn, 1) := by decide +kernel
set_option maxRecDepth 20000 in
theorem ggX5_worth_X5_isBeing : GoodIn wsX5_worth wsX5_isBeing := goodIn_r _ [6, 7, 8, 9, 5, 10, 97, 98, 99, 100] (by decide +kernel) (by decide +kernel)
set_option maxRecDepth 20000 in
theorem gX5_worth_X5_isBeing : GoodIn wsX5_worth (wsV RX5 83 RX5 yX5_isBeing wsX5_isBeing) := goodIn_app (goodIn_of _ (by decide +kernel)) ggX5_worth_X5_isBeing
set_option maxRecDepth 20000 in
theorem ggX5_worth_X5_no : GoodIn wsX5_worth wsX5_no := goodIn_r _ [14, 1, 97, 98, 99, 100] (by decide +kernel) (by decide +kernel)
set_option maxRecDepth 20000 in
theorem gX5_worth_X5_no : GoodIn wsX5_worth (wsV RX5 30 RX5 yX5_no wsX5_no) := goodIn_app (goodIn_of _ (by decide +kernel)) ggX5_worth_X5_no
set_option maxRecDepth 20000 in
theorem ggX5_worth_X5_isIn : GoodIn wsX5_worth wsX5_isIn := goodIn_r _ [10] (by decide +kernel) (by decide +kernel)
set_option maxRecDepth 20000 in
theorem gX5_worth_X5_isIn : GoodIn wsX5_worth (va_wsS RX5 22 yX5_isIn wsX5_isIn) := goodIn_app (goodIn_of _ (by decide +kernel)) ggX5_worth_X5_isIn
set_option maxRecDepth 20000 in
theorem ggX5_worth_X5_worths : GoodIn wsX5_worth wsX5_worths := goodIn_r _ [18, 19, 7, 20, 21, 22, 5, 23, 24, 25, 26, 27, 28, 29, 30, 31, 32, 33, 34, 35, 36, 37, 38, 39, 40, 41, 42, 43, 44, 45, 46, 47, 48, 49, 50, 51, 52, 53, 54, 55, 56, 8, 9, 10, 57, 58, 59, 60, 61, 62, 63, 64, 65, 66, 67, 68, 69, 70, 71, 72, 73, 74, 75, 76, 77, 78, 79, 80, 81, 82, 83, 84, 85, 86, 87, 88, 89, 90, 91, 92, 93, 94, 95, 96, 97, 98, 99, 100] (by decide +kernel) (by decide +kernel)
set_option maxRecDepth 20000 in
theorem gX5_worth_X5_worths : GoodIn wsX5_worth (wsV RX5 160 RX5 yX5_worths wsX5_worths) := goodIn_app (goodIn_of _ (by decide +kernel)) ggX5_worth_X5_worths
theorem dX5_worth_0 : decode cX5_worth 0 = .ok (.aload_n 0, 1) := by decide +kernel
theorem dX5_worth_1 : decode cX5_worth 1 = .ok (.iconst 0, 1) := by decide +kernel
theorem dX5_worth_2 : decode cX5_worth 2 = .ok (.putfield 18, 3) := by decide +kernel
theorem dX5_worth_5 : decode cX5_worth 5 = .ok (.aload_n 0, 1) := by decide +kernel
theorem dX5_worth_6 : decode cX5_worth 6 = .ok (.iload_n 1, 1) := by decide +kernel
theorem dX5_worth_7 : decode cX5_worth 7 = .ok (.invokevirtual 83, 3) := by decide +kernel
theorem dX5_worth_10 : decode cX5_worth 10 = .ok (.ifCond .ne 9, 3) := by decide +kernel
theorem dX5_worth_13 : decode cX5_worth 13 = .ok (.aload_n 0, 1) := by decide +kernel
theorem dX5_worth_14 : decode cX5_worth 14 = .ok (.iconst 1, 1) := by decide +kernel
theorem dX5_worth_15 : decode cX5_worth 15 = .ok (.invokevirtual 30, 3) := by decide +kernel
theorem dX5_worth_18 : decode cX5_worth 18 = .ok (.ireturn, 1) := by decide +kernel
theorem dX5_worth_19 : decode cX5_worth 19 = .ok (.iload_n 2, 1) := by decide +kernel
theorem dX5_worth_20 : decode cX5_worth 20 = .ok (.iconst 0, 1) := by decide +kernel
theorem dX5_worth_21 : decode cX5_worth 21 = .ok (.bipush 7, 2) := by decide +kernel
theorem dX5_worth_23 : decode cX5_worth 23 = .ok (.invokestatic 22, 3) := by decide +kernel
theorem dX5_worth_26 : decode cX5_worth 26 = .ok (.ifCond .eq 13, 3) := by decide +kernel
theorem dX5_worth_29 : decode cX5_worth 29 = .ok (.aload_n 0, 1) := by decide +kernel
theorem dX5_worth_30 : decode cX5_worth 30 = .ok (.iload_n 1, 1) := by decide +kernel
theorem dX5_worth_31 : decode cX5_worth 31 = .ok (.invokevirtual 160, 3) := by decide +kernel
theorem dX5_worth_34 : decode cX5_worth 34 = .ok (.iload_n 2, 1) := by decide +kernel
theorem dX5_worth_35 : decode cX5_worth 35 = .ok (.iaload, 1) := by decide +kernel
theorem dX5_worth_36 : decode cX5_worth 36 = .ok (.goto 8, 3) := by decide +kernel
theorem dX5_worth_39 : decode cX5_worth 39 = .ok (.aload_n 0, 1) := by decide +kernel
theorem dX5_worth_40 : decode cX5_worth 40 = .ok (.iconst 2, 1) := by decide +kernel
theorem dX5_worth_41 : decode cX5_worth 41 = .ok (.invokevirtual 30, 3) := by decide +kernel
theorem dX5_worth_44 : decode cX5_worth 44 = .ok (.ireturn, 1) := by decide +kernel
theorem dX5_best_0 : decode cX5_best 0 = .ok (.iconst 0, 1) := by decide +kernel
theorem dX5_best_1 : decode cX5_best 1 = .ok (.istore_n 1, 1) := by decide +kernel
theorem dX5_best_2 : decode cX5_best 2 = .ok (.iconst 1, 1) := by decide +kernel
theorem dX5_best_3 : decode cX5_best 3 = .ok (.istore_n 2, 1) := by decide +kernel
theorem dX5_best_4 : decode cX5_best 4 = .ok (.iload_n 2, 1) := by decide +kernel
theorem dX5_best_5 : decode cX5_best 5 = .ok (.bipush 8, 2) := by decide +kernel
theorem dX5_best_7 : decode cX5_best 7 = .ok (.if_icmp .ge 20, 3) := by decide +kernel
theorem dX5_best_10 : decode cX5_best 10 = .ok (.aload_n 0, 1) := by decide +kernel
theorem dX5_best_11 : decode cX5_best 11 = .ok (.iload_n 2, 1) := by decide +kernel
theorem dX5_best_12 : decode cX5_best 12 = .ok (.iaload, 1) := by decide +kernel
theorem dX5_best_13 : decode cX5_best 13 = .ok (.aload_n 0, 1) := by decide +kernel
theorem dX5_best_14 : decode cX5_best 14 = .ok (.iload_n 1, 1) := by decide +kernel
theorem dX5_best_15 : decode cX5_best 15 = .ok (.iaload, 1) := by decide +kernel
theorem dX5_best_16 : decode cX5_best 16 = .ok (.if_icmp .le 5, 3) := by decide +kernel
theorem dX5_best_19 : decode cX5_best 19 = .ok (.iload_n 2, 1) := by decide +kernel
theorem dX5_best_20 : decode cX5_best 20 = .ok (.istore_n 1, 1) := by decide +kernel
theorem dX5_best_21 : decode cX5_best 21 = .ok (.iinc 2 1, 3) := by decide +kernel
theorem dX5_best_24 : decode cX5_best 24 = .ok (.goto (-20), 3) := by decide +kernel
theorem dX5_best_27 : decode cX5_best 27 = .ok (.aload_n 0, 1) := by decide +kernel
theorem dX5_best_28 : decode cX5_best 28 = .ok (.iload_n 1, 1) := by decide +kernel
theorem dX5_best_29 : decode cX5_best 29 = .ok (.iaload, 1) := by decide +kernel
theorem dX5_best_30 : decode cX5_best 30 = .ok (.sipush (-1000), 3) := by decide +kernel
theorem dX5_best_33 : decode cX5_best 33 = .ok (.if_icmp .ne 7, 3) := by decide +kernel
theorem dX5_best_36 : decode cX5_best 36 = .ok (.iconst (-1), 1) := by decide +kernel
theorem dX5_best_37 : decode cX5_best 37 = .ok (.goto 4, 3) := by decide +kernel
theorem dX5_best_40 : decode cX5_best 40 = .ok (.iload_n 1, 1) := by decide +kernel
theorem dX5_best_41 : decode cX5_best 41 = .ok (.ireturn, 1) := by decide +kernel
set_option maxRecDepth 20000 in
theorem ggX5_planNow_X5_worths : GoodIn wsX5_planNow wsX5_worths := goodIn_r _ [5, 6, 7, 8, 9, 10, 4, 11, 12, 13, 14, 15, 16, 17, 18, 19, 20, 21, 22, 23, 24, 25, 26, 27, 28, 29, 30, 31, 32, 33, 34, 35, 36, 37, 38, 39, 40, 41, 42, 43, 44, 45, 46, 47, 48, 49, 50, 51, 52, 53, 54, 55, 56, 57, 58, 59, 60, 61, 62, 63, 64, 65, 66, 67, 68, 69, 70, 71, 72, 73, 74, 75, 76, 77, 78, 79, 80, 81, 82, 83, 84, 85, 86, 87, 91, 92, 93, 94] (by decide +kernel) (by decide +kernel)
set_option maxRecDepth 20000 in
theorem gX5_planNow_X5_worths : GoodIn wsX5_planNow (wsV RX5 160 RX5 yX5_worths wsX5_worths) := goodIn_app (goodIn_of _ (by decide +kernel)) ggX5_planNow_X5_worths
set_option maxRecDepth 20000 in
theorem ggX5_planNow_X5_best : GoodIn wsX5_planNow wsX5_best := goodIn_r _ [90] (by decide +kernel) (by decide +kernel)
set_option maxRecDepth 20000 in
theorem gX5_planNow_X5_best : GoodIn wsX5_planNow (va_wsS RX5 164 yX5_best wsX5_best) := goodIn_app (goodIn_of _ (by decide +kernel)) ggX5_planNow_X5_best
theorem dX5_planNow_0 : decode cX5_planNow 0 = .ok (.aload_n 0, 1) := by decide +kernel
theorem dX5_planNow_1 : decode cX5_planNow 1 = .ok (.iload_n 1, 1) := by decide +kernel
theorem dX5_planNow_2 : decode cX5_planNow 2 = .ok (.invokevirtual 160, 3) := by decide +kernel
theorem dX5_planNow_5 : decode cX5_planNow 5 = .ok (.invokestatic 164, 3) := by decide +kernel
theorem dX5_planNow_8 : decode cX5_planNow 8 = .ok (.ireturn, 1) := by decide +kernel
set_option maxRecDepth 20000 in
theorem ggX5_plan_X5_isBeing : GoodIn wsX5_plan wsX5_isBeing := goodIn_r _ [6, 7, 8, 9, 5, 10, 104, 105, 106, 107] (by decide +kernel) (by decide +kernel)
set_option maxRecDepth 20000 in
theorem gX5_plan_X5_isBeing : GoodIn wsX5_plan (wsV RX5 83 RX5 yX5_isBeing wsX5_isBeing) := goodIn_app (goodIn_of _ (by decide +kernel)) ggX5_plan_X5_isBeing
set_option maxRecDepth 20000 in
theorem ggX5_plan_X5_planNow : GoodIn wsX5_plan wsX5_planNow := goodIn_r _ [14, 15, 16, 17, 5, 18, 19, 7, 20, 21, 22, 23, 24, 25, 26, 27, 28, 29, 30, 31, 32, 33, 34, 35, 36, 37, 38, 39, 40, 41, 42, 43, 44, 45, 46, 47, 48, 49, 50, 51, 52, 53, 54, 55, 56, 8, 9, 10, 57, 58, 59, 60, 61, 62, 63, 64, 65, 66, 67, 68, 69, 70, 71, 72, 73, 74, 75, 76, 77, 78, 79, 80, 81, 82, 83, 84, 85, 86, 87, 88, 89, 90, 91, 92, 93, 94, 95, 96, 97, 98, 99, 104, 105, 106, 107] (by decide +kernel) (by decide +kernel)
set_option maxRecDepth 20000 in
theorem gX5_plan_X5_planNow : GoodIn wsX5_plan (wsV RX5 134 RX5 yX5_planNow wsX5_planNow) := goodIn_app (goodIn_of _ (by decide +kernel)) ggX5_plan_X5_planNow
set_option maxRecDepth 20000 in
theorem ggX5_plan_X5_no : GoodIn wsX5_plan wsX5_no := goodIn_r _ [103, 1, 104, 105, 106, 107] (by decide +kernel) (by decide +kernel)
set_option maxRecDepth 20000 in
theorem gX5_plan_X5_no : GoodIn wsX5_plan (wsV RX5 30 RX5 yX5_no wsX5_no) := goodIn_app (goodIn_of _ (by decide +kernel)) ggX5_plan_X5_no
theorem dX5_plan_0 : decode cX5_plan 0 = .ok (.aload_n 0, 1) := by decide +kernel
theorem dX5_plan_1 : decode cX5_plan 1 = .ok (.iconst 0, 1) := by decide +kernel
theorem dX5_plan_2 : decode cX5_plan 2 = .ok (.putfield 18, 3) := by decide +kernel
theorem dX5_plan_5 : decode cX5_plan 5 = .ok (.aload_n 0, 1) := by decide +kernel
theorem dX5_plan_6 : decode cX5_plan 6 = .ok (.iload_n 1, 1) := by decide +kernel
theorem dX5_plan_7 : decode cX5_plan 7 = .ok (.invokevirtual 83, 3) := by decide +kernel
theorem dX5_plan_10 : decode cX5_plan 10 = .ok (.ifCond .eq 11, 3) := by decide +kernel
theorem dX5_plan_13 : decode cX5_plan 13 = .ok (.aload_n 0, 1) := by decide +kernel
theorem dX5_plan_14 : decode cX5_plan 14 = .ok (.iload_n 1, 1) := by decide +kernel
theorem dX5_plan_15 : decode cX5_plan 15 = .ok (.invokevirtual 134, 3) := by decide +kernel
theorem dX5_plan_18 : decode cX5_plan 18 = .ok (.goto 8, 3) := by decide +kernel
theorem dX5_plan_21 : decode cX5_plan 21 = .ok (.aload_n 0, 1) := by decide +kernel
theorem dX5_plan_22 : decode cX5_plan 22 = .ok (.iconst 1, 1) := by decide +kernel
theorem dX5_plan_23 : decode cX5_plan 23 = .ok (.invokevirtual 30, 3) := by decide +kernel
theorem dX5_plan_26 : decode cX5_plan 26 = .ok (.ireturn, 1) := by decide +kernel
theorem dX5_copy_0 : decode cX5_copy 0 = .ok (.sipush 683, 3) := by decide +kernel
theorem dX5_copy_3 : decode cX5_copy 3 = .ok (.newarray .int, 2) := by decide +kernel
theorem dX5_copy_5 : decode cX5_copy 5 = .ok (.astore_n 1, 1) := by decide +kernel
theorem dX5_copy_6 : decode cX5_copy 6 = .ok (.aload_n 0, 1) := by decide +kernel
theorem dX5_copy_7 : decode cX5_copy 7 = .ok (.iconst 0, 1) := by decide +kernel
theorem dX5_copy_8 : decode cX5_copy 8 = .ok (.aload_n 1, 1) := by decide +kernel
theorem dX5_copy_9 : decode cX5_copy 9 = .ok (.iconst 0, 1) := by decide +kernel
theorem dX5_copy_10 : decode cX5_copy 10 = .ok (.sipush 683, 3) := by decide +kernel
theorem dX5_copy_13 : decode cX5_copy 13 = .ok (.invokestatic 73, 3) := by decide +kernel
theorem dX5_copy_16 : decode cX5_copy 16 = .ok (.aload_n 1, 1) := by decide +kernel
theorem dX5_copy_17 : decode cX5_copy 17 = .ok (.areturn, 1) := by decide +kernel
set_option maxRecDepth 20000 in
theorem ggX5_save_X5_no : GoodIn wsX5_save wsX5_no := goodIn_r _ [9, 1, 18, 19, 20, 21] (by decide +kernel) (by decide +kernel)
set_option maxRecDepth 20000 in
theorem gX5_save_X5_no : GoodIn wsX5_save (wsV RX5 30 RX5 yX5_no wsX5_no) := goodIn_app (goodIn_of _ (by decide +kernel)) ggX5_save_X5_no
set_option maxRecDepth 20000 in
theorem ggX5_save_X5_copy : GoodIn wsX5_save wsX5_copy := goodIn_r _ [12, 13, 14, 15, 16, 17] (by decide +kernel) (by decide +kernel)
set_option maxRecDepth 20000 in
theorem gX5_save_X5_copy : GoodIn wsX5_save (va_wsS RX5 168 yX5_copy wsX5_copy) := goodIn_app (goodIn_of _ (by decide +kernel)) ggX5_save_X5_copy
theorem dX5_save_0 : decode cX5_save 0 = .ok (.aload_n 0, 1) := by decide +kernel
theorem dX5_save_1 : decode cX5_save 1 = .ok (.iconst 0, 1) := by decide +kernel
theorem dX5_save_2 : decode cX5_save 2 = .ok (.putfield 18, 3) := by decide +kernel
theorem dX5_save_5 : decode cX5_save 5 = .ok (.aload_n 0, 1) := by decide +kernel
theorem dX5_save_6 : decode cX5_save 6 = .ok (.getfield 106, 3) := by decide +kernel
theorem dX5_save_9 : decode cX5_save 9 = .ok (.iconst 5, 1) := by decide +kernel
theorem dX5_save_10 : decode cX5_save 10 = .ok (.if_icmp .ne 9, 3) := by decide +kernel
theorem dX5_save_13 : decode cX5_save 13 = .ok (.aload_n 0, 1) := by decide +kernel
theorem dX5_save_14 : decode cX5_save 14 = .ok (.iconst 1, 1) := by decide +kernel
theorem dX5_save_15 : decode cX5_save 15 = .ok (.invokevirtual 30, 3) := by decide +kernel
theorem dX5_save_18 : decode cX5_save 18 = .ok (.ireturn, 1) := by decide +kernel
theorem dX5_save_19 : decode cX5_save 19 = .ok (.aload_n 0, 1) := by decide +kernel
theorem dX5_save_20 : decode cX5_save 20 = .ok (.getfield 14, 3) := by decide +kernel
theorem dX5_save_23 : decode cX5_save 23 = .ok (.aload_n 0, 1) := by decide +kernel
theorem dX5_save_24 : decode cX5_save 24 = .ok (.getfield 106, 3) := by decide +kernel
theorem dX5_save_27 : decode cX5_save 27 = .ok (.aload_n 0, 1) := by decide +kernel
theorem dX5_save_28 : decode cX5_save 28 = .ok (.getfield 9, 3) := by decide +kernel
theorem dX5_save_31 : decode cX5_save 31 = .ok (.invokestatic 168, 3) := by decide +kernel
theorem dX5_save_34 : decode cX5_save 34 = .ok (.aastore, 1) := by decide +kernel
theorem dX5_save_35 : decode cX5_save 35 = .ok (.aload_n 0, 1) := by decide +kernel
theorem dX5_save_36 : decode cX5_save 36 = .ok (.dup, 1) := by decide +kernel
theorem dX5_save_37 : decode cX5_save 37 = .ok (.getfield 106, 3) := by decide +kernel
theorem dX5_save_40 : decode cX5_save 40 = .ok (.dup_x1, 1) := by decide +kernel
theorem dX5_save_41 : decode cX5_save 41 = .ok (.iconst 1, 1) := by decide +kernel
theorem dX5_save_42 : decode cX5_save 42 = .ok (.iadd, 1) := by decide +kernel
theorem dX5_save_43 : decode cX5_save 43 = .ok (.putfield 106, 3) := by decide +kernel
theorem dX5_save_46 : decode cX5_save 46 = .ok (.ireturn, 1) := by decide +kernel
set_option maxRecDepth 20000 in
theorem ggX5_load_X5_isIn : GoodIn wsX5_load wsX5_isIn := goodIn_r _ [8] (by decide +kernel) (by decide +kernel)
set_option maxRecDepth 20000 in
theorem gX5_load_X5_isIn : GoodIn wsX5_load (va_wsS RX5 22 yX5_isIn wsX5_isIn) := goodIn_app (goodIn_of _ (by decide +kernel)) ggX5_load_X5_isIn
set_option maxRecDepth 20000 in
theorem ggX5_load_X5_no : GoodIn wsX5_load wsX5_no := goodIn_r _ [12, 1, 33, 34, 35, 36] (by decide +kernel) (by decide +kernel)
set_option maxRecDepth 20000 in
theorem gX5_load_X5_no : GoodIn wsX5_load (wsV RX5 30 RX5 yX5_no wsX5_no) := goodIn_app (goodIn_of _ (by decide +kernel)) ggX5_load_X5_no
set_option maxRecDepth 20000 in
theorem ggX5_load_X5_copy : GoodIn wsX5_load wsX5_copy := goodIn_r _ [15, 16, 17, 18, 19, 20] (by decide +kernel) (by decide +kernel)
set_option maxRecDepth 20000 in
theorem gX5_load_X5_copy : GoodIn wsX5_load (va_wsS RX5 168 yX5_copy wsX5_copy) := goodIn_app (goodIn_of _ (by decide +kernel)) ggX5_load_X5_copy
set_option maxRecDepth 20000 in
theorem ggX5_load_X5_alive : GoodIn wsX5_load wsX5_alive := goodIn_r _ [24, 4, 25, 26, 27, 7, 28, 29, 30, 31, 32, 33, 34, 35, 36] (by decide +kernel) (by decide +kernel)
set_option maxRecDepth 20000 in
theorem gX5_load_X5_alive : GoodIn wsX5_load (wsV RX5 103 RX5 yX5_alive wsX5_alive) := goodIn_app (goodIn_of _ (by decide +kernel)) ggX5_load_X5_alive
theorem dX5_load_0 : decode cX5_load 0 = .ok (.aload_n 0, 1) := by decide +kernel
theorem dX5_load_1 : decode cX5_load 1 = .ok (.iconst 0, 1) := by decide +kernel
theorem dX5_load_2 : decode cX5_load 2 = .ok (.putfield 18, 3) := by decide +kernel
theorem dX5_load_5 : decode cX5_load 5 = .ok (.iload_n 1, 1) := by decide +kernel
theorem dX5_load_6 : decode cX5_load 6 = .ok (.iconst 0, 1) := by decide +kernel
theorem dX5_load_7 : decode cX5_load 7 = .ok (.aload_n 0, 1) := by decide +kernel
theorem dX5_load_8 : decode cX5_load 8 = .ok (.getfield 106, 3) := by decide +kernel
theorem dX5_load_11 : decode cX5_load 11 = .ok (.iconst 1, 1) := by decide +kernel
theorem dX5_load_12 : decode cX5_load 12 = .ok (.isub, 1) := by decide +kernel
theorem dX5_load_13 : decode cX5_load 13 = .ok (.invokestatic 22, 3) := by decide +kernel
theorem dX5_load_16 : decode cX5_load 16 = .ok (.ifCond .ne 9, 3) := by decide +kernel
theorem dX5_load_19 : decode cX5_load 19 = .ok (.aload_n 0, 1) := by decide +kernel
theorem dX5_load_20 : decode cX5_load 20 = .ok (.iconst 1, 1) := by decide +kernel
theorem dX5_load_21 : decode cX5_load 21 = .ok (.invokevirtual 30, 3) := by decide +kernel
theorem dX5_load_24 : decode cX5_load 24 = .ok (.ireturn, 1) := by decide +kernel
theorem dX5_load_25 : decode cX5_load 25 = .ok (.aload_n 0, 1) := by decide +kernel
theorem dX5_load_26 : decode cX5_load 26 = .ok (.aload_n 0, 1) := by decide +kernel
theorem dX5_load_27 : decode cX5_load 27 = .ok (.getfield 14, 3) := by decide +kernel
theorem dX5_load_30 : decode cX5_load 30 = .ok (.iload_n 1, 1) := by decide +kernel
theorem dX5_load_31 : decode cX5_load 31 = .ok (.aaload, 1) := by decide +kernel
theorem dX5_load_32 : decode cX5_load 32 = .ok (.invokestatic 168, 3) := by decide +kernel
theorem dX5_load_35 : decode cX5_load 35 = .ok (.putfield 9, 3) := by decide +kernel
theorem dX5_load_38 : decode cX5_load 38 = .ok (.aload_n 0, 1) := by decide +kernel
theorem dX5_load_39 : decode cX5_load 39 = .ok (.iconst 0, 1) := by decide +kernel
theorem dX5_load_40 : decode cX5_load 40 = .ok (.invokevirtual 103, 3) := by decide +kernel
theorem dX5_load_43 : decode cX5_load 43 = .ok (.aload_n 0, 1) := by decide +kernel
theorem dX5_load_44 : decode cX5_load 44 = .ok (.iconst 1, 1) := by decide +kernel
theorem dX5_load_45 : decode cX5_load 45 = .ok (.invokevirtual 103, 3) := by decide +kernel
theorem dX5_load_48 : decode cX5_load 48 = .ok (.iadd, 1) := by decide +kernel
theorem dX5_load_49 : decode cX5_load 49 = .ok (.ireturn, 1) := by decide +kernel
set_option maxRecDepth 20000 in
theorem ggX5_hit_X5_isBeing : GoodIn wsX5_hit wsX5_isBeing := goodIn_r _ [6, 7, 8, 9, 5, 10, 31, 32, 33, 34] (by decide +kernel) (by decide +kernel)
set_option maxRecDepth 20000 in
theorem gX5_hit_X5_isBeing : GoodIn wsX5_hit (wsV RX5 83 RX5 yX5_isBeing wsX5_isBeing) := goodIn_app (goodIn_of _ (by decide +kernel)) ggX5_hit_X5_isBeing
set_option maxRecDepth 20000 in
theorem ggX5_hit_X5_no : GoodIn wsX5_hit wsX5_no := goodIn_r _ [14, 1, 31, 32, 33, 34] (by decide +kernel) (by decide +kernel)
set_option maxRecDepth 20000 in
theorem gX5_hit_X5_no : GoodIn wsX5_hit (wsV RX5 30 RX5 yX5_no wsX5_no) := goodIn_app (goodIn_of _ (by decide +kernel)) ggX5_hit_X5_no
set_option maxRecDepth 20000 in
theorem ggX5_hit_X5_isAlive : GoodIn wsX5_hit wsX5_isAlive := goodIn_r _ [18, 19, 20, 21, 5, 22, 7, 31, 32, 33, 34] (by decide +kernel) (by decide +kernel)
set_option maxRecDepth 20000 in
theorem gX5_hit_X5_isAlive : GoodIn wsX5_hit (wsV RX5 66 RX5 yX5_isAlive wsX5_isAlive) := goodIn_app (goodIn_of _ (by decide +kernel)) ggX5_hit_X5_isAlive
set_option maxRecDepth 20000 in
theorem ggX5_hit_X5_hitNow : GoodIn wsX5_hit wsX5_hitNow := goodIn_r _ [26, 27, 28, 29, 30, 19, 20, 21, 5, 22, 7, 31, 32, 33, 34] (by decide +kernel) (by decide +kernel)
set_option maxRecDepth 20000 in
theorem gX5_hit_X5_hitNow : GoodIn wsX5_hit (wsV RX5 118 RX5 yX5_hitNow wsX5_hitNow) := goodIn_app (goodIn_of _ (by decide +kernel)) ggX5_hit_X5_hitNow
theorem dX5_hit_0 : decode cX5_hit 0 = .ok (.aload_n 0, 1) := by decide +kernel
theorem dX5_hit_1 : decode cX5_hit 1 = .ok (.iconst 0, 1) := by decide +kernel
theorem dX5_hit_2 : decode cX5_hit 2 = .ok (.putfield 18, 3) := by decide +kernel
theorem dX5_hit_5 : decode cX5_hit 5 = .ok (.aload_n 0, 1) := by decide +kernel
theorem dX5_hit_6 : decode cX5_hit 6 = .ok (.iload_n 1, 1) := by decide +kernel
theorem dX5_hit_7 : decode cX5_hit 7 = .ok (.invokevirtual 83, 3) := by decide +kernel
theorem dX5_hit_10 : decode cX5_hit 10 = .ok (.ifCond .eq 11, 3) := by decide +kernel
theorem dX5_hit_13 : decode cX5_hit 13 = .ok (.aload_n 0, 1) := by decide +kernel
theorem dX5_hit_14 : decode cX5_hit 14 = .ok (.iload_n 2, 1) := by decide +kernel
theorem dX5_hit_15 : decode cX5_hit 15 = .ok (.invokevirtual 83, 3) := by decide +kernel
theorem dX5_hit_18 : decode cX5_hit 18 = .ok (.ifCond .ne 9, 3) := by decide +kernel
theorem dX5_hit_21 : decode cX5_hit 21 = .ok (.aload_n 0, 1) := by decide +kernel
theorem dX5_hit_22 : decode cX5_hit 22 = .ok (.iconst 1, 1) := by decide +kernel
theorem dX5_hit_23 : decode cX5_hit 23 = .ok (.invokevirtual 30, 3) := by decide +kernel
theorem dX5_hit_26 : decode cX5_hit 26 = .ok (.ireturn, 1) := by decide +kernel
theorem dX5_hit_27 : decode cX5_hit 27 = .ok (.aload_n 0, 1) := by decide +kernel
theorem dX5_hit_28 : decode cX5_hit 28 = .ok (.iload_n 1, 1) := by decide +kernel
theorem dX5_hit_29 : decode cX5_hit 29 = .ok (.invokevirtual 66, 3) := by decide +kernel
theorem dX5_hit_32 : decode cX5_hit 32 = .ok (.ifCond .eq 20, 3) := by decide +kernel
theorem dX5_hit_35 : decode cX5_hit 35 = .ok (.aload_n 0, 1) := by decide +kernel
theorem dX5_hit_36 : decode cX5_hit 36 = .ok (.iload_n 2, 1) := by decide +kernel
theorem dX5_hit_37 : decode cX5_hit 37 = .ok (.invokevirtual 66, 3) := by decide +kernel
theorem dX5_hit_40 : decode cX5_hit 40 = .ok (.ifCond .eq 12, 3) := by decide +kernel
theorem dX5_hit_43 : decode cX5_hit 43 = .ok (.aload_n 0, 1) := by decide +kernel
theorem dX5_hit_44 : decode cX5_hit 44 = .ok (.iload_n 1, 1) := by decide +kernel
theorem dX5_hit_45 : decode cX5_hit 45 = .ok (.iload_n 2, 1) := by decide +kernel
theorem dX5_hit_46 : decode cX5_hit 46 = .ok (.invokevirtual 118, 3) := by decide +kernel
theorem dX5_hit_49 : decode cX5_hit 49 = .ok (.goto 4, 3) := by decide +kernel
theorem dX5_hit_52 : decode cX5_hit 52 = .ok (.iconst 0, 1) := by decide +kernel
theorem dX5_hit_53 : decode cX5_hit 53 = .ok (.ireturn, 1) := by decide +kernel
set_option maxRecDepth 20000 in
theorem ggX5_life_X5_its : GoodIn wsX5_life wsX5_its := goodIn_r _ [6, 1, 7, 8, 9, 10] (by decide +kernel) (by decide +kernel)
set_option maxRecDepth 20000 in
theorem gX5_life_X5_its : GoodIn wsX5_life (wsV RX5 26 RX5 yX5_its wsX5_its) := goodIn_app (goodIn_of _ (by decide +kernel)) ggX5_life_X5_its
theorem dX5_life_0 : decode cX5_life 0 = .ok (.iconst 0, 1) := by decide +kernel
theorem dX5_life_1 : decode cX5_life 1 = .ok (.istore_n 2, 1) := by decide +kernel
theorem dX5_life_2 : decode cX5_life 2 = .ok (.iconst 0, 1) := by decide +kernel
theorem dX5_life_3 : decode cX5_life 3 = .ok (.istore_n 3, 1) := by decide +kernel
theorem dX5_life_4 : decode cX5_life 4 = .ok (.iload_n 3, 1) := by decide +kernel
theorem dX5_life_5 : decode cX5_life 5 = .ok (.aload_n 0, 1) := by decide +kernel
theorem dX5_life_6 : decode cX5_life 6 = .ok (.getfield 9, 3) := by decide +kernel
theorem dX5_life_9 : decode cX5_life 9 = .ok (.sipush 680, 3) := by decide +kernel
theorem dX5_life_12 : decode cX5_life 12 = .ok (.iaload, 1) := by decide +kernel
theorem dX5_life_13 : decode cX5_life 13 = .ok (.if_icmp .ge 32, 3) := by decide +kernel
theorem dX5_life_16 : decode cX5_life 16 = .ok (.iload_n 2, 1) := by decide +kernel
theorem dX5_life_17 : decode cX5_life 17 = .ok (.aload_n 0, 1) := by decide +kernel
theorem dX5_life_18 : decode cX5_life 18 = .ok (.iload_n 3, 1) := by decide +kernel
theorem dX5_life_19 : decode cX5_life 19 = .ok (.iconst 0, 1) := by decide +kernel
theorem dX5_life_20 : decode cX5_life 20 = .ok (.invokevirtual 26, 3) := by decide +kernel
theorem dX5_life_23 : decode cX5_life 23 = .ok (.iload_n 1, 1) := by decide +kernel
theorem dX5_life_24 : decode cX5_life 24 = .ok (.if_icmp .ne 12, 3) := by decide +kernel
theorem dX5_life_27 : decode cX5_life 27 = .ok (.aload_n 0, 1) := by decide +kernel
theorem dX5_life_28 : decode cX5_life 28 = .ok (.iload_n 3, 1) := by decide +kernel
theorem dX5_life_29 : decode cX5_life 29 = .ok (.iconst 2, 1) := by decide +kernel
theorem dX5_life_30 : decode cX5_life 30 = .ok (.invokevirtual 26, 3) := by decide +kernel
theorem dX5_life_33 : decode cX5_life 33 = .ok (.goto 4, 3) := by decide +kernel
theorem dX5_life_36 : decode cX5_life 36 = .ok (.iconst 0, 1) := by decide +kernel
theorem dX5_life_37 : decode cX5_life 37 = .ok (.iadd, 1) := by decide +kernel
theorem dX5_life_38 : decode cX5_life 38 = .ok (.istore_n 2, 1) := by decide +kernel
theorem dX5_life_39 : decode cX5_life 39 = .ok (.iinc 3 1, 3) := by decide +kernel
theorem dX5_life_42 : decode cX5_life 42 = .ok (.goto (-38), 3) := by decide +kernel
theorem dX5_life_45 : decode cX5_life 45 = .ok (.iload_n 2, 1) := by decide +kernel
theorem dX5_life_46 : decode cX5_life 46 = .ok (.ireturn, 1) := by decide +kernel
set_option maxRecDepth 20000 in
theorem ggX5_ahead_X5_isIn : GoodIn wsX5_ahead wsX5_isIn := goodIn_r _ [6] (by decide +kernel) (by decide +kernel)
set_option maxRecDepth 20000 in
theorem gX5_ahead_X5_isIn : GoodIn wsX5_ahead (va_wsS RX5 22 yX5_isIn wsX5_isIn) := goodIn_app (goodIn_of _ (by decide +kernel)) ggX5_ahead_X5_isIn
set_option maxRecDepth 20000 in
theorem ggX5_ahead_X5_no : GoodIn wsX5_ahead wsX5_no := goodIn_r _ [10, 1, 150, 151, 152, 153] (by decide +kernel) (by decide +kernel)
set_option maxRecDepth 20000 in
theorem gX5_ahead_X5_no : GoodIn wsX5_ahead (wsV RX5 30 RX5 yX5_no wsX5_no) := goodIn_app (goodIn_of _ (by decide +kernel)) ggX5_ahead_X5_no
set_option maxRecDepth 20000 in
theorem ggX5_ahead_X5_copy : GoodIn wsX5_ahead wsX5_copy := goodIn_r _ [13, 14, 15, 16, 17, 18] (by decide +kernel) (by decide +kernel)
set_option maxRecDepth 20000 in
theorem gX5_ahead_X5_copy : GoodIn wsX5_ahead (va_wsS RX5 168 yX5_copy wsX5_copy) := goodIn_app (goodIn_of _ (by decide +kernel)) ggX5_ahead_X5_copy
set_option maxRecDepth 20000 in
theorem ggX5_ahead_X5_followNow : GoodIn wsX5_ahead wsX5_followNow := goodIn_r _ [22, 23, 24, 25, 5, 26, 2, 27, 28, 29, 30, 31, 32, 33, 34, 35, 36, 37, 38, 39, 40, 41, 42, 43, 44, 45, 46, 14, 47, 48, 49, 50, 51, 52, 53, 54, 55, 56, 57, 58, 59, 60, 61, 62, 63, 64, 65, 66, 67, 68, 69, 70, 71, 72, 73, 74, 75, 3, 4, 6, 76, 77, 78, 79, 80, 81, 82, 83, 84, 85, 86, 87, 88, 89, 90, 91, 92, 93, 94, 95, 96, 97, 98, 99, 100, 101, 102, 103, 104, 105, 106, 107, 108, 109, 110, 111, 112, 113, 114, 115, 116, 117, 118, 119, 120, 121, 122, 123, 124, 125, 126, 127, 128, 129, 130, 131, 132, 133, 134, 135, 136, 137, 138, 139, 140, 141, 142, 143, 144, 145, 150, 151, 152, 153] (by decide +kernel) (by decide +kernel)
set_option maxRecDepth 20000 in
theorem gX5_ahead_X5_followNow : GoodIn wsX5_ahead (wsV RX5 137 RX5 yX5_followNow wsX5_followNow) := goodIn_app (goodIn_of _ (by decide +kernel)) ggX5_ahead_X5_followNow
set_option maxRecDepth 20000 in
theorem ggX5_ahead_X5_life : GoodIn wsX5_ahead wsX5_life := goodIn_r _ [149, 2, 31, 32, 33, 5, 34, 150, 151, 152, 153] (by decide +kernel) (by decide +kernel)
set_option maxRecDepth 20000 in
theorem gX5_ahead_X5_life : GoodIn wsX5_ahead (wsV RX5 172 RX5 yX5_life wsX5_life) := goodIn_app (goodIn_of _ (by decide +kernel)) ggX5_ahead_X5_life
theorem dX5_ahead_0 : decode cX5_ahead 0 = .ok (.aload_n 0, 1) := by decide +kernel
theorem dX5_ahead_1 : decode cX5_ahead 1 = .ok (.iconst 0, 1) := by decide +kernel
theorem dX5_ahead_2 : decode cX5_ahead 2 = .ok (.putfield 18, 3) := by decide +kernel
theorem dX5_ahead_5 : decode cX5_ahead 5 = .ok (.iload_n 1, 1) := by decide +kernel
theorem dX5_ahead_6 : decode cX5_ahead 6 = .ok (.iconst 1, 1) := by decide +kernel
theorem dX5_ahead_7 : decode cX5_ahead 7 = .ok (.bipush 40, 2) := by decide +kernel
theorem dX5_ahead_9 : decode cX5_ahead 9 = .ok (.invokestatic 22, 3) := by decide +kernel
theorem dX5_ahead_12 : decode cX5_ahead 12 = .ok (.ifCond .ne 9, 3) := by decide +kernel
theorem dX5_ahead_15 : decode cX5_ahead 15 = .ok (.aload_n 0, 1) := by decide +kernel
theorem dX5_ahead_16 : decode cX5_ahead 16 = .ok (.iconst 1, 1) := by decide +kernel
theorem dX5_ahead_17 : decode cX5_ahead 17 = .ok (.invokevirtual 30, 3) := by decide +kernel
theorem dX5_ahead_20 : decode cX5_ahead 20 = .ok (.ireturn, 1) := by decide +kernel
theorem dX5_ahead_21 : decode cX5_ahead 21 = .ok (.aload_n 0, 1) := by decide +kernel
theorem dX5_ahead_22 : decode cX5_ahead 22 = .ok (.getfield 9, 3) := by decide +kernel
theorem dX5_ahead_25 : decode cX5_ahead 25 = .ok (.astore_n 2, 1) := by decide +kernel
theorem dX5_ahead_26 : decode cX5_ahead 26 = .ok (.aload_n 0, 1) := by decide +kernel
theorem dX5_ahead_27 : decode cX5_ahead 27 = .ok (.aload_n 2, 1) := by decide +kernel
theorem dX5_ahead_28 : decode cX5_ahead 28 = .ok (.invokestatic 168, 3) := by decide +kernel
theorem dX5_ahead_31 : decode cX5_ahead 31 = .ok (.putfield 9, 3) := by decide +kernel
theorem dX5_ahead_34 : decode cX5_ahead 34 = .ok (.aload_n 0, 1) := by decide +kernel
theorem dX5_ahead_35 : decode cX5_ahead 35 = .ok (.iload_n 1, 1) := by decide +kernel
theorem dX5_ahead_36 : decode cX5_ahead 36 = .ok (.invokevirtual 137, 3) := by decide +kernel
theorem dX5_ahead_39 : decode cX5_ahead 39 = .ok (.pop, 1) := by decide +kernel
theorem dX5_ahead_40 : decode cX5_ahead 40 = .ok (.aload_n 0, 1) := by decide +kernel
theorem dX5_ahead_41 : decode cX5_ahead 41 = .ok (.iconst 0, 1) := by decide +kernel
theorem dX5_ahead_42 : decode cX5_ahead 42 = .ok (.invokevirtual 172, 3) := by decide +kernel
theorem dX5_ahead_45 : decode cX5_ahead 45 = .ok (.aload_n 0, 1) := by decide +kernel
theorem dX5_ahead_46 : decode cX5_ahead 46 = .ok (.iconst 1, 1) := by decide +kernel
theorem dX5_ahead_47 : decode cX5_ahead 47 = .ok (.invokevirtual 172, 3) := by decide +kernel
theorem dX5_ahead_50 : decode cX5_ahead 50 = .ok (.isub, 1) := by decide +kernel
theorem dX5_ahead_51 : decode cX5_ahead 51 = .ok (.istore_n 3, 1) := by decide +kernel
theorem dX5_ahead_52 : decode cX5_ahead 52 = .ok (.aload_n 0, 1) := by decide +kernel
theorem dX5_ahead_53 : decode cX5_ahead 53 = .ok (.aload_n 2, 1) := by decide +kernel
theorem dX5_ahead_54 : decode cX5_ahead 54 = .ok (.putfield 9, 3) := by decide +kernel
theorem dX5_ahead_57 : decode cX5_ahead 57 = .ok (.iload_n 3, 1) := by decide +kernel
theorem dX5_ahead_58 : decode cX5_ahead 58 = .ok (.ireturn, 1) := by decide +kernel
set_option maxRecDepth 20000 in
theorem ggX5_dangerNow_X5_isAlive : GoodIn wsX5_dangerNow wsX5_isAlive := goodIn_r _ [6, 7, 8, 9, 5, 10, 1, 35, 36, 37, 38] (by decide +kernel) (by decide +kernel)
set_option maxRecDepth 20000 in
theorem gX5_dangerNow_X5_isAlive : GoodIn wsX5_dangerNow (wsV RX5 66 RX5 yX5_isAlive wsX5_isAlive) := goodIn_app (goodIn_of _ (by decide +kernel)) ggX5_dangerNow_X5_isAlive
set_option maxRecDepth 20000 in
theorem ggX5_dangerNow_X5_its : GoodIn wsX5_dangerNow wsX5_its := goodIn_r _ [10, 1, 35, 36, 37, 38] (by decide +kernel) (by decide +kernel)
set_option maxRecDepth 20000 in
theorem gX5_dangerNow_X5_its : GoodIn wsX5_dangerNow (wsV RX5 26 RX5 yX5_its wsX5_its) := goodIn_app (goodIn_of _ (by decide +kernel)) ggX5_dangerNow_X5_its
set_option maxRecDepth 20000 in
theorem ggX5_dangerNow_X5_seesNow : GoodIn wsX5_dangerNow wsX5_seesNow := goodIn_r _ [14, 15, 16, 5, 17, 18, 19, 20, 21, 22, 23, 24, 25, 26, 27, 28, 1, 29, 30, 31, 32, 33, 34, 35, 36, 37, 38] (by decide +kernel) (by decide +kernel)
set_option maxRecDepth 20000 in
theorem gX5_dangerNow_X5_seesNow : GoodIn wsX5_dangerNow (wsV RX5 63 RX5 yX5_seesNow wsX5_seesNow) := goodIn_app (goodIn_of _ (by decide +kernel)) ggX5_dangerNow_X5_seesNow
theorem dX5_dangerNow_0 : decode cX5_dangerNow 0 = .ok (.iconst 0, 1) := by decide +kernel
theorem dX5_dangerNow_1 : decode cX5_dangerNow 1 = .ok (.istore_n 3, 1) := by decide +kernel
theorem dX5_dangerNow_2 : decode cX5_dangerNow 2 = .ok (.iconst 0, 1) := by decide +kernel
theorem dX5_dangerNow_3 : decode cX5_dangerNow 3 = .ok (.istore 4, 2) := by decide +kernel
theorem dX5_dangerNow_5 : decode cX5_dangerNow 5 = .ok (.iload 4, 2) := by decide +kernel
theorem dX5_dangerNow_7 : decode cX5_dangerNow 7 = .ok (.aload_n 0, 1) := by decide +kernel
theorem dX5_dangerNow_8 : decode cX5_dangerNow 8 = .ok (.getfield 9, 3) := by decide +kernel
theorem dX5_dangerNow_11 : decode cX5_dangerNow 11 = .ok (.sipush 680, 3) := by decide +kernel
theorem dX5_dangerNow_14 : decode cX5_dangerNow 14 = .ok (.iaload, 1) := by decide +kernel
theorem dX5_dangerNow_15 : decode cX5_dangerNow 15 = .ok (.if_icmp .ge 52, 3) := by decide +kernel
theorem dX5_dangerNow_18 : decode cX5_dangerNow 18 = .ok (.iload_n 3, 1) := by decide +kernel
theorem dX5_dangerNow_19 : decode cX5_dangerNow 19 = .ok (.aload_n 0, 1) := by decide +kernel
theorem dX5_dangerNow_20 : decode cX5_dangerNow 20 = .ok (.iload 4, 2) := by decide +kernel
theorem dX5_dangerNow_22 : decode cX5_dangerNow 22 = .ok (.invokevirtual 66, 3) := by decide +kernel
theorem dX5_dangerNow_25 : decode cX5_dangerNow 25 = .ok (.ifCond .eq 33, 3) := by decide +kernel
theorem dX5_dangerNow_28 : decode cX5_dangerNow 28 = .ok (.aload_n 0, 1) := by decide +kernel
theorem dX5_dangerNow_29 : decode cX5_dangerNow 29 = .ok (.iload 4, 2) := by decide +kernel
theorem dX5_dangerNow_31 : decode cX5_dangerNow 31 = .ok (.iconst 0, 1) := by decide +kernel
theorem dX5_dangerNow_32 : decode cX5_dangerNow 32 = .ok (.invokevirtual 26, 3) := by decide +kernel
theorem dX5_dangerNow_35 : decode cX5_dangerNow 35 = .ok (.iload_n 1, 1) := by decide +kernel
theorem dX5_dangerNow_36 : decode cX5_dangerNow 36 = .ok (.if_icmp .eq 22, 3) := by decide +kernel
theorem dX5_dangerNow_39 : decode cX5_dangerNow 39 = .ok (.aload_n 0, 1) := by decide +kernel
theorem dX5_dangerNow_40 : decode cX5_dangerNow 40 = .ok (.aload_n 0, 1) := by decide +kernel
theorem dX5_dangerNow_41 : decode cX5_dangerNow 41 = .ok (.iload 4, 2) := by decide +kernel
theorem dX5_dangerNow_43 : decode cX5_dangerNow 43 = .ok (.iconst 1, 1) := by decide +kernel
theorem dX5_dangerNow_44 : decode cX5_dangerNow 44 = .ok (.invokevirtual 26, 3) := by decide +kernel
theorem dX5_dangerNow_47 : decode cX5_dangerNow 47 = .ok (.iload_n 2, 1) := by decide +kernel
theorem dX5_dangerNow_48 : decode cX5_dangerNow 48 = .ok (.invokevirtual 63, 3) := by decide +kernel
theorem dX5_dangerNow_51 : decode cX5_dangerNow 51 = .ok (.ifCond .eq 7, 3) := by decide +kernel
theorem dX5_dangerNow_54 : decode cX5_dangerNow 54 = .ok (.iconst 1, 1) := by decide +kernel
theorem dX5_dangerNow_55 : decode cX5_dangerNow 55 = .ok (.goto 4, 3) := by decide +kernel
theorem dX5_dangerNow_58 : decode cX5_dangerNow 58 = .ok (.iconst 0, 1) := by decide +kernel
theorem dX5_dangerNow_59 : decode cX5_dangerNow 59 = .ok (.iadd, 1) := by decide +kernel
theorem dX5_dangerNow_60 : decode cX5_dangerNow 60 = .ok (.istore_n 3, 1) := by decide +kernel
theorem dX5_dangerNow_61 : decode cX5_dangerNow 61 = .ok (.iinc 4 1, 3) := by decide +kernel
theorem dX5_dangerNow_64 : decode cX5_dangerNow 64 = .ok (.goto (-59), 3) := by decide +kernel
theorem dX5_dangerNow_67 : decode cX5_dangerNow 67 = .ok (.iload_n 3, 1) := by decide +kernel
theorem dX5_dangerNow_68 : decode cX5_dangerNow 68 = .ok (.ireturn, 1) := by decide +kernel
set_option maxRecDepth 20000 in
theorem ggX5_danger_X5_isIn : GoodIn wsX5_danger wsX5_isIn := goodIn_r _ [5] (by decide +kernel) (by decide +kernel)
set_option maxRecDepth 20000 in
theorem gX5_danger_X5_isIn : GoodIn wsX5_danger (va_wsS RX5 22 yX5_isIn wsX5_isIn) := goodIn_app (goodIn_of _ (by decide +kernel)) ggX5_danger_X5_isIn
set_option maxRecDepth 20000 in
theorem ggX5_danger_X5_no : GoodIn wsX5_danger wsX5_no := goodIn_r _ [9, 1, 47, 48, 49, 50] (by decide +kernel) (by decide +kernel)
set_option maxRecDepth 20000 in
theorem gX5_danger_X5_no : GoodIn wsX5_danger (wsV RX5 30 RX5 yX5_no wsX5_no) := goodIn_app (goodIn_of _ (by decide +kernel)) ggX5_danger_X5_no
set_option maxRecDepth 20000 in
theorem ggX5_danger_X5_isCell : GoodIn wsX5_danger wsX5_isCell := goodIn_r _ [12, 2, 3, 4, 5] (by decide +kernel) (by decide +kernel)
set_option maxRecDepth 20000 in
theorem gX5_danger_X5_isCell : GoodIn wsX5_danger (va_wsS RX5 38 yX5_isCell wsX5_isCell) := goodIn_app (goodIn_of _ (by decide +kernel)) ggX5_danger_X5_isCell
set_option maxRecDepth 20000 in
theorem ggX5_danger_X5_dangerNow : GoodIn wsX5_danger wsX5_dangerNow := goodIn_r _ [16, 17, 18, 19, 20, 4, 21, 22, 23, 24, 25, 26, 27, 28, 29, 30, 31, 32, 33, 34, 35, 36, 37, 38, 39, 40, 41, 42, 43, 44, 45, 46, 2, 3, 5, 47, 48, 49, 50] (by decide +kernel) (by decide +kernel)
set_option maxRecDepth 20000 in
theorem gX5_danger_X5_dangerNow : GoodIn wsX5_danger (wsV RX5 175 RX5 yX5_dangerNow wsX5_dangerNow) := goodIn_app (goodIn_of _ (by decide +kernel)) ggX5_danger_X5_dangerNow
theorem dX5_danger_0 : decode cX5_danger 0 = .ok (.aload_n 0, 1) := by decide +kernel
theorem dX5_danger_1 : decode cX5_danger 1 = .ok (.iconst 0, 1) := by decide +kernel
theorem dX5_danger_2 : decode cX5_danger 2 = .ok (.putfield 18, 3) := by decide +kernel
theorem dX5_danger_5 : decode cX5_danger 5 = .ok (.iload_n 1, 1) := by decide +kernel
theorem dX5_danger_6 : decode cX5_danger 6 = .ok (.iconst 0, 1) := by decide +kernel
theorem dX5_danger_7 : decode cX5_danger 7 = .ok (.iconst 1, 1) := by decide +kernel
theorem dX5_danger_8 : decode cX5_danger 8 = .ok (.invokestatic 22, 3) := by decide +kernel
theorem dX5_danger_11 : decode cX5_danger 11 = .ok (.ifCond .ne 9, 3) := by decide +kernel
theorem dX5_danger_14 : decode cX5_danger 14 = .ok (.aload_n 0, 1) := by decide +kernel
theorem dX5_danger_15 : decode cX5_danger 15 = .ok (.iconst 1, 1) := by decide +kernel
theorem dX5_danger_16 : decode cX5_danger 16 = .ok (.invokevirtual 30, 3) := by decide +kernel
theorem dX5_danger_19 : decode cX5_danger 19 = .ok (.ireturn, 1) := by decide +kernel
theorem dX5_danger_20 : decode cX5_danger 20 = .ok (.iload_n 2, 1) := by decide +kernel
theorem dX5_danger_21 : decode cX5_danger 21 = .ok (.invokestatic 38, 3) := by decide +kernel
theorem dX5_danger_24 : decode cX5_danger 24 = .ok (.ifCond .eq 12, 3) := by decide +kernel
theorem dX5_danger_27 : decode cX5_danger 27 = .ok (.aload_n 0, 1) := by decide +kernel
theorem dX5_danger_28 : decode cX5_danger 28 = .ok (.iload_n 1, 1) := by decide +kernel
theorem dX5_danger_29 : decode cX5_danger 29 = .ok (.iload_n 2, 1) := by decide +kernel
theorem dX5_danger_30 : decode cX5_danger 30 = .ok (.invokevirtual 175, 3) := by decide +kernel
theorem dX5_danger_33 : decode cX5_danger 33 = .ok (.goto 8, 3) := by decide +kernel
theorem dX5_danger_36 : decode cX5_danger 36 = .ok (.aload_n 0, 1) := by decide +kernel
theorem dX5_danger_37 : decode cX5_danger 37 = .ok (.iconst 2, 1) := by decide +kernel
theorem dX5_danger_38 : decode cX5_danger 38 = .ok (.invokevirtual 30, 3) := by decide +kernel
theorem dX5_danger_41 : decode cX5_danger 41 = .ok (.ireturn, 1) := by decide +kernel
set_option maxRecDepth 20000 in
theorem ggX5_meanLife_X5_alive : GoodIn wsX5_meanLife wsX5_alive := goodIn_r _ [6, 7, 8, 9, 10, 5, 11, 12, 13, 14, 15, 20, 21, 22, 23] (by decide +kernel) (by decide +kernel)
set_option maxRecDepth 20000 in
theorem gX5_meanLife_X5_alive : GoodIn wsX5_meanLife (wsV RX5 103 RX5 yX5_alive wsX5_alive) := goodIn_app (goodIn_of _ (by decide +kernel)) ggX5_meanLife_X5_alive
set_option maxRecDepth 20000 in
theorem ggX5_meanLife_X5_life : GoodIn wsX5_meanLife wsX5_life := goodIn_r _ [19, 7, 12, 13, 14, 5, 15, 20, 21, 22, 23] (by decide +kernel) (by decide +kernel)
set_option maxRecDepth 20000 in
theorem gX5_meanLife_X5_life : GoodIn wsX5_meanLife (wsV RX5 172 RX5 yX5_life wsX5_life) := goodIn_app (goodIn_of _ (by decide +kernel)) ggX5_meanLife_X5_life
theorem dX5_meanLife_0 : decode cX5_meanLife 0 = .ok (.aload_n 0, 1) := by decide +kernel
theorem dX5_meanLife_1 : decode cX5_meanLife 1 = .ok (.iconst 0, 1) := by decide +kernel
theorem dX5_meanLife_2 : decode cX5_meanLife 2 = .ok (.putfield 18, 3) := by decide +kernel
theorem dX5_meanLife_5 : decode cX5_meanLife 5 = .ok (.aload_n 0, 1) := by decide +kernel
theorem dX5_meanLife_6 : decode cX5_meanLife 6 = .ok (.iconst 0, 1) := by decide +kernel
theorem dX5_meanLife_7 : decode cX5_meanLife 7 = .ok (.invokevirtual 103, 3) := by decide +kernel
theorem dX5_meanLife_10 : decode cX5_meanLife 10 = .ok (.aload_n 0, 1) := by decide +kernel
theorem dX5_meanLife_11 : decode cX5_meanLife 11 = .ok (.iconst 1, 1) := by decide +kernel
theorem dX5_meanLife_12 : decode cX5_meanLife 12 = .ok (.invokevirtual 103, 3) := by decide +kernel
theorem dX5_meanLife_15 : decode cX5_meanLife 15 = .ok (.iadd, 1) := by decide +kernel
theorem dX5_meanLife_16 : decode cX5_meanLife 16 = .ok (.istore_n 1, 1) := by decide +kernel
theorem dX5_meanLife_17 : decode cX5_meanLife 17 = .ok (.iload_n 1, 1) := by decide +kernel
theorem dX5_meanLife_18 : decode cX5_meanLife 18 = .ok (.ifCond .ne 7, 3) := by decide +kernel
theorem dX5_meanLife_21 : decode cX5_meanLife 21 = .ok (.dconst 0, 1) := by decide +kernel
theorem dX5_meanLife_22 : decode cX5_meanLife 22 = .ok (.goto 18, 3) := by decide +kernel
theorem dX5_meanLife_25 : decode cX5_meanLife 25 = .ok (.aload_n 0, 1) := by decide +kernel
theorem dX5_meanLife_26 : decode cX5_meanLife 26 = .ok (.iconst 0, 1) := by decide +kernel
theorem dX5_meanLife_27 : decode cX5_meanLife 27 = .ok (.invokevirtual 172, 3) := by decide +kernel
theorem dX5_meanLife_30 : decode cX5_meanLife 30 = .ok (.aload_n 0, 1) := by decide +kernel
theorem dX5_meanLife_31 : decode cX5_meanLife 31 = .ok (.iconst 1, 1) := by decide +kernel
theorem dX5_meanLife_32 : decode cX5_meanLife 32 = .ok (.invokevirtual 172, 3) := by decide +kernel
theorem dX5_meanLife_35 : decode cX5_meanLife 35 = .ok (.iadd, 1) := by decide +kernel
theorem dX5_meanLife_36 : decode cX5_meanLife 36 = .ok (.i2d, 1) := by decide +kernel
theorem dX5_meanLife_37 : decode cX5_meanLife 37 = .ok (.iload_n 1, 1) := by decide +kernel
theorem dX5_meanLife_38 : decode cX5_meanLife 38 = .ok (.i2d, 1) := by decide +kernel
theorem dX5_meanLife_39 : decode cX5_meanLife 39 = .ok (.ddiv, 1) := by decide +kernel
theorem dX5_meanLife_40 : decode cX5_meanLife 40 = .ok (.dreturn, 1) := by decide +kernel
set_option maxRecDepth 20000 in
theorem ggX5_digest_X5_manyNow : GoodIn wsX5_digest wsX5_manyNow := goodIn_r _ [9, 4, 10, 11, 12, 13, 8, 14, 15, 16, 17, 18, 19, 20, 21, 22, 23, 24, 25, 26, 115, 116, 117, 118] (by decide +kernel) (by decide +kernel)
set_option maxRecDepth 20000 in
theorem gX5_digest_X5_manyNow : GoodIn wsX5_digest (wsV RX5 109 RX5 yX5_manyNow wsX5_manyNow) := goodIn_app (goodIn_of _ (by decide +kernel)) ggX5_digest_X5_manyNow
set_option maxRecDepth 20000 in
theorem ggX5_digest_X5_ofNow : GoodIn wsX5_digest wsX5_ofNow := goodIn_r _ [30, 31, 32, 33, 8, 34, 19, 20, 21, 22, 4, 115, 116, 117, 118] (by decide +kernel) (by decide +kernel)
set_option maxRecDepth 20000 in
theorem gX5_digest_X5_ofNow : GoodIn wsX5_digest (wsV RX5 100 RX5 yX5_ofNow wsX5_ofNow) := goodIn_app (goodIn_of _ (by decide +kernel)) ggX5_digest_X5_ofNow
set_option maxRecDepth 20000 in
theorem ggX5_digest_X5_its : GoodIn wsX5_digest wsX5_its := goodIn_r _ [22, 4, 115, 116, 117, 118] (by decide +kernel) (by decide +kernel)
set_option maxRecDepth 20000 in
theorem gX5_digest_X5_its : GoodIn wsX5_digest (wsV RX5 26 RX5 yX5_its wsX5_its) := goodIn_app (goodIn_of _ (by decide +kernel)) ggX5_digest_X5_its
set_option maxRecDepth 20000 in
theorem ggX5_digest_X5_worths : GoodIn wsX5_digest wsX5_worths := goodIn_r _ [38, 39, 4, 15, 16, 17, 8, 18, 19, 20, 21, 22, 40, 41, 42, 43, 44, 45, 46, 47, 48, 49, 50, 51, 52, 53, 54, 55, 56, 57, 58, 59, 60, 61, 62, 63, 64, 65, 66, 67, 68, 69, 70, 71, 72, 73, 74, 75, 76, 77, 78, 79, 80, 81, 82, 83, 84, 85, 86, 87, 88, 89, 90, 91, 92, 93, 94, 95, 96, 97, 98, 99, 31, 32, 33, 34, 100, 101, 102, 103, 104, 105, 106, 107, 115, 116, 117, 118] (by decide +kernel) (by decide +kernel)
set_option maxRecDepth 20000 in
theorem gX5_digest_X5_worths : GoodIn wsX5_digest (wsV RX5 160 RX5 yX5_worths wsX5_worths) := goodIn_app (goodIn_of _ (by decide +kernel)) ggX5_digest_X5_worths
set_option maxRecDepth 20000 in
theorem ggX5_digest_X5_targetNow : GoodIn wsX5_digest wsX5_targetNow := goodIn_r _ [47, 4, 15, 16, 17, 8, 18, 19, 20, 21, 22, 48, 49, 50, 51, 52, 53, 54, 55, 56, 57, 58, 59, 60, 61, 62, 63, 64, 65, 66, 67, 68, 69, 70, 71, 115, 116, 117, 118] (by decide +kernel) (by decide +kernel)
set_option maxRecDepth 20000 in
theorem gX5_digest_X5_targetNow : GoodIn wsX5_digest (wsV RX5 112 RX5 yX5_targetNow wsX5_targetNow) := goodIn_app (goodIn_of _ (by decide +kernel)) ggX5_digest_X5_targetNow
set_option maxRecDepth 20000 in
theorem ggX5_digest_X5_best : GoodIn wsX5_digest wsX5_best := goodIn_r _ [110] (by decide +kernel) (by decide +kernel)
set_option maxRecDepth 20000 in
theorem gX5_digest_X5_best : GoodIn wsX5_digest (va_wsS RX5 164 yX5_best wsX5_best) := goodIn_app (goodIn_of _ (by decide +kernel)) ggX5_digest_X5_best
set_option maxRecDepth 20000 in
theorem ggX5_digest_X5_turn : GoodIn wsX5_digest wsX5_turn := goodIn_r _ [26, 4, 15, 16, 17, 8, 18, 19, 20, 21, 22, 115, 116, 117, 118] (by decide +kernel) (by decide +kernel)
set_option maxRecDepth 20000 in
theorem gX5_digest_X5_turn : GoodIn wsX5_digest (wsV RX5 69 RX5 yX5_turn wsX5_turn) := goodIn_app (goodIn_of _ (by decide +kernel)) ggX5_digest_X5_turn
set_option maxRecDepth 20000 in
theorem ggX5_digest_X5_dangerNow : GoodIn wsX5_digest wsX5_dangerNow := goodIn_r _ [114, 4, 15, 16, 17, 8, 18, 19, 20, 21, 22, 48, 49, 50, 51, 52, 53, 54, 55, 56, 57, 58, 59, 60, 61, 62, 63, 64, 65, 66, 67, 68, 69, 70, 71, 115, 116, 117, 118] (by decide +kernel) (by decide +kernel)
set_option maxRecDepth 20000 in
theorem gX5_digest_X5_dangerNow : GoodIn wsX5_digest (wsV RX5 175 RX5 yX5_dangerNow wsX5_dangerNow) := goodIn_app (goodIn_of _ (by decide +kernel)) ggX5_digest_X5_dangerNow
theorem dX5_digest_0 : decode cX5_digest 0 = .ok (.aload_n 0, 1) := by decide +kernel
theorem dX5_digest_1 : decode cX5_digest 1 = .ok (.iconst 0, 1) := by decide +kernel
theorem dX5_digest_2 : decode cX5_digest 2 = .ok (.putfield 18, 3) := by decide +kernel
theorem dX5_digest_5 : decode cX5_digest 5 = .ok (.ldc2_w 178, 3) := by decide +kernel
theorem dX5_digest_8 : decode cX5_digest 8 = .ok (.lstore_n 1, 1) := by decide +kernel
theorem dX5_digest_9 : decode cX5_digest 9 = .ok (.iconst 0, 1) := by decide +kernel
theorem dX5_digest_10 : decode cX5_digest 10 = .ok (.istore_n 3, 1) := by decide +kernel
theorem dX5_digest_11 : decode cX5_digest 11 = .ok (.iload_n 3, 1) := by decide +kernel
theorem dX5_digest_12 : decode cX5_digest 12 = .ok (.bipush 9, 2) := by decide +kernel
theorem dX5_digest_14 : decode cX5_digest 14 = .ok (.if_icmp .ge 22, 3) := by decide +kernel
theorem dX5_digest_17 : decode cX5_digest 17 = .ok (.lload_n 1, 1) := by decide +kernel
theorem dX5_digest_18 : decode cX5_digest 18 = .ok (.ldc2_w 180, 3) := by decide +kernel
theorem dX5_digest_21 : decode cX5_digest 21 = .ok (.lmul, 1) := by decide +kernel
theorem dX5_digest_22 : decode cX5_digest 22 = .ok (.aload_n 0, 1) := by decide +kernel
theorem dX5_digest_23 : decode cX5_digest 23 = .ok (.iload_n 3, 1) := by decide +kernel
theorem dX5_digest_24 : decode cX5_digest 24 = .ok (.invokevirtual 109, 3) := by decide +kernel
theorem dX5_digest_27 : decode cX5_digest 27 = .ok (.i2l, 1) := by decide +kernel
theorem dX5_digest_28 : decode cX5_digest 28 = .ok (.ladd, 1) := by decide +kernel
theorem dX5_digest_29 : decode cX5_digest 29 = .ok (.lstore_n 1, 1) := by decide +kernel
theorem dX5_digest_30 : decode cX5_digest 30 = .ok (.iinc 3 1, 3) := by decide +kernel
theorem dX5_digest_33 : decode cX5_digest 33 = .ok (.goto (-22), 3) := by decide +kernel
theorem dX5_digest_36 : decode cX5_digest 36 = .ok (.iconst 0, 1) := by decide +kernel
theorem dX5_digest_37 : decode cX5_digest 37 = .ok (.istore_n 3, 1) := by decide +kernel
theorem dX5_digest_38 : decode cX5_digest 38 = .ok (.iload_n 3, 1) := by decide +kernel
theorem dX5_digest_39 : decode cX5_digest 39 = .ok (.sipush 160, 3) := by decide +kernel
theorem dX5_digest_42 : decode cX5_digest 42 = .ok (.if_icmp .ge 23, 3) := by decide +kernel
theorem dX5_digest_45 : decode cX5_digest 45 = .ok (.lload_n 1, 1) := by decide +kernel
theorem dX5_digest_46 : decode cX5_digest 46 = .ok (.ldc2_w 180, 3) := by decide +kernel
theorem dX5_digest_49 : decode cX5_digest 49 = .ok (.lmul, 1) := by decide +kernel
theorem dX5_digest_50 : decode cX5_digest 50 = .ok (.aload_n 0, 1) := by decide +kernel
theorem dX5_digest_51 : decode cX5_digest 51 = .ok (.getfield 9, 3) := by decide +kernel
theorem dX5_digest_54 : decode cX5_digest 54 = .ok (.iload_n 3, 1) := by decide +kernel
theorem dX5_digest_55 : decode cX5_digest 55 = .ok (.iaload, 1) := by decide +kernel
theorem dX5_digest_56 : decode cX5_digest 56 = .ok (.i2l, 1) := by decide +kernel
theorem dX5_digest_57 : decode cX5_digest 57 = .ok (.ladd, 1) := by decide +kernel
theorem dX5_digest_58 : decode cX5_digest 58 = .ok (.lstore_n 1, 1) := by decide +kernel
theorem dX5_digest_59 : decode cX5_digest 59 = .ok (.iinc 3 1, 3) := by decide +kernel
theorem dX5_digest_62 : decode cX5_digest 62 = .ok (.goto (-24), 3) := by decide +kernel
theorem dX5_digest_65 : decode cX5_digest 65 = .ok (.iconst 0, 1) := by decide +kernel
theorem dX5_digest_66 : decode cX5_digest 66 = .ok (.istore_n 3, 1) := by decide +kernel
theorem dX5_digest_67 : decode cX5_digest 67 = .ok (.iload_n 3, 1) := by decide +kernel
theorem dX5_digest_68 : decode cX5_digest 68 = .ok (.aload_n 0, 1) := by decide +kernel
theorem dX5_digest_69 : decode cX5_digest 69 = .ok (.getfield 9, 3) := by decide +kernel
theorem dX5_digest_72 : decode cX5_digest 72 = .ok (.sipush 680, 3) := by decide +kernel
theorem dX5_digest_75 : decode cX5_digest 75 = .ok (.iaload, 1) := by decide +kernel
theorem dX5_digest_76 : decode cX5_digest 76 = .ok (.if_icmp .ge 162, 3) := by decide +kernel
theorem dX5_digest_79 : decode cX5_digest 79 = .ok (.iconst 0, 1) := by decide +kernel
theorem dX5_digest_80 : decode cX5_digest 80 = .ok (.istore 4, 2) := by decide +kernel
theorem dX5_digest_82 : decode cX5_digest 82 = .ok (.iload 4, 2) := by decide +kernel
theorem dX5_digest_84 : decode cX5_digest 84 = .ok (.bipush 10, 2) := by decide +kernel
theorem dX5_digest_86 : decode cX5_digest 86 = .ok (.if_icmp .ge 24, 3) := by decide +kernel
theorem dX5_digest_89 : decode cX5_digest 89 = .ok (.lload_n 1, 1) := by decide +kernel
theorem dX5_digest_90 : decode cX5_digest 90 = .ok (.ldc2_w 180, 3) := by decide +kernel
theorem dX5_digest_93 : decode cX5_digest 93 = .ok (.lmul, 1) := by decide +kernel
theorem dX5_digest_94 : decode cX5_digest 94 = .ok (.aload_n 0, 1) := by decide +kernel
theorem dX5_digest_95 : decode cX5_digest 95 = .ok (.iload_n 3, 1) := by decide +kernel
theorem dX5_digest_96 : decode cX5_digest 96 = .ok (.iload 4, 2) := by decide +kernel
theorem dX5_digest_98 : decode cX5_digest 98 = .ok (.invokevirtual 100, 3) := by decide +kernel
theorem dX5_digest_101 : decode cX5_digest 101 = .ok (.i2l, 1) := by decide +kernel
theorem dX5_digest_102 : decode cX5_digest 102 = .ok (.ladd, 1) := by decide +kernel
theorem dX5_digest_103 : decode cX5_digest 103 = .ok (.lstore_n 1, 1) := by decide +kernel
theorem dX5_digest_104 : decode cX5_digest 104 = .ok (.iinc 4 1, 3) := by decide +kernel
theorem dX5_digest_107 : decode cX5_digest 107 = .ok (.goto (-25), 3) := by decide +kernel
theorem dX5_digest_110 : decode cX5_digest 110 = .ok (.iconst 0, 1) := by decide +kernel
theorem dX5_digest_111 : decode cX5_digest 111 = .ok (.istore 4, 2) := by decide +kernel
theorem dX5_digest_113 : decode cX5_digest 113 = .ok (.iload 4, 2) := by decide +kernel
theorem dX5_digest_115 : decode cX5_digest 115 = .ok (.iconst 5, 1) := by decide +kernel
theorem dX5_digest_116 : decode cX5_digest 116 = .ok (.if_icmp .ge 43, 3) := by decide +kernel
theorem dX5_digest_119 : decode cX5_digest 119 = .ok (.lload_n 1, 1) := by decide +kernel
theorem dX5_digest_120 : decode cX5_digest 120 = .ok (.ldc2_w 180, 3) := by decide +kernel
theorem dX5_digest_123 : decode cX5_digest 123 = .ok (.lmul, 1) := by decide +kernel
theorem dX5_digest_124 : decode cX5_digest 124 = .ok (.aload_n 0, 1) := by decide +kernel
theorem dX5_digest_125 : decode cX5_digest 125 = .ok (.iload_n 3, 1) := by decide +kernel
theorem dX5_digest_126 : decode cX5_digest 126 = .ok (.bipush 10, 2) := by decide +kernel
theorem dX5_digest_128 : decode cX5_digest 128 = .ok (.iload 4, 2) := by decide +kernel
theorem dX5_digest_130 : decode cX5_digest 130 = .ok (.iadd, 1) := by decide +kernel
theorem dX5_digest_131 : decode cX5_digest 131 = .ok (.invokevirtual 26, 3) := by decide +kernel
theorem dX5_digest_134 : decode cX5_digest 134 = .ok (.i2l, 1) := by decide +kernel
theorem dX5_digest_135 : decode cX5_digest 135 = .ok (.ladd, 1) := by decide +kernel
theorem dX5_digest_136 : decode cX5_digest 136 = .ok (.ldc2_w 180, 3) := by decide +kernel
theorem dX5_digest_139 : decode cX5_digest 139 = .ok (.lmul, 1) := by decide +kernel
theorem dX5_digest_140 : decode cX5_digest 140 = .ok (.aload_n 0, 1) := by decide +kernel
theorem dX5_digest_141 : decode cX5_digest 141 = .ok (.iload_n 3, 1) := by decide +kernel
theorem dX5_digest_142 : decode cX5_digest 142 = .ok (.bipush 15, 2) := by decide +kernel
theorem dX5_digest_144 : decode cX5_digest 144 = .ok (.iload 4, 2) := by decide +kernel
theorem dX5_digest_146 : decode cX5_digest 146 = .ok (.iadd, 1) := by decide +kernel
theorem dX5_digest_147 : decode cX5_digest 147 = .ok (.invokevirtual 26, 3) := by decide +kernel
theorem dX5_digest_150 : decode cX5_digest 150 = .ok (.i2l, 1) := by decide +kernel
theorem dX5_digest_151 : decode cX5_digest 151 = .ok (.ladd, 1) := by decide +kernel
theorem dX5_digest_152 : decode cX5_digest 152 = .ok (.lstore_n 1, 1) := by decide +kernel
theorem dX5_digest_153 : decode cX5_digest 153 = .ok (.iinc 4 1, 3) := by decide +kernel
theorem dX5_digest_156 : decode cX5_digest 156 = .ok (.goto (-43), 3) := by decide +kernel
theorem dX5_digest_159 : decode cX5_digest 159 = .ok (.aload_n 0, 1) := by decide +kernel
theorem dX5_digest_160 : decode cX5_digest 160 = .ok (.iload_n 3, 1) := by decide +kernel
theorem dX5_digest_161 : decode cX5_digest 161 = .ok (.invokevirtual 160, 3) := by decide +kernel
theorem dX5_digest_164 : decode cX5_digest 164 = .ok (.astore 4, 2) := by decide +kernel
theorem dX5_digest_166 : decode cX5_digest 166 = .ok (.lload_n 1, 1) := by decide +kernel
theorem dX5_digest_167 : decode cX5_digest 167 = .ok (.ldc2_w 180, 3) := by decide +kernel
theorem dX5_digest_170 : decode cX5_digest 170 = .ok (.lmul, 1) := by decide +kernel
theorem dX5_digest_171 : decode cX5_digest 171 = .ok (.aload_n 0, 1) := by decide +kernel
theorem dX5_digest_172 : decode cX5_digest 172 = .ok (.iload_n 3, 1) := by decide +kernel
theorem dX5_digest_173 : decode cX5_digest 173 = .ok (.invokevirtual 112, 3) := by decide +kernel
theorem dX5_digest_176 : decode cX5_digest 176 = .ok (.i2l, 1) := by decide +kernel
theorem dX5_digest_177 : decode cX5_digest 177 = .ok (.ladd, 1) := by decide +kernel
theorem dX5_digest_178 : decode cX5_digest 178 = .ok (.ldc2_w 180, 3) := by decide +kernel
theorem dX5_digest_181 : decode cX5_digest 181 = .ok (.lmul, 1) := by decide +kernel
theorem dX5_digest_182 : decode cX5_digest 182 = .ok (.aload 4, 2) := by decide +kernel
theorem dX5_digest_184 : decode cX5_digest 184 = .ok (.invokestatic 164, 3) := by decide +kernel
theorem dX5_digest_187 : decode cX5_digest 187 = .ok (.i2l, 1) := by decide +kernel
theorem dX5_digest_188 : decode cX5_digest 188 = .ok (.ladd, 1) := by decide +kernel
theorem dX5_digest_189 : decode cX5_digest 189 = .ok (.lstore_n 1, 1) := by decide +kernel
theorem dX5_digest_190 : decode cX5_digest 190 = .ok (.aload 4, 2) := by decide +kernel
theorem dX5_digest_192 : decode cX5_digest 192 = .ok (.astore 5, 2) := by decide +kernel
theorem dX5_digest_194 : decode cX5_digest 194 = .ok (.aload 5, 2) := by decide +kernel
theorem dX5_digest_196 : decode cX5_digest 196 = .ok (.arraylength, 1) := by decide +kernel
theorem dX5_digest_197 : decode cX5_digest 197 = .ok (.istore 6, 2) := by decide +kernel
theorem dX5_digest_199 : decode cX5_digest 199 = .ok (.iconst 0, 1) := by decide +kernel
theorem dX5_digest_200 : decode cX5_digest 200 = .ok (.istore 7, 2) := by decide +kernel
theorem dX5_digest_202 : decode cX5_digest 202 = .ok (.iload 7, 2) := by decide +kernel
theorem dX5_digest_204 : decode cX5_digest 204 = .ok (.iload 6, 2) := by decide +kernel
theorem dX5_digest_206 : decode cX5_digest 206 = .ok (.if_icmp .ge 26, 3) := by decide +kernel
theorem dX5_digest_209 : decode cX5_digest 209 = .ok (.aload 5, 2) := by decide +kernel
theorem dX5_digest_211 : decode cX5_digest 211 = .ok (.iload 7, 2) := by decide +kernel
theorem dX5_digest_213 : decode cX5_digest 213 = .ok (.iaload, 1) := by decide +kernel
theorem dX5_digest_214 : decode cX5_digest 214 = .ok (.istore 8, 2) := by decide +kernel
theorem dX5_digest_216 : decode cX5_digest 216 = .ok (.lload_n 1, 1) := by decide +kernel
theorem dX5_digest_217 : decode cX5_digest 217 = .ok (.ldc2_w 180, 3) := by decide +kernel
theorem dX5_digest_220 : decode cX5_digest 220 = .ok (.lmul, 1) := by decide +kernel
theorem dX5_digest_221 : decode cX5_digest 221 = .ok (.iload 8, 2) := by decide +kernel
theorem dX5_digest_223 : decode cX5_digest 223 = .ok (.i2l, 1) := by decide +kernel
theorem dX5_digest_224 : decode cX5_digest 224 = .ok (.ladd, 1) := by decide +kernel
theorem dX5_digest_225 : decode cX5_digest 225 = .ok (.lstore_n 1, 1) := by decide +kernel
theorem dX5_digest_226 : decode cX5_digest 226 = .ok (.iinc 7 1, 3) := by decide +kernel
theorem dX5_digest_229 : decode cX5_digest 229 = .ok (.goto (-27), 3) := by decide +kernel
theorem dX5_digest_232 : decode cX5_digest 232 = .ok (.iinc 3 1, 3) := by decide +kernel
theorem dX5_digest_235 : decode cX5_digest 235 = .ok (.goto (-168), 3) := by decide +kernel
theorem dX5_digest_238 : decode cX5_digest 238 = .ok (.aload_n 0, 1) := by decide +kernel
theorem dX5_digest_239 : decode cX5_digest 239 = .ok (.invokevirtual 69, 3) := by decide +kernel
theorem dX5_digest_242 : decode cX5_digest 242 = .ok (.istore_n 3, 1) := by decide +kernel
theorem dX5_digest_243 : decode cX5_digest 243 = .ok (.iload_n 3, 1) := by decide +kernel
theorem dX5_digest_244 : decode cX5_digest 244 = .ok (.iconst (-1), 1) := by decide +kernel
theorem dX5_digest_245 : decode cX5_digest 245 = .ok (.if_icmp .ne 7, 3) := by decide +kernel
theorem dX5_digest_248 : decode cX5_digest 248 = .ok (.lload_n 1, 1) := by decide +kernel
theorem dX5_digest_249 : decode cX5_digest 249 = .ok (.goto 21, 3) := by decide +kernel
theorem dX5_digest_252 : decode cX5_digest 252 = .ok (.lload_n 1, 1) := by decide +kernel
theorem dX5_digest_253 : decode cX5_digest 253 = .ok (.ldc2_w 180, 3) := by decide +kernel
theorem dX5_digest_256 : decode cX5_digest 256 = .ok (.lmul, 1) := by decide +kernel
theorem dX5_digest_257 : decode cX5_digest 257 = .ok (.aload_n 0, 1) := by decide +kernel
theorem dX5_digest_258 : decode cX5_digest 258 = .ok (.iconst 0, 1) := by decide +kernel
theorem dX5_digest_259 : decode cX5_digest 259 = .ok (.aload_n 0, 1) := by decide +kernel
theorem dX5_digest_260 : decode cX5_digest 260 = .ok (.iload_n 3, 1) := by decide +kernel
theorem dX5_digest_261 : decode cX5_digest 261 = .ok (.iconst 1, 1) := by decide +kernel
theorem dX5_digest_262 : decode cX5_digest 262 = .ok (.invokevirtual 26, 3) := by decide +kernel
theorem dX5_digest_265 : decode cX5_digest 265 = .ok (.invokevirtual 175, 3) := by decide +kernel
theorem dX5_digest_268 : decode cX5_digest 268 = .ok (.i2l, 1) := by decide +kernel
theorem dX5_digest_269 : decode cX5_digest 269 = .ok (.ladd, 1) := by decide +kernel
theorem dX5_digest_270 : decode cX5_digest 270 = .ok (.lreturn, 1) := by decide +kernel
