theorem dL_plan_4 : decode cL_plan 4 = .ok (.invokevirtual 72, 3) := by decide +kernel
theorem dL_plan_7 : decode cL_plan 7 = .ok (.i2l, 1) := by decide +kernel
theorem dL_plan_8 : decode cL_plan 8 = .ok (.lastore, 1) := by decide +kernel
theorem dL_plan_9 : decode cL_plan 9 = .ok (.goto 6, 3) := by decide +kernel
theorem dL_plan_12 : decode cL_plan 12 = .ok (.astore_n 3, 1) := by decide +kernel
theorem dL_plan_13 : decode cL_plan 13 = .ok (.iconst 1, 1) := by decide +kernel
theorem dL_plan_14 : decode cL_plan 14 = .ok (.ireturn, 1) := by decide +kernel
theorem dL_plan_15 : decode cL_plan 15 = .ok (.iconst 0, 1) := by decide +kernel
theorem dL_plan_16 : decode cL_plan 16 = .ok (.ireturn, 1) := by decide +kernel
set_option maxRecDepth 20000 in
theorem ggL_save_X4_save : GoodIn wsL_save wsX4_save := goodIn_ca (goodIn_r _ [6, 7, 8, 9, 10, 11, 12, 13, 14, 15, 16, 17, 18, 19, 20, 21, 22, 23, 24, 25, 26, 27, 28, 29, 30, 31, 32, 33, 34, 35, 36, 37, 38, 39, 40, 41, 42, 43, 44, 45, 46, 47, 48, 49, 50, 51, 52, 53, 54, 55, 56, 57, 58, 59, 60, 61, 62, 63, 64, 65, 66, 67, 68, 69, 70, 71, 72, 73, 74, 75, 76, 77, 78, 79, 80, 81, 82, 83, 84, 85, 86, 87, 88, 89, 90, 91, 92, 93, 94, 95, 96, 97, 98, 99, 100, 101, 102, 103, 104, 105, 106, 107, 108, 109, 110, 111] (by decide +kernel) (by decide +kernel)) (goodIn_sub (fun _ h => List.mem_cons_of_mem _ (List.mem_append_right _ h)) (by decide +kernel))
set_option maxRecDepth 20000 in
theorem gL_save_X4_save : GoodIn wsL_save (wsV RL 75 RX4 yX4_save wsX4_save) := goodIn_app (goodIn_of _ (by decide +kernel)) ggL_save_X4_save
theorem dL_save_0 : decode cL_save 0 = .ok (.aload_n 1, 1) := by decide +kernel
theorem dL_save_1 : decode cL_save 1 = .ok (.iconst 0, 1) := by decide +kernel
theorem dL_save_2 : decode cL_save 2 = .ok (.aload_n 0, 1) := by decide +kernel
theorem dL_save_3 : decode cL_save 3 = .ok (.invokevirtual 75, 3) := by decide +kernel
theorem dL_save_6 : decode cL_save 6 = .ok (.i2l, 1) := by decide +kernel
theorem dL_save_7 : decode cL_save 7 = .ok (.lastore, 1) := by decide +kernel
theorem dL_save_8 : decode cL_save 8 = .ok (.goto 6, 3) := by decide +kernel
theorem dL_save_11 : decode cL_save 11 = .ok (.astore_n 2, 1) := by decide +kernel
theorem dL_save_12 : decode cL_save 12 = .ok (.iconst 1, 1) := by decide +kernel
theorem dL_save_13 : decode cL_save 13 = .ok (.ireturn, 1) := by decide +kernel
theorem dL_save_14 : decode cL_save 14 = .ok (.iconst 0, 1) := by decide +kernel
theorem dL_save_15 : decode cL_save 15 = .ok (.ireturn, 1) := by decide +kernel
set_option maxRecDepth 20000 in
theorem ggL_load_X4_load : GoodIn wsL_load wsX4_load := goodIn_ca (goodIn_r _ [6, 7, 8, 9, 10, 11, 12, 13, 14, 15, 16, 17, 18, 19, 20, 21, 22, 23, 24, 25, 26, 27, 28, 29, 30, 31, 32, 33, 34, 35, 36, 37, 38, 39, 40, 41, 42, 43, 44, 45, 46, 47, 48, 49, 50, 51, 52, 53, 54, 55, 56, 57, 58, 59, 60, 61, 62, 63, 64, 65, 66, 67, 68, 69, 70, 71, 72, 73, 74, 75, 76, 77, 78] (by decide +kernel) (by decide +kernel)) (goodIn_sub (fun _ h => List.mem_cons_of_mem _ (List.mem_append_right _ h)) (by decide +kernel))
set_option maxRecDepth 20000 in
theorem gL_load_X4_load : GoodIn wsL_load (wsV RL 79 RX4 yX4_load wsX4_load) := goodIn_app (goodIn_of _ (by decide +kernel)) ggL_load_X4_load
theorem dL_load_0 : decode cL_load 0 = .ok (.aload_n 2, 1) := by decide +kernel
theorem dL_load_1 : decode cL_load 1 = .ok (.iconst 0, 1) := by decide +kernel
theorem dL_load_2 : decode cL_load 2 = .ok (.aload_n 0, 1) := by decide +kernel
theorem dL_load_3 : decode cL_load 3 = .ok (.iload_n 1, 1) := by decide +kernel
theorem dL_load_4 : decode cL_load 4 = .ok (.invokevirtual 79, 3) := by decide +kernel
theorem dL_load_7 : decode cL_load 7 = .ok (.i2l, 1) := by decide +kernel
theorem dL_load_8 : decode cL_load 8 = .ok (.lastore, 1) := by decide +kernel
theorem dL_load_9 : decode cL_load 9 = .ok (.goto 6, 3) := by decide +kernel
theorem dL_load_12 : decode cL_load 12 = .ok (.astore_n 3, 1) := by decide +kernel
theorem dL_load_13 : decode cL_load 13 = .ok (.iconst 1, 1) := by decide +kernel
theorem dL_load_14 : decode cL_load 14 = .ok (.ireturn, 1) := by decide +kernel
theorem dL_load_15 : decode cL_load 15 = .ok (.iconst 0, 1) := by decide +kernel
theorem dL_load_16 : decode cL_load 16 = .ok (.ireturn, 1) := by decide +kernel
set_option maxRecDepth 20000 in
theorem ggL_hit_X4_hit : GoodIn wsL_hit wsX4_hit := goodIn_ca (goodIn_r _ [6, 7, 8, 9, 10, 11, 12, 13, 14, 15, 16, 17, 18, 19, 20, 21, 22, 23, 24, 25, 26, 27, 28, 29, 30, 31, 32, 33, 34, 35, 36, 37, 38, 39, 40, 41, 42, 43, 44, 45, 46, 47, 48, 49] (by decide +kernel) (by decide +kernel)) (goodIn_sub (fun _ h => List.mem_cons_of_mem _ (List.mem_append_right _ h)) (by decide +kernel))
set_option maxRecDepth 20000 in
theorem gL_hit_X4_hit : GoodIn wsL_hit (wsV RL 82 RX4 yX4_hit wsX4_hit) := goodIn_app (goodIn_of _ (by decide +kernel)) ggL_hit_X4_hit
theorem dL_hit_0 : decode cL_hit 0 = .ok (.aload_n 3, 1) := by decide +kernel
theorem dL_hit_1 : decode cL_hit 1 = .ok (.iconst 0, 1) := by decide +kernel
theorem dL_hit_2 : decode cL_hit 2 = .ok (.aload_n 0, 1) := by decide +kernel
theorem dL_hit_3 : decode cL_hit 3 = .ok (.iload_n 1, 1) := by decide +kernel
theorem dL_hit_4 : decode cL_hit 4 = .ok (.iload_n 2, 1) := by decide +kernel
theorem dL_hit_5 : decode cL_hit 5 = .ok (.invokevirtual 82, 3) := by decide +kernel
theorem dL_hit_8 : decode cL_hit 8 = .ok (.i2l, 1) := by decide +kernel
theorem dL_hit_9 : decode cL_hit 9 = .ok (.lastore, 1) := by decide +kernel
theorem dL_hit_10 : decode cL_hit 10 = .ok (.goto 7, 3) := by decide +kernel
theorem dL_hit_13 : decode cL_hit 13 = .ok (.astore 4, 2) := by decide +kernel
theorem dL_hit_15 : decode cL_hit 15 = .ok (.iconst 1, 1) := by decide +kernel
theorem dL_hit_16 : decode cL_hit 16 = .ok (.ireturn, 1) := by decide +kernel
theorem dL_hit_17 : decode cL_hit 17 = .ok (.iconst 0, 1) := by decide +kernel
theorem dL_hit_18 : decode cL_hit 18 = .ok (.ireturn, 1) := by decide +kernel
set_option maxRecDepth 20000 in
theorem ggL_ahead_X4_ahead : GoodIn wsL_ahead wsX4_ahead := goodIn_ca (goodIn_r _ [6, 7, 8, 9, 10, 11, 12, 5, 13, 14, 15, 16, 17, 18, 19, 20, 21, 22, 23, 24, 25, 26, 27, 28, 29, 30, 31, 32, 33, 34, 35, 36, 37, 38, 39, 40, 41, 42, 43, 44, 45, 46, 47, 48, 49, 50, 51, 52, 53, 54, 55, 56, 57, 58, 59, 60, 61, 62, 63, 64, 65, 66, 67, 68, 69, 70, 71, 72, 73, 74, 75, 76, 77, 78, 79, 80, 81, 82, 83, 84, 85, 86, 87, 88, 89, 90, 91, 92, 93, 94, 95, 96, 97, 98, 99, 100, 101, 102, 103, 104, 105, 106, 107, 108, 109, 110, 111, 112, 113, 114, 115, 116, 117, 118, 119, 120, 121, 122, 123, 124, 125, 126, 127, 128, 129, 130, 131, 132, 133, 134, 135, 136, 137, 138, 139, 140, 141, 142, 143, 144, 145, 146, 147, 148, 149, 150, 151, 152, 153, 154, 155, 156, 157, 158, 159, 160, 161, 162, 163, 164, 165, 166, 167, 168, 169, 170, 171, 172, 173, 174, 175, 176, 177, 178, 179, 180, 181, 182, 183, 184, 185, 186, 187, 188, 189, 190, 191, 192, 193, 194, 195, 196, 197, 198, 199, 200, 201, 202, 203, 204, 205, 206, 207, 208, 209, 210, 211, 212, 213, 214, 215, 216, 217, 218, 219, 220, 221, 222, 223, 224, 225, 226, 227, 228, 229, 230, 231, 232, 233, 234, 235, 236, 237, 238, 239, 240, 241, 242, 243, 244, 245, 246, 247, 248, 249, 250, 251, 252, 253, 254, 255, 256, 257, 258, 259, 260, 261, 262, 263, 264, 265, 266, 267, 268, 269, 270, 271] (by decide +kernel) (by decide +kernel)) (goodIn_sub (fun _ h => List.mem_cons_of_mem _ (List.mem_append_right _ h)) (by decide +kernel))
set_option maxRecDepth 20000 in
theorem gL_ahead_X4_ahead : GoodIn wsL_ahead (wsV RL 85 RX4 yX4_ahead wsX4_ahead) := goodIn_app (goodIn_of _ (by decide +kernel)) ggL_ahead_X4_ahead
theorem dL_ahead_0 : decode cL_ahead 0 = .ok (.aload_n 2, 1) := by decide +kernel
theorem dL_ahead_1 : decode cL_ahead 1 = .ok (.iconst 0, 1) := by decide +kernel
theorem dL_ahead_2 : decode cL_ahead 2 = .ok (.aload_n 0, 1) := by decide +kernel
theorem dL_ahead_3 : decode cL_ahead 3 = .ok (.iload_n 1, 1) := by decide +kernel
theorem dL_ahead_4 : decode cL_ahead 4 = .ok (.invokevirtual 85, 3) := by decide +kernel
theorem dL_ahead_7 : decode cL_ahead 7 = .ok (.i2l, 1) := by decide +kernel
theorem dL_ahead_8 : decode cL_ahead 8 = .ok (.lastore, 1) := by decide +kernel
theorem dL_ahead_9 : decode cL_ahead 9 = .ok (.goto 6, 3) := by decide +kernel
theorem dL_ahead_12 : decode cL_ahead 12 = .ok (.astore_n 3, 1) := by decide +kernel
theorem dL_ahead_13 : decode cL_ahead 13 = .ok (.iconst 1, 1) := by decide +kernel
theorem dL_ahead_14 : decode cL_ahead 14 = .ok (.ireturn, 1) := by decide +kernel
theorem dL_ahead_15 : decode cL_ahead 15 = .ok (.iconst 0, 1) := by decide +kernel
theorem dL_ahead_16 : decode cL_ahead 16 = .ok (.ireturn, 1) := by decide +kernel
set_option maxRecDepth 20000 in
theorem ggL_danger_X4_danger : GoodIn wsL_danger wsX4_danger := goodIn_ca (goodIn_ca (goodIn_r _ [7, 8, 9, 10, 11, 12, 13, 14, 6, 15, 16, 17, 18, 19, 20, 21, 22, 23, 24, 25, 26, 27, 28, 29, 30, 31, 32, 33, 34, 35, 36, 37, 38, 39, 40, 41, 42, 43, 44, 45, 46, 47, 48, 49, 50, 51, 52, 53, 54, 55, 56, 57, 58, 59, 60, 61, 62, 63, 64, 65, 66, 67, 68, 69, 70, 71, 72, 73] (by decide +kernel) (by decide +kernel)) (goodIn_sub (fun _ h => List.mem_cons_of_mem _ (List.mem_append_left _ (List.mem_append_right _ h))) (by decide +kernel))) (goodIn_sub (fun _ h => List.mem_cons_of_mem _ (List.mem_append_right _ h)) (by decide +kernel))
set_option maxRecDepth 20000 in
theorem gL_danger_X4_danger : GoodIn wsL_danger (wsV RL 88 RX4 yX4_danger wsX4_danger) := goodIn_app (goodIn_of _ (by decide +kernel)) ggL_danger_X4_danger
theorem dL_danger_0 : decode cL_danger 0 = .ok (.aload_n 3, 1) := by decide +kernel
theorem dL_danger_1 : decode cL_danger 1 = .ok (.iconst 0, 1) := by decide +kernel
theorem dL_danger_2 : decode cL_danger 2 = .ok (.aload_n 0, 1) := by decide +kernel
theorem dL_danger_3 : decode cL_danger 3 = .ok (.iload_n 1, 1) := by decide +kernel
theorem dL_danger_4 : decode cL_danger 4 = .ok (.iload_n 2, 1) := by decide +kernel
theorem dL_danger_5 : decode cL_danger 5 = .ok (.invokevirtual 88, 3) := by decide +kernel
theorem dL_danger_8 : decode cL_danger 8 = .ok (.i2l, 1) := by decide +kernel
theorem dL_danger_9 : decode cL_danger 9 = .ok (.lastore, 1) := by decide +kernel
theorem dL_danger_10 : decode cL_danger 10 = .ok (.goto 11, 3) := by decide +kernel
theorem dL_danger_13 : decode cL_danger 13 = .ok (.astore 4, 2) := by decide +kernel
theorem dL_danger_15 : decode cL_danger 15 = .ok (.iconst 1, 1) := by decide +kernel
theorem dL_danger_16 : decode cL_danger 16 = .ok (.ireturn, 1) := by decide +kernel
theorem dL_danger_17 : decode cL_danger 17 = .ok (.astore 4, 2) := by decide +kernel
theorem dL_danger_19 : decode cL_danger 19 = .ok (.iconst 2, 1) := by decide +kernel
theorem dL_danger_20 : decode cL_danger 20 = .ok (.ireturn, 1) := by decide +kernel
theorem dL_danger_21 : decode cL_danger 21 = .ok (.iconst 0, 1) := by decide +kernel
theorem dL_danger_22 : decode cL_danger 22 = .ok (.ireturn, 1) := by decide +kernel
set_option maxRecDepth 20000 in
theorem ggL_law_X4_init : GoodIn wsL_law wsX4_init := goodIn_r _ [9, 10, 11, 12, 13, 14, 15, 16, 17, 18, 19, 20, 21, 22, 23, 24, 25, 26, 27, 28, 29, 30, 31, 32, 33, 34, 35, 36, 37, 38, 39, 40, 41, 42, 43, 44, 45, 46, 47, 48, 49, 50, 51, 52, 53, 54, 55, 56, 57, 58, 59, 60, 61, 62, 63, 64, 65, 66, 67, 895, 896, 897, 898, 899, 900, 901, 902, 887, 888, 889, 890, 903, 904, 905, 906, 907, 908, 909, 910] (by decide +kernel) (by decide +kernel)
set_option maxRecDepth 20000 in
theorem gL_law_X4_init : GoodIn wsL_law (wsX4_init) := ggL_law_X4_init
set_option maxRecDepth 20000 in
theorem ggL_law_X5_init : GoodIn wsL_law wsX5_init := goodIn_r _ [70, 71, 11, 12, 30, 72, 73, 74, 891, 892, 893, 894] (by decide +kernel) (by decide +kernel)
set_option maxRecDepth 20000 in
theorem gL_law_X5_init : GoodIn wsL_law (wsX5_init) := ggL_law_X5_init
set_option maxRecDepth 20000 in
theorem ggL_law_L_dig : GoodIn wsL_law wsL_dig := goodIn_ca (goodIn_r _ [78, 79, 80, 81, 82, 2, 83, 84, 85, 16, 86, 87, 88, 89, 90, 91, 15, 92, 93, 94, 95, 96, 97, 98, 31, 99, 100, 101, 102, 887, 888, 889, 890, 895, 896, 897, 898, 899, 900, 901, 902] (by decide +kernel) (by decide +kernel)) (goodIn_sub (fun _ h => List.mem_append_left _ (List.mem_append_left _ (List.mem_append_right _ h))) (by decide +kernel))
set_option maxRecDepth 20000 in
theorem gL_law_L_dig : GoodIn wsL_law (va_wsS RL 95 yL_dig wsL_dig) := goodIn_app (goodIn_of _ (by decide +kernel)) ggL_law_L_dig
set_option maxRecDepth 20000 in
theorem ggL_law_X5_dig : GoodIn wsL_law wsX5_dig := goodIn_r _ [106, 107, 72, 108, 109, 5, 110, 111, 112, 113, 114, 115, 116, 117, 891, 892, 893, 894] (by decide +kernel) (by decide +kernel)
set_option maxRecDepth 20000 in
theorem gL_law_X5_dig : GoodIn wsL_law (wsV RL 100 RX5 yX5_dig wsX5_dig) := goodIn_app (goodIn_of _ (by decide +kernel)) ggL_law_X5_dig
set_option maxRecDepth 20000 in
theorem ggL_law_X5_thrown : GoodIn wsL_law wsX5_thrown := goodIn_r _ [121, 107, 891, 892, 893, 894] (by decide +kernel) (by decide +kernel)
set_option maxRecDepth 20000 in
theorem gL_law_X5_thrown : GoodIn wsL_law (wsV RL 101 RX5 yX5_thrown wsX5_thrown) := goodIn_app (goodIn_of _ (by decide +kernel)) ggL_law_X5_thrown
set_option maxRecDepth 20000 in
theorem ggL_law_L_set : GoodIn wsL_law wsL_set := goodIn_ca (goodIn_ca (goodIn_ca (goodIn_r _ [124, 125, 79, 126, 127, 128, 129, 2, 130, 131, 132, 84, 85, 133, 134, 16, 135, 136, 137, 86, 87, 88, 138, 93, 94, 139, 140, 141, 142, 143, 144, 15, 145, 146, 147, 148, 149, 150, 33, 151, 96, 97, 98, 31, 152, 100, 101, 102, 887, 888, 889, 890, 895, 896, 897, 898, 899, 900, 901, 902] (by decide +kernel) (by decide +kernel)) (goodIn_sub (fun _ h => List.mem_append_left _ (List.mem_append_right _ h)) (by decide +kernel))) (goodIn_sub (fun _ h => List.mem_append_left _ (List.mem_append_left _ (List.mem_append_right _ h))) (by decide +kernel))) (goodIn_sub (fun _ h => List.mem_append_right _ h) (by decide +kernel))
set_option maxRecDepth 20000 in
theorem gL_law_L_set : GoodIn wsL_law (va_wsS RL 104 yL_set wsL_set) := goodIn_app (goodIn_of _ (by decide +kernel)) ggL_law_L_set
set_option maxRecDepth 20000 in
theorem ggL_law_X5_set : GoodIn wsL_law wsX5_set := goodIn_r _ [156, 107, 72, 157, 158, 5, 159, 108, 109, 110, 111, 112, 113, 114, 115, 116, 117, 160, 161, 162, 163, 164, 165, 166, 167, 891, 892, 893, 894] (by decide +kernel) (by decide +kernel)
set_option maxRecDepth 20000 in
theorem gL_law_X5_set : GoodIn wsL_law (wsV RL 107 RX5 yX5_set wsX5_set) := goodIn_app (goodIn_of _ (by decide +kernel)) ggL_law_X5_set
set_option maxRecDepth 20000 in
theorem ggL_law_L_cell : GoodIn wsL_law wsL_cell := goodIn_ca (goodIn_r _ [170, 125, 171, 172, 173, 2, 174, 131, 132, 16, 135, 136, 137, 151, 96, 97, 15, 98, 31, 887, 888, 889, 890, 895, 896, 897, 898, 899, 900, 901, 902] (by decide +kernel) (by decide +kernel)) (goodIn_sub (fun _ h => List.mem_append_left _ (List.mem_append_right _ h)) (by decide +kernel))
set_option maxRecDepth 20000 in
theorem gL_law_L_cell : GoodIn wsL_law (va_wsS RL 108 yL_cell wsL_cell) := goodIn_app (goodIn_of _ (by decide +kernel)) ggL_law_L_cell
set_option maxRecDepth 20000 in
theorem ggL_law_X5_cell : GoodIn wsL_law wsX5_cell := goodIn_r _ [178, 107, 72, 157, 158, 5, 159, 108, 109, 110, 111, 112, 113, 114, 891, 892, 893, 894] (by decide +kernel) (by decide +kernel)
set_option maxRecDepth 20000 in
theorem gL_law_X5_cell : GoodIn wsL_law (wsV RL 111 RX5 yX5_cell wsX5_cell) := goodIn_app (goodIn_of _ (by decide +kernel)) ggL_law_X5_cell
set_option maxRecDepth 20000 in
theorem ggL_law_L_on : GoodIn wsL_law wsL_on := goodIn_ca (goodIn_r _ [181, 125, 182, 183, 184, 2, 185, 131, 132, 16, 135, 136, 137, 142, 143, 144, 15, 145, 146, 147, 148, 149, 150, 33, 887, 888, 889, 890, 895, 896, 897, 898, 899, 900, 901, 902] (by decide +kernel) (by decide +kernel)) (goodIn_sub (fun _ h => List.mem_append_left _ (List.mem_append_right _ h)) (by decide +kernel))
set_option maxRecDepth 20000 in
theorem gL_law_L_on : GoodIn wsL_law (va_wsS RL 112 yL_on wsL_on) := goodIn_app (goodIn_of _ (by decide +kernel)) ggL_law_L_on
set_option maxRecDepth 20000 in
theorem ggL_law_X5_on : GoodIn wsL_law wsX5_on := goodIn_r _ [189, 107, 157, 158, 5, 159, 108, 109, 110, 160, 161, 162, 163, 72, 164, 165, 166, 167, 111, 112, 113, 114, 891, 892, 893, 894] (by decide +kernel) (by decide +kernel)
set_option maxRecDepth 20000 in
theorem gL_law_X5_on : GoodIn wsL_law (wsV RL 114 RX5 yX5_on wsX5_on) := goodIn_app (goodIn_of _ (by decide +kernel)) ggL_law_X5_on
set_option maxRecDepth 20000 in
theorem ggL_law_L_sees : GoodIn wsL_law wsL_sees := goodIn_ca (goodIn_r _ [192, 125, 193, 194, 195, 2, 196, 131, 132, 16, 135, 136, 137, 197, 198, 199, 15, 200, 201, 202, 203, 204, 205, 206, 207, 208, 209, 210, 211, 212, 213, 214, 215, 216, 217, 95, 96, 97, 98, 31, 140, 141, 887, 888, 889, 890, 895, 896, 897, 898, 899, 900, 901, 902] (by decide +kernel) (by decide +kernel)) (goodIn_sub (fun _ h => List.mem_append_left _ (List.mem_append_right _ h)) (by decide +kernel))
set_option maxRecDepth 20000 in
theorem gL_law_L_sees : GoodIn wsL_law (va_wsS RL 115 yL_sees wsL_sees) := goodIn_app (goodIn_of _ (by decide +kernel)) ggL_law_L_sees
set_option maxRecDepth 20000 in
theorem ggL_law_X5_sees : GoodIn wsL_law wsX5_sees := goodIn_r _ [221, 107, 157, 158, 5, 159, 108, 109, 110, 222, 223, 224, 225, 226, 227, 228, 229, 205, 206, 207, 230, 209, 210, 231, 232, 233, 234, 72, 235, 236, 237, 891, 892, 893, 894] (by decide +kernel) (by decide +kernel)
set_option maxRecDepth 20000 in
theorem gL_law_X5_sees : GoodIn wsL_law (wsV RL 117 RX5 yX5_sees wsX5_sees) := goodIn_app (goodIn_of _ (by decide +kernel)) ggL_law_X5_sees
set_option maxRecDepth 20000 in
theorem ggL_law_L_knows : GoodIn wsL_law wsL_knows := goodIn_ca (goodIn_ca (goodIn_r _ [240, 79, 125, 241, 242, 243, 2, 244, 84, 85, 131, 132, 16, 245, 246, 247, 135, 136, 137, 248, 249, 250, 15, 251, 32, 887, 888, 889, 890, 895, 896, 897, 898, 899, 900, 901, 902] (by decide +kernel) (by decide +kernel)) (goodIn_sub (fun _ h => List.mem_append_left _ (List.mem_append_left _ (List.mem_append_right _ h))) (by decide +kernel))) (goodIn_sub (fun _ h => List.mem_append_left _ (List.mem_append_right _ h)) (by decide +kernel))
set_option maxRecDepth 20000 in
theorem gL_law_L_knows : GoodIn wsL_law (va_wsS RL 118 yL_knows wsL_knows) := goodIn_app (goodIn_of _ (by decide +kernel)) ggL_law_L_knows
set_option maxRecDepth 20000 in
theorem ggL_law_X5_knows : GoodIn wsL_law wsX5_knows := goodIn_r _ [255, 107, 72, 108, 109, 5, 110, 157, 158, 159, 891, 892, 893, 894] (by decide +kernel) (by decide +kernel)
set_option maxRecDepth 20000 in
theorem gL_law_X5_knows : GoodIn wsL_law (wsV RL 120 RX5 yX5_knows wsX5_knows) := goodIn_app (goodIn_of _ (by decide +kernel)) ggL_law_X5_knows
set_option maxRecDepth 20000 in
theorem ggL_law_L_come : GoodIn wsL_law wsL_come := goodIn_ca (goodIn_ca (goodIn_ca (goodIn_r _ [258, 125, 79, 126, 259, 260, 261, 2, 262, 131, 132, 84, 85, 133, 134, 16, 135, 136, 137, 245, 246, 247, 86, 87, 88, 151, 96, 97, 15, 98, 31, 139, 140, 141, 142, 143, 144, 145, 146, 147, 148, 149, 150, 33, 263, 264, 265, 266, 267, 268, 269, 270, 271, 272, 273, 274, 275, 276, 277, 278, 279, 280, 281, 282, 283, 284, 285, 286, 34, 35, 287, 288, 289, 290, 32, 291, 249, 250, 251, 292, 198, 199, 200, 201, 202, 203, 204, 205, 206, 207, 208, 209, 210, 211, 212, 213, 214, 215, 216, 217, 95, 887, 888, 889, 890, 895, 896, 897, 898, 899, 900, 901, 902] (by decide +kernel) (by decide +kernel)) (goodIn_sub (fun _ h => List.mem_append_left _ (List.mem_append_right _ h)) (by decide +kernel))) (goodIn_sub (fun _ h => List.mem_append_left _ (List.mem_append_left _ (List.mem_append_right _ h))) (by decide +kernel))) (goodIn_sub (fun _ h => List.mem_append_right _ h) (by decide +kernel))
set_option maxRecDepth 20000 in
theorem gL_law_L_come : GoodIn wsL_law (va_wsS RL 121 yL_come wsL_come) := goodIn_app (goodIn_of _ (by decide +kernel)) ggL_law_L_come
set_option maxRecDepth 20000 in
theorem ggL_law_X5_come : GoodIn wsL_law wsX5_come := goodIn_r _ [296, 107, 72, 30, 297, 298, 299, 300, 157, 158, 5, 159, 108, 109, 110, 111, 112, 113, 114, 160, 161, 162, 163, 164, 165, 166, 167, 301, 302, 303, 304, 305, 306, 307, 308, 309, 310, 311, 312, 222, 223, 224, 225, 226, 227, 228, 229, 205, 206, 207, 230, 209, 210, 231, 232, 233, 234, 235, 236, 237, 891, 892, 893, 894] (by decide +kernel) (by decide +kernel)
set_option maxRecDepth 20000 in
theorem gL_law_X5_come : GoodIn wsL_law (wsV RL 124 RX5 yX5_come wsX5_come) := goodIn_app (goodIn_of _ (by decide +kernel)) ggL_law_X5_come
set_option maxRecDepth 20000 in
theorem ggL_law_L_become : GoodIn wsL_law wsL_become := goodIn_ca (goodIn_ca (goodIn_r _ [315, 125, 79, 316, 317, 318, 2, 319, 131, 132, 84, 85, 16, 320, 321, 322, 15, 323, 146, 86, 87, 88, 324, 148, 149, 150, 33, 325, 280, 281, 282, 887, 888, 889, 890, 895, 896, 897, 898, 899, 900, 901, 902] (by decide +kernel) (by decide +kernel)) (goodIn_sub (fun _ h => List.mem_append_left _ (List.mem_append_right _ h)) (by decide +kernel))) (goodIn_sub (fun _ h => List.mem_append_left _ (List.mem_append_left _ (List.mem_append_right _ h))) (by decide +kernel))
set_option maxRecDepth 20000 in
theorem gL_law_L_become : GoodIn wsL_law (va_wsS RL 125 yL_become wsL_become) := goodIn_app (goodIn_of _ (by decide +kernel)) ggL_law_L_become
set_option maxRecDepth 20000 in
theorem ggL_law_X5_become : GoodIn wsL_law wsX5_become := goodIn_r _ [329, 107, 330, 331, 332, 5, 333, 72, 108, 109, 110, 111, 112, 113, 114, 164, 165, 166, 167, 334, 335, 336, 337, 891, 892, 893, 894] (by decide +kernel) (by decide +kernel)
set_option maxRecDepth 20000 in
theorem gL_law_X5_become : GoodIn wsL_law (wsV RL 127 RX5 yX5_become wsX5_become) := goodIn_app (goodIn_of _ (by decide +kernel)) ggL_law_X5_become
set_option maxRecDepth 20000 in
theorem ggL_law_L_lay : GoodIn wsL_law wsL_lay := goodIn_ca (goodIn_ca (goodIn_ca (goodIn_r _ [340, 125, 79, 126, 341, 342, 343, 2, 344, 131, 132, 84, 85, 133, 134, 16, 320, 321, 322, 15, 323, 146, 86, 87, 88, 345, 276, 277, 278, 147, 148, 149, 150, 33, 346, 347, 348, 349, 350, 351, 206, 352, 208, 209, 210, 353, 354, 355, 356, 34, 357, 358, 359, 360, 35, 283, 284, 285, 286, 361, 887, 888, 889, 890, 895, 896, 897, 898, 899, 900, 901, 902] (by decide +kernel) (by decide +kernel)) (goodIn_sub (fun _ h => List.mem_append_left _ (List.mem_append_right _ h)) (by decide +kernel))) (goodIn_sub (fun _ h => List.mem_append_left _ (List.mem_append_left _ (List.mem_append_right _ h))) (by decide +kernel))) (goodIn_sub (fun _ h => List.mem_append_right _ h) (by decide +kernel))
set_option maxRecDepth 20000 in
theorem gL_law_L_lay : GoodIn wsL_law (va_wsS RL 128 yL_lay wsL_lay) := goodIn_app (goodIn_of _ (by decide +kernel)) ggL_law_L_lay
set_option maxRecDepth 20000 in
theorem ggL_law_X5_lay : GoodIn wsL_law wsX5_lay := goodIn_r _ [365, 107, 330, 331, 332, 5, 333, 72, 108, 109, 110, 111, 112, 113, 114, 305, 306, 307, 308, 164, 165, 166, 167, 366, 367, 368, 369, 370, 351, 206, 352, 230, 209, 210, 334, 335, 336, 337, 891, 892, 893, 894] (by decide +kernel) (by decide +kernel)
set_option maxRecDepth 20000 in
theorem gL_law_X5_lay : GoodIn wsL_law (wsV RL 130 RX5 yX5_lay wsX5_lay) := goodIn_app (goodIn_of _ (by decide +kernel)) ggL_law_X5_lay
set_option maxRecDepth 20000 in
theorem ggL_law_L_of : GoodIn wsL_law wsL_of := goodIn_ca (goodIn_ca (goodIn_r _ [373, 125, 79, 374, 375, 376, 2, 377, 131, 132, 84, 85, 16, 320, 321, 322, 15, 323, 146, 86, 87, 88, 378, 379, 380, 381, 382, 383, 384, 385, 147, 148, 149, 150, 33, 324, 887, 888, 889, 890, 895, 896, 897, 898, 899, 900, 901, 902] (by decide +kernel) (by decide +kernel)) (goodIn_sub (fun _ h => List.mem_append_left _ (List.mem_append_right _ h)) (by decide +kernel))) (goodIn_sub (fun _ h => List.mem_append_left _ (List.mem_append_left _ (List.mem_append_right _ h))) (by decide +kernel))
set_option maxRecDepth 20000 in
theorem gL_law_L_of : GoodIn wsL_law (va_wsS RL 131 yL_of wsL_of) := goodIn_app (goodIn_of _ (by decide +kernel)) ggL_law_L_of
set_option maxRecDepth 20000 in
theorem ggL_law_X5_of : GoodIn wsL_law wsX5_of := goodIn_r _ [389, 107, 330, 331, 332, 5, 333, 72, 108, 109, 110, 111, 112, 113, 114, 390, 391, 392, 393, 394, 395, 396, 397, 164, 165, 166, 167, 891, 892, 893, 894] (by decide +kernel) (by decide +kernel)
set_option maxRecDepth 20000 in
theorem gL_law_X5_of : GoodIn wsL_law (wsV RL 133 RX5 yX5_of wsX5_of) := goodIn_app (goodIn_of _ (by decide +kernel)) ggL_law_X5_of
set_option maxRecDepth 20000 in
theorem ggL_law_L_effect : GoodIn wsL_law wsL_effect := goodIn_ca (goodIn_ca (goodIn_r _ [400, 125, 79, 401, 402, 403, 2, 404, 131, 132, 84, 85, 16, 320, 321, 322, 15, 323, 146, 86, 87, 88, 405, 358, 359, 360, 35, 361, 354, 355, 356, 34, 887, 888, 889, 890, 895, 896, 897, 898, 899, 900, 901, 902] (by decide +kernel) (by decide +kernel)) (goodIn_sub (fun _ h => List.mem_append_left _ (List.mem_append_right _ h)) (by decide +kernel))) (goodIn_sub (fun _ h => List.mem_append_left _ (List.mem_append_left _ (List.mem_append_right _ h))) (by decide +kernel))
set_option maxRecDepth 20000 in
theorem gL_law_L_effect : GoodIn wsL_law (va_wsS RL 134 yL_effect wsL_effect) := goodIn_app (goodIn_of _ (by decide +kernel)) ggL_law_L_effect
set_option maxRecDepth 20000 in
theorem ggL_law_X5_effect : GoodIn wsL_law wsX5_effect := goodIn_r _ [409, 107, 330, 331, 332, 5, 333, 72, 108, 109, 110, 111, 112, 113, 114, 164, 165, 166, 167, 891, 892, 893, 894] (by decide +kernel) (by decide +kernel)
set_option maxRecDepth 20000 in
theorem gL_law_X5_effect : GoodIn wsL_law (wsV RL 137 RX5 yX5_effect wsX5_effect) := goodIn_app (goodIn_of _ (by decide +kernel)) ggL_law_X5_effect
set_option maxRecDepth 20000 in
theorem ggL_law_L_many : GoodIn wsL_law wsL_many := goodIn_ca (goodIn_r _ [412, 79, 413, 414, 415, 2, 416, 84, 85, 86, 87, 88, 417, 418, 419, 420, 16, 21, 421, 422, 423, 15, 424, 146, 147, 148, 149, 150, 33, 275, 276, 277, 278, 425, 272, 273, 274, 426, 427, 428, 429, 32, 291, 249, 250, 251, 430, 431, 432, 20, 433, 434, 887, 888, 889, 890, 895, 896, 897, 898, 899, 900, 901, 902, 903, 904, 905] (by decide +kernel) (by decide +kernel)) (goodIn_sub (fun _ h => List.mem_append_left _ (List.mem_append_left _ (List.mem_append_right _ h))) (by decide +kernel))
set_option maxRecDepth 20000 in
theorem gL_law_L_many : GoodIn wsL_law (va_wsS RL 138 yL_many wsL_many) := goodIn_app (goodIn_of _ (by decide +kernel)) ggL_law_L_many
set_option maxRecDepth 20000 in
theorem ggL_law_X5_many : GoodIn wsL_law wsX5_many := goodIn_r _ [438, 107, 108, 109, 5, 110, 439, 440, 441, 442, 72, 443, 444, 445, 446, 447, 305, 306, 307, 308, 164, 165, 166, 167, 301, 302, 303, 304, 111, 112, 113, 114, 891, 892, 893, 894] (by decide +kernel) (by decide +kernel)
set_option maxRecDepth 20000 in
theorem gL_law_X5_many : GoodIn wsL_law (wsV RL 140 RX5 yX5_many wsX5_many) := goodIn_app (goodIn_of _ (by decide +kernel)) ggL_law_X5_many
set_option maxRecDepth 20000 in
theorem ggL_law_L_act : GoodIn wsL_law wsL_act := goodIn_ca (goodIn_ca (goodIn_r _ [450, 79, 126, 451, 452, 453, 2, 454, 84, 85, 133, 134, 16, 86, 87, 88, 425, 272, 273, 15, 274, 146, 275, 276, 277, 278, 147, 148, 149, 150, 33, 455, 456, 457, 458, 459, 460, 461, 462, 463, 464, 465, 466, 467, 96, 97, 98, 31, 468, 143, 144, 145, 469, 470, 471, 472, 473, 474, 475, 476, 477, 201, 202, 203, 204, 205, 206, 207, 208, 209, 210, 292, 198, 199, 200, 211, 212, 213, 214, 215, 216, 217, 95, 140, 141, 478, 479, 480, 481, 351, 352, 482, 354, 355, 356, 34, 483, 280, 281, 282, 484, 485, 486, 487, 488, 489, 490, 353, 491, 492, 493, 494, 350, 279, 495, 100, 101, 102, 496, 497, 498, 499, 347, 348, 349, 357, 358, 359, 360, 35, 283, 284, 285, 286, 500, 501, 502, 503, 504, 505, 506, 507, 508, 509, 288, 289, 290, 32, 291, 249, 250, 251, 887, 888, 889, 890, 895, 896, 897, 898, 899, 900, 901, 902] (by decide +kernel) (by decide +kernel)) (goodIn_sub (fun _ h => List.mem_append_left _ (List.mem_append_left _ (List.mem_append_right _ h))) (by decide +kernel))) (goodIn_sub (fun _ h => List.mem_append_right _ h) (by decide +kernel))
set_option maxRecDepth 20000 in
theorem gL_law_L_act : GoodIn wsL_law (va_wsS RL 141 yL_act wsL_act) := goodIn_app (goodIn_of _ (by decide +kernel)) ggL_law_L_act
set_option maxRecDepth 20000 in
theorem ggL_law_X5_act : GoodIn wsL_law wsX5_act := goodIn_r _ [513, 107, 108, 109, 5, 110, 111, 112, 113, 114, 301, 302, 303, 304, 72, 305, 306, 307, 308, 164, 165, 166, 167, 514, 515, 516, 517, 518, 519, 520, 521, 222, 223, 224, 225, 226, 227, 228, 229, 205, 206, 207, 230, 209, 210, 231, 232, 233, 234, 235, 236, 237, 522, 523, 524, 160, 161, 162, 163, 525, 526, 527, 528, 370, 351, 352, 334, 335, 336, 337, 529, 530, 531, 532, 533, 534, 535, 536, 537, 538, 539, 540, 366, 367, 368, 369, 309, 310, 311, 312, 891, 892, 893, 894] (by decide +kernel) (by decide +kernel)
set_option maxRecDepth 20000 in
theorem gL_law_X5_act : GoodIn wsL_law (wsV RL 143 RX5 yX5_act wsX5_act) := goodIn_app (goodIn_of _ (by decide +kernel)) ggL_law_X5_act
set_option maxRecDepth 20000 in
theorem ggL_law_L_follow : GoodIn wsL_law wsL_follow := goodIn_ca (goodIn_r _ [543, 79, 544, 545, 546, 2, 547, 84, 85, 86, 87, 88, 548, 549, 550, 551, 16, 25, 421, 422, 423, 15, 424, 146, 147, 148, 149, 150, 33, 275, 276, 277, 278, 425, 272, 273, 274, 552, 553, 554, 24, 555, 61, 62, 556, 474, 475, 476, 477, 470, 471, 472, 201, 202, 203, 204, 205, 206, 207, 208, 209, 210, 292, 198, 199, 200, 211, 212, 213, 214, 215, 216, 217, 95, 96, 97, 98, 31, 140, 141, 557, 558, 559, 560, 561, 562, 563, 564, 60, 565, 66, 566, 567, 37, 38, 39, 568, 569, 570, 571, 572, 573, 574, 575, 576, 577, 67, 578, 579, 580, 581, 582, 583, 584, 585, 586, 587, 588, 589, 590, 456, 457, 458, 459, 460, 461, 462, 463, 464, 465, 466, 467, 468, 143, 144, 145, 469, 473, 591, 592, 593, 594, 595, 354, 355, 356, 34, 596, 597, 598, 599, 600, 383, 384, 385, 601, 602, 603, 604, 605, 606, 607, 608, 609, 610, 611, 612, 488, 489, 490, 353, 613, 614, 615, 616, 617, 618, 619, 620, 621, 622, 478, 479, 480, 481, 351, 352, 482, 483, 280, 281, 282, 484, 485, 486, 487, 491, 492, 493, 494, 350, 279, 495, 100, 101, 102, 496, 497, 498, 499, 347, 348, 349, 357, 358, 359, 360, 35, 283, 284, 285, 286, 500, 501, 502, 503, 504, 505, 506, 507, 508, 509, 288, 289, 290, 32, 291, 249, 250, 251, 887, 888, 889, 890, 895, 896, 897, 898, 899, 900, 901, 902, 906, 907, 908, 909, 910] (by decide +kernel) (by decide +kernel)) (goodIn_sub (fun _ h => List.mem_append_left _ (List.mem_append_left _ (List.mem_append_right _ h))) (by decide +kernel))
