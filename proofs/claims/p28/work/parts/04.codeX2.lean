set_option maxRecDepth 20000 in
theorem ggX2_init_J7_fill_53178 : GoodIn wsX2_init wsJ7_fill_53178 := (gI_cons ⟨(List.mem_cons_of_mem _ (List.mem_append_left _ (List.mem_of_getElem? (i := 12) rfl))), (Or.inl rfl)⟩ gI_nil)
set_option maxRecDepth 20000 in
theorem gX2_init_J7_fill_53178 : GoodIn wsX2_init (va_wsS RX2 27 yJ7_fill_53178 wsJ7_fill_53178) := goodIn_app (gI_cons ⟨(List.mem_cons_of_mem _ (List.mem_append_left _ (List.mem_of_getElem? (i := 9) rfl))), (Or.inl rfl)⟩ (gI_cons ⟨(List.mem_cons_of_mem _ (List.mem_append_left _ (List.mem_of_getElem? (i := 10) rfl))), (Or.inl rfl)⟩ (gI_cons ⟨(List.mem_cons_of_mem _ (List.mem_append_left _ (List.mem_of_getElem? (i := 11) rfl))), (Or.inl rfl)⟩ gI_nil))) ggX2_init_J7_fill_53178
theorem dX2_init_0 : decode cX2_init 0 = .ok (.aload_n 0, 1) := by decide +kernel
theorem dX2_init_1 : decode cX2_init 1 = .ok (.invokespecial 3, 3) := by decide +kernel
theorem dX2_init_4 : decode cX2_init 4 = .ok (.aload_n 0, 1) := by decide +kernel
theorem dX2_init_5 : decode cX2_init 5 = .ok (.sipush 160, 3) := by decide +kernel
theorem dX2_init_8 : decode cX2_init 8 = .ok (.newarray .int, 2) := by decide +kernel
theorem dX2_init_10 : decode cX2_init 10 = .ok (.putfield 9, 3) := by decide +kernel
theorem dX2_init_13 : decode cX2_init 13 = .ok (.aload_n 0, 1) := by decide +kernel
theorem dX2_init_14 : decode cX2_init 14 = .ok (.sipush 160, 3) := by decide +kernel
theorem dX2_init_17 : decode cX2_init 17 = .ok (.newarray .int, 2) := by decide +kernel
theorem dX2_init_19 : decode cX2_init 19 = .ok (.putfield 15, 3) := by decide +kernel
theorem dX2_init_22 : decode cX2_init 22 = .ok (.aload_n 0, 1) := by decide +kernel
theorem dX2_init_23 : decode cX2_init 23 = .ok (.bipush 90, 2) := by decide +kernel
theorem dX2_init_25 : decode cX2_init 25 = .ok (.newarray .int, 2) := by decide +kernel
theorem dX2_init_27 : decode cX2_init 27 = .ok (.putfield 18, 3) := by decide +kernel
theorem dX2_init_30 : decode cX2_init 30 = .ok (.aload_n 0, 1) := by decide +kernel
theorem dX2_init_31 : decode cX2_init 31 = .ok (.bipush 50, 2) := by decide +kernel
theorem dX2_init_33 : decode cX2_init 33 = .ok (.newarray .int, 2) := by decide +kernel
theorem dX2_init_35 : decode cX2_init 35 = .ok (.putfield 21, 3) := by decide +kernel
theorem dX2_init_38 : decode cX2_init 38 = .ok (.aload_n 0, 1) := by decide +kernel
theorem dX2_init_39 : decode cX2_init 39 = .ok (.bipush 50, 2) := by decide +kernel
theorem dX2_init_41 : decode cX2_init 41 = .ok (.newarray .int, 2) := by decide +kernel
theorem dX2_init_43 : decode cX2_init 43 = .ok (.putfield 24, 3) := by decide +kernel
theorem dX2_init_46 : decode cX2_init 46 = .ok (.aload_n 0, 1) := by decide +kernel
theorem dX2_init_47 : decode cX2_init 47 = .ok (.getfield 9, 3) := by decide +kernel
theorem dX2_init_50 : decode cX2_init 50 = .ok (.iconst 1, 1) := by decide +kernel
theorem dX2_init_51 : decode cX2_init 51 = .ok (.invokestatic 27, 3) := by decide +kernel
theorem dX2_init_54 : decode cX2_init 54 = .ok (.return_, 1) := by decide +kernel
theorem dX2_copyFrom_0 : decode cX2_copyFrom 0 = .ok (.aload_n 1, 1) := by decide +kernel
theorem dX2_copyFrom_1 : decode cX2_copyFrom 1 = .ok (.getfield 9, 3) := by decide +kernel
theorem dX2_copyFrom_4 : decode cX2_copyFrom 4 = .ok (.iconst 0, 1) := by decide +kernel
theorem dX2_copyFrom_5 : decode cX2_copyFrom 5 = .ok (.aload_n 0, 1) := by decide +kernel
theorem dX2_copyFrom_6 : decode cX2_copyFrom 6 = .ok (.getfield 9, 3) := by decide +kernel
theorem dX2_copyFrom_9 : decode cX2_copyFrom 9 = .ok (.iconst 0, 1) := by decide +kernel
theorem dX2_copyFrom_10 : decode cX2_copyFrom 10 = .ok (.aload_n 0, 1) := by decide +kernel
theorem dX2_copyFrom_11 : decode cX2_copyFrom 11 = .ok (.getfield 9, 3) := by decide +kernel
theorem dX2_copyFrom_14 : decode cX2_copyFrom 14 = .ok (.arraylength, 1) := by decide +kernel
theorem dX2_copyFrom_15 : decode cX2_copyFrom 15 = .ok (.invokestatic 33, 3) := by decide +kernel
theorem dX2_copyFrom_18 : decode cX2_copyFrom 18 = .ok (.aload_n 1, 1) := by decide +kernel
theorem dX2_copyFrom_19 : decode cX2_copyFrom 19 = .ok (.getfield 15, 3) := by decide +kernel
theorem dX2_copyFrom_22 : decode cX2_copyFrom 22 = .ok (.iconst 0, 1) := by decide +kernel
theorem dX2_copyFrom_23 : decode cX2_copyFrom 23 = .ok (.aload_n 0, 1) := by decide +kernel
theorem dX2_copyFrom_24 : decode cX2_copyFrom 24 = .ok (.getfield 15, 3) := by decide +kernel
theorem dX2_copyFrom_27 : decode cX2_copyFrom 27 = .ok (.iconst 0, 1) := by decide +kernel
theorem dX2_copyFrom_28 : decode cX2_copyFrom 28 = .ok (.aload_n 0, 1) := by decide +kernel
theorem dX2_copyFrom_29 : decode cX2_copyFrom 29 = .ok (.getfield 15, 3) := by decide +kernel
theorem dX2_copyFrom_32 : decode cX2_copyFrom 32 = .ok (.arraylength, 1) := by decide +kernel
theorem dX2_copyFrom_33 : decode cX2_copyFrom 33 = .ok (.invokestatic 33, 3) := by decide +kernel
theorem dX2_copyFrom_36 : decode cX2_copyFrom 36 = .ok (.aload_n 1, 1) := by decide +kernel
theorem dX2_copyFrom_37 : decode cX2_copyFrom 37 = .ok (.getfield 18, 3) := by decide +kernel
theorem dX2_copyFrom_40 : decode cX2_copyFrom 40 = .ok (.iconst 0, 1) := by decide +kernel
theorem dX2_copyFrom_41 : decode cX2_copyFrom 41 = .ok (.aload_n 0, 1) := by decide +kernel
theorem dX2_copyFrom_42 : decode cX2_copyFrom 42 = .ok (.getfield 18, 3) := by decide +kernel
theorem dX2_copyFrom_45 : decode cX2_copyFrom 45 = .ok (.iconst 0, 1) := by decide +kernel
theorem dX2_copyFrom_46 : decode cX2_copyFrom 46 = .ok (.aload_n 0, 1) := by decide +kernel
theorem dX2_copyFrom_47 : decode cX2_copyFrom 47 = .ok (.getfield 18, 3) := by decide +kernel
theorem dX2_copyFrom_50 : decode cX2_copyFrom 50 = .ok (.arraylength, 1) := by decide +kernel
theorem dX2_copyFrom_51 : decode cX2_copyFrom 51 = .ok (.invokestatic 33, 3) := by decide +kernel
theorem dX2_copyFrom_54 : decode cX2_copyFrom 54 = .ok (.aload_n 1, 1) := by decide +kernel
theorem dX2_copyFrom_55 : decode cX2_copyFrom 55 = .ok (.getfield 21, 3) := by decide +kernel
theorem dX2_copyFrom_58 : decode cX2_copyFrom 58 = .ok (.iconst 0, 1) := by decide +kernel
theorem dX2_copyFrom_59 : decode cX2_copyFrom 59 = .ok (.aload_n 0, 1) := by decide +kernel
theorem dX2_copyFrom_60 : decode cX2_copyFrom 60 = .ok (.getfield 21, 3) := by decide +kernel
theorem dX2_copyFrom_63 : decode cX2_copyFrom 63 = .ok (.iconst 0, 1) := by decide +kernel
theorem dX2_copyFrom_64 : decode cX2_copyFrom 64 = .ok (.aload_n 0, 1) := by decide +kernel
theorem dX2_copyFrom_65 : decode cX2_copyFrom 65 = .ok (.getfield 21, 3) := by decide +kernel
theorem dX2_copyFrom_68 : decode cX2_copyFrom 68 = .ok (.arraylength, 1) := by decide +kernel
theorem dX2_copyFrom_69 : decode cX2_copyFrom 69 = .ok (.invokestatic 33, 3) := by decide +kernel
theorem dX2_copyFrom_72 : decode cX2_copyFrom 72 = .ok (.aload_n 1, 1) := by decide +kernel
theorem dX2_copyFrom_73 : decode cX2_copyFrom 73 = .ok (.getfield 24, 3) := by decide +kernel
theorem dX2_copyFrom_76 : decode cX2_copyFrom 76 = .ok (.iconst 0, 1) := by decide +kernel
theorem dX2_copyFrom_77 : decode cX2_copyFrom 77 = .ok (.aload_n 0, 1) := by decide +kernel
theorem dX2_copyFrom_78 : decode cX2_copyFrom 78 = .ok (.getfield 24, 3) := by decide +kernel
theorem dX2_copyFrom_81 : decode cX2_copyFrom 81 = .ok (.iconst 0, 1) := by decide +kernel
theorem dX2_copyFrom_82 : decode cX2_copyFrom 82 = .ok (.aload_n 0, 1) := by decide +kernel
theorem dX2_copyFrom_83 : decode cX2_copyFrom 83 = .ok (.getfield 24, 3) := by decide +kernel
theorem dX2_copyFrom_86 : decode cX2_copyFrom 86 = .ok (.arraylength, 1) := by decide +kernel
theorem dX2_copyFrom_87 : decode cX2_copyFrom 87 = .ok (.invokestatic 33, 3) := by decide +kernel
theorem dX2_copyFrom_90 : decode cX2_copyFrom 90 = .ok (.aload_n 0, 1) := by decide +kernel
theorem dX2_copyFrom_91 : decode cX2_copyFrom 91 = .ok (.aload_n 1, 1) := by decide +kernel
theorem dX2_copyFrom_92 : decode cX2_copyFrom 92 = .ok (.getfield 39, 3) := by decide +kernel
theorem dX2_copyFrom_95 : decode cX2_copyFrom 95 = .ok (.putfield 39, 3) := by decide +kernel
theorem dX2_copyFrom_98 : decode cX2_copyFrom 98 = .ok (.aload_n 0, 1) := by decide +kernel
theorem dX2_copyFrom_99 : decode cX2_copyFrom 99 = .ok (.aload_n 1, 1) := by decide +kernel
theorem dX2_copyFrom_100 : decode cX2_copyFrom 100 = .ok (.getfield 43, 3) := by decide +kernel
theorem dX2_copyFrom_103 : decode cX2_copyFrom 103 = .ok (.putfield 43, 3) := by decide +kernel
theorem dX2_copyFrom_106 : decode cX2_copyFrom 106 = .ok (.aload_n 0, 1) := by decide +kernel
theorem dX2_copyFrom_107 : decode cX2_copyFrom 107 = .ok (.aload_n 1, 1) := by decide +kernel
theorem dX2_copyFrom_108 : decode cX2_copyFrom 108 = .ok (.getfield 46, 3) := by decide +kernel
theorem dX2_copyFrom_111 : decode cX2_copyFrom 111 = .ok (.putfield 46, 3) := by decide +kernel
theorem dX2_copyFrom_114 : decode cX2_copyFrom 114 = .ok (.return_, 1) := by decide +kernel
theorem dX2_kindAt_0 : decode cX2_kindAt 0 = .ok (.iload_n 1, 1) := by decide +kernel
theorem dX2_kindAt_1 : decode cX2_kindAt 1 = .ok (.ifCond .lt 21, 3) := by decide +kernel
theorem dX2_kindAt_4 : decode cX2_kindAt 4 = .ok (.iload_n 1, 1) := by decide +kernel
theorem dX2_kindAt_5 : decode cX2_kindAt 5 = .ok (.aload_n 0, 1) := by decide +kernel
theorem dX2_kindAt_6 : decode cX2_kindAt 6 = .ok (.getfield 9, 3) := by decide +kernel
theorem dX2_kindAt_9 : decode cX2_kindAt 9 = .ok (.arraylength, 1) := by decide +kernel
theorem dX2_kindAt_10 : decode cX2_kindAt 10 = .ok (.if_icmp .ge 12, 3) := by decide +kernel
theorem dX2_kindAt_13 : decode cX2_kindAt 13 = .ok (.aload_n 0, 1) := by decide +kernel
theorem dX2_kindAt_14 : decode cX2_kindAt 14 = .ok (.getfield 9, 3) := by decide +kernel
theorem dX2_kindAt_17 : decode cX2_kindAt 17 = .ok (.iload_n 1, 1) := by decide +kernel
theorem dX2_kindAt_18 : decode cX2_kindAt 18 = .ok (.iaload, 1) := by decide +kernel
theorem dX2_kindAt_19 : decode cX2_kindAt 19 = .ok (.goto 4, 3) := by decide +kernel
theorem dX2_kindAt_22 : decode cX2_kindAt 22 = .ok (.iconst 1, 1) := by decide +kernel
theorem dX2_kindAt_23 : decode cX2_kindAt 23 = .ok (.ireturn, 1) := by decide +kernel
theorem dX2_putKind_0 : decode cX2_putKind 0 = .ok (.iload_n 1, 1) := by decide +kernel
theorem dX2_putKind_1 : decode cX2_putKind 1 = .ok (.ifCond .lt 19, 3) := by decide +kernel
theorem dX2_putKind_4 : decode cX2_putKind 4 = .ok (.iload_n 1, 1) := by decide +kernel
theorem dX2_putKind_5 : decode cX2_putKind 5 = .ok (.aload_n 0, 1) := by decide +kernel
theorem dX2_putKind_6 : decode cX2_putKind 6 = .ok (.getfield 9, 3) := by decide +kernel
theorem dX2_putKind_9 : decode cX2_putKind 9 = .ok (.arraylength, 1) := by decide +kernel
theorem dX2_putKind_10 : decode cX2_putKind 10 = .ok (.if_icmp .ge 10, 3) := by decide +kernel
theorem dX2_putKind_13 : decode cX2_putKind 13 = .ok (.aload_n 0, 1) := by decide +kernel
theorem dX2_putKind_14 : decode cX2_putKind 14 = .ok (.getfield 9, 3) := by decide +kernel
theorem dX2_putKind_17 : decode cX2_putKind 17 = .ok (.iload_n 1, 1) := by decide +kernel
theorem dX2_putKind_18 : decode cX2_putKind 18 = .ok (.iload_n 2, 1) := by decide +kernel
theorem dX2_putKind_19 : decode cX2_putKind 19 = .ok (.iastore, 1) := by decide +kernel
theorem dX2_putKind_20 : decode cX2_putKind 20 = .ok (.return_, 1) := by decide +kernel
set_option maxRecDepth 20000 in
theorem ggX2_digRoom_X4_isEdge : GoodIn wsX2_digRoom wsX4_isEdge := (gI_cons ⟨(List.mem_cons_of_mem _ (List.mem_append_left _ (List.mem_of_getElem? (i := 2) rfl))), (Or.inl rfl)⟩ gI_nil)
set_option maxRecDepth 20000 in
theorem gX2_digRoom_X4_isEdge_n49 : GoodIn wsX2_digRoom (wsX4_isEdge) := ggX2_digRoom_X4_isEdge
set_option maxRecDepth 20000 in
theorem ggX2_digRoom_X2_kindAt : GoodIn wsX2_digRoom wsX2_kindAt := (gI_cons ⟨(List.mem_cons_of_mem _ (List.mem_append_left _ (List.mem_of_getElem? (i := 7) rfl))), (Or.inl rfl)⟩ (goodIn_app (gI_cons ⟨(List.mem_cons_of_mem _ (List.mem_append_left _ (List.mem_of_getElem? (i := 8) rfl))), (Or.inl rfl)⟩ gI_nil) (goodIn_sub (fun _ h => (List.mem_cons_of_mem _ (List.mem_append_right _ h))) (by decide +kernel))))
set_option maxRecDepth 20000 in
theorem gX2_digRoom_X2_kindAt : GoodIn wsX2_digRoom (wsV RX2 53 RX2 yX2_kindAt wsX2_kindAt) := goodIn_app (gI_cons ⟨(List.mem_cons_of_mem _ (List.mem_append_left _ (List.mem_of_getElem? (i := 3) rfl))), (Or.inl rfl)⟩ (gI_cons ⟨(List.mem_cons_of_mem _ (List.mem_append_left _ (List.mem_of_getElem? (i := 4) rfl))), (Or.inl rfl)⟩ (gI_cons ⟨(List.mem_cons_of_mem _ (List.mem_append_left _ (List.mem_of_getElem? (i := 5) rfl))), (Or.inl rfl)⟩ (gI_cons ⟨(List.mem_cons_of_mem _ (List.mem_append_left _ (List.mem_of_getElem? (i := 6) rfl))), (Or.inl rfl)⟩ gI_nil)))) ggX2_digRoom_X2_kindAt
set_option maxRecDepth 20000 in
theorem ggX2_digRoom_X2_putKind : GoodIn wsX2_digRoom wsX2_putKind := (gI_cons ⟨(List.mem_cons_of_mem _ (List.mem_append_left _ (List.mem_of_getElem? (i := 12) rfl))), (Or.inl rfl)⟩ (goodIn_app (gI_cons ⟨(List.mem_cons_of_mem _ (List.mem_append_left _ (List.mem_of_getElem? (i := 8) rfl))), (Or.inl rfl)⟩ gI_nil) (goodIn_sub (fun _ h => (List.mem_cons_of_mem _ (List.mem_append_right _ h))) (by decide +kernel))))
set_option maxRecDepth 20000 in
theorem gX2_digRoom_X2_putKind : GoodIn wsX2_digRoom (wsV RX2 57 RX2 yX2_putKind wsX2_putKind) := goodIn_app (gI_cons ⟨(List.mem_cons_of_mem _ (List.mem_append_left _ (List.mem_of_getElem? (i := 9) rfl))), (Or.inl rfl)⟩ (gI_cons ⟨(List.mem_cons_of_mem _ (List.mem_append_left _ (List.mem_of_getElem? (i := 10) rfl))), (Or.inl rfl)⟩ (gI_cons ⟨(List.mem_cons_of_mem _ (List.mem_append_left _ (List.mem_of_getElem? (i := 11) rfl))), (Or.inl rfl)⟩ (gI_cons ⟨(List.mem_cons_of_mem _ (List.mem_append_left _ (List.mem_of_getElem? (i := 6) rfl))), (Or.inl rfl)⟩ gI_nil)))) ggX2_digRoom_X2_putKind
theorem dX2_digRoom_0 : decode cX2_digRoom 0 = .ok (.iconst 0, 1) := by decide +kernel
theorem dX2_digRoom_1 : decode cX2_digRoom 1 = .ok (.istore 5, 2) := by decide +kernel
theorem dX2_digRoom_3 : decode cX2_digRoom 3 = .ok (.iload_n 2, 1) := by decide +kernel
theorem dX2_digRoom_4 : decode cX2_digRoom 4 = .ok (.istore 6, 2) := by decide +kernel
theorem dX2_digRoom_6 : decode cX2_digRoom 6 = .ok (.iload 6, 2) := by decide +kernel
theorem dX2_digRoom_8 : decode cX2_digRoom 8 = .ok (.iload_n 2, 1) := by decide +kernel
theorem dX2_digRoom_9 : decode cX2_digRoom 9 = .ok (.iload 4, 2) := by decide +kernel
theorem dX2_digRoom_11 : decode cX2_digRoom 11 = .ok (.iadd, 1) := by decide +kernel
theorem dX2_digRoom_12 : decode cX2_digRoom 12 = .ok (.if_icmp .ge 63, 3) := by decide +kernel
theorem dX2_digRoom_15 : decode cX2_digRoom 15 = .ok (.iload_n 1, 1) := by decide +kernel
theorem dX2_digRoom_16 : decode cX2_digRoom 16 = .ok (.istore 7, 2) := by decide +kernel
theorem dX2_digRoom_18 : decode cX2_digRoom 18 = .ok (.iload 7, 2) := by decide +kernel
theorem dX2_digRoom_20 : decode cX2_digRoom 20 = .ok (.iload_n 1, 1) := by decide +kernel
theorem dX2_digRoom_21 : decode cX2_digRoom 21 = .ok (.iload_n 3, 1) := by decide +kernel
theorem dX2_digRoom_22 : decode cX2_digRoom 22 = .ok (.iadd, 1) := by decide +kernel
theorem dX2_digRoom_23 : decode cX2_digRoom 23 = .ok (.if_icmp .ge 46, 3) := by decide +kernel
theorem dX2_digRoom_26 : decode cX2_digRoom 26 = .ok (.iload 6, 2) := by decide +kernel
theorem dX2_digRoom_28 : decode cX2_digRoom 28 = .ok (.bipush 16, 2) := by decide +kernel
theorem dX2_digRoom_30 : decode cX2_digRoom 30 = .ok (.imul, 1) := by decide +kernel
theorem dX2_digRoom_31 : decode cX2_digRoom 31 = .ok (.iload 7, 2) := by decide +kernel
theorem dX2_digRoom_33 : decode cX2_digRoom 33 = .ok (.iadd, 1) := by decide +kernel
theorem dX2_digRoom_34 : decode cX2_digRoom 34 = .ok (.istore 8, 2) := by decide +kernel
theorem dX2_digRoom_36 : decode cX2_digRoom 36 = .ok (.iload 8, 2) := by decide +kernel
theorem dX2_digRoom_38 : decode cX2_digRoom 38 = .ok (.invokestatic 49, 3) := by decide +kernel
theorem dX2_digRoom_41 : decode cX2_digRoom 41 = .ok (.ifCond .ne 22, 3) := by decide +kernel
theorem dX2_digRoom_44 : decode cX2_digRoom 44 = .ok (.aload_n 0, 1) := by decide +kernel
theorem dX2_digRoom_45 : decode cX2_digRoom 45 = .ok (.iload 8, 2) := by decide +kernel
theorem dX2_digRoom_47 : decode cX2_digRoom 47 = .ok (.invokevirtual 53, 3) := by decide +kernel
theorem dX2_digRoom_50 : decode cX2_digRoom 50 = .ok (.ifCond .eq 13, 3) := by decide +kernel
theorem dX2_digRoom_53 : decode cX2_digRoom 53 = .ok (.aload_n 0, 1) := by decide +kernel
theorem dX2_digRoom_54 : decode cX2_digRoom 54 = .ok (.iload 8, 2) := by decide +kernel
theorem dX2_digRoom_56 : decode cX2_digRoom 56 = .ok (.iconst 0, 1) := by decide +kernel
theorem dX2_digRoom_57 : decode cX2_digRoom 57 = .ok (.invokevirtual 57, 3) := by decide +kernel
theorem dX2_digRoom_60 : decode cX2_digRoom 60 = .ok (.iinc 5 1, 3) := by decide +kernel
theorem dX2_digRoom_63 : decode cX2_digRoom 63 = .ok (.iinc 7 1, 3) := by decide +kernel
theorem dX2_digRoom_66 : decode cX2_digRoom 66 = .ok (.goto (-48), 3) := by decide +kernel
theorem dX2_digRoom_69 : decode cX2_digRoom 69 = .ok (.iinc 6 1, 3) := by decide +kernel
theorem dX2_digRoom_72 : decode cX2_digRoom 72 = .ok (.goto (-66), 3) := by decide +kernel
theorem dX2_digRoom_75 : decode cX2_digRoom 75 = .ok (.iload 5, 2) := by decide +kernel
theorem dX2_digRoom_77 : decode cX2_digRoom 77 = .ok (.ireturn, 1) := by decide +kernel
theorem dX2_apart_0 : decode cX2_apart 0 = .ok (.iload_n 1, 1) := by decide +kernel
theorem dX2_apart_1 : decode cX2_apart 1 = .ok (.bipush 16, 2) := by decide +kernel
theorem dX2_apart_3 : decode cX2_apart 3 = .ok (.irem, 1) := by decide +kernel
theorem dX2_apart_4 : decode cX2_apart 4 = .ok (.iload_n 0, 1) := by decide +kernel
theorem dX2_apart_5 : decode cX2_apart 5 = .ok (.bipush 16, 2) := by decide +kernel
theorem dX2_apart_7 : decode cX2_apart 7 = .ok (.irem, 1) := by decide +kernel
theorem dX2_apart_8 : decode cX2_apart 8 = .ok (.isub, 1) := by decide +kernel
theorem dX2_apart_9 : decode cX2_apart 9 = .ok (.invokestatic 61, 3) := by decide +kernel
theorem dX2_apart_12 : decode cX2_apart 12 = .ok (.istore_n 2, 1) := by decide +kernel
theorem dX2_apart_13 : decode cX2_apart 13 = .ok (.iload_n 1, 1) := by decide +kernel
theorem dX2_apart_14 : decode cX2_apart 14 = .ok (.bipush 16, 2) := by decide +kernel
theorem dX2_apart_16 : decode cX2_apart 16 = .ok (.idiv, 1) := by decide +kernel
theorem dX2_apart_17 : decode cX2_apart 17 = .ok (.iload_n 0, 1) := by decide +kernel
theorem dX2_apart_18 : decode cX2_apart 18 = .ok (.bipush 16, 2) := by decide +kernel
theorem dX2_apart_20 : decode cX2_apart 20 = .ok (.idiv, 1) := by decide +kernel
theorem dX2_apart_21 : decode cX2_apart 21 = .ok (.isub, 1) := by decide +kernel
theorem dX2_apart_22 : decode cX2_apart 22 = .ok (.invokestatic 61, 3) := by decide +kernel
theorem dX2_apart_25 : decode cX2_apart 25 = .ok (.istore_n 3, 1) := by decide +kernel
theorem dX2_apart_26 : decode cX2_apart 26 = .ok (.iload_n 2, 1) := by decide +kernel
theorem dX2_apart_27 : decode cX2_apart 27 = .ok (.iload_n 3, 1) := by decide +kernel
theorem dX2_apart_28 : decode cX2_apart 28 = .ok (.invokestatic 66, 3) := by decide +kernel
theorem dX2_apart_31 : decode cX2_apart 31 = .ok (.ireturn, 1) := by decide +kernel
set_option maxRecDepth 20000 in
theorem ggX2_nearest_J9_floorDiv_7cf53 : GoodIn wsX2_nearest wsJ9_floorDiv_7cf53 := (gI_cons ⟨(List.mem_cons_of_mem _ (List.mem_of_getElem? (i := 3) rfl)), (Or.inl rfl)⟩ gI_nil)
set_option maxRecDepth 20000 in
theorem gX2_nearest_J9_floorDiv_7cf53 : GoodIn wsX2_nearest (va_wsS RX2 70 yJ9_floorDiv_7cf53 wsJ9_floorDiv_7cf53) := goodIn_app (gI_cons ⟨(List.mem_cons_of_mem _ (List.mem_of_getElem? (i := 0) rfl)), (Or.inl rfl)⟩ (gI_cons ⟨(List.mem_cons_of_mem _ (List.mem_of_getElem? (i := 1) rfl)), (Or.inl rfl)⟩ (gI_cons ⟨(List.mem_cons_of_mem _ (List.mem_of_getElem? (i := 2) rfl)), (Or.inl rfl)⟩ gI_nil))) ggX2_nearest_J9_floorDiv_7cf53
theorem dX2_nearest_0 : decode cX2_nearest 0 = .ok (.iload_n 1, 1) := by decide +kernel
theorem dX2_nearest_1 : decode cX2_nearest 1 = .ok (.ifCond .le 17, 3) := by decide +kernel
theorem dX2_nearest_4 : decode cX2_nearest 4 = .ok (.iconst 2, 1) := by decide +kernel
theorem dX2_nearest_5 : decode cX2_nearest 5 = .ok (.iload_n 0, 1) := by decide +kernel
theorem dX2_nearest_6 : decode cX2_nearest 6 = .ok (.imul, 1) := by decide +kernel
theorem dX2_nearest_7 : decode cX2_nearest 7 = .ok (.iload_n 1, 1) := by decide +kernel
theorem dX2_nearest_8 : decode cX2_nearest 8 = .ok (.iadd, 1) := by decide +kernel
theorem dX2_nearest_9 : decode cX2_nearest 9 = .ok (.iconst 2, 1) := by decide +kernel
theorem dX2_nearest_10 : decode cX2_nearest 10 = .ok (.iload_n 1, 1) := by decide +kernel
theorem dX2_nearest_11 : decode cX2_nearest 11 = .ok (.imul, 1) := by decide +kernel
theorem dX2_nearest_12 : decode cX2_nearest 12 = .ok (.invokestatic 70, 3) := by decide +kernel
theorem dX2_nearest_15 : decode cX2_nearest 15 = .ok (.goto 4, 3) := by decide +kernel
theorem dX2_nearest_18 : decode cX2_nearest 18 = .ok (.iconst 0, 1) := by decide +kernel
theorem dX2_nearest_19 : decode cX2_nearest 19 = .ok (.ireturn, 1) := by decide +kernel
set_option maxRecDepth 20000 in
theorem ggX2_isSeenFrom_X2_apart : GoodIn wsX2_isSeenFrom wsX2_apart := (gI_cons ⟨(List.mem_cons_of_mem _ (List.mem_append_left _ (List.mem_append_left _ (List.mem_of_getElem? (i := 3) rfl)))), (Or.inl rfl)⟩ (gI_cons ⟨(List.mem_cons_of_mem _ (List.mem_append_left _ (List.mem_append_left _ (List.mem_of_getElem? (i := 4) rfl)))), (Or.inl rfl)⟩ (gI_cons ⟨(List.mem_cons_of_mem _ (List.mem_append_left _ (List.mem_append_left _ (List.mem_of_getElem? (i := 5) rfl)))), (Or.inl rfl)⟩ (gI_cons ⟨(List.mem_cons_of_mem _ (List.mem_append_left _ (List.mem_append_left _ (List.mem_of_getElem? (i := 6) rfl)))), (Or.inl rfl)⟩ (gI_cons ⟨(List.mem_cons_of_mem _ (List.mem_append_left _ (List.mem_append_left _ (List.mem_of_getElem? (i := 7) rfl)))), (Or.inl rfl)⟩ (gI_cons ⟨(List.mem_cons_of_mem _ (List.mem_append_left _ (List.mem_append_left _ (List.mem_of_getElem? (i := 8) rfl)))), (Or.inl rfl)⟩ (gI_cons ⟨(List.mem_cons_of_mem _ (List.mem_append_left _ (List.mem_append_left _ (List.mem_of_getElem? (i := 9) rfl)))), (Or.inl rfl)⟩ (gI_cons ⟨(List.mem_cons_of_mem _ (List.mem_append_left _ (List.mem_append_left _ (List.mem_of_getElem? (i := 10) rfl)))), (Or.inl rfl)⟩ gI_nil))))))))
set_option maxRecDepth 20000 in
theorem gX2_isSeenFrom_X2_apart : GoodIn wsX2_isSeenFrom (va_wsS RX2 73 yX2_apart wsX2_apart) := goodIn_app (gI_cons ⟨(List.mem_cons_of_mem _ (List.mem_append_left _ (List.mem_append_left _ (List.mem_of_getElem? (i := 0) rfl)))), (Or.inl rfl)⟩ (gI_cons ⟨(List.mem_cons_of_mem _ (List.mem_append_left _ (List.mem_append_left _ (List.mem_of_getElem? (i := 1) rfl)))), (Or.inl rfl)⟩ (gI_cons ⟨(List.mem_cons_of_mem _ (List.mem_append_left _ (List.mem_append_left _ (List.mem_of_getElem? (i := 2) rfl)))), (Or.inl rfl)⟩ gI_nil))) ggX2_isSeenFrom_X2_apart
set_option maxRecDepth 20000 in
theorem ggX2_isSeenFrom_X2_nearest : GoodIn wsX2_isSeenFrom wsX2_nearest := (gI_cons ⟨(List.mem_cons_of_mem _ (List.mem_append_left _ (List.mem_append_left _ (List.mem_of_getElem? (i := 13) rfl)))), (Or.inl rfl)⟩ (gI_cons ⟨(List.mem_cons_of_mem _ (List.mem_append_left _ (List.mem_append_left _ (List.mem_of_getElem? (i := 14) rfl)))), (Or.inl rfl)⟩ (gI_cons ⟨(List.mem_cons_of_mem _ (List.mem_append_left _ (List.mem_append_left _ (List.mem_of_getElem? (i := 15) rfl)))), (Or.inl rfl)⟩ (gI_cons ⟨(List.mem_cons_of_mem _ (List.mem_append_left _ (List.mem_append_left _ (List.mem_of_getElem? (i := 6) rfl)))), (Or.inl rfl)⟩ (gI_cons ⟨(List.mem_cons_of_mem _ (List.mem_append_left _ (List.mem_append_left _ (List.mem_of_getElem? (i := 17) rfl)))), (Or.inl rfl)⟩ gI_nil)))))
set_option maxRecDepth 20000 in
theorem gX2_isSeenFrom_X2_nearest : GoodIn wsX2_isSeenFrom (va_wsS RX2 76 yX2_nearest wsX2_nearest) := goodIn_app (gI_cons ⟨(List.mem_cons_of_mem _ (List.mem_append_left _ (List.mem_append_left _ (List.mem_of_getElem? (i := 11) rfl)))), (Or.inl rfl)⟩ (gI_cons ⟨(List.mem_cons_of_mem _ (List.mem_append_left _ (List.mem_append_left _ (List.mem_of_getElem? (i := 12) rfl)))), (Or.inl rfl)⟩ (gI_cons ⟨(List.mem_cons_of_mem _ (List.mem_append_left _ (List.mem_append_left _ (List.mem_of_getElem? (i := 2) rfl)))), (Or.inl rfl)⟩ gI_nil))) ggX2_isSeenFrom_X2_nearest
set_option maxRecDepth 20000 in
theorem ggX2_isSeenFrom_X2_kindAt : GoodIn wsX2_isSeenFrom wsX2_kindAt := (gI_cons ⟨(List.mem_cons_of_mem _ (List.mem_append_left _ (List.mem_append_left _ (List.mem_of_getElem? (i := 21) rfl)))), (Or.inl rfl)⟩ (goodIn_app (gI_cons ⟨(List.mem_cons_of_mem _ (List.mem_append_left _ (List.mem_append_left _ (List.mem_of_getElem? (i := 22) rfl)))), (Or.inl rfl)⟩ gI_nil) (goodIn_sub (fun _ h => (List.mem_cons_of_mem _ (List.mem_append_right _ h))) (by decide +kernel))))
set_option maxRecDepth 20000 in
theorem gX2_isSeenFrom_X2_kindAt : GoodIn wsX2_isSeenFrom (wsV RX2 53 RX2 yX2_kindAt wsX2_kindAt) := goodIn_app (gI_cons ⟨(List.mem_cons_of_mem _ (List.mem_append_left _ (List.mem_append_left _ (List.mem_of_getElem? (i := 18) rfl)))), (Or.inl rfl)⟩ (gI_cons ⟨(List.mem_cons_of_mem _ (List.mem_append_left _ (List.mem_append_left _ (List.mem_of_getElem? (i := 19) rfl)))), (Or.inl rfl)⟩ (gI_cons ⟨(List.mem_cons_of_mem _ (List.mem_append_left _ (List.mem_append_left _ (List.mem_of_getElem? (i := 20) rfl)))), (Or.inl rfl)⟩ (gI_cons ⟨(List.mem_cons_of_mem _ (List.mem_append_left _ (List.mem_append_left _ (List.mem_of_getElem? (i := 2) rfl)))), (Or.inl rfl)⟩ gI_nil)))) ggX2_isSeenFrom_X2_kindAt
set_option maxRecDepth 20000 in
theorem ggX2_isSeenFrom_X4_stopsSight : GoodIn wsX2_isSeenFrom wsX4_stopsSight := (gI_cons ⟨(List.mem_cons_of_mem _ (List.mem_append_left _ (List.mem_append_right _ (List.mem_of_getElem? (i := 1) rfl)))), (Or.inl rfl)⟩ gI_nil)
set_option maxRecDepth 20000 in
theorem gX2_isSeenFrom_X4_stopsSight_n79 : GoodIn wsX2_isSeenFrom (wsX4_stopsSight) := ggX2_isSeenFrom_X4_stopsSight
theorem dX2_isSeenFrom_0 : decode cX2_isSeenFrom 0 = .ok (.iload_n 1, 1) := by decide +kernel
theorem dX2_isSeenFrom_1 : decode cX2_isSeenFrom 1 = .ok (.iload_n 2, 1) := by decide +kernel
theorem dX2_isSeenFrom_2 : decode cX2_isSeenFrom 2 = .ok (.invokestatic 73, 3) := by decide +kernel
theorem dX2_isSeenFrom_5 : decode cX2_isSeenFrom 5 = .ok (.istore_n 3, 1) := by decide +kernel
theorem dX2_isSeenFrom_6 : decode cX2_isSeenFrom 6 = .ok (.iload_n 3, 1) := by decide +kernel
theorem dX2_isSeenFrom_7 : decode cX2_isSeenFrom 7 = .ok (.bipush 7, 2) := by decide +kernel
theorem dX2_isSeenFrom_9 : decode cX2_isSeenFrom 9 = .ok (.if_icmp .le 5, 3) := by decide +kernel
theorem dX2_isSeenFrom_12 : decode cX2_isSeenFrom 12 = .ok (.iconst 0, 1) := by decide +kernel
theorem dX2_isSeenFrom_13 : decode cX2_isSeenFrom 13 = .ok (.ireturn, 1) := by decide +kernel
theorem dX2_isSeenFrom_14 : decode cX2_isSeenFrom 14 = .ok (.iload_n 2, 1) := by decide +kernel
theorem dX2_isSeenFrom_15 : decode cX2_isSeenFrom 15 = .ok (.bipush 16, 2) := by decide +kernel
theorem dX2_isSeenFrom_17 : decode cX2_isSeenFrom 17 = .ok (.irem, 1) := by decide +kernel
theorem dX2_isSeenFrom_18 : decode cX2_isSeenFrom 18 = .ok (.iload_n 1, 1) := by decide +kernel
theorem dX2_isSeenFrom_19 : decode cX2_isSeenFrom 19 = .ok (.bipush 16, 2) := by decide +kernel
theorem dX2_isSeenFrom_21 : decode cX2_isSeenFrom 21 = .ok (.irem, 1) := by decide +kernel
theorem dX2_isSeenFrom_22 : decode cX2_isSeenFrom 22 = .ok (.isub, 1) := by decide +kernel
theorem dX2_isSeenFrom_23 : decode cX2_isSeenFrom 23 = .ok (.istore 4, 2) := by decide +kernel
theorem dX2_isSeenFrom_25 : decode cX2_isSeenFrom 25 = .ok (.iload_n 2, 1) := by decide +kernel
theorem dX2_isSeenFrom_26 : decode cX2_isSeenFrom 26 = .ok (.bipush 16, 2) := by decide +kernel
theorem dX2_isSeenFrom_28 : decode cX2_isSeenFrom 28 = .ok (.idiv, 1) := by decide +kernel
theorem dX2_isSeenFrom_29 : decode cX2_isSeenFrom 29 = .ok (.iload_n 1, 1) := by decide +kernel
theorem dX2_isSeenFrom_30 : decode cX2_isSeenFrom 30 = .ok (.bipush 16, 2) := by decide +kernel
theorem dX2_isSeenFrom_32 : decode cX2_isSeenFrom 32 = .ok (.idiv, 1) := by decide +kernel
theorem dX2_isSeenFrom_33 : decode cX2_isSeenFrom 33 = .ok (.isub, 1) := by decide +kernel
theorem dX2_isSeenFrom_34 : decode cX2_isSeenFrom 34 = .ok (.istore 5, 2) := by decide +kernel
theorem dX2_isSeenFrom_36 : decode cX2_isSeenFrom 36 = .ok (.iconst 1, 1) := by decide +kernel
theorem dX2_isSeenFrom_37 : decode cX2_isSeenFrom 37 = .ok (.istore 6, 2) := by decide +kernel
theorem dX2_isSeenFrom_39 : decode cX2_isSeenFrom 39 = .ok (.iload 6, 2) := by decide +kernel
theorem dX2_isSeenFrom_41 : decode cX2_isSeenFrom 41 = .ok (.iload_n 3, 1) := by decide +kernel
theorem dX2_isSeenFrom_42 : decode cX2_isSeenFrom 42 = .ok (.if_icmp .ge 49, 3) := by decide +kernel
theorem dX2_isSeenFrom_45 : decode cX2_isSeenFrom 45 = .ok (.iload_n 1, 1) := by decide +kernel
theorem dX2_isSeenFrom_46 : decode cX2_isSeenFrom 46 = .ok (.iload 6, 2) := by decide +kernel
theorem dX2_isSeenFrom_48 : decode cX2_isSeenFrom 48 = .ok (.iload 4, 2) := by decide +kernel
theorem dX2_isSeenFrom_50 : decode cX2_isSeenFrom 50 = .ok (.imul, 1) := by decide +kernel
theorem dX2_isSeenFrom_51 : decode cX2_isSeenFrom 51 = .ok (.iload_n 3, 1) := by decide +kernel
theorem dX2_isSeenFrom_52 : decode cX2_isSeenFrom 52 = .ok (.invokestatic 76, 3) := by decide +kernel
theorem dX2_isSeenFrom_55 : decode cX2_isSeenFrom 55 = .ok (.iadd, 1) := by decide +kernel
theorem dX2_isSeenFrom_56 : decode cX2_isSeenFrom 56 = .ok (.bipush 16, 2) := by decide +kernel
theorem dX2_isSeenFrom_58 : decode cX2_isSeenFrom 58 = .ok (.iload 6, 2) := by decide +kernel
theorem dX2_isSeenFrom_60 : decode cX2_isSeenFrom 60 = .ok (.iload 5, 2) := by decide +kernel
theorem dX2_isSeenFrom_62 : decode cX2_isSeenFrom 62 = .ok (.imul, 1) := by decide +kernel
theorem dX2_isSeenFrom_63 : decode cX2_isSeenFrom 63 = .ok (.iload_n 3, 1) := by decide +kernel
theorem dX2_isSeenFrom_64 : decode cX2_isSeenFrom 64 = .ok (.invokestatic 76, 3) := by decide +kernel
theorem dX2_isSeenFrom_67 : decode cX2_isSeenFrom 67 = .ok (.imul, 1) := by decide +kernel
theorem dX2_isSeenFrom_68 : decode cX2_isSeenFrom 68 = .ok (.iadd, 1) := by decide +kernel
theorem dX2_isSeenFrom_69 : decode cX2_isSeenFrom 69 = .ok (.istore 7, 2) := by decide +kernel
theorem dX2_isSeenFrom_71 : decode cX2_isSeenFrom 71 = .ok (.aload_n 0, 1) := by decide +kernel
theorem dX2_isSeenFrom_72 : decode cX2_isSeenFrom 72 = .ok (.iload 7, 2) := by decide +kernel
theorem dX2_isSeenFrom_74 : decode cX2_isSeenFrom 74 = .ok (.invokevirtual 53, 3) := by decide +kernel
theorem dX2_isSeenFrom_77 : decode cX2_isSeenFrom 77 = .ok (.invokestatic 79, 3) := by decide +kernel
theorem dX2_isSeenFrom_80 : decode cX2_isSeenFrom 80 = .ok (.ifCond .eq 5, 3) := by decide +kernel
theorem dX2_isSeenFrom_83 : decode cX2_isSeenFrom 83 = .ok (.iconst 0, 1) := by decide +kernel
theorem dX2_isSeenFrom_84 : decode cX2_isSeenFrom 84 = .ok (.ireturn, 1) := by decide +kernel
theorem dX2_isSeenFrom_85 : decode cX2_isSeenFrom 85 = .ok (.iinc 6 1, 3) := by decide +kernel
theorem dX2_isSeenFrom_88 : decode cX2_isSeenFrom 88 = .ok (.goto (-49), 3) := by decide +kernel
theorem dX2_isSeenFrom_91 : decode cX2_isSeenFrom 91 = .ok (.iconst 1, 1) := by decide +kernel
theorem dX2_isSeenFrom_92 : decode cX2_isSeenFrom 92 = .ok (.ireturn, 1) := by decide +kernel
theorem dX2_isKnown_0 : decode cX2_isKnown 0 = .ok (.iload_n 2, 1) := by decide +kernel
theorem dX2_isKnown_1 : decode cX2_isKnown 1 = .ok (.ifCond .lt 29, 3) := by decide +kernel
theorem dX2_isKnown_4 : decode cX2_isKnown 4 = .ok (.iload_n 2, 1) := by decide +kernel
theorem dX2_isKnown_5 : decode cX2_isKnown 5 = .ok (.aload_n 0, 1) := by decide +kernel
theorem dX2_isKnown_6 : decode cX2_isKnown 6 = .ok (.getfield 15, 3) := by decide +kernel
theorem dX2_isKnown_9 : decode cX2_isKnown 9 = .ok (.arraylength, 1) := by decide +kernel
theorem dX2_isKnown_10 : decode cX2_isKnown 10 = .ok (.if_icmp .ge 20, 3) := by decide +kernel
theorem dX2_isKnown_13 : decode cX2_isKnown 13 = .ok (.aload_n 0, 1) := by decide +kernel
theorem dX2_isKnown_14 : decode cX2_isKnown 14 = .ok (.getfield 15, 3) := by decide +kernel
theorem dX2_isKnown_17 : decode cX2_isKnown 17 = .ok (.iload_n 2, 1) := by decide +kernel
theorem dX2_isKnown_18 : decode cX2_isKnown 18 = .ok (.iaload, 1) := by decide +kernel
theorem dX2_isKnown_19 : decode cX2_isKnown 19 = .ok (.iconst 1, 1) := by decide +kernel
theorem dX2_isKnown_20 : decode cX2_isKnown 20 = .ok (.iload_n 1, 1) := by decide +kernel
theorem dX2_isKnown_21 : decode cX2_isKnown 21 = .ok (.ishl, 1) := by decide +kernel
theorem dX2_isKnown_22 : decode cX2_isKnown 22 = .ok (.iand, 1) := by decide +kernel
theorem dX2_isKnown_23 : decode cX2_isKnown 23 = .ok (.ifCond .eq 7, 3) := by decide +kernel
theorem dX2_isKnown_26 : decode cX2_isKnown 26 = .ok (.iconst 1, 1) := by decide +kernel
theorem dX2_isKnown_27 : decode cX2_isKnown 27 = .ok (.goto 4, 3) := by decide +kernel
theorem dX2_isKnown_30 : decode cX2_isKnown 30 = .ok (.iconst 0, 1) := by decide +kernel
theorem dX2_isKnown_31 : decode cX2_isKnown 31 = .ok (.ireturn, 1) := by decide +kernel
set_option maxRecDepth 20000 in
theorem ggX2_knownCells_X2_isKnown : GoodIn wsX2_knownCells wsX2_isKnown := (gI_cons ⟨(List.mem_cons_of_mem _ (List.mem_append_left _ (List.mem_of_getElem? (i := 5) rfl))), (Or.inl rfl)⟩ (goodIn_app (gI_cons ⟨(List.mem_cons_of_mem _ (List.mem_append_left _ (List.mem_of_getElem? (i := 0) rfl))), (Or.inl rfl)⟩ gI_nil) (goodIn_sub (fun _ h => (List.mem_cons_of_mem _ (List.mem_append_right _ h))) (by decide +kernel))))
set_option maxRecDepth 20000 in
theorem gX2_knownCells_X2_isKnown : GoodIn wsX2_knownCells (wsV RX2 82 RX2 yX2_isKnown wsX2_isKnown) := goodIn_app (gI_cons ⟨(List.mem_cons_of_mem _ (List.mem_append_left _ (List.mem_of_getElem? (i := 1) rfl))), (Or.inl rfl)⟩ (gI_cons ⟨(List.mem_cons_of_mem _ (List.mem_append_left _ (List.mem_of_getElem? (i := 2) rfl))), (Or.inl rfl)⟩ (gI_cons ⟨(List.mem_cons_of_mem _ (List.mem_append_left _ (List.mem_of_getElem? (i := 3) rfl))), (Or.inl rfl)⟩ (gI_cons ⟨(List.mem_cons_of_mem _ (List.mem_append_left _ (List.mem_of_getElem? (i := 4) rfl))), (Or.inl rfl)⟩ gI_nil)))) ggX2_knownCells_X2_isKnown
theorem dX2_knownCells_0 : decode cX2_knownCells 0 = .ok (.iconst 0, 1) := by decide +kernel
theorem dX2_knownCells_1 : decode cX2_knownCells 1 = .ok (.istore_n 2, 1) := by decide +kernel
theorem dX2_knownCells_2 : decode cX2_knownCells 2 = .ok (.iconst 0, 1) := by decide +kernel
theorem dX2_knownCells_3 : decode cX2_knownCells 3 = .ok (.istore_n 3, 1) := by decide +kernel
theorem dX2_knownCells_4 : decode cX2_knownCells 4 = .ok (.iload_n 3, 1) := by decide +kernel
theorem dX2_knownCells_5 : decode cX2_knownCells 5 = .ok (.aload_n 0, 1) := by decide +kernel
theorem dX2_knownCells_6 : decode cX2_knownCells 6 = .ok (.getfield 15, 3) := by decide +kernel
theorem dX2_knownCells_9 : decode cX2_knownCells 9 = .ok (.arraylength, 1) := by decide +kernel
theorem dX2_knownCells_10 : decode cX2_knownCells 10 = .ok (.if_icmp .ge 21, 3) := by decide +kernel
theorem dX2_knownCells_13 : decode cX2_knownCells 13 = .ok (.aload_n 0, 1) := by decide +kernel
theorem dX2_knownCells_14 : decode cX2_knownCells 14 = .ok (.iload_n 1, 1) := by decide +kernel
theorem dX2_knownCells_15 : decode cX2_knownCells 15 = .ok (.iload_n 3, 1) := by decide +kernel
theorem dX2_knownCells_16 : decode cX2_knownCells 16 = .ok (.invokevirtual 82, 3) := by decide +kernel
theorem dX2_knownCells_19 : decode cX2_knownCells 19 = .ok (.ifCond .eq 6, 3) := by decide +kernel
theorem dX2_knownCells_22 : decode cX2_knownCells 22 = .ok (.iinc 2 1, 3) := by decide +kernel
theorem dX2_knownCells_25 : decode cX2_knownCells 25 = .ok (.iinc 3 1, 3) := by decide +kernel
theorem dX2_knownCells_28 : decode cX2_knownCells 28 = .ok (.goto (-24), 3) := by decide +kernel
theorem dX2_knownCells_31 : decode cX2_knownCells 31 = .ok (.iload_n 2, 1) := by decide +kernel
theorem dX2_knownCells_32 : decode cX2_knownCells 32 = .ok (.ireturn, 1) := by decide +kernel
set_option maxRecDepth 20000 in
theorem ggX2_look_X2_trait : GoodIn wsX2_look wsX2_trait := (gI_cons ⟨(List.mem_cons_of_mem _ (List.mem_append_left _ (List.mem_append_left _ (List.mem_of_getElem? (i := 5) rfl)))), (Or.inl rfl)⟩ (goodIn_app (gI_cons ⟨(List.mem_cons_of_mem _ (List.mem_append_left _ (List.mem_append_left _ (List.mem_of_getElem? (i := 6) rfl)))), (Or.inl rfl)⟩ gI_nil) (goodIn_sub (fun _ h => (List.mem_cons_of_mem _ (List.mem_append_right _ h))) (by decide +kernel))))
set_option maxRecDepth 20000 in
theorem gX2_look_X2_trait : GoodIn wsX2_look (wsV RX2 86 RX2 yX2_trait wsX2_trait) := goodIn_app (gI_cons ⟨(List.mem_cons_of_mem _ (List.mem_append_left _ (List.mem_append_left _ (List.mem_of_getElem? (i := 1) rfl)))), (Or.inl rfl)⟩ (gI_cons ⟨(List.mem_cons_of_mem _ (List.mem_append_left _ (List.mem_append_left _ (List.mem_of_getElem? (i := 2) rfl)))), (Or.inl rfl)⟩ (gI_cons ⟨(List.mem_cons_of_mem _ (List.mem_append_left _ (List.mem_append_left _ (List.mem_of_getElem? (i := 3) rfl)))), (Or.inl rfl)⟩ (gI_cons ⟨(List.mem_cons_of_mem _ (List.mem_append_left _ (List.mem_append_left _ (List.mem_of_getElem? (i := 4) rfl)))), (Or.inl rfl)⟩ gI_nil)))) ggX2_look_X2_trait
set_option maxRecDepth 20000 in
theorem ggX2_look_X2_isKnown : GoodIn wsX2_look wsX2_isKnown := (gI_cons ⟨(List.mem_cons_of_mem _ (List.mem_append_left _ (List.mem_append_left _ (List.mem_of_getElem? (i := 10) rfl)))), (Or.inl rfl)⟩ (goodIn_app (gI_cons ⟨(List.mem_cons_of_mem _ (List.mem_append_left _ (List.mem_append_left _ (List.mem_of_getElem? (i := 0) rfl)))), (Or.inl rfl)⟩ gI_nil) (goodIn_sub (fun _ h => (List.mem_cons_of_mem _ (List.mem_append_right _ h))) (by decide +kernel))))
set_option maxRecDepth 20000 in
theorem gX2_look_X2_isKnown : GoodIn wsX2_look (wsV RX2 82 RX2 yX2_isKnown wsX2_isKnown) := goodIn_app (gI_cons ⟨(List.mem_cons_of_mem _ (List.mem_append_left _ (List.mem_append_left _ (List.mem_of_getElem? (i := 7) rfl)))), (Or.inl rfl)⟩ (gI_cons ⟨(List.mem_cons_of_mem _ (List.mem_append_left _ (List.mem_append_left _ (List.mem_of_getElem? (i := 8) rfl)))), (Or.inl rfl)⟩ (gI_cons ⟨(List.mem_cons_of_mem _ (List.mem_append_left _ (List.mem_append_left _ (List.mem_of_getElem? (i := 9) rfl)))), (Or.inl rfl)⟩ (gI_cons ⟨(List.mem_cons_of_mem _ (List.mem_append_left _ (List.mem_append_left _ (List.mem_of_getElem? (i := 4) rfl)))), (Or.inl rfl)⟩ gI_nil)))) ggX2_look_X2_isKnown
set_option maxRecDepth 20000 in
theorem ggX2_look_X2_isSeenFrom : GoodIn wsX2_look wsX2_isSeenFrom := (gI_cons ⟨(List.mem_cons_of_mem _ (List.mem_append_left _ (List.mem_append_left _ (List.mem_of_getElem? (i := 14) rfl)))), (Or.inl rfl)⟩ (goodIn_app (goodIn_app (show GoodIn _ wsX2_isSeenFrom_r1 from (gI_cons ⟨(List.mem_cons_of_mem _ (List.mem_append_left _ (List.mem_append_left _ (List.mem_of_getElem? (i := 15) rfl)))), (Or.inl rfl)⟩ (gI_cons ⟨(List.mem_cons_of_mem _ (List.mem_append_left _ (List.mem_append_left _ (List.mem_of_getElem? (i := 16) rfl)))), (Or.inl rfl)⟩ (gI_cons ⟨(List.mem_cons_of_mem _ (List.mem_append_left _ (List.mem_append_left _ (List.mem_of_getElem? (i := 4) rfl)))), (Or.inl rfl)⟩ (gI_cons ⟨(List.mem_cons_of_mem _ (List.mem_append_left _ (List.mem_append_left _ (List.mem_of_getElem? (i := 17) rfl)))), (Or.inl rfl)⟩ (gI_cons ⟨(List.mem_cons_of_mem _ (List.mem_append_left _ (List.mem_append_left _ (List.mem_of_getElem? (i := 18) rfl)))), (Or.inl rfl)⟩ (gI_cons ⟨(List.mem_cons_of_mem _ (List.mem_append_left _ (List.mem_append_left _ (List.mem_of_getElem? (i := 19) rfl)))), (Or.inl rfl)⟩ (gI_cons ⟨(List.mem_cons_of_mem _ (List.mem_append_left _ (List.mem_append_left _ (List.mem_of_getElem? (i := 20) rfl)))), (Or.inl rfl)⟩ (gI_cons ⟨(List.mem_cons_of_mem _ (List.mem_append_left _ (List.mem_append_left _ (List.mem_of_getElem? (i := 21) rfl)))), (Or.inl rfl)⟩ (gI_cons ⟨(List.mem_cons_of_mem _ (List.mem_append_left _ (List.mem_append_left _ (List.mem_of_getElem? (i := 22) rfl)))), (Or.inl rfl)⟩ (gI_cons ⟨(List.mem_cons_of_mem _ (List.mem_append_left _ (List.mem_append_left _ (List.mem_of_getElem? (i := 23) rfl)))), (Or.inl rfl)⟩ (gI_cons ⟨(List.mem_cons_of_mem _ (List.mem_append_left _ (List.mem_append_right _ (List.mem_of_getElem? (i := 0) rfl)))), (Or.inl rfl)⟩ (gI_cons ⟨(List.mem_cons_of_mem _ (List.mem_append_left _ (List.mem_append_right _ (List.mem_of_getElem? (i := 1) rfl)))), (Or.inl rfl)⟩ (gI_cons ⟨(List.mem_cons_of_mem _ (List.mem_append_left _ (List.mem_append_right _ (List.mem_of_getElem? (i := 2) rfl)))), (Or.inl rfl)⟩ (gI_cons ⟨(List.mem_cons_of_mem _ (List.mem_append_left _ (List.mem_append_right _ (List.mem_of_getElem? (i := 3) rfl)))), (Or.inl rfl)⟩ (gI_cons ⟨(List.mem_cons_of_mem _ (List.mem_append_left _ (List.mem_append_right _ (List.mem_of_getElem? (i := 4) rfl)))), (Or.inl rfl)⟩ (gI_cons ⟨(List.mem_cons_of_mem _ (List.mem_append_left _ (List.mem_append_right _ (List.mem_of_getElem? (i := 5) rfl)))), (Or.inl rfl)⟩ (gI_cons ⟨(List.mem_cons_of_mem _ (List.mem_append_left _ (List.mem_append_left _ (List.mem_of_getElem? (i := 20) rfl)))), (Or.inl rfl)⟩ (gI_cons ⟨(List.mem_cons_of_mem _ (List.mem_append_left _ (List.mem_append_right _ (List.mem_of_getElem? (i := 7) rfl)))), (Or.inl rfl)⟩ (gI_cons ⟨(List.mem_cons_of_mem _ (List.mem_append_left _ (List.mem_append_right _ (List.mem_of_getElem? (i := 8) rfl)))), (Or.inl rfl)⟩ (gI_cons ⟨(List.mem_cons_of_mem _ (List.mem_append_left _ (List.mem_append_right _ (List.mem_of_getElem? (i := 9) rfl)))), (Or.inl rfl)⟩ (gI_cons ⟨(List.mem_cons_of_mem _ (List.mem_append_left _ (List.mem_append_right _ (List.mem_of_getElem? (i := 10) rfl)))), (Or.inl rfl)⟩ (gI_cons ⟨(List.mem_cons_of_mem _ (List.mem_append_left _ (List.mem_append_right _ (List.mem_of_getElem? (i := 11) rfl)))), (Or.inl rfl)⟩ (gI_cons ⟨(List.mem_cons_of_mem _ (List.mem_append_left _ (List.mem_append_right _ (List.mem_of_getElem? (i := 12) rfl)))), (Or.inl rfl)⟩ (gI_cons ⟨(List.mem_cons_of_mem _ (List.mem_append_left _ (List.mem_append_right _ (List.mem_of_getElem? (i := 13) rfl)))), (Or.inl rfl)⟩ gI_nil))))))))))))))))))))))))) (show GoodIn _ wsX2_isSeenFrom_r2 from (gI_cons ⟨(List.mem_cons_of_mem _ (List.mem_append_left _ (List.mem_append_right _ (List.mem_of_getElem? (i := 14) rfl)))), (Or.inl rfl)⟩ (gI_cons ⟨(List.mem_cons_of_mem _ (List.mem_append_left _ (List.mem_append_right _ (List.mem_of_getElem? (i := 15) rfl)))), (Or.inl rfl)⟩ gI_nil)))) (goodIn_sub (fun _ h => (List.mem_cons_of_mem _ (List.mem_append_right _ h))) (by decide +kernel))))
set_option maxRecDepth 20000 in
theorem gX2_look_X2_isSeenFrom : GoodIn wsX2_look (wsV RX2 89 RX2 yX2_isSeenFrom wsX2_isSeenFrom) := goodIn_app (gI_cons ⟨(List.mem_cons_of_mem _ (List.mem_append_left _ (List.mem_append_left _ (List.mem_of_getElem? (i := 11) rfl)))), (Or.inl rfl)⟩ (gI_cons ⟨(List.mem_cons_of_mem _ (List.mem_append_left _ (List.mem_append_left _ (List.mem_of_getElem? (i := 12) rfl)))), (Or.inl rfl)⟩ (gI_cons ⟨(List.mem_cons_of_mem _ (List.mem_append_left _ (List.mem_append_left _ (List.mem_of_getElem? (i := 13) rfl)))), (Or.inl rfl)⟩ (gI_cons ⟨(List.mem_cons_of_mem _ (List.mem_append_left _ (List.mem_append_left _ (List.mem_of_getElem? (i := 4) rfl)))), (Or.inl rfl)⟩ gI_nil)))) ggX2_look_X2_isSeenFrom
theorem dX2_look_0 : decode cX2_look 0 = .ok (.aload_n 0, 1) := by decide +kernel
theorem dX2_look_1 : decode cX2_look 1 = .ok (.iload_n 1, 1) := by decide +kernel
theorem dX2_look_2 : decode cX2_look 2 = .ok (.iconst 1, 1) := by decide +kernel
theorem dX2_look_3 : decode cX2_look 3 = .ok (.invokevirtual 86, 3) := by decide +kernel
theorem dX2_look_6 : decode cX2_look 6 = .ok (.istore_n 2, 1) := by decide +kernel
theorem dX2_look_7 : decode cX2_look 7 = .ok (.aload_n 0, 1) := by decide +kernel
theorem dX2_look_8 : decode cX2_look 8 = .ok (.iload_n 1, 1) := by decide +kernel
theorem dX2_look_9 : decode cX2_look 9 = .ok (.iconst 0, 1) := by decide +kernel
theorem dX2_look_10 : decode cX2_look 10 = .ok (.invokevirtual 86, 3) := by decide +kernel
theorem dX2_look_13 : decode cX2_look 13 = .ok (.istore_n 3, 1) := by decide +kernel
theorem dX2_look_14 : decode cX2_look 14 = .ok (.iconst 0, 1) := by decide +kernel
theorem dX2_look_15 : decode cX2_look 15 = .ok (.istore 4, 2) := by decide +kernel
theorem dX2_look_17 : decode cX2_look 17 = .ok (.iload 4, 2) := by decide +kernel
theorem dX2_look_19 : decode cX2_look 19 = .ok (.aload_n 0, 1) := by decide +kernel
theorem dX2_look_20 : decode cX2_look 20 = .ok (.getfield 15, 3) := by decide +kernel
theorem dX2_look_23 : decode cX2_look 23 = .ok (.arraylength, 1) := by decide +kernel
theorem dX2_look_24 : decode cX2_look 24 = .ok (.if_icmp .ge 42, 3) := by decide +kernel
theorem dX2_look_27 : decode cX2_look 27 = .ok (.aload_n 0, 1) := by decide +kernel
theorem dX2_look_28 : decode cX2_look 28 = .ok (.iload_n 3, 1) := by decide +kernel
theorem dX2_look_29 : decode cX2_look 29 = .ok (.iload 4, 2) := by decide +kernel
theorem dX2_look_31 : decode cX2_look 31 = .ok (.invokevirtual 82, 3) := by decide +kernel
theorem dX2_look_34 : decode cX2_look 34 = .ok (.ifCond .ne 26, 3) := by decide +kernel
theorem dX2_look_37 : decode cX2_look 37 = .ok (.aload_n 0, 1) := by decide +kernel
theorem dX2_look_38 : decode cX2_look 38 = .ok (.iload_n 2, 1) := by decide +kernel
theorem dX2_look_39 : decode cX2_look 39 = .ok (.iload 4, 2) := by decide +kernel
theorem dX2_look_41 : decode cX2_look 41 = .ok (.invokevirtual 89, 3) := by decide +kernel
theorem dX2_look_44 : decode cX2_look 44 = .ok (.ifCond .eq 16, 3) := by decide +kernel
theorem dX2_look_47 : decode cX2_look 47 = .ok (.aload_n 0, 1) := by decide +kernel
theorem dX2_look_48 : decode cX2_look 48 = .ok (.getfield 15, 3) := by decide +kernel
theorem dX2_look_51 : decode cX2_look 51 = .ok (.iload 4, 2) := by decide +kernel
theorem dX2_look_53 : decode cX2_look 53 = .ok (.dup2, 1) := by decide +kernel
theorem dX2_look_54 : decode cX2_look 54 = .ok (.iaload, 1) := by decide +kernel
theorem dX2_look_55 : decode cX2_look 55 = .ok (.iconst 1, 1) := by decide +kernel
theorem dX2_look_56 : decode cX2_look 56 = .ok (.iload_n 3, 1) := by decide +kernel
theorem dX2_look_57 : decode cX2_look 57 = .ok (.ishl, 1) := by decide +kernel
theorem dX2_look_58 : decode cX2_look 58 = .ok (.ior, 1) := by decide +kernel
theorem dX2_look_59 : decode cX2_look 59 = .ok (.iastore, 1) := by decide +kernel
theorem dX2_look_60 : decode cX2_look 60 = .ok (.iinc 4 1, 3) := by decide +kernel
theorem dX2_look_63 : decode cX2_look 63 = .ok (.goto (-46), 3) := by decide +kernel
theorem dX2_look_66 : decode cX2_look 66 = .ok (.return_, 1) := by decide +kernel
theorem dX2_isBeing_0 : decode cX2_isBeing 0 = .ok (.iload_n 1, 1) := by decide +kernel
theorem dX2_isBeing_1 : decode cX2_isBeing 1 = .ok (.ifCond .lt 15, 3) := by decide +kernel
theorem dX2_isBeing_4 : decode cX2_isBeing 4 = .ok (.iload_n 1, 1) := by decide +kernel
theorem dX2_isBeing_5 : decode cX2_isBeing 5 = .ok (.aload_n 0, 1) := by decide +kernel
theorem dX2_isBeing_6 : decode cX2_isBeing 6 = .ok (.getfield 39, 3) := by decide +kernel
theorem dX2_isBeing_9 : decode cX2_isBeing 9 = .ok (.if_icmp .ge 7, 3) := by decide +kernel
theorem dX2_isBeing_12 : decode cX2_isBeing 12 = .ok (.iconst 1, 1) := by decide +kernel
theorem dX2_isBeing_13 : decode cX2_isBeing 13 = .ok (.goto 4, 3) := by decide +kernel
theorem dX2_isBeing_16 : decode cX2_isBeing 16 = .ok (.iconst 0, 1) := by decide +kernel
theorem dX2_isBeing_17 : decode cX2_isBeing 17 = .ok (.ireturn, 1) := by decide +kernel
theorem dX2_hasRoom_0 : decode cX2_hasRoom 0 = .ok (.aload_n 0, 1) := by decide +kernel
theorem dX2_hasRoom_1 : decode cX2_hasRoom 1 = .ok (.getfield 39, 3) := by decide +kernel
theorem dX2_hasRoom_4 : decode cX2_hasRoom 4 = .ok (.bipush 10, 2) := by decide +kernel
theorem dX2_hasRoom_6 : decode cX2_hasRoom 6 = .ok (.if_icmp .ge 7, 3) := by decide +kernel
theorem dX2_hasRoom_9 : decode cX2_hasRoom 9 = .ok (.iconst 1, 1) := by decide +kernel
theorem dX2_hasRoom_10 : decode cX2_hasRoom 10 = .ok (.goto 4, 3) := by decide +kernel
theorem dX2_hasRoom_13 : decode cX2_hasRoom 13 = .ok (.iconst 0, 1) := by decide +kernel
theorem dX2_hasRoom_14 : decode cX2_hasRoom 14 = .ok (.ireturn, 1) := by decide +kernel
theorem dX2_trait_0 : decode cX2_trait 0 = .ok (.iload_n 1, 1) := by decide +kernel
theorem dX2_trait_1 : decode cX2_trait 1 = .ok (.bipush 9, 2) := by decide +kernel
theorem dX2_trait_3 : decode cX2_trait 3 = .ok (.imul, 1) := by decide +kernel
theorem dX2_trait_4 : decode cX2_trait 4 = .ok (.iload_n 2, 1) := by decide +kernel
theorem dX2_trait_5 : decode cX2_trait 5 = .ok (.iadd, 1) := by decide +kernel
theorem dX2_trait_6 : decode cX2_trait 6 = .ok (.istore_n 3, 1) := by decide +kernel
theorem dX2_trait_7 : decode cX2_trait 7 = .ok (.iload_n 3, 1) := by decide +kernel
theorem dX2_trait_8 : decode cX2_trait 8 = .ok (.ifCond .lt 21, 3) := by decide +kernel
theorem dX2_trait_11 : decode cX2_trait 11 = .ok (.iload_n 3, 1) := by decide +kernel
theorem dX2_trait_12 : decode cX2_trait 12 = .ok (.aload_n 0, 1) := by decide +kernel
theorem dX2_trait_13 : decode cX2_trait 13 = .ok (.getfield 18, 3) := by decide +kernel
theorem dX2_trait_16 : decode cX2_trait 16 = .ok (.arraylength, 1) := by decide +kernel
theorem dX2_trait_17 : decode cX2_trait 17 = .ok (.if_icmp .ge 12, 3) := by decide +kernel
theorem dX2_trait_20 : decode cX2_trait 20 = .ok (.aload_n 0, 1) := by decide +kernel
theorem dX2_trait_21 : decode cX2_trait 21 = .ok (.getfield 18, 3) := by decide +kernel
theorem dX2_trait_24 : decode cX2_trait 24 = .ok (.iload_n 3, 1) := by decide +kernel
theorem dX2_trait_25 : decode cX2_trait 25 = .ok (.iaload, 1) := by decide +kernel
theorem dX2_trait_26 : decode cX2_trait 26 = .ok (.goto 4, 3) := by decide +kernel
theorem dX2_trait_29 : decode cX2_trait 29 = .ok (.iconst 0, 1) := by decide +kernel
theorem dX2_trait_30 : decode cX2_trait 30 = .ok (.ireturn, 1) := by decide +kernel
theorem dX2_putTrait_0 : decode cX2_putTrait 0 = .ok (.iload_n 1, 1) := by decide +kernel
theorem dX2_putTrait_1 : decode cX2_putTrait 1 = .ok (.bipush 9, 2) := by decide +kernel
theorem dX2_putTrait_3 : decode cX2_putTrait 3 = .ok (.imul, 1) := by decide +kernel
theorem dX2_putTrait_4 : decode cX2_putTrait 4 = .ok (.iload_n 2, 1) := by decide +kernel
theorem dX2_putTrait_5 : decode cX2_putTrait 5 = .ok (.iadd, 1) := by decide +kernel
theorem dX2_putTrait_6 : decode cX2_putTrait 6 = .ok (.istore 4, 2) := by decide +kernel
theorem dX2_putTrait_8 : decode cX2_putTrait 8 = .ok (.iload 4, 2) := by decide +kernel
theorem dX2_putTrait_10 : decode cX2_putTrait 10 = .ok (.ifCond .lt 21, 3) := by decide +kernel
theorem dX2_putTrait_13 : decode cX2_putTrait 13 = .ok (.iload 4, 2) := by decide +kernel
theorem dX2_putTrait_15 : decode cX2_putTrait 15 = .ok (.aload_n 0, 1) := by decide +kernel
theorem dX2_putTrait_16 : decode cX2_putTrait 16 = .ok (.getfield 18, 3) := by decide +kernel
theorem dX2_putTrait_19 : decode cX2_putTrait 19 = .ok (.arraylength, 1) := by decide +kernel
theorem dX2_putTrait_20 : decode cX2_putTrait 20 = .ok (.if_icmp .ge 11, 3) := by decide +kernel
theorem dX2_putTrait_23 : decode cX2_putTrait 23 = .ok (.aload_n 0, 1) := by decide +kernel
theorem dX2_putTrait_24 : decode cX2_putTrait 24 = .ok (.getfield 18, 3) := by decide +kernel
theorem dX2_putTrait_27 : decode cX2_putTrait 27 = .ok (.iload 4, 2) := by decide +kernel
theorem dX2_putTrait_29 : decode cX2_putTrait 29 = .ok (.iload_n 3, 1) := by decide +kernel
theorem dX2_putTrait_30 : decode cX2_putTrait 30 = .ok (.iastore, 1) := by decide +kernel
theorem dX2_putTrait_31 : decode cX2_putTrait 31 = .ok (.return_, 1) := by decide +kernel
theorem dX2_stackOf_0 : decode cX2_stackOf 0 = .ok (.iload_n 1, 1) := by decide +kernel
theorem dX2_stackOf_1 : decode cX2_stackOf 1 = .ok (.iconst 5, 1) := by decide +kernel
theorem dX2_stackOf_2 : decode cX2_stackOf 2 = .ok (.imul, 1) := by decide +kernel
theorem dX2_stackOf_3 : decode cX2_stackOf 3 = .ok (.iload_n 2, 1) := by decide +kernel
theorem dX2_stackOf_4 : decode cX2_stackOf 4 = .ok (.iadd, 1) := by decide +kernel
theorem dX2_stackOf_5 : decode cX2_stackOf 5 = .ok (.istore_n 3, 1) := by decide +kernel
theorem dX2_stackOf_6 : decode cX2_stackOf 6 = .ok (.iload_n 3, 1) := by decide +kernel
theorem dX2_stackOf_7 : decode cX2_stackOf 7 = .ok (.ifCond .lt 21, 3) := by decide +kernel
theorem dX2_stackOf_10 : decode cX2_stackOf 10 = .ok (.iload_n 3, 1) := by decide +kernel
theorem dX2_stackOf_11 : decode cX2_stackOf 11 = .ok (.aload_n 0, 1) := by decide +kernel
theorem dX2_stackOf_12 : decode cX2_stackOf 12 = .ok (.getfield 21, 3) := by decide +kernel
theorem dX2_stackOf_15 : decode cX2_stackOf 15 = .ok (.arraylength, 1) := by decide +kernel
theorem dX2_stackOf_16 : decode cX2_stackOf 16 = .ok (.if_icmp .ge 12, 3) := by decide +kernel
theorem dX2_stackOf_19 : decode cX2_stackOf 19 = .ok (.aload_n 0, 1) := by decide +kernel
theorem dX2_stackOf_20 : decode cX2_stackOf 20 = .ok (.getfield 21, 3) := by decide +kernel
theorem dX2_stackOf_23 : decode cX2_stackOf 23 = .ok (.iload_n 3, 1) := by decide +kernel
theorem dX2_stackOf_24 : decode cX2_stackOf 24 = .ok (.iaload, 1) := by decide +kernel
theorem dX2_stackOf_25 : decode cX2_stackOf 25 = .ok (.goto 4, 3) := by decide +kernel
theorem dX2_stackOf_28 : decode cX2_stackOf 28 = .ok (.iconst 0, 1) := by decide +kernel
theorem dX2_stackOf_29 : decode cX2_stackOf 29 = .ok (.ireturn, 1) := by decide +kernel
theorem dX2_turnsOf_0 : decode cX2_turnsOf 0 = .ok (.iload_n 1, 1) := by decide +kernel
theorem dX2_turnsOf_1 : decode cX2_turnsOf 1 = .ok (.iconst 5, 1) := by decide +kernel
theorem dX2_turnsOf_2 : decode cX2_turnsOf 2 = .ok (.imul, 1) := by decide +kernel
theorem dX2_turnsOf_3 : decode cX2_turnsOf 3 = .ok (.iload_n 2, 1) := by decide +kernel
theorem dX2_turnsOf_4 : decode cX2_turnsOf 4 = .ok (.iadd, 1) := by decide +kernel
theorem dX2_turnsOf_5 : decode cX2_turnsOf 5 = .ok (.istore_n 3, 1) := by decide +kernel
theorem dX2_turnsOf_6 : decode cX2_turnsOf 6 = .ok (.iload_n 3, 1) := by decide +kernel
theorem dX2_turnsOf_7 : decode cX2_turnsOf 7 = .ok (.ifCond .lt 21, 3) := by decide +kernel
theorem dX2_turnsOf_10 : decode cX2_turnsOf 10 = .ok (.iload_n 3, 1) := by decide +kernel
theorem dX2_turnsOf_11 : decode cX2_turnsOf 11 = .ok (.aload_n 0, 1) := by decide +kernel
theorem dX2_turnsOf_12 : decode cX2_turnsOf 12 = .ok (.getfield 24, 3) := by decide +kernel
theorem dX2_turnsOf_15 : decode cX2_turnsOf 15 = .ok (.arraylength, 1) := by decide +kernel
theorem dX2_turnsOf_16 : decode cX2_turnsOf 16 = .ok (.if_icmp .ge 12, 3) := by decide +kernel
theorem dX2_turnsOf_19 : decode cX2_turnsOf 19 = .ok (.aload_n 0, 1) := by decide +kernel
theorem dX2_turnsOf_20 : decode cX2_turnsOf 20 = .ok (.getfield 24, 3) := by decide +kernel
theorem dX2_turnsOf_23 : decode cX2_turnsOf 23 = .ok (.iload_n 3, 1) := by decide +kernel
theorem dX2_turnsOf_24 : decode cX2_turnsOf 24 = .ok (.iaload, 1) := by decide +kernel
theorem dX2_turnsOf_25 : decode cX2_turnsOf 25 = .ok (.goto 4, 3) := by decide +kernel
theorem dX2_turnsOf_28 : decode cX2_turnsOf 28 = .ok (.iconst 0, 1) := by decide +kernel
theorem dX2_turnsOf_29 : decode cX2_turnsOf 29 = .ok (.ireturn, 1) := by decide +kernel
theorem dX2_putEffect_0 : decode cX2_putEffect 0 = .ok (.iload_n 1, 1) := by decide +kernel
theorem dX2_putEffect_1 : decode cX2_putEffect 1 = .ok (.iconst 5, 1) := by decide +kernel
theorem dX2_putEffect_2 : decode cX2_putEffect 2 = .ok (.imul, 1) := by decide +kernel
theorem dX2_putEffect_3 : decode cX2_putEffect 3 = .ok (.iload_n 2, 1) := by decide +kernel
theorem dX2_putEffect_4 : decode cX2_putEffect 4 = .ok (.iadd, 1) := by decide +kernel
theorem dX2_putEffect_5 : decode cX2_putEffect 5 = .ok (.istore 5, 2) := by decide +kernel
theorem dX2_putEffect_7 : decode cX2_putEffect 7 = .ok (.iload 5, 2) := by decide +kernel
theorem dX2_putEffect_9 : decode cX2_putEffect 9 = .ok (.ifCond .lt 40, 3) := by decide +kernel
theorem dX2_putEffect_12 : decode cX2_putEffect 12 = .ok (.iload 5, 2) := by decide +kernel
theorem dX2_putEffect_14 : decode cX2_putEffect 14 = .ok (.aload_n 0, 1) := by decide +kernel
theorem dX2_putEffect_15 : decode cX2_putEffect 15 = .ok (.getfield 21, 3) := by decide +kernel
theorem dX2_putEffect_18 : decode cX2_putEffect 18 = .ok (.arraylength, 1) := by decide +kernel
theorem dX2_putEffect_19 : decode cX2_putEffect 19 = .ok (.if_icmp .ge 30, 3) := by decide +kernel
theorem dX2_putEffect_22 : decode cX2_putEffect 22 = .ok (.iload 5, 2) := by decide +kernel
theorem dX2_putEffect_24 : decode cX2_putEffect 24 = .ok (.aload_n 0, 1) := by decide +kernel
theorem dX2_putEffect_25 : decode cX2_putEffect 25 = .ok (.getfield 24, 3) := by decide +kernel
theorem dX2_putEffect_28 : decode cX2_putEffect 28 = .ok (.arraylength, 1) := by decide +kernel
theorem dX2_putEffect_29 : decode cX2_putEffect 29 = .ok (.if_icmp .ge 20, 3) := by decide +kernel
theorem dX2_putEffect_32 : decode cX2_putEffect 32 = .ok (.aload_n 0, 1) := by decide +kernel
theorem dX2_putEffect_33 : decode cX2_putEffect 33 = .ok (.getfield 21, 3) := by decide +kernel
theorem dX2_putEffect_36 : decode cX2_putEffect 36 = .ok (.iload 5, 2) := by decide +kernel
theorem dX2_putEffect_38 : decode cX2_putEffect 38 = .ok (.iload_n 3, 1) := by decide +kernel
theorem dX2_putEffect_39 : decode cX2_putEffect 39 = .ok (.iastore, 1) := by decide +kernel
theorem dX2_putEffect_40 : decode cX2_putEffect 40 = .ok (.aload_n 0, 1) := by decide +kernel
theorem dX2_putEffect_41 : decode cX2_putEffect 41 = .ok (.getfield 24, 3) := by decide +kernel
theorem dX2_putEffect_44 : decode cX2_putEffect 44 = .ok (.iload 5, 2) := by decide +kernel
theorem dX2_putEffect_46 : decode cX2_putEffect 46 = .ok (.iload 4, 2) := by decide +kernel
theorem dX2_putEffect_48 : decode cX2_putEffect 48 = .ok (.iastore, 1) := by decide +kernel
theorem dX2_putEffect_49 : decode cX2_putEffect 49 = .ok (.return_, 1) := by decide +kernel
set_option maxRecDepth 20000 in
theorem ggX2_addEffect_X2_stackOf : GoodIn wsX2_addEffect wsX2_stackOf := (gI_cons ⟨(List.mem_cons_of_mem _ (List.mem_append_left _ (List.mem_of_getElem? (i := 11) rfl))), (Or.inl rfl)⟩ (goodIn_app (gI_cons ⟨(List.mem_cons_of_mem _ (List.mem_append_left _ (List.mem_of_getElem? (i := 12) rfl))), (Or.inl rfl)⟩ gI_nil) (goodIn_sub (fun _ h => (List.mem_cons_of_mem _ (List.mem_append_right _ h))) (by decide +kernel))))
set_option maxRecDepth 20000 in
theorem gX2_addEffect_X2_stackOf : GoodIn wsX2_addEffect (wsV RX2 92 RX2 yX2_stackOf wsX2_stackOf) := goodIn_app (gI_cons ⟨(List.mem_cons_of_mem _ (List.mem_append_left _ (List.mem_of_getElem? (i := 7) rfl))), (Or.inl rfl)⟩ (gI_cons ⟨(List.mem_cons_of_mem _ (List.mem_append_left _ (List.mem_of_getElem? (i := 8) rfl))), (Or.inl rfl)⟩ (gI_cons ⟨(List.mem_cons_of_mem _ (List.mem_append_left _ (List.mem_of_getElem? (i := 9) rfl))), (Or.inl rfl)⟩ (gI_cons ⟨(List.mem_cons_of_mem _ (List.mem_append_left _ (List.mem_of_getElem? (i := 10) rfl))), (Or.inl rfl)⟩ gI_nil)))) ggX2_addEffect_X2_stackOf
set_option maxRecDepth 20000 in
theorem ggX2_addEffect_X2_turnsOf : GoodIn wsX2_addEffect wsX2_turnsOf := (gI_cons ⟨(List.mem_cons_of_mem _ (List.mem_append_left _ (List.mem_of_getElem? (i := 16) rfl))), (Or.inl rfl)⟩ (goodIn_app (gI_cons ⟨(List.mem_cons_of_mem _ (List.mem_append_left _ (List.mem_of_getElem? (i := 17) rfl))), (Or.inl rfl)⟩ gI_nil) (goodIn_sub (fun _ h => (List.mem_cons_of_mem _ (List.mem_append_right _ h))) (by decide +kernel))))
set_option maxRecDepth 20000 in
theorem gX2_addEffect_X2_turnsOf : GoodIn wsX2_addEffect (wsV RX2 98 RX2 yX2_turnsOf wsX2_turnsOf) := goodIn_app (gI_cons ⟨(List.mem_cons_of_mem _ (List.mem_append_left _ (List.mem_of_getElem? (i := 13) rfl))), (Or.inl rfl)⟩ (gI_cons ⟨(List.mem_cons_of_mem _ (List.mem_append_left _ (List.mem_of_getElem? (i := 14) rfl))), (Or.inl rfl)⟩ (gI_cons ⟨(List.mem_cons_of_mem _ (List.mem_append_left _ (List.mem_of_getElem? (i := 15) rfl))), (Or.inl rfl)⟩ (gI_cons ⟨(List.mem_cons_of_mem _ (List.mem_append_left _ (List.mem_of_getElem? (i := 10) rfl))), (Or.inl rfl)⟩ gI_nil)))) ggX2_addEffect_X2_turnsOf
set_option maxRecDepth 20000 in
theorem ggX2_addEffect_X2_putEffect : GoodIn wsX2_addEffect wsX2_putEffect := (gI_cons ⟨(List.mem_cons_of_mem _ (List.mem_append_left _ (List.mem_of_getElem? (i := 21) rfl))), (Or.inl rfl)⟩ (goodIn_app (gI_cons ⟨(List.mem_cons_of_mem _ (List.mem_append_left _ (List.mem_of_getElem? (i := 12) rfl))), (Or.inl rfl)⟩ (gI_cons ⟨(List.mem_cons_of_mem _ (List.mem_append_left _ (List.mem_of_getElem? (i := 17) rfl))), (Or.inl rfl)⟩ gI_nil)) (goodIn_sub (fun _ h => (List.mem_cons_of_mem _ (List.mem_append_right _ h))) (by decide +kernel))))
set_option maxRecDepth 20000 in
theorem gX2_addEffect_X2_putEffect : GoodIn wsX2_addEffect (wsV RX2 101 RX2 yX2_putEffect wsX2_putEffect) := goodIn_app (gI_cons ⟨(List.mem_cons_of_mem _ (List.mem_append_left _ (List.mem_of_getElem? (i := 18) rfl))), (Or.inl rfl)⟩ (gI_cons ⟨(List.mem_cons_of_mem _ (List.mem_append_left _ (List.mem_of_getElem? (i := 19) rfl))), (Or.inl rfl)⟩ (gI_cons ⟨(List.mem_cons_of_mem _ (List.mem_append_left _ (List.mem_of_getElem? (i := 20) rfl))), (Or.inl rfl)⟩ (gI_cons ⟨(List.mem_cons_of_mem _ (List.mem_append_left _ (List.mem_of_getElem? (i := 10) rfl))), (Or.inl rfl)⟩ gI_nil)))) ggX2_addEffect_X2_putEffect
theorem dX2_addEffect_0 : decode cX2_addEffect 0 = .ok (.aload_n 0, 1) := by decide +kernel
theorem dX2_addEffect_1 : decode cX2_addEffect 1 = .ok (.iload_n 1, 1) := by decide +kernel
theorem dX2_addEffect_2 : decode cX2_addEffect 2 = .ok (.iload_n 2, 1) := by decide +kernel
theorem dX2_addEffect_3 : decode cX2_addEffect 3 = .ok (.aload_n 0, 1) := by decide +kernel
theorem dX2_addEffect_4 : decode cX2_addEffect 4 = .ok (.iload_n 1, 1) := by decide +kernel
theorem dX2_addEffect_5 : decode cX2_addEffect 5 = .ok (.iload_n 2, 1) := by decide +kernel
theorem dX2_addEffect_6 : decode cX2_addEffect 6 = .ok (.invokevirtual 92, 3) := by decide +kernel
theorem dX2_addEffect_9 : decode cX2_addEffect 9 = .ok (.iload_n 3, 1) := by decide +kernel
theorem dX2_addEffect_10 : decode cX2_addEffect 10 = .ok (.iadd, 1) := by decide +kernel
theorem dX2_addEffect_11 : decode cX2_addEffect 11 = .ok (.bipush 9, 2) := by decide +kernel
theorem dX2_addEffect_13 : decode cX2_addEffect 13 = .ok (.invokestatic 95, 3) := by decide +kernel
theorem dX2_addEffect_16 : decode cX2_addEffect 16 = .ok (.aload_n 0, 1) := by decide +kernel
theorem dX2_addEffect_17 : decode cX2_addEffect 17 = .ok (.iload_n 1, 1) := by decide +kernel
theorem dX2_addEffect_18 : decode cX2_addEffect 18 = .ok (.iload_n 2, 1) := by decide +kernel
theorem dX2_addEffect_19 : decode cX2_addEffect 19 = .ok (.invokevirtual 98, 3) := by decide +kernel
theorem dX2_addEffect_22 : decode cX2_addEffect 22 = .ok (.iload 4, 2) := by decide +kernel
theorem dX2_addEffect_24 : decode cX2_addEffect 24 = .ok (.invokestatic 66, 3) := by decide +kernel
theorem dX2_addEffect_27 : decode cX2_addEffect 27 = .ok (.invokevirtual 101, 3) := by decide +kernel
theorem dX2_addEffect_30 : decode cX2_addEffect 30 = .ok (.return_, 1) := by decide +kernel
set_option maxRecDepth 20000 in
theorem ggX2_addBeing_X2_whoseTurn : GoodIn wsX2_addBeing wsX2_whoseTurn := (gI_cons ⟨(List.mem_cons_of_mem _ (List.mem_append_left _ (List.mem_append_left _ (List.mem_of_getElem? (i := 5) rfl)))), (Or.inl rfl)⟩ (goodIn_app (gI_cons ⟨(List.mem_cons_of_mem _ (List.mem_append_left _ (List.mem_append_left _ (List.mem_of_getElem? (i := 0) rfl)))), (Or.inl rfl)⟩ (gI_cons ⟨(List.mem_cons_of_mem _ (List.mem_append_left _ (List.mem_append_left _ (List.mem_of_getElem? (i := 6) rfl)))), (Or.inl rfl)⟩ (gI_cons ⟨(List.mem_cons_of_mem _ (List.mem_append_left _ (List.mem_append_left _ (List.mem_of_getElem? (i := 7) rfl)))), (Or.inl rfl)⟩ (gI_cons ⟨(List.mem_cons_of_mem _ (List.mem_append_left _ (List.mem_append_left _ (List.mem_of_getElem? (i := 8) rfl)))), (Or.inl rfl)⟩ (gI_cons ⟨(List.mem_cons_of_mem _ (List.mem_append_left _ (List.mem_append_left _ (List.mem_of_getElem? (i := 4) rfl)))), (Or.inl rfl)⟩ (gI_cons ⟨(List.mem_cons_of_mem _ (List.mem_append_left _ (List.mem_append_left _ (List.mem_of_getElem? (i := 9) rfl)))), (Or.inl rfl)⟩ (gI_cons ⟨(List.mem_cons_of_mem _ (List.mem_append_left _ (List.mem_append_left _ (List.mem_of_getElem? (i := 10) rfl)))), (Or.inl rfl)⟩ (gI_cons ⟨(List.mem_cons_of_mem _ (List.mem_append_left _ (List.mem_append_left _ (List.mem_of_getElem? (i := 11) rfl)))), (Or.inl rfl)⟩ (gI_cons ⟨(List.mem_cons_of_mem _ (List.mem_append_left _ (List.mem_append_left _ (List.mem_of_getElem? (i := 12) rfl)))), (Or.inl rfl)⟩ (gI_cons ⟨(List.mem_cons_of_mem _ (List.mem_append_left _ (List.mem_append_left _ (List.mem_of_getElem? (i := 13) rfl)))), (Or.inl rfl)⟩ (gI_cons ⟨(List.mem_cons_of_mem _ (List.mem_append_left _ (List.mem_append_left _ (List.mem_of_getElem? (i := 14) rfl)))), (Or.inl rfl)⟩ gI_nil))))))))))) (goodIn_sub (fun _ h => (List.mem_cons_of_mem _ (List.mem_append_right _ h))) (by decide +kernel))))
set_option maxRecDepth 20000 in
theorem gX2_addBeing_X2_whoseTurn : GoodIn wsX2_addBeing (wsV RX2 105 RX2 yX2_whoseTurn wsX2_whoseTurn) := goodIn_app (gI_cons ⟨(List.mem_cons_of_mem _ (List.mem_append_left _ (List.mem_append_left _ (List.mem_of_getElem? (i := 1) rfl)))), (Or.inl rfl)⟩ (gI_cons ⟨(List.mem_cons_of_mem _ (List.mem_append_left _ (List.mem_append_left _ (List.mem_of_getElem? (i := 2) rfl)))), (Or.inl rfl)⟩ (gI_cons ⟨(List.mem_cons_of_mem _ (List.mem_append_left _ (List.mem_append_left _ (List.mem_of_getElem? (i := 3) rfl)))), (Or.inl rfl)⟩ (gI_cons ⟨(List.mem_cons_of_mem _ (List.mem_append_left _ (List.mem_append_left _ (List.mem_of_getElem? (i := 4) rfl)))), (Or.inl rfl)⟩ gI_nil)))) ggX2_addBeing_X2_whoseTurn
set_option maxRecDepth 20000 in
theorem ggX2_addBeing_X2_putTrait : GoodIn wsX2_addBeing wsX2_putTrait := (gI_cons ⟨(List.mem_cons_of_mem _ (List.mem_append_left _ (List.mem_append_left _ (List.mem_of_getElem? (i := 18) rfl)))), (Or.inl rfl)⟩ (goodIn_app (gI_cons ⟨(List.mem_cons_of_mem _ (List.mem_append_left _ (List.mem_append_left _ (List.mem_of_getElem? (i := 14) rfl)))), (Or.inl rfl)⟩ gI_nil) (goodIn_sub (fun _ h => (List.mem_cons_of_mem _ (List.mem_append_right _ h))) (by decide +kernel))))
set_option maxRecDepth 20000 in
theorem gX2_addBeing_X2_putTrait : GoodIn wsX2_addBeing (wsV RX2 109 RX2 yX2_putTrait wsX2_putTrait) := goodIn_app (gI_cons ⟨(List.mem_cons_of_mem _ (List.mem_append_left _ (List.mem_append_left _ (List.mem_of_getElem? (i := 15) rfl)))), (Or.inl rfl)⟩ (gI_cons ⟨(List.mem_cons_of_mem _ (List.mem_append_left _ (List.mem_append_left _ (List.mem_of_getElem? (i := 16) rfl)))), (Or.inl rfl)⟩ (gI_cons ⟨(List.mem_cons_of_mem _ (List.mem_append_left _ (List.mem_append_left _ (List.mem_of_getElem? (i := 17) rfl)))), (Or.inl rfl)⟩ (gI_cons ⟨(List.mem_cons_of_mem _ (List.mem_append_left _ (List.mem_append_left _ (List.mem_of_getElem? (i := 4) rfl)))), (Or.inl rfl)⟩ gI_nil)))) ggX2_addBeing_X2_putTrait
set_option maxRecDepth 20000 in
theorem ggX2_addBeing_X2_trait : GoodIn wsX2_addBeing wsX2_trait := (gI_cons ⟨(List.mem_cons_of_mem _ (List.mem_append_left _ (List.mem_append_left _ (List.mem_of_getElem? (i := 13) rfl)))), (Or.inl rfl)⟩ (goodIn_app (gI_cons ⟨(List.mem_cons_of_mem _ (List.mem_append_left _ (List.mem_append_left _ (List.mem_of_getElem? (i := 14) rfl)))), (Or.inl rfl)⟩ gI_nil) (goodIn_sub (fun _ h => (List.mem_cons_of_mem _ (List.mem_append_right _ h))) (by decide +kernel))))
set_option maxRecDepth 20000 in
theorem gX2_addBeing_X2_trait : GoodIn wsX2_addBeing (wsV RX2 86 RX2 yX2_trait wsX2_trait) := goodIn_app (gI_cons ⟨(List.mem_cons_of_mem _ (List.mem_append_left _ (List.mem_append_left _ (List.mem_of_getElem? (i := 10) rfl)))), (Or.inl rfl)⟩ (gI_cons ⟨(List.mem_cons_of_mem _ (List.mem_append_left _ (List.mem_append_left _ (List.mem_of_getElem? (i := 11) rfl)))), (Or.inl rfl)⟩ (gI_cons ⟨(List.mem_cons_of_mem _ (List.mem_append_left _ (List.mem_append_left _ (List.mem_of_getElem? (i := 12) rfl)))), (Or.inl rfl)⟩ (gI_cons ⟨(List.mem_cons_of_mem _ (List.mem_append_left _ (List.mem_append_left _ (List.mem_of_getElem? (i := 4) rfl)))), (Or.inl rfl)⟩ gI_nil)))) ggX2_addBeing_X2_trait
set_option maxRecDepth 20000 in
theorem ggX2_addBeing_X2_putEffect : GoodIn wsX2_addBeing wsX2_putEffect := (gI_cons ⟨(List.mem_cons_of_mem _ (List.mem_append_left _ (List.mem_append_left _ (List.mem_of_getElem? (i := 22) rfl)))), (Or.inl rfl)⟩ (goodIn_app (gI_cons ⟨(List.mem_cons_of_mem _ (List.mem_append_left _ (List.mem_append_left _ (List.mem_of_getElem? (i := 23) rfl)))), (Or.inl rfl)⟩ (gI_cons ⟨(List.mem_cons_of_mem _ (List.mem_append_left _ (List.mem_append_right _ (List.mem_append_left _ (List.mem_of_getElem? (i := 0) rfl))))), (Or.inl rfl)⟩ gI_nil)) (goodIn_sub (fun _ h => (List.mem_cons_of_mem _ (List.mem_append_right _ h))) (by decide +kernel))))
set_option maxRecDepth 20000 in
theorem gX2_addBeing_X2_putEffect : GoodIn wsX2_addBeing (wsV RX2 101 RX2 yX2_putEffect wsX2_putEffect) := goodIn_app (gI_cons ⟨(List.mem_cons_of_mem _ (List.mem_append_left _ (List.mem_append_left _ (List.mem_of_getElem? (i := 19) rfl)))), (Or.inl rfl)⟩ (gI_cons ⟨(List.mem_cons_of_mem _ (List.mem_append_left _ (List.mem_append_left _ (List.mem_of_getElem? (i := 20) rfl)))), (Or.inl rfl)⟩ (gI_cons ⟨(List.mem_cons_of_mem _ (List.mem_append_left _ (List.mem_append_left _ (List.mem_of_getElem? (i := 21) rfl)))), (Or.inl rfl)⟩ (gI_cons ⟨(List.mem_cons_of_mem _ (List.mem_append_left _ (List.mem_append_left _ (List.mem_of_getElem? (i := 4) rfl)))), (Or.inl rfl)⟩ gI_nil)))) ggX2_addBeing_X2_putEffect
set_option maxRecDepth 20000 in
theorem ggX2_addBeing_X2_look : GoodIn wsX2_addBeing wsX2_look := (gI_cons ⟨(List.mem_cons_of_mem _ (List.mem_append_left _ (List.mem_append_right _ (List.mem_append_left _ (List.mem_of_getElem? (i := 4) rfl))))), (Or.inl rfl)⟩ (goodIn_app (goodIn_app (show GoodIn _ wsX2_look_r1 from (gI_cons ⟨(List.mem_cons_of_mem _ (List.mem_append_left _ (List.mem_append_right _ (List.mem_append_left _ (List.mem_of_getElem? (i := 5) rfl))))), (Or.inl rfl)⟩ (gI_cons ⟨(List.mem_cons_of_mem _ (List.mem_append_left _ (List.mem_append_left _ (List.mem_of_getElem? (i := 10) rfl)))), (Or.inl rfl)⟩ (gI_cons ⟨(List.mem_cons_of_mem _ (List.mem_append_left _ (List.mem_append_left _ (List.mem_of_getElem? (i := 11) rfl)))), (Or.inl rfl)⟩ (gI_cons ⟨(List.mem_cons_of_mem _ (List.mem_append_left _ (List.mem_append_left _ (List.mem_of_getElem? (i := 12) rfl)))), (Or.inl rfl)⟩ (gI_cons ⟨(List.mem_cons_of_mem _ (List.mem_append_left _ (List.mem_append_left _ (List.mem_of_getElem? (i := 4) rfl)))), (Or.inl rfl)⟩ (gI_cons ⟨(List.mem_cons_of_mem _ (List.mem_append_left _ (List.mem_append_left _ (List.mem_of_getElem? (i := 13) rfl)))), (Or.inl rfl)⟩ (gI_cons ⟨(List.mem_cons_of_mem _ (List.mem_append_left _ (List.mem_append_left _ (List.mem_of_getElem? (i := 14) rfl)))), (Or.inl rfl)⟩ (gI_cons ⟨(List.mem_cons_of_mem _ (List.mem_append_left _ (List.mem_append_right _ (List.mem_append_left _ (List.mem_of_getElem? (i := 6) rfl))))), (Or.inl rfl)⟩ (gI_cons ⟨(List.mem_cons_of_mem _ (List.mem_append_left _ (List.mem_append_right _ (List.mem_append_left _ (List.mem_of_getElem? (i := 7) rfl))))), (Or.inl rfl)⟩ (gI_cons ⟨(List.mem_cons_of_mem _ (List.mem_append_left _ (List.mem_append_right _ (List.mem_append_left _ (List.mem_of_getElem? (i := 8) rfl))))), (Or.inl rfl)⟩ (gI_cons ⟨(List.mem_cons_of_mem _ (List.mem_append_left _ (List.mem_append_right _ (List.mem_append_left _ (List.mem_of_getElem? (i := 9) rfl))))), (Or.inl rfl)⟩ (gI_cons ⟨(List.mem_cons_of_mem _ (List.mem_append_left _ (List.mem_append_right _ (List.mem_append_left _ (List.mem_of_getElem? (i := 10) rfl))))), (Or.inl rfl)⟩ (gI_cons ⟨(List.mem_cons_of_mem _ (List.mem_append_left _ (List.mem_append_right _ (List.mem_append_left _ (List.mem_of_getElem? (i := 11) rfl))))), (Or.inl rfl)⟩ (gI_cons ⟨(List.mem_cons_of_mem _ (List.mem_append_left _ (List.mem_append_right _ (List.mem_append_left _ (List.mem_of_getElem? (i := 12) rfl))))), (Or.inl rfl)⟩ (gI_cons ⟨(List.mem_cons_of_mem _ (List.mem_append_left _ (List.mem_append_right _ (List.mem_append_left _ (List.mem_of_getElem? (i := 13) rfl))))), (Or.inl rfl)⟩ (gI_cons ⟨(List.mem_cons_of_mem _ (List.mem_append_left _ (List.mem_append_right _ (List.mem_append_left _ (List.mem_of_getElem? (i := 14) rfl))))), (Or.inl rfl)⟩ (gI_cons ⟨(List.mem_cons_of_mem _ (List.mem_append_left _ (List.mem_append_right _ (List.mem_append_left _ (List.mem_of_getElem? (i := 15) rfl))))), (Or.inl rfl)⟩ (gI_cons ⟨(List.mem_cons_of_mem _ (List.mem_append_left _ (List.mem_append_right _ (List.mem_append_left _ (List.mem_of_getElem? (i := 16) rfl))))), (Or.inl rfl)⟩ (gI_cons ⟨(List.mem_cons_of_mem _ (List.mem_append_left _ (List.mem_append_right _ (List.mem_append_left _ (List.mem_of_getElem? (i := 17) rfl))))), (Or.inl rfl)⟩ (gI_cons ⟨(List.mem_cons_of_mem _ (List.mem_append_left _ (List.mem_append_right _ (List.mem_append_left _ (List.mem_of_getElem? (i := 18) rfl))))), (Or.inl rfl)⟩ (gI_cons ⟨(List.mem_cons_of_mem _ (List.mem_append_left _ (List.mem_append_right _ (List.mem_append_left _ (List.mem_of_getElem? (i := 19) rfl))))), (Or.inl rfl)⟩ (gI_cons ⟨(List.mem_cons_of_mem _ (List.mem_append_left _ (List.mem_append_right _ (List.mem_append_left _ (List.mem_of_getElem? (i := 20) rfl))))), (Or.inl rfl)⟩ (gI_cons ⟨(List.mem_cons_of_mem _ (List.mem_append_left _ (List.mem_append_right _ (List.mem_append_left _ (List.mem_of_getElem? (i := 21) rfl))))), (Or.inl rfl)⟩ (gI_cons ⟨(List.mem_cons_of_mem _ (List.mem_append_left _ (List.mem_append_right _ (List.mem_append_left _ (List.mem_of_getElem? (i := 22) rfl))))), (Or.inl rfl)⟩ gI_nil))))))))))))))))))))))))) (show GoodIn _ wsX2_look_r2 from (gI_cons ⟨(List.mem_cons_of_mem _ (List.mem_append_left _ (List.mem_append_right _ (List.mem_append_left _ (List.mem_of_getElem? (i := 23) rfl))))), (Or.inl rfl)⟩ (gI_cons ⟨(List.mem_cons_of_mem _ (List.mem_append_left _ (List.mem_append_right _ (List.mem_append_right _ (List.mem_of_getElem? (i := 0) rfl))))), (Or.inl rfl)⟩ (gI_cons ⟨(List.mem_cons_of_mem _ (List.mem_append_left _ (List.mem_append_right _ (List.mem_append_right _ (List.mem_of_getElem? (i := 1) rfl))))), (Or.inl rfl)⟩ (gI_cons ⟨(List.mem_cons_of_mem _ (List.mem_append_left _ (List.mem_append_right _ (List.mem_append_right _ (List.mem_of_getElem? (i := 2) rfl))))), (Or.inl rfl)⟩ (gI_cons ⟨(List.mem_cons_of_mem _ (List.mem_append_left _ (List.mem_append_right _ (List.mem_append_right _ (List.mem_of_getElem? (i := 3) rfl))))), (Or.inl rfl)⟩ (gI_cons ⟨(List.mem_cons_of_mem _ (List.mem_append_left _ (List.mem_append_right _ (List.mem_append_right _ (List.mem_of_getElem? (i := 4) rfl))))), (Or.inl rfl)⟩ (gI_cons ⟨(List.mem_cons_of_mem _ (List.mem_append_left _ (List.mem_append_right _ (List.mem_append_left _ (List.mem_of_getElem? (i := 19) rfl))))), (Or.inl rfl)⟩ (gI_cons ⟨(List.mem_cons_of_mem _ (List.mem_append_left _ (List.mem_append_right _ (List.mem_append_right _ (List.mem_of_getElem? (i := 6) rfl))))), (Or.inl rfl)⟩ (gI_cons ⟨(List.mem_cons_of_mem _ (List.mem_append_left _ (List.mem_append_right _ (List.mem_append_right _ (List.mem_of_getElem? (i := 7) rfl))))), (Or.inl rfl)⟩ (gI_cons ⟨(List.mem_cons_of_mem _ (List.mem_append_left _ (List.mem_append_right _ (List.mem_append_right _ (List.mem_of_getElem? (i := 8) rfl))))), (Or.inl rfl)⟩ (gI_cons ⟨(List.mem_cons_of_mem _ (List.mem_append_left _ (List.mem_append_right _ (List.mem_append_right _ (List.mem_of_getElem? (i := 9) rfl))))), (Or.inl rfl)⟩ (gI_cons ⟨(List.mem_cons_of_mem _ (List.mem_append_left _ (List.mem_append_right _ (List.mem_append_right _ (List.mem_of_getElem? (i := 10) rfl))))), (Or.inl rfl)⟩ (gI_cons ⟨(List.mem_cons_of_mem _ (List.mem_append_left _ (List.mem_append_right _ (List.mem_append_right _ (List.mem_of_getElem? (i := 11) rfl))))), (Or.inl rfl)⟩ (gI_cons ⟨(List.mem_cons_of_mem _ (List.mem_append_left _ (List.mem_append_right _ (List.mem_append_right _ (List.mem_of_getElem? (i := 12) rfl))))), (Or.inl rfl)⟩ (gI_cons ⟨(List.mem_cons_of_mem _ (List.mem_append_left _ (List.mem_append_right _ (List.mem_append_right _ (List.mem_of_getElem? (i := 13) rfl))))), (Or.inl rfl)⟩ (gI_cons ⟨(List.mem_cons_of_mem _ (List.mem_append_left _ (List.mem_append_right _ (List.mem_append_right _ (List.mem_of_getElem? (i := 14) rfl))))), (Or.inl rfl)⟩ gI_nil)))))))))))))))))) (goodIn_sub (fun _ h => (List.mem_cons_of_mem _ (List.mem_append_right _ h))) (by decide +kernel))))
set_option maxRecDepth 20000 in
theorem gX2_addBeing_X2_look : GoodIn wsX2_addBeing (wsV RX2 113 RX2 yX2_look wsX2_look) := goodIn_app (gI_cons ⟨(List.mem_cons_of_mem _ (List.mem_append_left _ (List.mem_append_right _ (List.mem_append_left _ (List.mem_of_getElem? (i := 1) rfl))))), (Or.inl rfl)⟩ (gI_cons ⟨(List.mem_cons_of_mem _ (List.mem_append_left _ (List.mem_append_right _ (List.mem_append_left _ (List.mem_of_getElem? (i := 2) rfl))))), (Or.inl rfl)⟩ (gI_cons ⟨(List.mem_cons_of_mem _ (List.mem_append_left _ (List.mem_append_right _ (List.mem_append_left _ (List.mem_of_getElem? (i := 3) rfl))))), (Or.inl rfl)⟩ (gI_cons ⟨(List.mem_cons_of_mem _ (List.mem_append_left _ (List.mem_append_left _ (List.mem_of_getElem? (i := 4) rfl)))), (Or.inl rfl)⟩ gI_nil)))) ggX2_addBeing_X2_look
theorem dX2_addBeing_0 : decode cX2_addBeing 0 = .ok (.aload_n 0, 1) := by decide +kernel
theorem dX2_addBeing_1 : decode cX2_addBeing 1 = .ok (.invokevirtual 105, 3) := by decide +kernel
theorem dX2_addBeing_4 : decode cX2_addBeing 4 = .ok (.istore 4, 2) := by decide +kernel
theorem dX2_addBeing_6 : decode cX2_addBeing 6 = .ok (.aload_n 0, 1) := by decide +kernel
theorem dX2_addBeing_7 : decode cX2_addBeing 7 = .ok (.getfield 39, 3) := by decide +kernel
theorem dX2_addBeing_10 : decode cX2_addBeing 10 = .ok (.istore 5, 2) := by decide +kernel
theorem dX2_addBeing_12 : decode cX2_addBeing 12 = .ok (.aload_n 0, 1) := by decide +kernel
theorem dX2_addBeing_13 : decode cX2_addBeing 13 = .ok (.dup, 1) := by decide +kernel
theorem dX2_addBeing_14 : decode cX2_addBeing 14 = .ok (.getfield 39, 3) := by decide +kernel
theorem dX2_addBeing_17 : decode cX2_addBeing 17 = .ok (.iconst 1, 1) := by decide +kernel
theorem dX2_addBeing_18 : decode cX2_addBeing 18 = .ok (.iadd, 1) := by decide +kernel
theorem dX2_addBeing_19 : decode cX2_addBeing 19 = .ok (.putfield 39, 3) := by decide +kernel
theorem dX2_addBeing_22 : decode cX2_addBeing 22 = .ok (.aload_n 0, 1) := by decide +kernel
theorem dX2_addBeing_23 : decode cX2_addBeing 23 = .ok (.iload 5, 2) := by decide +kernel
theorem dX2_addBeing_25 : decode cX2_addBeing 25 = .ok (.iconst 0, 1) := by decide +kernel
theorem dX2_addBeing_26 : decode cX2_addBeing 26 = .ok (.iload_n 1, 1) := by decide +kernel
theorem dX2_addBeing_27 : decode cX2_addBeing 27 = .ok (.invokevirtual 109, 3) := by decide +kernel
theorem dX2_addBeing_30 : decode cX2_addBeing 30 = .ok (.aload_n 0, 1) := by decide +kernel
theorem dX2_addBeing_31 : decode cX2_addBeing 31 = .ok (.iload 5, 2) := by decide +kernel
theorem dX2_addBeing_33 : decode cX2_addBeing 33 = .ok (.iconst 1, 1) := by decide +kernel
theorem dX2_addBeing_34 : decode cX2_addBeing 34 = .ok (.iload_n 2, 1) := by decide +kernel
theorem dX2_addBeing_35 : decode cX2_addBeing 35 = .ok (.invokevirtual 109, 3) := by decide +kernel
theorem dX2_addBeing_38 : decode cX2_addBeing 38 = .ok (.aload_n 0, 1) := by decide +kernel
theorem dX2_addBeing_39 : decode cX2_addBeing 39 = .ok (.iload 5, 2) := by decide +kernel
theorem dX2_addBeing_41 : decode cX2_addBeing 41 = .ok (.iconst 2, 1) := by decide +kernel
theorem dX2_addBeing_42 : decode cX2_addBeing 42 = .ok (.iload_n 3, 1) := by decide +kernel
theorem dX2_addBeing_43 : decode cX2_addBeing 43 = .ok (.invokevirtual 109, 3) := by decide +kernel
theorem dX2_addBeing_46 : decode cX2_addBeing 46 = .ok (.aload_n 0, 1) := by decide +kernel
theorem dX2_addBeing_47 : decode cX2_addBeing 47 = .ok (.iload 5, 2) := by decide +kernel
theorem dX2_addBeing_49 : decode cX2_addBeing 49 = .ok (.iconst 3, 1) := by decide +kernel
theorem dX2_addBeing_50 : decode cX2_addBeing 50 = .ok (.iload_n 3, 1) := by decide +kernel
theorem dX2_addBeing_51 : decode cX2_addBeing 51 = .ok (.invokevirtual 109, 3) := by decide +kernel
theorem dX2_addBeing_54 : decode cX2_addBeing 54 = .ok (.aload_n 0, 1) := by decide +kernel
theorem dX2_addBeing_55 : decode cX2_addBeing 55 = .ok (.iload 5, 2) := by decide +kernel
theorem dX2_addBeing_57 : decode cX2_addBeing 57 = .ok (.iconst 4, 1) := by decide +kernel
theorem dX2_addBeing_58 : decode cX2_addBeing 58 = .ok (.iconst 5, 1) := by decide +kernel
theorem dX2_addBeing_59 : decode cX2_addBeing 59 = .ok (.invokevirtual 109, 3) := by decide +kernel
theorem dX2_addBeing_62 : decode cX2_addBeing 62 = .ok (.aload_n 0, 1) := by decide +kernel
theorem dX2_addBeing_63 : decode cX2_addBeing 63 = .ok (.iload 5, 2) := by decide +kernel
theorem dX2_addBeing_65 : decode cX2_addBeing 65 = .ok (.iconst 5, 1) := by decide +kernel
theorem dX2_addBeing_66 : decode cX2_addBeing 66 = .ok (.iconst 2, 1) := by decide +kernel
theorem dX2_addBeing_67 : decode cX2_addBeing 67 = .ok (.invokevirtual 109, 3) := by decide +kernel
theorem dX2_addBeing_70 : decode cX2_addBeing 70 = .ok (.aload_n 0, 1) := by decide +kernel
theorem dX2_addBeing_71 : decode cX2_addBeing 71 = .ok (.iload 5, 2) := by decide +kernel
theorem dX2_addBeing_73 : decode cX2_addBeing 73 = .ok (.bipush 6, 2) := by decide +kernel
theorem dX2_addBeing_75 : decode cX2_addBeing 75 = .ok (.iconst 2, 1) := by decide +kernel
theorem dX2_addBeing_76 : decode cX2_addBeing 76 = .ok (.invokevirtual 109, 3) := by decide +kernel
theorem dX2_addBeing_79 : decode cX2_addBeing 79 = .ok (.aload_n 0, 1) := by decide +kernel
theorem dX2_addBeing_80 : decode cX2_addBeing 80 = .ok (.iload 5, 2) := by decide +kernel
theorem dX2_addBeing_82 : decode cX2_addBeing 82 = .ok (.bipush 7, 2) := by decide +kernel
theorem dX2_addBeing_84 : decode cX2_addBeing 84 = .ok (.iconst 3, 1) := by decide +kernel
theorem dX2_addBeing_85 : decode cX2_addBeing 85 = .ok (.invokevirtual 109, 3) := by decide +kernel
theorem dX2_addBeing_88 : decode cX2_addBeing 88 = .ok (.aload_n 0, 1) := by decide +kernel
theorem dX2_addBeing_89 : decode cX2_addBeing 89 = .ok (.iload 5, 2) := by decide +kernel
theorem dX2_addBeing_91 : decode cX2_addBeing 91 = .ok (.bipush 8, 2) := by decide +kernel
theorem dX2_addBeing_93 : decode cX2_addBeing 93 = .ok (.iload 4, 2) := by decide +kernel
theorem dX2_addBeing_95 : decode cX2_addBeing 95 = .ok (.iconst (-1), 1) := by decide +kernel
theorem dX2_addBeing_96 : decode cX2_addBeing 96 = .ok (.if_icmp .ne 7, 3) := by decide +kernel
theorem dX2_addBeing_99 : decode cX2_addBeing 99 = .ok (.iconst 0, 1) := by decide +kernel
theorem dX2_addBeing_100 : decode cX2_addBeing 100 = .ok (.goto 11, 3) := by decide +kernel
theorem dX2_addBeing_103 : decode cX2_addBeing 103 = .ok (.aload_n 0, 1) := by decide +kernel
theorem dX2_addBeing_104 : decode cX2_addBeing 104 = .ok (.iload 4, 2) := by decide +kernel
theorem dX2_addBeing_106 : decode cX2_addBeing 106 = .ok (.bipush 8, 2) := by decide +kernel
theorem dX2_addBeing_108 : decode cX2_addBeing 108 = .ok (.invokevirtual 86, 3) := by decide +kernel
theorem dX2_addBeing_111 : decode cX2_addBeing 111 = .ok (.invokevirtual 109, 3) := by decide +kernel
theorem dX2_addBeing_114 : decode cX2_addBeing 114 = .ok (.iconst 0, 1) := by decide +kernel
theorem dX2_addBeing_115 : decode cX2_addBeing 115 = .ok (.istore 6, 2) := by decide +kernel
theorem dX2_addBeing_117 : decode cX2_addBeing 117 = .ok (.iload 6, 2) := by decide +kernel
theorem dX2_addBeing_119 : decode cX2_addBeing 119 = .ok (.iconst 5, 1) := by decide +kernel
theorem dX2_addBeing_120 : decode cX2_addBeing 120 = .ok (.if_icmp .ge 19, 3) := by decide +kernel
theorem dX2_addBeing_123 : decode cX2_addBeing 123 = .ok (.aload_n 0, 1) := by decide +kernel
theorem dX2_addBeing_124 : decode cX2_addBeing 124 = .ok (.iload 5, 2) := by decide +kernel
theorem dX2_addBeing_126 : decode cX2_addBeing 126 = .ok (.iload 6, 2) := by decide +kernel
theorem dX2_addBeing_128 : decode cX2_addBeing 128 = .ok (.iconst 0, 1) := by decide +kernel
theorem dX2_addBeing_129 : decode cX2_addBeing 129 = .ok (.iconst 0, 1) := by decide +kernel
theorem dX2_addBeing_130 : decode cX2_addBeing 130 = .ok (.invokevirtual 101, 3) := by decide +kernel
theorem dX2_addBeing_133 : decode cX2_addBeing 133 = .ok (.iinc 6 1, 3) := by decide +kernel
theorem dX2_addBeing_136 : decode cX2_addBeing 136 = .ok (.goto (-19), 3) := by decide +kernel
theorem dX2_addBeing_139 : decode cX2_addBeing 139 = .ok (.aload_n 0, 1) := by decide +kernel
theorem dX2_addBeing_140 : decode cX2_addBeing 140 = .ok (.iload 5, 2) := by decide +kernel
theorem dX2_addBeing_142 : decode cX2_addBeing 142 = .ok (.invokevirtual 113, 3) := by decide +kernel
theorem dX2_addBeing_145 : decode cX2_addBeing 145 = .ok (.iload 5, 2) := by decide +kernel
theorem dX2_addBeing_147 : decode cX2_addBeing 147 = .ok (.ireturn, 1) := by decide +kernel
set_option maxRecDepth 20000 in
theorem ggX2_isAlive_X2_trait : GoodIn wsX2_isAlive wsX2_trait := (gI_cons ⟨(List.mem_cons_of_mem _ (List.mem_append_left _ (List.mem_of_getElem? (i := 4) rfl))), (Or.inl rfl)⟩ (goodIn_app (gI_cons ⟨(List.mem_cons_of_mem _ (List.mem_append_left _ (List.mem_of_getElem? (i := 5) rfl))), (Or.inl rfl)⟩ gI_nil) (goodIn_sub (fun _ h => (List.mem_cons_of_mem _ (List.mem_append_right _ h))) (by decide +kernel))))
set_option maxRecDepth 20000 in
theorem gX2_isAlive_X2_trait : GoodIn wsX2_isAlive (wsV RX2 86 RX2 yX2_trait wsX2_trait) := goodIn_app (gI_cons ⟨(List.mem_cons_of_mem _ (List.mem_append_left _ (List.mem_of_getElem? (i := 0) rfl))), (Or.inl rfl)⟩ (gI_cons ⟨(List.mem_cons_of_mem _ (List.mem_append_left _ (List.mem_of_getElem? (i := 1) rfl))), (Or.inl rfl)⟩ (gI_cons ⟨(List.mem_cons_of_mem _ (List.mem_append_left _ (List.mem_of_getElem? (i := 2) rfl))), (Or.inl rfl)⟩ (gI_cons ⟨(List.mem_cons_of_mem _ (List.mem_append_left _ (List.mem_of_getElem? (i := 3) rfl))), (Or.inl rfl)⟩ gI_nil)))) ggX2_isAlive_X2_trait
theorem dX2_isAlive_0 : decode cX2_isAlive 0 = .ok (.aload_n 0, 1) := by decide +kernel
theorem dX2_isAlive_1 : decode cX2_isAlive 1 = .ok (.iload_n 1, 1) := by decide +kernel
theorem dX2_isAlive_2 : decode cX2_isAlive 2 = .ok (.iconst 2, 1) := by decide +kernel
theorem dX2_isAlive_3 : decode cX2_isAlive 3 = .ok (.invokevirtual 86, 3) := by decide +kernel
theorem dX2_isAlive_6 : decode cX2_isAlive 6 = .ok (.ifCond .le 7, 3) := by decide +kernel
theorem dX2_isAlive_9 : decode cX2_isAlive 9 = .ok (.iconst 1, 1) := by decide +kernel
theorem dX2_isAlive_10 : decode cX2_isAlive 10 = .ok (.goto 4, 3) := by decide +kernel
theorem dX2_isAlive_13 : decode cX2_isAlive 13 = .ok (.iconst 0, 1) := by decide +kernel
theorem dX2_isAlive_14 : decode cX2_isAlive 14 = .ok (.ireturn, 1) := by decide +kernel
set_option maxRecDepth 20000 in
theorem ggX2_isAfraid_X2_trait : GoodIn wsX2_isAfraid wsX2_trait := (gI_cons ⟨(List.mem_cons_of_mem _ (List.mem_append_left _ (List.mem_of_getElem? (i := 4) rfl))), (Or.inl rfl)⟩ (goodIn_app (gI_cons ⟨(List.mem_cons_of_mem _ (List.mem_append_left _ (List.mem_of_getElem? (i := 5) rfl))), (Or.inl rfl)⟩ gI_nil) (goodIn_sub (fun _ h => (List.mem_cons_of_mem _ (List.mem_append_right _ h))) (by decide +kernel))))
set_option maxRecDepth 20000 in
theorem gX2_isAfraid_X2_trait : GoodIn wsX2_isAfraid (wsV RX2 86 RX2 yX2_trait wsX2_trait) := goodIn_app (gI_cons ⟨(List.mem_cons_of_mem _ (List.mem_append_left _ (List.mem_of_getElem? (i := 0) rfl))), (Or.inl rfl)⟩ (gI_cons ⟨(List.mem_cons_of_mem _ (List.mem_append_left _ (List.mem_of_getElem? (i := 1) rfl))), (Or.inl rfl)⟩ (gI_cons ⟨(List.mem_cons_of_mem _ (List.mem_append_left _ (List.mem_of_getElem? (i := 2) rfl))), (Or.inl rfl)⟩ (gI_cons ⟨(List.mem_cons_of_mem _ (List.mem_append_left _ (List.mem_of_getElem? (i := 3) rfl))), (Or.inl rfl)⟩ gI_nil)))) ggX2_isAfraid_X2_trait
theorem dX2_isAfraid_0 : decode cX2_isAfraid 0 = .ok (.iconst 3, 1) := by decide +kernel
theorem dX2_isAfraid_1 : decode cX2_isAfraid 1 = .ok (.aload_n 0, 1) := by decide +kernel
theorem dX2_isAfraid_2 : decode cX2_isAfraid 2 = .ok (.iload_n 1, 1) := by decide +kernel
theorem dX2_isAfraid_3 : decode cX2_isAfraid 3 = .ok (.iconst 2, 1) := by decide +kernel
theorem dX2_isAfraid_4 : decode cX2_isAfraid 4 = .ok (.invokevirtual 86, 3) := by decide +kernel
theorem dX2_isAfraid_7 : decode cX2_isAfraid 7 = .ok (.imul, 1) := by decide +kernel
theorem dX2_isAfraid_8 : decode cX2_isAfraid 8 = .ok (.aload_n 0, 1) := by decide +kernel
theorem dX2_isAfraid_9 : decode cX2_isAfraid 9 = .ok (.iload_n 1, 1) := by decide +kernel
theorem dX2_isAfraid_10 : decode cX2_isAfraid 10 = .ok (.iconst 3, 1) := by decide +kernel
theorem dX2_isAfraid_11 : decode cX2_isAfraid 11 = .ok (.invokevirtual 86, 3) := by decide +kernel
theorem dX2_isAfraid_14 : decode cX2_isAfraid 14 = .ok (.if_icmp .ge 7, 3) := by decide +kernel
theorem dX2_isAfraid_17 : decode cX2_isAfraid 17 = .ok (.iconst 1, 1) := by decide +kernel
theorem dX2_isAfraid_18 : decode cX2_isAfraid 18 = .ok (.goto 4, 3) := by decide +kernel
theorem dX2_isAfraid_21 : decode cX2_isAfraid 21 = .ok (.iconst 0, 1) := by decide +kernel
theorem dX2_isAfraid_22 : decode cX2_isAfraid 22 = .ok (.ireturn, 1) := by decide +kernel
set_option maxRecDepth 20000 in
theorem ggX2_whoIsOn_X2_trait : GoodIn wsX2_whoIsOn wsX2_trait := (gI_cons ⟨(List.mem_cons_of_mem _ (List.mem_append_left _ (List.mem_of_getElem? (i := 5) rfl))), (Or.inl rfl)⟩ (goodIn_app (gI_cons ⟨(List.mem_cons_of_mem _ (List.mem_append_left _ (List.mem_of_getElem? (i := 6) rfl))), (Or.inl rfl)⟩ gI_nil) (goodIn_sub (fun _ h => (List.mem_cons_of_mem _ (List.mem_append_right _ h))) (by decide +kernel))))
set_option maxRecDepth 20000 in
theorem gX2_whoIsOn_X2_trait : GoodIn wsX2_whoIsOn (wsV RX2 86 RX2 yX2_trait wsX2_trait) := goodIn_app (gI_cons ⟨(List.mem_cons_of_mem _ (List.mem_append_left _ (List.mem_of_getElem? (i := 1) rfl))), (Or.inl rfl)⟩ (gI_cons ⟨(List.mem_cons_of_mem _ (List.mem_append_left _ (List.mem_of_getElem? (i := 2) rfl))), (Or.inl rfl)⟩ (gI_cons ⟨(List.mem_cons_of_mem _ (List.mem_append_left _ (List.mem_of_getElem? (i := 3) rfl))), (Or.inl rfl)⟩ (gI_cons ⟨(List.mem_cons_of_mem _ (List.mem_append_left _ (List.mem_of_getElem? (i := 4) rfl))), (Or.inl rfl)⟩ gI_nil)))) ggX2_whoIsOn_X2_trait
theorem dX2_whoIsOn_0 : decode cX2_whoIsOn 0 = .ok (.iconst 0, 1) := by decide +kernel
theorem dX2_whoIsOn_1 : decode cX2_whoIsOn 1 = .ok (.istore_n 2, 1) := by decide +kernel
theorem dX2_whoIsOn_2 : decode cX2_whoIsOn 2 = .ok (.iload_n 2, 1) := by decide +kernel
theorem dX2_whoIsOn_3 : decode cX2_whoIsOn 3 = .ok (.aload_n 0, 1) := by decide +kernel
theorem dX2_whoIsOn_4 : decode cX2_whoIsOn 4 = .ok (.getfield 39, 3) := by decide +kernel
theorem dX2_whoIsOn_7 : decode cX2_whoIsOn 7 = .ok (.if_icmp .ge 21, 3) := by decide +kernel
theorem dX2_whoIsOn_10 : decode cX2_whoIsOn 10 = .ok (.aload_n 0, 1) := by decide +kernel
theorem dX2_whoIsOn_11 : decode cX2_whoIsOn 11 = .ok (.iload_n 2, 1) := by decide +kernel
theorem dX2_whoIsOn_12 : decode cX2_whoIsOn 12 = .ok (.iconst 1, 1) := by decide +kernel
theorem dX2_whoIsOn_13 : decode cX2_whoIsOn 13 = .ok (.invokevirtual 86, 3) := by decide +kernel
theorem dX2_whoIsOn_16 : decode cX2_whoIsOn 16 = .ok (.iload_n 1, 1) := by decide +kernel
theorem dX2_whoIsOn_17 : decode cX2_whoIsOn 17 = .ok (.if_icmp .ne 5, 3) := by decide +kernel
theorem dX2_whoIsOn_20 : decode cX2_whoIsOn 20 = .ok (.iload_n 2, 1) := by decide +kernel
theorem dX2_whoIsOn_21 : decode cX2_whoIsOn 21 = .ok (.ireturn, 1) := by decide +kernel
theorem dX2_whoIsOn_22 : decode cX2_whoIsOn 22 = .ok (.iinc 2 1, 3) := by decide +kernel
theorem dX2_whoIsOn_25 : decode cX2_whoIsOn 25 = .ok (.goto (-23), 3) := by decide +kernel
theorem dX2_whoIsOn_28 : decode cX2_whoIsOn 28 = .ok (.iconst (-1), 1) := by decide +kernel
theorem dX2_whoIsOn_29 : decode cX2_whoIsOn 29 = .ok (.ireturn, 1) := by decide +kernel
set_option maxRecDepth 20000 in
theorem ggX2_living_X2_trait : GoodIn wsX2_living wsX2_trait := (gI_cons ⟨(List.mem_cons_of_mem _ (List.mem_append_left _ (List.mem_of_getElem? (i := 5) rfl))), (Or.inl rfl)⟩ (goodIn_app (gI_cons ⟨(List.mem_cons_of_mem _ (List.mem_append_left _ (List.mem_of_getElem? (i := 6) rfl))), (Or.inl rfl)⟩ gI_nil) (goodIn_sub (fun _ h => (List.mem_cons_of_mem _ (List.mem_append_right _ h))) (by decide +kernel))))
set_option maxRecDepth 20000 in
theorem gX2_living_X2_trait : GoodIn wsX2_living (wsV RX2 86 RX2 yX2_trait wsX2_trait) := goodIn_app (gI_cons ⟨(List.mem_cons_of_mem _ (List.mem_append_left _ (List.mem_of_getElem? (i := 1) rfl))), (Or.inl rfl)⟩ (gI_cons ⟨(List.mem_cons_of_mem _ (List.mem_append_left _ (List.mem_of_getElem? (i := 2) rfl))), (Or.inl rfl)⟩ (gI_cons ⟨(List.mem_cons_of_mem _ (List.mem_append_left _ (List.mem_of_getElem? (i := 3) rfl))), (Or.inl rfl)⟩ (gI_cons ⟨(List.mem_cons_of_mem _ (List.mem_append_left _ (List.mem_of_getElem? (i := 4) rfl))), (Or.inl rfl)⟩ gI_nil)))) ggX2_living_X2_trait
set_option maxRecDepth 20000 in
theorem ggX2_living_X2_isAlive : GoodIn wsX2_living wsX2_isAlive := (gI_cons ⟨(List.mem_cons_of_mem _ (List.mem_append_left _ (List.mem_of_getElem? (i := 10) rfl))), (Or.inl rfl)⟩ (goodIn_app (gI_cons ⟨(List.mem_cons_of_mem _ (List.mem_append_left _ (List.mem_of_getElem? (i := 1) rfl))), (Or.inl rfl)⟩ (gI_cons ⟨(List.mem_cons_of_mem _ (List.mem_append_left _ (List.mem_of_getElem? (i := 2) rfl))), (Or.inl rfl)⟩ (gI_cons ⟨(List.mem_cons_of_mem _ (List.mem_append_left _ (List.mem_of_getElem? (i := 3) rfl))), (Or.inl rfl)⟩ (gI_cons ⟨(List.mem_cons_of_mem _ (List.mem_append_left _ (List.mem_of_getElem? (i := 4) rfl))), (Or.inl rfl)⟩ (gI_cons ⟨(List.mem_cons_of_mem _ (List.mem_append_left _ (List.mem_of_getElem? (i := 5) rfl))), (Or.inl rfl)⟩ (gI_cons ⟨(List.mem_cons_of_mem _ (List.mem_append_left _ (List.mem_of_getElem? (i := 6) rfl))), (Or.inl rfl)⟩ gI_nil)))))) (goodIn_sub (fun _ h => (List.mem_cons_of_mem _ (List.mem_append_right _ h))) (by decide +kernel))))
set_option maxRecDepth 20000 in
theorem gX2_living_X2_isAlive : GoodIn wsX2_living (wsV RX2 117 RX2 yX2_isAlive wsX2_isAlive) := goodIn_app (gI_cons ⟨(List.mem_cons_of_mem _ (List.mem_append_left _ (List.mem_of_getElem? (i := 7) rfl))), (Or.inl rfl)⟩ (gI_cons ⟨(List.mem_cons_of_mem _ (List.mem_append_left _ (List.mem_of_getElem? (i := 8) rfl))), (Or.inl rfl)⟩ (gI_cons ⟨(List.mem_cons_of_mem _ (List.mem_append_left _ (List.mem_of_getElem? (i := 9) rfl))), (Or.inl rfl)⟩ (gI_cons ⟨(List.mem_cons_of_mem _ (List.mem_append_left _ (List.mem_of_getElem? (i := 4) rfl))), (Or.inl rfl)⟩ gI_nil)))) ggX2_living_X2_isAlive
theorem dX2_living_0 : decode cX2_living 0 = .ok (.iconst 0, 1) := by decide +kernel
theorem dX2_living_1 : decode cX2_living 1 = .ok (.istore_n 2, 1) := by decide +kernel
theorem dX2_living_2 : decode cX2_living 2 = .ok (.iconst 0, 1) := by decide +kernel
theorem dX2_living_3 : decode cX2_living 3 = .ok (.istore_n 3, 1) := by decide +kernel
theorem dX2_living_4 : decode cX2_living 4 = .ok (.iload_n 3, 1) := by decide +kernel
theorem dX2_living_5 : decode cX2_living 5 = .ok (.aload_n 0, 1) := by decide +kernel
theorem dX2_living_6 : decode cX2_living 6 = .ok (.getfield 39, 3) := by decide +kernel
theorem dX2_living_9 : decode cX2_living 9 = .ok (.if_icmp .ge 30, 3) := by decide +kernel
theorem dX2_living_12 : decode cX2_living 12 = .ok (.aload_n 0, 1) := by decide +kernel
theorem dX2_living_13 : decode cX2_living 13 = .ok (.iload_n 3, 1) := by decide +kernel
theorem dX2_living_14 : decode cX2_living 14 = .ok (.iconst 0, 1) := by decide +kernel
theorem dX2_living_15 : decode cX2_living 15 = .ok (.invokevirtual 86, 3) := by decide +kernel
theorem dX2_living_18 : decode cX2_living 18 = .ok (.iload_n 1, 1) := by decide +kernel
theorem dX2_living_19 : decode cX2_living 19 = .ok (.if_icmp .ne 14, 3) := by decide +kernel
theorem dX2_living_22 : decode cX2_living 22 = .ok (.aload_n 0, 1) := by decide +kernel
theorem dX2_living_23 : decode cX2_living 23 = .ok (.iload_n 3, 1) := by decide +kernel
theorem dX2_living_24 : decode cX2_living 24 = .ok (.invokevirtual 117, 3) := by decide +kernel
theorem dX2_living_27 : decode cX2_living 27 = .ok (.ifCond .eq 6, 3) := by decide +kernel
theorem dX2_living_30 : decode cX2_living 30 = .ok (.iinc 2 1, 3) := by decide +kernel
theorem dX2_living_33 : decode cX2_living 33 = .ok (.iinc 3 1, 3) := by decide +kernel
theorem dX2_living_36 : decode cX2_living 36 = .ok (.goto (-32), 3) := by decide +kernel
theorem dX2_living_39 : decode cX2_living 39 = .ok (.iload_n 2, 1) := by decide +kernel
theorem dX2_living_40 : decode cX2_living 40 = .ok (.ireturn, 1) := by decide +kernel
set_option maxRecDepth 20000 in
theorem ggX2_lifeOf_X2_trait : GoodIn wsX2_lifeOf wsX2_trait := (gI_cons ⟨(List.mem_cons_of_mem _ (List.mem_append_left _ (List.mem_of_getElem? (i := 5) rfl))), (Or.inl rfl)⟩ (goodIn_app (gI_cons ⟨(List.mem_cons_of_mem _ (List.mem_append_left _ (List.mem_of_getElem? (i := 6) rfl))), (Or.inl rfl)⟩ gI_nil) (goodIn_sub (fun _ h => (List.mem_cons_of_mem _ (List.mem_append_right _ h))) (by decide +kernel))))
set_option maxRecDepth 20000 in
theorem gX2_lifeOf_X2_trait : GoodIn wsX2_lifeOf (wsV RX2 86 RX2 yX2_trait wsX2_trait) := goodIn_app (gI_cons ⟨(List.mem_cons_of_mem _ (List.mem_append_left _ (List.mem_of_getElem? (i := 1) rfl))), (Or.inl rfl)⟩ (gI_cons ⟨(List.mem_cons_of_mem _ (List.mem_append_left _ (List.mem_of_getElem? (i := 2) rfl))), (Or.inl rfl)⟩ (gI_cons ⟨(List.mem_cons_of_mem _ (List.mem_append_left _ (List.mem_of_getElem? (i := 3) rfl))), (Or.inl rfl)⟩ (gI_cons ⟨(List.mem_cons_of_mem _ (List.mem_append_left _ (List.mem_of_getElem? (i := 4) rfl))), (Or.inl rfl)⟩ gI_nil)))) ggX2_lifeOf_X2_trait
theorem dX2_lifeOf_0 : decode cX2_lifeOf 0 = .ok (.iconst 0, 1) := by decide +kernel
theorem dX2_lifeOf_1 : decode cX2_lifeOf 1 = .ok (.istore_n 2, 1) := by decide +kernel
theorem dX2_lifeOf_2 : decode cX2_lifeOf 2 = .ok (.iconst 0, 1) := by decide +kernel
theorem dX2_lifeOf_3 : decode cX2_lifeOf 3 = .ok (.istore_n 3, 1) := by decide +kernel
theorem dX2_lifeOf_4 : decode cX2_lifeOf 4 = .ok (.iload_n 3, 1) := by decide +kernel
theorem dX2_lifeOf_5 : decode cX2_lifeOf 5 = .ok (.aload_n 0, 1) := by decide +kernel
theorem dX2_lifeOf_6 : decode cX2_lifeOf 6 = .ok (.getfield 39, 3) := by decide +kernel
theorem dX2_lifeOf_9 : decode cX2_lifeOf 9 = .ok (.if_icmp .ge 28, 3) := by decide +kernel
theorem dX2_lifeOf_12 : decode cX2_lifeOf 12 = .ok (.aload_n 0, 1) := by decide +kernel
theorem dX2_lifeOf_13 : decode cX2_lifeOf 13 = .ok (.iload_n 3, 1) := by decide +kernel
theorem dX2_lifeOf_14 : decode cX2_lifeOf 14 = .ok (.iconst 0, 1) := by decide +kernel
theorem dX2_lifeOf_15 : decode cX2_lifeOf 15 = .ok (.invokevirtual 86, 3) := by decide +kernel
theorem dX2_lifeOf_18 : decode cX2_lifeOf 18 = .ok (.iload_n 1, 1) := by decide +kernel
theorem dX2_lifeOf_19 : decode cX2_lifeOf 19 = .ok (.if_icmp .ne 12, 3) := by decide +kernel
theorem dX2_lifeOf_22 : decode cX2_lifeOf 22 = .ok (.iload_n 2, 1) := by decide +kernel
theorem dX2_lifeOf_23 : decode cX2_lifeOf 23 = .ok (.aload_n 0, 1) := by decide +kernel
theorem dX2_lifeOf_24 : decode cX2_lifeOf 24 = .ok (.iload_n 3, 1) := by decide +kernel
theorem dX2_lifeOf_25 : decode cX2_lifeOf 25 = .ok (.iconst 2, 1) := by decide +kernel
theorem dX2_lifeOf_26 : decode cX2_lifeOf 26 = .ok (.invokevirtual 86, 3) := by decide +kernel
theorem dX2_lifeOf_29 : decode cX2_lifeOf 29 = .ok (.iadd, 1) := by decide +kernel
theorem dX2_lifeOf_30 : decode cX2_lifeOf 30 = .ok (.istore_n 2, 1) := by decide +kernel
theorem dX2_lifeOf_31 : decode cX2_lifeOf 31 = .ok (.iinc 3 1, 3) := by decide +kernel
theorem dX2_lifeOf_34 : decode cX2_lifeOf 34 = .ok (.goto (-30), 3) := by decide +kernel
theorem dX2_lifeOf_37 : decode cX2_lifeOf 37 = .ok (.iload_n 2, 1) := by decide +kernel
theorem dX2_lifeOf_38 : decode cX2_lifeOf 38 = .ok (.ireturn, 1) := by decide +kernel
set_option maxRecDepth 20000 in
theorem ggX2_whoseTurn_X2_isAlive : GoodIn wsX2_whoseTurn wsX2_isAlive := (gI_cons ⟨(List.mem_cons_of_mem _ (List.mem_append_left _ (List.mem_of_getElem? (i := 5) rfl))), (Or.inl rfl)⟩ (goodIn_app (gI_cons ⟨(List.mem_cons_of_mem _ (List.mem_append_left _ (List.mem_of_getElem? (i := 6) rfl))), (Or.inl rfl)⟩ (gI_cons ⟨(List.mem_cons_of_mem _ (List.mem_append_left _ (List.mem_of_getElem? (i := 7) rfl))), (Or.inl rfl)⟩ (gI_cons ⟨(List.mem_cons_of_mem _ (List.mem_append_left _ (List.mem_of_getElem? (i := 8) rfl))), (Or.inl rfl)⟩ (gI_cons ⟨(List.mem_cons_of_mem _ (List.mem_append_left _ (List.mem_of_getElem? (i := 4) rfl))), (Or.inl rfl)⟩ (gI_cons ⟨(List.mem_cons_of_mem _ (List.mem_append_left _ (List.mem_of_getElem? (i := 9) rfl))), (Or.inl rfl)⟩ (gI_cons ⟨(List.mem_cons_of_mem _ (List.mem_append_left _ (List.mem_of_getElem? (i := 10) rfl))), (Or.inl rfl)⟩ gI_nil)))))) (goodIn_sub (fun _ h => (List.mem_cons_of_mem _ (List.mem_append_right _ h))) (by decide +kernel))))
set_option maxRecDepth 20000 in
theorem gX2_whoseTurn_X2_isAlive : GoodIn wsX2_whoseTurn (wsV RX2 117 RX2 yX2_isAlive wsX2_isAlive) := goodIn_app (gI_cons ⟨(List.mem_cons_of_mem _ (List.mem_append_left _ (List.mem_of_getElem? (i := 1) rfl))), (Or.inl rfl)⟩ (gI_cons ⟨(List.mem_cons_of_mem _ (List.mem_append_left _ (List.mem_of_getElem? (i := 2) rfl))), (Or.inl rfl)⟩ (gI_cons ⟨(List.mem_cons_of_mem _ (List.mem_append_left _ (List.mem_of_getElem? (i := 3) rfl))), (Or.inl rfl)⟩ (gI_cons ⟨(List.mem_cons_of_mem _ (List.mem_append_left _ (List.mem_of_getElem? (i := 4) rfl))), (Or.inl rfl)⟩ gI_nil)))) ggX2_whoseTurn_X2_isAlive
set_option maxRecDepth 20000 in
theorem ggX2_whoseTurn_X2_trait : GoodIn wsX2_whoseTurn wsX2_trait := (gI_cons ⟨(List.mem_cons_of_mem _ (List.mem_append_left _ (List.mem_of_getElem? (i := 9) rfl))), (Or.inl rfl)⟩ (goodIn_app (gI_cons ⟨(List.mem_cons_of_mem _ (List.mem_append_left _ (List.mem_of_getElem? (i := 10) rfl))), (Or.inl rfl)⟩ gI_nil) (goodIn_sub (fun _ h => (List.mem_cons_of_mem _ (List.mem_append_right _ h))) (by decide +kernel))))
set_option maxRecDepth 20000 in
theorem gX2_whoseTurn_X2_trait : GoodIn wsX2_whoseTurn (wsV RX2 86 RX2 yX2_trait wsX2_trait) := goodIn_app (gI_cons ⟨(List.mem_cons_of_mem _ (List.mem_append_left _ (List.mem_of_getElem? (i := 6) rfl))), (Or.inl rfl)⟩ (gI_cons ⟨(List.mem_cons_of_mem _ (List.mem_append_left _ (List.mem_of_getElem? (i := 7) rfl))), (Or.inl rfl)⟩ (gI_cons ⟨(List.mem_cons_of_mem _ (List.mem_append_left _ (List.mem_of_getElem? (i := 8) rfl))), (Or.inl rfl)⟩ (gI_cons ⟨(List.mem_cons_of_mem _ (List.mem_append_left _ (List.mem_of_getElem? (i := 4) rfl))), (Or.inl rfl)⟩ gI_nil)))) ggX2_whoseTurn_X2_trait
theorem dX2_whoseTurn_0 : decode cX2_whoseTurn 0 = .ok (.iconst (-1), 1) := by decide +kernel
theorem dX2_whoseTurn_1 : decode cX2_whoseTurn 1 = .ok (.istore_n 1, 1) := by decide +kernel
theorem dX2_whoseTurn_2 : decode cX2_whoseTurn 2 = .ok (.iconst 0, 1) := by decide +kernel
theorem dX2_whoseTurn_3 : decode cX2_whoseTurn 3 = .ok (.istore_n 2, 1) := by decide +kernel
theorem dX2_whoseTurn_4 : decode cX2_whoseTurn 4 = .ok (.iload_n 2, 1) := by decide +kernel
theorem dX2_whoseTurn_5 : decode cX2_whoseTurn 5 = .ok (.aload_n 0, 1) := by decide +kernel
theorem dX2_whoseTurn_6 : decode cX2_whoseTurn 6 = .ok (.getfield 39, 3) := by decide +kernel
theorem dX2_whoseTurn_9 : decode cX2_whoseTurn 9 = .ok (.if_icmp .ge 41, 3) := by decide +kernel
theorem dX2_whoseTurn_12 : decode cX2_whoseTurn 12 = .ok (.aload_n 0, 1) := by decide +kernel
theorem dX2_whoseTurn_13 : decode cX2_whoseTurn 13 = .ok (.iload_n 2, 1) := by decide +kernel
theorem dX2_whoseTurn_14 : decode cX2_whoseTurn 14 = .ok (.invokevirtual 117, 3) := by decide +kernel
theorem dX2_whoseTurn_17 : decode cX2_whoseTurn 17 = .ok (.ifCond .eq 27, 3) := by decide +kernel
theorem dX2_whoseTurn_20 : decode cX2_whoseTurn 20 = .ok (.iload_n 1, 1) := by decide +kernel
theorem dX2_whoseTurn_21 : decode cX2_whoseTurn 21 = .ok (.iconst (-1), 1) := by decide +kernel
theorem dX2_whoseTurn_22 : decode cX2_whoseTurn 22 = .ok (.if_icmp .eq 20, 3) := by decide +kernel
theorem dX2_whoseTurn_25 : decode cX2_whoseTurn 25 = .ok (.aload_n 0, 1) := by decide +kernel
theorem dX2_whoseTurn_26 : decode cX2_whoseTurn 26 = .ok (.iload_n 2, 1) := by decide +kernel
theorem dX2_whoseTurn_27 : decode cX2_whoseTurn 27 = .ok (.bipush 8, 2) := by decide +kernel
theorem dX2_whoseTurn_29 : decode cX2_whoseTurn 29 = .ok (.invokevirtual 86, 3) := by decide +kernel
theorem dX2_whoseTurn_32 : decode cX2_whoseTurn 32 = .ok (.aload_n 0, 1) := by decide +kernel
theorem dX2_whoseTurn_33 : decode cX2_whoseTurn 33 = .ok (.iload_n 1, 1) := by decide +kernel
theorem dX2_whoseTurn_34 : decode cX2_whoseTurn 34 = .ok (.bipush 8, 2) := by decide +kernel
theorem dX2_whoseTurn_36 : decode cX2_whoseTurn 36 = .ok (.invokevirtual 86, 3) := by decide +kernel
theorem dX2_whoseTurn_39 : decode cX2_whoseTurn 39 = .ok (.if_icmp .ge 5, 3) := by decide +kernel
theorem dX2_whoseTurn_42 : decode cX2_whoseTurn 42 = .ok (.iload_n 2, 1) := by decide +kernel
theorem dX2_whoseTurn_43 : decode cX2_whoseTurn 43 = .ok (.istore_n 1, 1) := by decide +kernel
theorem dX2_whoseTurn_44 : decode cX2_whoseTurn 44 = .ok (.iinc 2 1, 3) := by decide +kernel
theorem dX2_whoseTurn_47 : decode cX2_whoseTurn 47 = .ok (.goto (-43), 3) := by decide +kernel
theorem dX2_whoseTurn_50 : decode cX2_whoseTurn 50 = .ok (.iload_n 1, 1) := by decide +kernel
theorem dX2_whoseTurn_51 : decode cX2_whoseTurn 51 = .ok (.ireturn, 1) := by decide +kernel
set_option maxRecDepth 20000 in
theorem ggX2_isFoe_X2_trait : GoodIn wsX2_isFoe wsX2_trait := (gI_cons ⟨(List.mem_cons_of_mem _ (List.mem_append_left _ (List.mem_of_getElem? (i := 4) rfl))), (Or.inl rfl)⟩ (goodIn_app (gI_cons ⟨(List.mem_cons_of_mem _ (List.mem_append_left _ (List.mem_of_getElem? (i := 5) rfl))), (Or.inl rfl)⟩ gI_nil) (goodIn_sub (fun _ h => (List.mem_cons_of_mem _ (List.mem_append_right _ h))) (by decide +kernel))))
set_option maxRecDepth 20000 in
theorem gX2_isFoe_X2_trait : GoodIn wsX2_isFoe (wsV RX2 86 RX2 yX2_trait wsX2_trait) := goodIn_app (gI_cons ⟨(List.mem_cons_of_mem _ (List.mem_append_left _ (List.mem_of_getElem? (i := 0) rfl))), (Or.inl rfl)⟩ (gI_cons ⟨(List.mem_cons_of_mem _ (List.mem_append_left _ (List.mem_of_getElem? (i := 1) rfl))), (Or.inl rfl)⟩ (gI_cons ⟨(List.mem_cons_of_mem _ (List.mem_append_left _ (List.mem_of_getElem? (i := 2) rfl))), (Or.inl rfl)⟩ (gI_cons ⟨(List.mem_cons_of_mem _ (List.mem_append_left _ (List.mem_of_getElem? (i := 3) rfl))), (Or.inl rfl)⟩ gI_nil)))) ggX2_isFoe_X2_trait
theorem dX2_isFoe_0 : decode cX2_isFoe 0 = .ok (.aload_n 0, 1) := by decide +kernel
theorem dX2_isFoe_1 : decode cX2_isFoe 1 = .ok (.iload_n 2, 1) := by decide +kernel
theorem dX2_isFoe_2 : decode cX2_isFoe 2 = .ok (.iconst 2, 1) := by decide +kernel
theorem dX2_isFoe_3 : decode cX2_isFoe 3 = .ok (.invokevirtual 86, 3) := by decide +kernel
theorem dX2_isFoe_6 : decode cX2_isFoe 6 = .ok (.ifCond .le 22, 3) := by decide +kernel
theorem dX2_isFoe_9 : decode cX2_isFoe 9 = .ok (.aload_n 0, 1) := by decide +kernel
theorem dX2_isFoe_10 : decode cX2_isFoe 10 = .ok (.iload_n 2, 1) := by decide +kernel
theorem dX2_isFoe_11 : decode cX2_isFoe 11 = .ok (.iconst 0, 1) := by decide +kernel
theorem dX2_isFoe_12 : decode cX2_isFoe 12 = .ok (.invokevirtual 86, 3) := by decide +kernel
theorem dX2_isFoe_15 : decode cX2_isFoe 15 = .ok (.aload_n 0, 1) := by decide +kernel
theorem dX2_isFoe_16 : decode cX2_isFoe 16 = .ok (.iload_n 1, 1) := by decide +kernel
theorem dX2_isFoe_17 : decode cX2_isFoe 17 = .ok (.iconst 0, 1) := by decide +kernel
theorem dX2_isFoe_18 : decode cX2_isFoe 18 = .ok (.invokevirtual 86, 3) := by decide +kernel
theorem dX2_isFoe_21 : decode cX2_isFoe 21 = .ok (.if_icmp .eq 7, 3) := by decide +kernel
theorem dX2_isFoe_24 : decode cX2_isFoe 24 = .ok (.iconst 1, 1) := by decide +kernel
theorem dX2_isFoe_25 : decode cX2_isFoe 25 = .ok (.goto 4, 3) := by decide +kernel
theorem dX2_isFoe_28 : decode cX2_isFoe 28 = .ok (.iconst 0, 1) := by decide +kernel
theorem dX2_isFoe_29 : decode cX2_isFoe 29 = .ok (.ireturn, 1) := by decide +kernel
set_option maxRecDepth 20000 in
theorem ggX2_targetOf_X2_isAlive : GoodIn wsX2_targetOf wsX2_isAlive := (gI_cons ⟨(List.mem_cons_of_mem _ (List.mem_append_left _ (List.mem_append_left _ (List.mem_of_getElem? (i := 5) rfl)))), (Or.inl rfl)⟩ (goodIn_app (gI_cons ⟨(List.mem_cons_of_mem _ (List.mem_append_left _ (List.mem_append_left _ (List.mem_of_getElem? (i := 6) rfl)))), (Or.inl rfl)⟩ (gI_cons ⟨(List.mem_cons_of_mem _ (List.mem_append_left _ (List.mem_append_left _ (List.mem_of_getElem? (i := 7) rfl)))), (Or.inl rfl)⟩ (gI_cons ⟨(List.mem_cons_of_mem _ (List.mem_append_left _ (List.mem_append_left _ (List.mem_of_getElem? (i := 8) rfl)))), (Or.inl rfl)⟩ (gI_cons ⟨(List.mem_cons_of_mem _ (List.mem_append_left _ (List.mem_append_left _ (List.mem_of_getElem? (i := 4) rfl)))), (Or.inl rfl)⟩ (gI_cons ⟨(List.mem_cons_of_mem _ (List.mem_append_left _ (List.mem_append_left _ (List.mem_of_getElem? (i := 9) rfl)))), (Or.inl rfl)⟩ (gI_cons ⟨(List.mem_cons_of_mem _ (List.mem_append_left _ (List.mem_append_left _ (List.mem_of_getElem? (i := 10) rfl)))), (Or.inl rfl)⟩ gI_nil)))))) (goodIn_sub (fun _ h => (List.mem_cons_of_mem _ (List.mem_append_right _ h))) (by decide +kernel))))
set_option maxRecDepth 20000 in
theorem gX2_targetOf_X2_isAlive : GoodIn wsX2_targetOf (wsV RX2 117 RX2 yX2_isAlive wsX2_isAlive) := goodIn_app (gI_cons ⟨(List.mem_cons_of_mem _ (List.mem_append_left _ (List.mem_append_left _ (List.mem_of_getElem? (i := 1) rfl)))), (Or.inl rfl)⟩ (gI_cons ⟨(List.mem_cons_of_mem _ (List.mem_append_left _ (List.mem_append_left _ (List.mem_of_getElem? (i := 2) rfl)))), (Or.inl rfl)⟩ (gI_cons ⟨(List.mem_cons_of_mem _ (List.mem_append_left _ (List.mem_append_left _ (List.mem_of_getElem? (i := 3) rfl)))), (Or.inl rfl)⟩ (gI_cons ⟨(List.mem_cons_of_mem _ (List.mem_append_left _ (List.mem_append_left _ (List.mem_of_getElem? (i := 4) rfl)))), (Or.inl rfl)⟩ gI_nil)))) ggX2_targetOf_X2_isAlive
set_option maxRecDepth 20000 in
theorem ggX2_targetOf_X2_trait : GoodIn wsX2_targetOf wsX2_trait := (gI_cons ⟨(List.mem_cons_of_mem _ (List.mem_append_left _ (List.mem_append_left _ (List.mem_of_getElem? (i := 9) rfl)))), (Or.inl rfl)⟩ (goodIn_app (gI_cons ⟨(List.mem_cons_of_mem _ (List.mem_append_left _ (List.mem_append_left _ (List.mem_of_getElem? (i := 10) rfl)))), (Or.inl rfl)⟩ gI_nil) (goodIn_sub (fun _ h => (List.mem_cons_of_mem _ (List.mem_append_right _ h))) (by decide +kernel))))
set_option maxRecDepth 20000 in
theorem gX2_targetOf_X2_trait : GoodIn wsX2_targetOf (wsV RX2 86 RX2 yX2_trait wsX2_trait) := goodIn_app (gI_cons ⟨(List.mem_cons_of_mem _ (List.mem_append_left _ (List.mem_append_left _ (List.mem_of_getElem? (i := 6) rfl)))), (Or.inl rfl)⟩ (gI_cons ⟨(List.mem_cons_of_mem _ (List.mem_append_left _ (List.mem_append_left _ (List.mem_of_getElem? (i := 7) rfl)))), (Or.inl rfl)⟩ (gI_cons ⟨(List.mem_cons_of_mem _ (List.mem_append_left _ (List.mem_append_left _ (List.mem_of_getElem? (i := 8) rfl)))), (Or.inl rfl)⟩ (gI_cons ⟨(List.mem_cons_of_mem _ (List.mem_append_left _ (List.mem_append_left _ (List.mem_of_getElem? (i := 4) rfl)))), (Or.inl rfl)⟩ gI_nil)))) ggX2_targetOf_X2_trait
set_option maxRecDepth 20000 in
theorem ggX2_targetOf_X2_isFoe : GoodIn wsX2_targetOf wsX2_isFoe := (gI_cons ⟨(List.mem_cons_of_mem _ (List.mem_append_left _ (List.mem_append_left _ (List.mem_of_getElem? (i := 14) rfl)))), (Or.inl rfl)⟩ (goodIn_app (gI_cons ⟨(List.mem_cons_of_mem _ (List.mem_append_left _ (List.mem_append_left _ (List.mem_of_getElem? (i := 6) rfl)))), (Or.inl rfl)⟩ (gI_cons ⟨(List.mem_cons_of_mem _ (List.mem_append_left _ (List.mem_append_left _ (List.mem_of_getElem? (i := 7) rfl)))), (Or.inl rfl)⟩ (gI_cons ⟨(List.mem_cons_of_mem _ (List.mem_append_left _ (List.mem_append_left _ (List.mem_of_getElem? (i := 8) rfl)))), (Or.inl rfl)⟩ (gI_cons ⟨(List.mem_cons_of_mem _ (List.mem_append_left _ (List.mem_append_left _ (List.mem_of_getElem? (i := 4) rfl)))), (Or.inl rfl)⟩ (gI_cons ⟨(List.mem_cons_of_mem _ (List.mem_append_left _ (List.mem_append_left _ (List.mem_of_getElem? (i := 9) rfl)))), (Or.inl rfl)⟩ (gI_cons ⟨(List.mem_cons_of_mem _ (List.mem_append_left _ (List.mem_append_left _ (List.mem_of_getElem? (i := 10) rfl)))), (Or.inl rfl)⟩ gI_nil)))))) (goodIn_sub (fun _ h => (List.mem_cons_of_mem _ (List.mem_append_right _ h))) (by decide +kernel))))
set_option maxRecDepth 20000 in
theorem gX2_targetOf_X2_isFoe : GoodIn wsX2_targetOf (wsV RX2 120 RX2 yX2_isFoe wsX2_isFoe) := goodIn_app (gI_cons ⟨(List.mem_cons_of_mem _ (List.mem_append_left _ (List.mem_append_left _ (List.mem_of_getElem? (i := 11) rfl)))), (Or.inl rfl)⟩ (gI_cons ⟨(List.mem_cons_of_mem _ (List.mem_append_left _ (List.mem_append_left _ (List.mem_of_getElem? (i := 12) rfl)))), (Or.inl rfl)⟩ (gI_cons ⟨(List.mem_cons_of_mem _ (List.mem_append_left _ (List.mem_append_left _ (List.mem_of_getElem? (i := 13) rfl)))), (Or.inl rfl)⟩ (gI_cons ⟨(List.mem_cons_of_mem _ (List.mem_append_left _ (List.mem_append_left _ (List.mem_of_getElem? (i := 4) rfl)))), (Or.inl rfl)⟩ gI_nil)))) ggX2_targetOf_X2_isFoe
set_option maxRecDepth 20000 in
theorem ggX2_targetOf_X2_apart : GoodIn wsX2_targetOf wsX2_apart := (gI_cons ⟨(List.mem_cons_of_mem _ (List.mem_append_left _ (List.mem_append_left _ (List.mem_of_getElem? (i := 17) rfl)))), (Or.inl rfl)⟩ (gI_cons ⟨(List.mem_cons_of_mem _ (List.mem_append_left _ (List.mem_append_left _ (List.mem_of_getElem? (i := 18) rfl)))), (Or.inl rfl)⟩ (gI_cons ⟨(List.mem_cons_of_mem _ (List.mem_append_left _ (List.mem_append_left _ (List.mem_of_getElem? (i := 19) rfl)))), (Or.inl rfl)⟩ (gI_cons ⟨(List.mem_cons_of_mem _ (List.mem_append_left _ (List.mem_append_left _ (List.mem_of_getElem? (i := 20) rfl)))), (Or.inl rfl)⟩ (gI_cons ⟨(List.mem_cons_of_mem _ (List.mem_append_left _ (List.mem_append_left _ (List.mem_of_getElem? (i := 21) rfl)))), (Or.inl rfl)⟩ (gI_cons ⟨(List.mem_cons_of_mem _ (List.mem_append_left _ (List.mem_append_left _ (List.mem_of_getElem? (i := 22) rfl)))), (Or.inl rfl)⟩ (gI_cons ⟨(List.mem_cons_of_mem _ (List.mem_append_left _ (List.mem_append_left _ (List.mem_of_getElem? (i := 23) rfl)))), (Or.inl rfl)⟩ (gI_cons ⟨(List.mem_cons_of_mem _ (List.mem_append_left _ (List.mem_append_right _ (List.mem_of_getElem? (i := 0) rfl)))), (Or.inl rfl)⟩ gI_nil))))))))
set_option maxRecDepth 20000 in
theorem gX2_targetOf_X2_apart : GoodIn wsX2_targetOf (va_wsS RX2 73 yX2_apart wsX2_apart) := goodIn_app (gI_cons ⟨(List.mem_cons_of_mem _ (List.mem_append_left _ (List.mem_append_left _ (List.mem_of_getElem? (i := 15) rfl)))), (Or.inl rfl)⟩ (gI_cons ⟨(List.mem_cons_of_mem _ (List.mem_append_left _ (List.mem_append_left _ (List.mem_of_getElem? (i := 16) rfl)))), (Or.inl rfl)⟩ (gI_cons ⟨(List.mem_cons_of_mem _ (List.mem_append_left _ (List.mem_append_left _ (List.mem_of_getElem? (i := 4) rfl)))), (Or.inl rfl)⟩ gI_nil))) ggX2_targetOf_X2_apart
set_option maxRecDepth 20000 in
theorem ggX2_targetOf_X2_isSeenFrom : GoodIn wsX2_targetOf wsX2_isSeenFrom := (gI_cons ⟨(List.mem_cons_of_mem _ (List.mem_append_left _ (List.mem_append_right _ (List.mem_of_getElem? (i := 4) rfl)))), (Or.inl rfl)⟩ (goodIn_app (goodIn_app (show GoodIn _ wsX2_isSeenFrom_r1 from (gI_cons ⟨(List.mem_cons_of_mem _ (List.mem_append_left _ (List.mem_append_left _ (List.mem_of_getElem? (i := 15) rfl)))), (Or.inl rfl)⟩ (gI_cons ⟨(List.mem_cons_of_mem _ (List.mem_append_left _ (List.mem_append_left _ (List.mem_of_getElem? (i := 16) rfl)))), (Or.inl rfl)⟩ (gI_cons ⟨(List.mem_cons_of_mem _ (List.mem_append_left _ (List.mem_append_left _ (List.mem_of_getElem? (i := 4) rfl)))), (Or.inl rfl)⟩ (gI_cons ⟨(List.mem_cons_of_mem _ (List.mem_append_left _ (List.mem_append_left _ (List.mem_of_getElem? (i := 17) rfl)))), (Or.inl rfl)⟩ (gI_cons ⟨(List.mem_cons_of_mem _ (List.mem_append_left _ (List.mem_append_left _ (List.mem_of_getElem? (i := 18) rfl)))), (Or.inl rfl)⟩ (gI_cons ⟨(List.mem_cons_of_mem _ (List.mem_append_left _ (List.mem_append_left _ (List.mem_of_getElem? (i := 19) rfl)))), (Or.inl rfl)⟩ (gI_cons ⟨(List.mem_cons_of_mem _ (List.mem_append_left _ (List.mem_append_left _ (List.mem_of_getElem? (i := 20) rfl)))), (Or.inl rfl)⟩ (gI_cons ⟨(List.mem_cons_of_mem _ (List.mem_append_left _ (List.mem_append_left _ (List.mem_of_getElem? (i := 21) rfl)))), (Or.inl rfl)⟩ (gI_cons ⟨(List.mem_cons_of_mem _ (List.mem_append_left _ (List.mem_append_left _ (List.mem_of_getElem? (i := 22) rfl)))), (Or.inl rfl)⟩ (gI_cons ⟨(List.mem_cons_of_mem _ (List.mem_append_left _ (List.mem_append_left _ (List.mem_of_getElem? (i := 23) rfl)))), (Or.inl rfl)⟩ (gI_cons ⟨(List.mem_cons_of_mem _ (List.mem_append_left _ (List.mem_append_right _ (List.mem_of_getElem? (i := 0) rfl)))), (Or.inl rfl)⟩ (gI_cons ⟨(List.mem_cons_of_mem _ (List.mem_append_left _ (List.mem_append_right _ (List.mem_of_getElem? (i := 5) rfl)))), (Or.inl rfl)⟩ (gI_cons ⟨(List.mem_cons_of_mem _ (List.mem_append_left _ (List.mem_append_right _ (List.mem_of_getElem? (i := 6) rfl)))), (Or.inl rfl)⟩ (gI_cons ⟨(List.mem_cons_of_mem _ (List.mem_append_left _ (List.mem_append_right _ (List.mem_of_getElem? (i := 7) rfl)))), (Or.inl rfl)⟩ (gI_cons ⟨(List.mem_cons_of_mem _ (List.mem_append_left _ (List.mem_append_right _ (List.mem_of_getElem? (i := 8) rfl)))), (Or.inl rfl)⟩ (gI_cons ⟨(List.mem_cons_of_mem _ (List.mem_append_left _ (List.mem_append_right _ (List.mem_of_getElem? (i := 9) rfl)))), (Or.inl rfl)⟩ (gI_cons ⟨(List.mem_cons_of_mem _ (List.mem_append_left _ (List.mem_append_left _ (List.mem_of_getElem? (i := 20) rfl)))), (Or.inl rfl)⟩ (gI_cons ⟨(List.mem_cons_of_mem _ (List.mem_append_left _ (List.mem_append_right _ (List.mem_of_getElem? (i := 11) rfl)))), (Or.inl rfl)⟩ (gI_cons ⟨(List.mem_cons_of_mem _ (List.mem_append_left _ (List.mem_append_right _ (List.mem_of_getElem? (i := 12) rfl)))), (Or.inl rfl)⟩ (gI_cons ⟨(List.mem_cons_of_mem _ (List.mem_append_left _ (List.mem_append_right _ (List.mem_of_getElem? (i := 13) rfl)))), (Or.inl rfl)⟩ (gI_cons ⟨(List.mem_cons_of_mem _ (List.mem_append_left _ (List.mem_append_right _ (List.mem_of_getElem? (i := 14) rfl)))), (Or.inl rfl)⟩ (gI_cons ⟨(List.mem_cons_of_mem _ (List.mem_append_left _ (List.mem_append_right _ (List.mem_of_getElem? (i := 15) rfl)))), (Or.inl rfl)⟩ (gI_cons ⟨(List.mem_cons_of_mem _ (List.mem_append_left _ (List.mem_append_right _ (List.mem_of_getElem? (i := 16) rfl)))), (Or.inl rfl)⟩ (gI_cons ⟨(List.mem_cons_of_mem _ (List.mem_append_left _ (List.mem_append_right _ (List.mem_of_getElem? (i := 17) rfl)))), (Or.inl rfl)⟩ gI_nil))))))))))))))))))))))))) (show GoodIn _ wsX2_isSeenFrom_r2 from (gI_cons ⟨(List.mem_cons_of_mem _ (List.mem_append_left _ (List.mem_append_right _ (List.mem_of_getElem? (i := 18) rfl)))), (Or.inl rfl)⟩ (gI_cons ⟨(List.mem_cons_of_mem _ (List.mem_append_left _ (List.mem_append_right _ (List.mem_of_getElem? (i := 19) rfl)))), (Or.inl rfl)⟩ gI_nil)))) (goodIn_sub (fun _ h => (List.mem_cons_of_mem _ (List.mem_append_right _ h))) (by decide +kernel))))
set_option maxRecDepth 20000 in
theorem gX2_targetOf_X2_isSeenFrom : GoodIn wsX2_targetOf (wsV RX2 89 RX2 yX2_isSeenFrom wsX2_isSeenFrom) := goodIn_app (gI_cons ⟨(List.mem_cons_of_mem _ (List.mem_append_left _ (List.mem_append_right _ (List.mem_of_getElem? (i := 1) rfl)))), (Or.inl rfl)⟩ (gI_cons ⟨(List.mem_cons_of_mem _ (List.mem_append_left _ (List.mem_append_right _ (List.mem_of_getElem? (i := 2) rfl)))), (Or.inl rfl)⟩ (gI_cons ⟨(List.mem_cons_of_mem _ (List.mem_append_left _ (List.mem_append_right _ (List.mem_of_getElem? (i := 3) rfl)))), (Or.inl rfl)⟩ (gI_cons ⟨(List.mem_cons_of_mem _ (List.mem_append_left _ (List.mem_append_left _ (List.mem_of_getElem? (i := 4) rfl)))), (Or.inl rfl)⟩ gI_nil)))) ggX2_targetOf_X2_isSeenFrom
theorem dX2_targetOf_0 : decode cX2_targetOf 0 = .ok (.aload_n 0, 1) := by decide +kernel
theorem dX2_targetOf_1 : decode cX2_targetOf 1 = .ok (.iload_n 1, 1) := by decide +kernel
theorem dX2_targetOf_2 : decode cX2_targetOf 2 = .ok (.invokevirtual 117, 3) := by decide +kernel
theorem dX2_targetOf_5 : decode cX2_targetOf 5 = .ok (.ifCond .ne 5, 3) := by decide +kernel
theorem dX2_targetOf_8 : decode cX2_targetOf 8 = .ok (.iconst (-1), 1) := by decide +kernel
theorem dX2_targetOf_9 : decode cX2_targetOf 9 = .ok (.ireturn, 1) := by decide +kernel
theorem dX2_targetOf_10 : decode cX2_targetOf 10 = .ok (.aload_n 0, 1) := by decide +kernel
theorem dX2_targetOf_11 : decode cX2_targetOf 11 = .ok (.iload_n 1, 1) := by decide +kernel
theorem dX2_targetOf_12 : decode cX2_targetOf 12 = .ok (.iconst 1, 1) := by decide +kernel
theorem dX2_targetOf_13 : decode cX2_targetOf 13 = .ok (.invokevirtual 86, 3) := by decide +kernel
theorem dX2_targetOf_16 : decode cX2_targetOf 16 = .ok (.istore_n 2, 1) := by decide +kernel
theorem dX2_targetOf_17 : decode cX2_targetOf 17 = .ok (.iconst (-1), 1) := by decide +kernel
theorem dX2_targetOf_18 : decode cX2_targetOf 18 = .ok (.istore_n 3, 1) := by decide +kernel
theorem dX2_targetOf_19 : decode cX2_targetOf 19 = .ok (.bipush 8, 2) := by decide +kernel
theorem dX2_targetOf_21 : decode cX2_targetOf 21 = .ok (.istore 4, 2) := by decide +kernel
theorem dX2_targetOf_23 : decode cX2_targetOf 23 = .ok (.iconst 0, 1) := by decide +kernel
theorem dX2_targetOf_24 : decode cX2_targetOf 24 = .ok (.istore 5, 2) := by decide +kernel
theorem dX2_targetOf_26 : decode cX2_targetOf 26 = .ok (.iload 5, 2) := by decide +kernel
theorem dX2_targetOf_28 : decode cX2_targetOf 28 = .ok (.aload_n 0, 1) := by decide +kernel
theorem dX2_targetOf_29 : decode cX2_targetOf 29 = .ok (.getfield 39, 3) := by decide +kernel
theorem dX2_targetOf_32 : decode cX2_targetOf 32 = .ok (.if_icmp .ge 60, 3) := by decide +kernel
theorem dX2_targetOf_35 : decode cX2_targetOf 35 = .ok (.aload_n 0, 1) := by decide +kernel
theorem dX2_targetOf_36 : decode cX2_targetOf 36 = .ok (.iload 5, 2) := by decide +kernel
theorem dX2_targetOf_38 : decode cX2_targetOf 38 = .ok (.iconst 1, 1) := by decide +kernel
theorem dX2_targetOf_39 : decode cX2_targetOf 39 = .ok (.invokevirtual 86, 3) := by decide +kernel
theorem dX2_targetOf_42 : decode cX2_targetOf 42 = .ok (.istore 6, 2) := by decide +kernel
theorem dX2_targetOf_44 : decode cX2_targetOf 44 = .ok (.aload_n 0, 1) := by decide +kernel
theorem dX2_targetOf_45 : decode cX2_targetOf 45 = .ok (.iload_n 1, 1) := by decide +kernel
theorem dX2_targetOf_46 : decode cX2_targetOf 46 = .ok (.iload 5, 2) := by decide +kernel
theorem dX2_targetOf_48 : decode cX2_targetOf 48 = .ok (.invokevirtual 120, 3) := by decide +kernel
theorem dX2_targetOf_51 : decode cX2_targetOf 51 = .ok (.ifCond .eq 35, 3) := by decide +kernel
theorem dX2_targetOf_54 : decode cX2_targetOf 54 = .ok (.iload_n 2, 1) := by decide +kernel
theorem dX2_targetOf_55 : decode cX2_targetOf 55 = .ok (.iload 6, 2) := by decide +kernel
theorem dX2_targetOf_57 : decode cX2_targetOf 57 = .ok (.invokestatic 73, 3) := by decide +kernel
theorem dX2_targetOf_60 : decode cX2_targetOf 60 = .ok (.iload 4, 2) := by decide +kernel
theorem dX2_targetOf_62 : decode cX2_targetOf 62 = .ok (.if_icmp .ge 24, 3) := by decide +kernel
theorem dX2_targetOf_65 : decode cX2_targetOf 65 = .ok (.aload_n 0, 1) := by decide +kernel
theorem dX2_targetOf_66 : decode cX2_targetOf 66 = .ok (.iload_n 2, 1) := by decide +kernel
theorem dX2_targetOf_67 : decode cX2_targetOf 67 = .ok (.iload 6, 2) := by decide +kernel
theorem dX2_targetOf_69 : decode cX2_targetOf 69 = .ok (.invokevirtual 89, 3) := by decide +kernel
theorem dX2_targetOf_72 : decode cX2_targetOf 72 = .ok (.ifCond .eq 14, 3) := by decide +kernel
theorem dX2_targetOf_75 : decode cX2_targetOf 75 = .ok (.iload 5, 2) := by decide +kernel
theorem dX2_targetOf_77 : decode cX2_targetOf 77 = .ok (.istore_n 3, 1) := by decide +kernel
theorem dX2_targetOf_78 : decode cX2_targetOf 78 = .ok (.iload_n 2, 1) := by decide +kernel
theorem dX2_targetOf_79 : decode cX2_targetOf 79 = .ok (.iload 6, 2) := by decide +kernel
theorem dX2_targetOf_81 : decode cX2_targetOf 81 = .ok (.invokestatic 73, 3) := by decide +kernel
theorem dX2_targetOf_84 : decode cX2_targetOf 84 = .ok (.istore 4, 2) := by decide +kernel
theorem dX2_targetOf_86 : decode cX2_targetOf 86 = .ok (.iinc 5 1, 3) := by decide +kernel
theorem dX2_targetOf_89 : decode cX2_targetOf 89 = .ok (.goto (-63), 3) := by decide +kernel
theorem dX2_targetOf_92 : decode cX2_targetOf 92 = .ok (.iload_n 3, 1) := by decide +kernel
theorem dX2_targetOf_93 : decode cX2_targetOf 93 = .ok (.ireturn, 1) := by decide +kernel
set_option maxRecDepth 20000 in
theorem ggX2_firstFoe_X2_isFoe : GoodIn wsX2_firstFoe wsX2_isFoe := (gI_cons ⟨(List.mem_cons_of_mem _ (List.mem_append_left _ (List.mem_of_getElem? (i := 5) rfl))), (Or.inl rfl)⟩ (goodIn_app (gI_cons ⟨(List.mem_cons_of_mem _ (List.mem_append_left _ (List.mem_of_getElem? (i := 6) rfl))), (Or.inl rfl)⟩ (gI_cons ⟨(List.mem_cons_of_mem _ (List.mem_append_left _ (List.mem_of_getElem? (i := 7) rfl))), (Or.inl rfl)⟩ (gI_cons ⟨(List.mem_cons_of_mem _ (List.mem_append_left _ (List.mem_of_getElem? (i := 8) rfl))), (Or.inl rfl)⟩ (gI_cons ⟨(List.mem_cons_of_mem _ (List.mem_append_left _ (List.mem_of_getElem? (i := 4) rfl))), (Or.inl rfl)⟩ (gI_cons ⟨(List.mem_cons_of_mem _ (List.mem_append_left _ (List.mem_of_getElem? (i := 9) rfl))), (Or.inl rfl)⟩ (gI_cons ⟨(List.mem_cons_of_mem _ (List.mem_append_left _ (List.mem_of_getElem? (i := 10) rfl))), (Or.inl rfl)⟩ gI_nil)))))) (goodIn_sub (fun _ h => (List.mem_cons_of_mem _ (List.mem_append_right _ h))) (by decide +kernel))))
set_option maxRecDepth 20000 in
theorem gX2_firstFoe_X2_isFoe : GoodIn wsX2_firstFoe (wsV RX2 120 RX2 yX2_isFoe wsX2_isFoe) := goodIn_app (gI_cons ⟨(List.mem_cons_of_mem _ (List.mem_append_left _ (List.mem_of_getElem? (i := 1) rfl))), (Or.inl rfl)⟩ (gI_cons ⟨(List.mem_cons_of_mem _ (List.mem_append_left _ (List.mem_of_getElem? (i := 2) rfl))), (Or.inl rfl)⟩ (gI_cons ⟨(List.mem_cons_of_mem _ (List.mem_append_left _ (List.mem_of_getElem? (i := 3) rfl))), (Or.inl rfl)⟩ (gI_cons ⟨(List.mem_cons_of_mem _ (List.mem_append_left _ (List.mem_of_getElem? (i := 4) rfl))), (Or.inl rfl)⟩ gI_nil)))) ggX2_firstFoe_X2_isFoe
theorem dX2_firstFoe_0 : decode cX2_firstFoe 0 = .ok (.iconst 0, 1) := by decide +kernel
theorem dX2_firstFoe_1 : decode cX2_firstFoe 1 = .ok (.istore_n 2, 1) := by decide +kernel
theorem dX2_firstFoe_2 : decode cX2_firstFoe 2 = .ok (.iload_n 2, 1) := by decide +kernel
theorem dX2_firstFoe_3 : decode cX2_firstFoe 3 = .ok (.aload_n 0, 1) := by decide +kernel
theorem dX2_firstFoe_4 : decode cX2_firstFoe 4 = .ok (.getfield 39, 3) := by decide +kernel
theorem dX2_firstFoe_7 : decode cX2_firstFoe 7 = .ok (.if_icmp .ge 20, 3) := by decide +kernel
theorem dX2_firstFoe_10 : decode cX2_firstFoe 10 = .ok (.aload_n 0, 1) := by decide +kernel
theorem dX2_firstFoe_11 : decode cX2_firstFoe 11 = .ok (.iload_n 1, 1) := by decide +kernel
theorem dX2_firstFoe_12 : decode cX2_firstFoe 12 = .ok (.iload_n 2, 1) := by decide +kernel
theorem dX2_firstFoe_13 : decode cX2_firstFoe 13 = .ok (.invokevirtual 120, 3) := by decide +kernel
theorem dX2_firstFoe_16 : decode cX2_firstFoe 16 = .ok (.ifCond .eq 5, 3) := by decide +kernel
theorem dX2_firstFoe_19 : decode cX2_firstFoe 19 = .ok (.iload_n 2, 1) := by decide +kernel
theorem dX2_firstFoe_20 : decode cX2_firstFoe 20 = .ok (.ireturn, 1) := by decide +kernel
theorem dX2_firstFoe_21 : decode cX2_firstFoe 21 = .ok (.iinc 2 1, 3) := by decide +kernel
theorem dX2_firstFoe_24 : decode cX2_firstFoe 24 = .ok (.goto (-22), 3) := by decide +kernel
theorem dX2_firstFoe_27 : decode cX2_firstFoe 27 = .ok (.iconst (-1), 1) := by decide +kernel
theorem dX2_firstFoe_28 : decode cX2_firstFoe 28 = .ok (.ireturn, 1) := by decide +kernel
set_option maxRecDepth 20000 in
theorem ggX2_hasFoeBeside_X2_trait : GoodIn wsX2_hasFoeBeside wsX2_trait := (gI_cons ⟨(List.mem_cons_of_mem _ (List.mem_append_left _ (List.mem_of_getElem? (i := 4) rfl))), (Or.inl rfl)⟩ (goodIn_app (gI_cons ⟨(List.mem_cons_of_mem _ (List.mem_append_left _ (List.mem_of_getElem? (i := 5) rfl))), (Or.inl rfl)⟩ gI_nil) (goodIn_sub (fun _ h => (List.mem_cons_of_mem _ (List.mem_append_right _ h))) (by decide +kernel))))
set_option maxRecDepth 20000 in
theorem gX2_hasFoeBeside_X2_trait : GoodIn wsX2_hasFoeBeside (wsV RX2 86 RX2 yX2_trait wsX2_trait) := goodIn_app (gI_cons ⟨(List.mem_cons_of_mem _ (List.mem_append_left _ (List.mem_of_getElem? (i := 0) rfl))), (Or.inl rfl)⟩ (gI_cons ⟨(List.mem_cons_of_mem _ (List.mem_append_left _ (List.mem_of_getElem? (i := 1) rfl))), (Or.inl rfl)⟩ (gI_cons ⟨(List.mem_cons_of_mem _ (List.mem_append_left _ (List.mem_of_getElem? (i := 2) rfl))), (Or.inl rfl)⟩ (gI_cons ⟨(List.mem_cons_of_mem _ (List.mem_append_left _ (List.mem_of_getElem? (i := 3) rfl))), (Or.inl rfl)⟩ gI_nil)))) ggX2_hasFoeBeside_X2_trait
set_option maxRecDepth 20000 in
theorem ggX2_hasFoeBeside_X2_whoIsOn : GoodIn wsX2_hasFoeBeside wsX2_whoIsOn := (gI_cons ⟨(List.mem_cons_of_mem _ (List.mem_append_left _ (List.mem_of_getElem? (i := 9) rfl))), (Or.inl rfl)⟩ (goodIn_app (gI_cons ⟨(List.mem_cons_of_mem _ (List.mem_append_left _ (List.mem_of_getElem? (i := 10) rfl))), (Or.inl rfl)⟩ (gI_cons ⟨(List.mem_cons_of_mem _ (List.mem_append_left _ (List.mem_of_getElem? (i := 0) rfl))), (Or.inl rfl)⟩ (gI_cons ⟨(List.mem_cons_of_mem _ (List.mem_append_left _ (List.mem_of_getElem? (i := 1) rfl))), (Or.inl rfl)⟩ (gI_cons ⟨(List.mem_cons_of_mem _ (List.mem_append_left _ (List.mem_of_getElem? (i := 2) rfl))), (Or.inl rfl)⟩ (gI_cons ⟨(List.mem_cons_of_mem _ (List.mem_append_left _ (List.mem_of_getElem? (i := 3) rfl))), (Or.inl rfl)⟩ (gI_cons ⟨(List.mem_cons_of_mem _ (List.mem_append_left _ (List.mem_of_getElem? (i := 4) rfl))), (Or.inl rfl)⟩ (gI_cons ⟨(List.mem_cons_of_mem _ (List.mem_append_left _ (List.mem_of_getElem? (i := 5) rfl))), (Or.inl rfl)⟩ gI_nil))))))) (goodIn_sub (fun _ h => (List.mem_cons_of_mem _ (List.mem_append_right _ h))) (by decide +kernel))))
set_option maxRecDepth 20000 in
theorem gX2_hasFoeBeside_X2_whoIsOn : GoodIn wsX2_hasFoeBeside (wsV RX2 126 RX2 yX2_whoIsOn wsX2_whoIsOn) := goodIn_app (gI_cons ⟨(List.mem_cons_of_mem _ (List.mem_append_left _ (List.mem_of_getElem? (i := 6) rfl))), (Or.inl rfl)⟩ (gI_cons ⟨(List.mem_cons_of_mem _ (List.mem_append_left _ (List.mem_of_getElem? (i := 7) rfl))), (Or.inl rfl)⟩ (gI_cons ⟨(List.mem_cons_of_mem _ (List.mem_append_left _ (List.mem_of_getElem? (i := 8) rfl))), (Or.inl rfl)⟩ (gI_cons ⟨(List.mem_cons_of_mem _ (List.mem_append_left _ (List.mem_of_getElem? (i := 3) rfl))), (Or.inl rfl)⟩ gI_nil)))) ggX2_hasFoeBeside_X2_whoIsOn
set_option maxRecDepth 20000 in
theorem ggX2_hasFoeBeside_X2_isFoe : GoodIn wsX2_hasFoeBeside wsX2_isFoe := (gI_cons ⟨(List.mem_cons_of_mem _ (List.mem_append_left _ (List.mem_of_getElem? (i := 14) rfl))), (Or.inl rfl)⟩ (goodIn_app (gI_cons ⟨(List.mem_cons_of_mem _ (List.mem_append_left _ (List.mem_of_getElem? (i := 0) rfl))), (Or.inl rfl)⟩ (gI_cons ⟨(List.mem_cons_of_mem _ (List.mem_append_left _ (List.mem_of_getElem? (i := 1) rfl))), (Or.inl rfl)⟩ (gI_cons ⟨(List.mem_cons_of_mem _ (List.mem_append_left _ (List.mem_of_getElem? (i := 2) rfl))), (Or.inl rfl)⟩ (gI_cons ⟨(List.mem_cons_of_mem _ (List.mem_append_left _ (List.mem_of_getElem? (i := 3) rfl))), (Or.inl rfl)⟩ (gI_cons ⟨(List.mem_cons_of_mem _ (List.mem_append_left _ (List.mem_of_getElem? (i := 4) rfl))), (Or.inl rfl)⟩ (gI_cons ⟨(List.mem_cons_of_mem _ (List.mem_append_left _ (List.mem_of_getElem? (i := 5) rfl))), (Or.inl rfl)⟩ gI_nil)))))) (goodIn_sub (fun _ h => (List.mem_cons_of_mem _ (List.mem_append_right _ h))) (by decide +kernel))))
set_option maxRecDepth 20000 in
theorem gX2_hasFoeBeside_X2_isFoe : GoodIn wsX2_hasFoeBeside (wsV RX2 120 RX2 yX2_isFoe wsX2_isFoe) := goodIn_app (gI_cons ⟨(List.mem_cons_of_mem _ (List.mem_append_left _ (List.mem_of_getElem? (i := 11) rfl))), (Or.inl rfl)⟩ (gI_cons ⟨(List.mem_cons_of_mem _ (List.mem_append_left _ (List.mem_of_getElem? (i := 12) rfl))), (Or.inl rfl)⟩ (gI_cons ⟨(List.mem_cons_of_mem _ (List.mem_append_left _ (List.mem_of_getElem? (i := 13) rfl))), (Or.inl rfl)⟩ (gI_cons ⟨(List.mem_cons_of_mem _ (List.mem_append_left _ (List.mem_of_getElem? (i := 3) rfl))), (Or.inl rfl)⟩ gI_nil)))) ggX2_hasFoeBeside_X2_isFoe
theorem dX2_hasFoeBeside_0 : decode cX2_hasFoeBeside 0 = .ok (.iconst 0, 1) := by decide +kernel
theorem dX2_hasFoeBeside_1 : decode cX2_hasFoeBeside 1 = .ok (.istore_n 2, 1) := by decide +kernel
theorem dX2_hasFoeBeside_2 : decode cX2_hasFoeBeside 2 = .ok (.iload_n 2, 1) := by decide +kernel
theorem dX2_hasFoeBeside_3 : decode cX2_hasFoeBeside 3 = .ok (.getstatic 123, 3) := by decide +kernel
theorem dX2_hasFoeBeside_6 : decode cX2_hasFoeBeside 6 = .ok (.arraylength, 1) := by decide +kernel
theorem dX2_hasFoeBeside_7 : decode cX2_hasFoeBeside 7 = .ok (.if_icmp .ge 35, 3) := by decide +kernel
theorem dX2_hasFoeBeside_10 : decode cX2_hasFoeBeside 10 = .ok (.aload_n 0, 1) := by decide +kernel
theorem dX2_hasFoeBeside_11 : decode cX2_hasFoeBeside 11 = .ok (.iload_n 1, 1) := by decide +kernel
theorem dX2_hasFoeBeside_12 : decode cX2_hasFoeBeside 12 = .ok (.aload_n 0, 1) := by decide +kernel
theorem dX2_hasFoeBeside_13 : decode cX2_hasFoeBeside 13 = .ok (.aload_n 0, 1) := by decide +kernel
theorem dX2_hasFoeBeside_14 : decode cX2_hasFoeBeside 14 = .ok (.iload_n 1, 1) := by decide +kernel
theorem dX2_hasFoeBeside_15 : decode cX2_hasFoeBeside 15 = .ok (.iconst 1, 1) := by decide +kernel
theorem dX2_hasFoeBeside_16 : decode cX2_hasFoeBeside 16 = .ok (.invokevirtual 86, 3) := by decide +kernel
theorem dX2_hasFoeBeside_19 : decode cX2_hasFoeBeside 19 = .ok (.getstatic 123, 3) := by decide +kernel
theorem dX2_hasFoeBeside_22 : decode cX2_hasFoeBeside 22 = .ok (.iload_n 2, 1) := by decide +kernel
theorem dX2_hasFoeBeside_23 : decode cX2_hasFoeBeside 23 = .ok (.iaload, 1) := by decide +kernel
theorem dX2_hasFoeBeside_24 : decode cX2_hasFoeBeside 24 = .ok (.iadd, 1) := by decide +kernel
theorem dX2_hasFoeBeside_25 : decode cX2_hasFoeBeside 25 = .ok (.invokevirtual 126, 3) := by decide +kernel
theorem dX2_hasFoeBeside_28 : decode cX2_hasFoeBeside 28 = .ok (.invokevirtual 120, 3) := by decide +kernel
theorem dX2_hasFoeBeside_31 : decode cX2_hasFoeBeside 31 = .ok (.ifCond .eq 5, 3) := by decide +kernel
theorem dX2_hasFoeBeside_34 : decode cX2_hasFoeBeside 34 = .ok (.iconst 1, 1) := by decide +kernel
theorem dX2_hasFoeBeside_35 : decode cX2_hasFoeBeside 35 = .ok (.ireturn, 1) := by decide +kernel
theorem dX2_hasFoeBeside_36 : decode cX2_hasFoeBeside 36 = .ok (.iinc 2 1, 3) := by decide +kernel
theorem dX2_hasFoeBeside_39 : decode cX2_hasFoeBeside 39 = .ok (.goto (-37), 3) := by decide +kernel
theorem dX2_hasFoeBeside_42 : decode cX2_hasFoeBeside 42 = .ok (.iconst 0, 1) := by decide +kernel
theorem dX2_hasFoeBeside_43 : decode cX2_hasFoeBeside 43 = .ok (.ireturn, 1) := by decide +kernel
set_option maxRecDepth 20000 in
theorem ggX2_watchersOf_X2_isAlive : GoodIn wsX2_watchersOf wsX2_isAlive := (gI_cons ⟨(List.mem_cons_of_mem _ (List.mem_append_left _ (List.mem_append_left _ (List.mem_of_getElem? (i := 5) rfl)))), (Or.inl rfl)⟩ (goodIn_app (gI_cons ⟨(List.mem_cons_of_mem _ (List.mem_append_left _ (List.mem_append_left _ (List.mem_of_getElem? (i := 6) rfl)))), (Or.inl rfl)⟩ (gI_cons ⟨(List.mem_cons_of_mem _ (List.mem_append_left _ (List.mem_append_left _ (List.mem_of_getElem? (i := 7) rfl)))), (Or.inl rfl)⟩ (gI_cons ⟨(List.mem_cons_of_mem _ (List.mem_append_left _ (List.mem_append_left _ (List.mem_of_getElem? (i := 8) rfl)))), (Or.inl rfl)⟩ (gI_cons ⟨(List.mem_cons_of_mem _ (List.mem_append_left _ (List.mem_append_left _ (List.mem_of_getElem? (i := 4) rfl)))), (Or.inl rfl)⟩ (gI_cons ⟨(List.mem_cons_of_mem _ (List.mem_append_left _ (List.mem_append_left _ (List.mem_of_getElem? (i := 9) rfl)))), (Or.inl rfl)⟩ (gI_cons ⟨(List.mem_cons_of_mem _ (List.mem_append_left _ (List.mem_append_left _ (List.mem_of_getElem? (i := 10) rfl)))), (Or.inl rfl)⟩ gI_nil)))))) (goodIn_sub (fun _ h => (List.mem_cons_of_mem _ (List.mem_append_right _ h))) (by decide +kernel))))
set_option maxRecDepth 20000 in
theorem gX2_watchersOf_X2_isAlive : GoodIn wsX2_watchersOf (wsV RX2 117 RX2 yX2_isAlive wsX2_isAlive) := goodIn_app (gI_cons ⟨(List.mem_cons_of_mem _ (List.mem_append_left _ (List.mem_append_left _ (List.mem_of_getElem? (i := 1) rfl)))), (Or.inl rfl)⟩ (gI_cons ⟨(List.mem_cons_of_mem _ (List.mem_append_left _ (List.mem_append_left _ (List.mem_of_getElem? (i := 2) rfl)))), (Or.inl rfl)⟩ (gI_cons ⟨(List.mem_cons_of_mem _ (List.mem_append_left _ (List.mem_append_left _ (List.mem_of_getElem? (i := 3) rfl)))), (Or.inl rfl)⟩ (gI_cons ⟨(List.mem_cons_of_mem _ (List.mem_append_left _ (List.mem_append_left _ (List.mem_of_getElem? (i := 4) rfl)))), (Or.inl rfl)⟩ gI_nil)))) ggX2_watchersOf_X2_isAlive
set_option maxRecDepth 20000 in
theorem ggX2_watchersOf_X2_trait : GoodIn wsX2_watchersOf wsX2_trait := (gI_cons ⟨(List.mem_cons_of_mem _ (List.mem_append_left _ (List.mem_append_left _ (List.mem_of_getElem? (i := 9) rfl)))), (Or.inl rfl)⟩ (goodIn_app (gI_cons ⟨(List.mem_cons_of_mem _ (List.mem_append_left _ (List.mem_append_left _ (List.mem_of_getElem? (i := 10) rfl)))), (Or.inl rfl)⟩ gI_nil) (goodIn_sub (fun _ h => (List.mem_cons_of_mem _ (List.mem_append_right _ h))) (by decide +kernel))))
set_option maxRecDepth 20000 in
theorem gX2_watchersOf_X2_trait : GoodIn wsX2_watchersOf (wsV RX2 86 RX2 yX2_trait wsX2_trait) := goodIn_app (gI_cons ⟨(List.mem_cons_of_mem _ (List.mem_append_left _ (List.mem_append_left _ (List.mem_of_getElem? (i := 6) rfl)))), (Or.inl rfl)⟩ (gI_cons ⟨(List.mem_cons_of_mem _ (List.mem_append_left _ (List.mem_append_left _ (List.mem_of_getElem? (i := 7) rfl)))), (Or.inl rfl)⟩ (gI_cons ⟨(List.mem_cons_of_mem _ (List.mem_append_left _ (List.mem_append_left _ (List.mem_of_getElem? (i := 8) rfl)))), (Or.inl rfl)⟩ (gI_cons ⟨(List.mem_cons_of_mem _ (List.mem_append_left _ (List.mem_append_left _ (List.mem_of_getElem? (i := 4) rfl)))), (Or.inl rfl)⟩ gI_nil)))) ggX2_watchersOf_X2_trait
set_option maxRecDepth 20000 in
theorem ggX2_watchersOf_X2_isSeenFrom : GoodIn wsX2_watchersOf wsX2_isSeenFrom := (gI_cons ⟨(List.mem_cons_of_mem _ (List.mem_append_left _ (List.mem_append_left _ (List.mem_of_getElem? (i := 14) rfl)))), (Or.inl rfl)⟩ (goodIn_app (goodIn_app (show GoodIn _ wsX2_isSeenFrom_r1 from (gI_cons ⟨(List.mem_cons_of_mem _ (List.mem_append_left _ (List.mem_append_left _ (List.mem_of_getElem? (i := 15) rfl)))), (Or.inl rfl)⟩ (gI_cons ⟨(List.mem_cons_of_mem _ (List.mem_append_left _ (List.mem_append_left _ (List.mem_of_getElem? (i := 16) rfl)))), (Or.inl rfl)⟩ (gI_cons ⟨(List.mem_cons_of_mem _ (List.mem_append_left _ (List.mem_append_left _ (List.mem_of_getElem? (i := 4) rfl)))), (Or.inl rfl)⟩ (gI_cons ⟨(List.mem_cons_of_mem _ (List.mem_append_left _ (List.mem_append_left _ (List.mem_of_getElem? (i := 17) rfl)))), (Or.inl rfl)⟩ (gI_cons ⟨(List.mem_cons_of_mem _ (List.mem_append_left _ (List.mem_append_left _ (List.mem_of_getElem? (i := 18) rfl)))), (Or.inl rfl)⟩ (gI_cons ⟨(List.mem_cons_of_mem _ (List.mem_append_left _ (List.mem_append_left _ (List.mem_of_getElem? (i := 19) rfl)))), (Or.inl rfl)⟩ (gI_cons ⟨(List.mem_cons_of_mem _ (List.mem_append_left _ (List.mem_append_left _ (List.mem_of_getElem? (i := 20) rfl)))), (Or.inl rfl)⟩ (gI_cons ⟨(List.mem_cons_of_mem _ (List.mem_append_left _ (List.mem_append_left _ (List.mem_of_getElem? (i := 21) rfl)))), (Or.inl rfl)⟩ (gI_cons ⟨(List.mem_cons_of_mem _ (List.mem_append_left _ (List.mem_append_left _ (List.mem_of_getElem? (i := 22) rfl)))), (Or.inl rfl)⟩ (gI_cons ⟨(List.mem_cons_of_mem _ (List.mem_append_left _ (List.mem_append_left _ (List.mem_of_getElem? (i := 23) rfl)))), (Or.inl rfl)⟩ (gI_cons ⟨(List.mem_cons_of_mem _ (List.mem_append_left _ (List.mem_append_right _ (List.mem_of_getElem? (i := 0) rfl)))), (Or.inl rfl)⟩ (gI_cons ⟨(List.mem_cons_of_mem _ (List.mem_append_left _ (List.mem_append_right _ (List.mem_of_getElem? (i := 1) rfl)))), (Or.inl rfl)⟩ (gI_cons ⟨(List.mem_cons_of_mem _ (List.mem_append_left _ (List.mem_append_right _ (List.mem_of_getElem? (i := 2) rfl)))), (Or.inl rfl)⟩ (gI_cons ⟨(List.mem_cons_of_mem _ (List.mem_append_left _ (List.mem_append_right _ (List.mem_of_getElem? (i := 3) rfl)))), (Or.inl rfl)⟩ (gI_cons ⟨(List.mem_cons_of_mem _ (List.mem_append_left _ (List.mem_append_right _ (List.mem_of_getElem? (i := 4) rfl)))), (Or.inl rfl)⟩ (gI_cons ⟨(List.mem_cons_of_mem _ (List.mem_append_left _ (List.mem_append_right _ (List.mem_of_getElem? (i := 5) rfl)))), (Or.inl rfl)⟩ (gI_cons ⟨(List.mem_cons_of_mem _ (List.mem_append_left _ (List.mem_append_left _ (List.mem_of_getElem? (i := 20) rfl)))), (Or.inl rfl)⟩ (gI_cons ⟨(List.mem_cons_of_mem _ (List.mem_append_left _ (List.mem_append_right _ (List.mem_of_getElem? (i := 7) rfl)))), (Or.inl rfl)⟩ (gI_cons ⟨(List.mem_cons_of_mem _ (List.mem_append_left _ (List.mem_append_right _ (List.mem_of_getElem? (i := 8) rfl)))), (Or.inl rfl)⟩ (gI_cons ⟨(List.mem_cons_of_mem _ (List.mem_append_left _ (List.mem_append_right _ (List.mem_of_getElem? (i := 9) rfl)))), (Or.inl rfl)⟩ (gI_cons ⟨(List.mem_cons_of_mem _ (List.mem_append_left _ (List.mem_append_right _ (List.mem_of_getElem? (i := 10) rfl)))), (Or.inl rfl)⟩ (gI_cons ⟨(List.mem_cons_of_mem _ (List.mem_append_left _ (List.mem_append_right _ (List.mem_of_getElem? (i := 11) rfl)))), (Or.inl rfl)⟩ (gI_cons ⟨(List.mem_cons_of_mem _ (List.mem_append_left _ (List.mem_append_right _ (List.mem_of_getElem? (i := 12) rfl)))), (Or.inl rfl)⟩ (gI_cons ⟨(List.mem_cons_of_mem _ (List.mem_append_left _ (List.mem_append_right _ (List.mem_of_getElem? (i := 13) rfl)))), (Or.inl rfl)⟩ gI_nil))))))))))))))))))))))))) (show GoodIn _ wsX2_isSeenFrom_r2 from (gI_cons ⟨(List.mem_cons_of_mem _ (List.mem_append_left _ (List.mem_append_right _ (List.mem_of_getElem? (i := 14) rfl)))), (Or.inl rfl)⟩ (gI_cons ⟨(List.mem_cons_of_mem _ (List.mem_append_left _ (List.mem_append_right _ (List.mem_of_getElem? (i := 15) rfl)))), (Or.inl rfl)⟩ gI_nil)))) (goodIn_sub (fun _ h => (List.mem_cons_of_mem _ (List.mem_append_right _ h))) (by decide +kernel))))
set_option maxRecDepth 20000 in
theorem gX2_watchersOf_X2_isSeenFrom : GoodIn wsX2_watchersOf (wsV RX2 89 RX2 yX2_isSeenFrom wsX2_isSeenFrom) := goodIn_app (gI_cons ⟨(List.mem_cons_of_mem _ (List.mem_append_left _ (List.mem_append_left _ (List.mem_of_getElem? (i := 11) rfl)))), (Or.inl rfl)⟩ (gI_cons ⟨(List.mem_cons_of_mem _ (List.mem_append_left _ (List.mem_append_left _ (List.mem_of_getElem? (i := 12) rfl)))), (Or.inl rfl)⟩ (gI_cons ⟨(List.mem_cons_of_mem _ (List.mem_append_left _ (List.mem_append_left _ (List.mem_of_getElem? (i := 13) rfl)))), (Or.inl rfl)⟩ (gI_cons ⟨(List.mem_cons_of_mem _ (List.mem_append_left _ (List.mem_append_left _ (List.mem_of_getElem? (i := 4) rfl)))), (Or.inl rfl)⟩ gI_nil)))) ggX2_watchersOf_X2_isSeenFrom
theorem dX2_watchersOf_0 : decode cX2_watchersOf 0 = .ok (.iconst 0, 1) := by decide +kernel
theorem dX2_watchersOf_1 : decode cX2_watchersOf 1 = .ok (.istore_n 3, 1) := by decide +kernel
theorem dX2_watchersOf_2 : decode cX2_watchersOf 2 = .ok (.iconst 0, 1) := by decide +kernel
theorem dX2_watchersOf_3 : decode cX2_watchersOf 3 = .ok (.istore 4, 2) := by decide +kernel
theorem dX2_watchersOf_5 : decode cX2_watchersOf 5 = .ok (.iload 4, 2) := by decide +kernel
theorem dX2_watchersOf_7 : decode cX2_watchersOf 7 = .ok (.aload_n 0, 1) := by decide +kernel
theorem dX2_watchersOf_8 : decode cX2_watchersOf 8 = .ok (.getfield 39, 3) := by decide +kernel
theorem dX2_watchersOf_11 : decode cX2_watchersOf 11 = .ok (.if_icmp .ge 47, 3) := by decide +kernel
theorem dX2_watchersOf_14 : decode cX2_watchersOf 14 = .ok (.aload_n 0, 1) := by decide +kernel
theorem dX2_watchersOf_15 : decode cX2_watchersOf 15 = .ok (.iload 4, 2) := by decide +kernel
theorem dX2_watchersOf_17 : decode cX2_watchersOf 17 = .ok (.invokevirtual 117, 3) := by decide +kernel
theorem dX2_watchersOf_20 : decode cX2_watchersOf 20 = .ok (.ifCond .eq 32, 3) := by decide +kernel
theorem dX2_watchersOf_23 : decode cX2_watchersOf 23 = .ok (.aload_n 0, 1) := by decide +kernel
theorem dX2_watchersOf_24 : decode cX2_watchersOf 24 = .ok (.iload 4, 2) := by decide +kernel
theorem dX2_watchersOf_26 : decode cX2_watchersOf 26 = .ok (.iconst 0, 1) := by decide +kernel
theorem dX2_watchersOf_27 : decode cX2_watchersOf 27 = .ok (.invokevirtual 86, 3) := by decide +kernel
theorem dX2_watchersOf_30 : decode cX2_watchersOf 30 = .ok (.iload_n 1, 1) := by decide +kernel
theorem dX2_watchersOf_31 : decode cX2_watchersOf 31 = .ok (.if_icmp .eq 21, 3) := by decide +kernel
theorem dX2_watchersOf_34 : decode cX2_watchersOf 34 = .ok (.aload_n 0, 1) := by decide +kernel
theorem dX2_watchersOf_35 : decode cX2_watchersOf 35 = .ok (.aload_n 0, 1) := by decide +kernel
theorem dX2_watchersOf_36 : decode cX2_watchersOf 36 = .ok (.iload 4, 2) := by decide +kernel
theorem dX2_watchersOf_38 : decode cX2_watchersOf 38 = .ok (.iconst 1, 1) := by decide +kernel
theorem dX2_watchersOf_39 : decode cX2_watchersOf 39 = .ok (.invokevirtual 86, 3) := by decide +kernel
theorem dX2_watchersOf_42 : decode cX2_watchersOf 42 = .ok (.iload_n 2, 1) := by decide +kernel
theorem dX2_watchersOf_43 : decode cX2_watchersOf 43 = .ok (.invokevirtual 89, 3) := by decide +kernel
theorem dX2_watchersOf_46 : decode cX2_watchersOf 46 = .ok (.ifCond .eq 6, 3) := by decide +kernel
theorem dX2_watchersOf_49 : decode cX2_watchersOf 49 = .ok (.iinc 3 1, 3) := by decide +kernel
theorem dX2_watchersOf_52 : decode cX2_watchersOf 52 = .ok (.iinc 4 1, 3) := by decide +kernel
theorem dX2_watchersOf_55 : decode cX2_watchersOf 55 = .ok (.goto (-50), 3) := by decide +kernel
theorem dX2_watchersOf_58 : decode cX2_watchersOf 58 = .ok (.iload_n 3, 1) := by decide +kernel
theorem dX2_watchersOf_59 : decode cX2_watchersOf 59 = .ok (.ireturn, 1) := by decide +kernel
set_option maxRecDepth 20000 in
theorem ggX2_hitOf_X2_isAlive : GoodIn wsX2_hitOf wsX2_isAlive := (gI_cons ⟨(List.mem_cons_of_mem _ (List.mem_append_left _ (List.mem_of_getElem? (i := 8) rfl))), (Or.inl rfl)⟩ (goodIn_app (gI_cons ⟨(List.mem_cons_of_mem _ (List.mem_append_left _ (List.mem_of_getElem? (i := 9) rfl))), (Or.inl rfl)⟩ (gI_cons ⟨(List.mem_cons_of_mem _ (List.mem_append_left _ (List.mem_of_getElem? (i := 10) rfl))), (Or.inl rfl)⟩ (gI_cons ⟨(List.mem_cons_of_mem _ (List.mem_append_left _ (List.mem_of_getElem? (i := 11) rfl))), (Or.inl rfl)⟩ (gI_cons ⟨(List.mem_cons_of_mem _ (List.mem_append_left _ (List.mem_of_getElem? (i := 7) rfl))), (Or.inl rfl)⟩ (gI_cons ⟨(List.mem_cons_of_mem _ (List.mem_append_left _ (List.mem_of_getElem? (i := 12) rfl))), (Or.inl rfl)⟩ (gI_cons ⟨(List.mem_cons_of_mem _ (List.mem_append_left _ (List.mem_of_getElem? (i := 13) rfl))), (Or.inl rfl)⟩ gI_nil)))))) (goodIn_sub (fun _ h => (List.mem_cons_of_mem _ (List.mem_append_right _ h))) (by decide +kernel))))
set_option maxRecDepth 20000 in
theorem gX2_hitOf_X2_isAlive : GoodIn wsX2_hitOf (wsV RX2 117 RX2 yX2_isAlive wsX2_isAlive) := goodIn_app (gI_cons ⟨(List.mem_cons_of_mem _ (List.mem_append_left _ (List.mem_of_getElem? (i := 4) rfl))), (Or.inl rfl)⟩ (gI_cons ⟨(List.mem_cons_of_mem _ (List.mem_append_left _ (List.mem_of_getElem? (i := 5) rfl))), (Or.inl rfl)⟩ (gI_cons ⟨(List.mem_cons_of_mem _ (List.mem_append_left _ (List.mem_of_getElem? (i := 6) rfl))), (Or.inl rfl)⟩ (gI_cons ⟨(List.mem_cons_of_mem _ (List.mem_append_left _ (List.mem_of_getElem? (i := 7) rfl))), (Or.inl rfl)⟩ gI_nil)))) ggX2_hitOf_X2_isAlive
set_option maxRecDepth 20000 in
theorem ggX2_hitOf_X2_trait : GoodIn wsX2_hitOf wsX2_trait := (gI_cons ⟨(List.mem_cons_of_mem _ (List.mem_append_left _ (List.mem_of_getElem? (i := 12) rfl))), (Or.inl rfl)⟩ (goodIn_app (gI_cons ⟨(List.mem_cons_of_mem _ (List.mem_append_left _ (List.mem_of_getElem? (i := 13) rfl))), (Or.inl rfl)⟩ gI_nil) (goodIn_sub (fun _ h => (List.mem_cons_of_mem _ (List.mem_append_right _ h))) (by decide +kernel))))
set_option maxRecDepth 20000 in
theorem gX2_hitOf_X2_trait : GoodIn wsX2_hitOf (wsV RX2 86 RX2 yX2_trait wsX2_trait) := goodIn_app (gI_cons ⟨(List.mem_cons_of_mem _ (List.mem_append_left _ (List.mem_of_getElem? (i := 9) rfl))), (Or.inl rfl)⟩ (gI_cons ⟨(List.mem_cons_of_mem _ (List.mem_append_left _ (List.mem_of_getElem? (i := 10) rfl))), (Or.inl rfl)⟩ (gI_cons ⟨(List.mem_cons_of_mem _ (List.mem_append_left _ (List.mem_of_getElem? (i := 11) rfl))), (Or.inl rfl)⟩ (gI_cons ⟨(List.mem_cons_of_mem _ (List.mem_append_left _ (List.mem_of_getElem? (i := 7) rfl))), (Or.inl rfl)⟩ gI_nil)))) ggX2_hitOf_X2_trait
set_option maxRecDepth 20000 in
theorem ggX2_hitOf_X2_stackOf : GoodIn wsX2_hitOf wsX2_stackOf := (gI_cons ⟨(List.mem_cons_of_mem _ (List.mem_append_left _ (List.mem_of_getElem? (i := 17) rfl))), (Or.inl rfl)⟩ (goodIn_app (gI_cons ⟨(List.mem_cons_of_mem _ (List.mem_append_left _ (List.mem_of_getElem? (i := 18) rfl))), (Or.inl rfl)⟩ gI_nil) (goodIn_sub (fun _ h => (List.mem_cons_of_mem _ (List.mem_append_right _ h))) (by decide +kernel))))
set_option maxRecDepth 20000 in
theorem gX2_hitOf_X2_stackOf : GoodIn wsX2_hitOf (wsV RX2 92 RX2 yX2_stackOf wsX2_stackOf) := goodIn_app (gI_cons ⟨(List.mem_cons_of_mem _ (List.mem_append_left _ (List.mem_of_getElem? (i := 14) rfl))), (Or.inl rfl)⟩ (gI_cons ⟨(List.mem_cons_of_mem _ (List.mem_append_left _ (List.mem_of_getElem? (i := 15) rfl))), (Or.inl rfl)⟩ (gI_cons ⟨(List.mem_cons_of_mem _ (List.mem_append_left _ (List.mem_of_getElem? (i := 16) rfl))), (Or.inl rfl)⟩ (gI_cons ⟨(List.mem_cons_of_mem _ (List.mem_append_left _ (List.mem_of_getElem? (i := 7) rfl))), (Or.inl rfl)⟩ gI_nil)))) ggX2_hitOf_X2_stackOf
theorem dX2_hitOf_0 : decode cX2_hitOf 0 = .ok (.aload_n 0, 1) := by decide +kernel
theorem dX2_hitOf_1 : decode cX2_hitOf 1 = .ok (.iload_n 1, 1) := by decide +kernel
theorem dX2_hitOf_2 : decode cX2_hitOf 2 = .ok (.invokevirtual 117, 3) := by decide +kernel
theorem dX2_hitOf_5 : decode cX2_hitOf 5 = .ok (.ifCond .eq 11, 3) := by decide +kernel
theorem dX2_hitOf_8 : decode cX2_hitOf 8 = .ok (.aload_n 0, 1) := by decide +kernel
theorem dX2_hitOf_9 : decode cX2_hitOf 9 = .ok (.iload_n 2, 1) := by decide +kernel
theorem dX2_hitOf_10 : decode cX2_hitOf 10 = .ok (.invokevirtual 117, 3) := by decide +kernel
theorem dX2_hitOf_13 : decode cX2_hitOf 13 = .ok (.ifCond .ne 5, 3) := by decide +kernel
theorem dX2_hitOf_16 : decode cX2_hitOf 16 = .ok (.iconst 0, 1) := by decide +kernel
theorem dX2_hitOf_17 : decode cX2_hitOf 17 = .ok (.ireturn, 1) := by decide +kernel
theorem dX2_hitOf_18 : decode cX2_hitOf 18 = .ok (.aload_n 0, 1) := by decide +kernel
theorem dX2_hitOf_19 : decode cX2_hitOf 19 = .ok (.iload_n 1, 1) := by decide +kernel
theorem dX2_hitOf_20 : decode cX2_hitOf 20 = .ok (.iconst 4, 1) := by decide +kernel
theorem dX2_hitOf_21 : decode cX2_hitOf 21 = .ok (.invokevirtual 86, 3) := by decide +kernel
theorem dX2_hitOf_24 : decode cX2_hitOf 24 = .ok (.aload_n 0, 1) := by decide +kernel
theorem dX2_hitOf_25 : decode cX2_hitOf 25 = .ok (.iload_n 1, 1) := by decide +kernel
theorem dX2_hitOf_26 : decode cX2_hitOf 26 = .ok (.iconst 2, 1) := by decide +kernel
theorem dX2_hitOf_27 : decode cX2_hitOf 27 = .ok (.invokevirtual 92, 3) := by decide +kernel
theorem dX2_hitOf_30 : decode cX2_hitOf 30 = .ok (.iadd, 1) := by decide +kernel
theorem dX2_hitOf_31 : decode cX2_hitOf 31 = .ok (.istore_n 3, 1) := by decide +kernel
theorem dX2_hitOf_32 : decode cX2_hitOf 32 = .ok (.aload_n 0, 1) := by decide +kernel
theorem dX2_hitOf_33 : decode cX2_hitOf 33 = .ok (.iload_n 2, 1) := by decide +kernel
theorem dX2_hitOf_34 : decode cX2_hitOf 34 = .ok (.iconst 5, 1) := by decide +kernel
theorem dX2_hitOf_35 : decode cX2_hitOf 35 = .ok (.invokevirtual 86, 3) := by decide +kernel
theorem dX2_hitOf_38 : decode cX2_hitOf 38 = .ok (.aload_n 0, 1) := by decide +kernel
theorem dX2_hitOf_39 : decode cX2_hitOf 39 = .ok (.iload_n 2, 1) := by decide +kernel
theorem dX2_hitOf_40 : decode cX2_hitOf 40 = .ok (.iconst 3, 1) := by decide +kernel
theorem dX2_hitOf_41 : decode cX2_hitOf 41 = .ok (.invokevirtual 92, 3) := by decide +kernel
theorem dX2_hitOf_44 : decode cX2_hitOf 44 = .ok (.iadd, 1) := by decide +kernel
theorem dX2_hitOf_45 : decode cX2_hitOf 45 = .ok (.istore 4, 2) := by decide +kernel
theorem dX2_hitOf_47 : decode cX2_hitOf 47 = .ok (.iload_n 3, 1) := by decide +kernel
theorem dX2_hitOf_48 : decode cX2_hitOf 48 = .ok (.iload 4, 2) := by decide +kernel
theorem dX2_hitOf_50 : decode cX2_hitOf 50 = .ok (.isub, 1) := by decide +kernel
theorem dX2_hitOf_51 : decode cX2_hitOf 51 = .ok (.iconst 1, 1) := by decide +kernel
theorem dX2_hitOf_52 : decode cX2_hitOf 52 = .ok (.invokestatic 66, 3) := by decide +kernel
theorem dX2_hitOf_55 : decode cX2_hitOf 55 = .ok (.ireturn, 1) := by decide +kernel
set_option maxRecDepth 20000 in
theorem ggX2_takeLife_X2_trait : GoodIn wsX2_takeLife wsX2_trait := (gI_cons ⟨(List.mem_cons_of_mem _ (List.mem_append_left _ (List.mem_of_getElem? (i := 8) rfl))), (Or.inl rfl)⟩ (goodIn_app (gI_cons ⟨(List.mem_cons_of_mem _ (List.mem_append_left _ (List.mem_of_getElem? (i := 9) rfl))), (Or.inl rfl)⟩ gI_nil) (goodIn_sub (fun _ h => (List.mem_cons_of_mem _ (List.mem_append_right _ h))) (by decide +kernel))))
set_option maxRecDepth 20000 in
theorem gX2_takeLife_X2_trait : GoodIn wsX2_takeLife (wsV RX2 86 RX2 yX2_trait wsX2_trait) := goodIn_app (gI_cons ⟨(List.mem_cons_of_mem _ (List.mem_append_left _ (List.mem_of_getElem? (i := 4) rfl))), (Or.inl rfl)⟩ (gI_cons ⟨(List.mem_cons_of_mem _ (List.mem_append_left _ (List.mem_of_getElem? (i := 5) rfl))), (Or.inl rfl)⟩ (gI_cons ⟨(List.mem_cons_of_mem _ (List.mem_append_left _ (List.mem_of_getElem? (i := 6) rfl))), (Or.inl rfl)⟩ (gI_cons ⟨(List.mem_cons_of_mem _ (List.mem_append_left _ (List.mem_of_getElem? (i := 7) rfl))), (Or.inl rfl)⟩ gI_nil)))) ggX2_takeLife_X2_trait
set_option maxRecDepth 20000 in
theorem ggX2_takeLife_X2_putTrait : GoodIn wsX2_takeLife wsX2_putTrait := (gI_cons ⟨(List.mem_cons_of_mem _ (List.mem_append_left _ (List.mem_of_getElem? (i := 13) rfl))), (Or.inl rfl)⟩ (goodIn_app (gI_cons ⟨(List.mem_cons_of_mem _ (List.mem_append_left _ (List.mem_of_getElem? (i := 9) rfl))), (Or.inl rfl)⟩ gI_nil) (goodIn_sub (fun _ h => (List.mem_cons_of_mem _ (List.mem_append_right _ h))) (by decide +kernel))))
set_option maxRecDepth 20000 in
theorem gX2_takeLife_X2_putTrait : GoodIn wsX2_takeLife (wsV RX2 109 RX2 yX2_putTrait wsX2_putTrait) := goodIn_app (gI_cons ⟨(List.mem_cons_of_mem _ (List.mem_append_left _ (List.mem_of_getElem? (i := 10) rfl))), (Or.inl rfl)⟩ (gI_cons ⟨(List.mem_cons_of_mem _ (List.mem_append_left _ (List.mem_of_getElem? (i := 11) rfl))), (Or.inl rfl)⟩ (gI_cons ⟨(List.mem_cons_of_mem _ (List.mem_append_left _ (List.mem_of_getElem? (i := 12) rfl))), (Or.inl rfl)⟩ (gI_cons ⟨(List.mem_cons_of_mem _ (List.mem_append_left _ (List.mem_of_getElem? (i := 7) rfl))), (Or.inl rfl)⟩ gI_nil)))) ggX2_takeLife_X2_putTrait
theorem dX2_takeLife_0 : decode cX2_takeLife 0 = .ok (.aload_n 0, 1) := by decide +kernel
theorem dX2_takeLife_1 : decode cX2_takeLife 1 = .ok (.iload_n 1, 1) := by decide +kernel
theorem dX2_takeLife_2 : decode cX2_takeLife 2 = .ok (.iconst 2, 1) := by decide +kernel
theorem dX2_takeLife_3 : decode cX2_takeLife 3 = .ok (.invokevirtual 86, 3) := by decide +kernel
theorem dX2_takeLife_6 : decode cX2_takeLife 6 = .ok (.istore_n 3, 1) := by decide +kernel
theorem dX2_takeLife_7 : decode cX2_takeLife 7 = .ok (.iload_n 2, 1) := by decide +kernel
theorem dX2_takeLife_8 : decode cX2_takeLife 8 = .ok (.iload_n 3, 1) := by decide +kernel
theorem dX2_takeLife_9 : decode cX2_takeLife 9 = .ok (.invokestatic 95, 3) := by decide +kernel
theorem dX2_takeLife_12 : decode cX2_takeLife 12 = .ok (.istore 4, 2) := by decide +kernel
theorem dX2_takeLife_14 : decode cX2_takeLife 14 = .ok (.aload_n 0, 1) := by decide +kernel
theorem dX2_takeLife_15 : decode cX2_takeLife 15 = .ok (.iload_n 1, 1) := by decide +kernel
theorem dX2_takeLife_16 : decode cX2_takeLife 16 = .ok (.iconst 2, 1) := by decide +kernel
theorem dX2_takeLife_17 : decode cX2_takeLife 17 = .ok (.iload_n 3, 1) := by decide +kernel
theorem dX2_takeLife_18 : decode cX2_takeLife 18 = .ok (.iload 4, 2) := by decide +kernel
theorem dX2_takeLife_20 : decode cX2_takeLife 20 = .ok (.isub, 1) := by decide +kernel
theorem dX2_takeLife_21 : decode cX2_takeLife 21 = .ok (.invokevirtual 109, 3) := by decide +kernel
theorem dX2_takeLife_24 : decode cX2_takeLife 24 = .ok (.iload_n 3, 1) := by decide +kernel
theorem dX2_takeLife_25 : decode cX2_takeLife 25 = .ok (.iload 4, 2) := by decide +kernel
theorem dX2_takeLife_27 : decode cX2_takeLife 27 = .ok (.isub, 1) := by decide +kernel
theorem dX2_takeLife_28 : decode cX2_takeLife 28 = .ok (.ifCond .ne 10, 3) := by decide +kernel
theorem dX2_takeLife_31 : decode cX2_takeLife 31 = .ok (.aload_n 0, 1) := by decide +kernel
theorem dX2_takeLife_32 : decode cX2_takeLife 32 = .ok (.iload_n 1, 1) := by decide +kernel
theorem dX2_takeLife_33 : decode cX2_takeLife 33 = .ok (.iconst 1, 1) := by decide +kernel
theorem dX2_takeLife_34 : decode cX2_takeLife 34 = .ok (.iconst (-1), 1) := by decide +kernel
theorem dX2_takeLife_35 : decode cX2_takeLife 35 = .ok (.invokevirtual 109, 3) := by decide +kernel
theorem dX2_takeLife_38 : decode cX2_takeLife 38 = .ok (.iload 4, 2) := by decide +kernel
theorem dX2_takeLife_40 : decode cX2_takeLife 40 = .ok (.ireturn, 1) := by decide +kernel
theorem dX4_isWithin_0 : decode cX4_isWithin 0 = .ok (.iload_n 0, 1) := by decide +kernel
theorem dX4_isWithin_1 : decode cX4_isWithin 1 = .ok (.iload_n 1, 1) := by decide +kernel
theorem dX4_isWithin_2 : decode cX4_isWithin 2 = .ok (.if_icmp .lt 12, 3) := by decide +kernel
theorem dX4_isWithin_5 : decode cX4_isWithin 5 = .ok (.iload_n 0, 1) := by decide +kernel
theorem dX4_isWithin_6 : decode cX4_isWithin 6 = .ok (.iload_n 2, 1) := by decide +kernel
theorem dX4_isWithin_7 : decode cX4_isWithin 7 = .ok (.if_icmp .gt 7, 3) := by decide +kernel
theorem dX4_isWithin_10 : decode cX4_isWithin 10 = .ok (.iconst 1, 1) := by decide +kernel
theorem dX4_isWithin_11 : decode cX4_isWithin 11 = .ok (.goto 4, 3) := by decide +kernel
theorem dX4_isWithin_14 : decode cX4_isWithin 14 = .ok (.iconst 0, 1) := by decide +kernel
theorem dX4_isWithin_15 : decode cX4_isWithin 15 = .ok (.ireturn, 1) := by decide +kernel
theorem dX4_isCell_0 : decode cX4_isCell 0 = .ok (.iload_n 0, 1) := by decide +kernel
theorem dX4_isCell_1 : decode cX4_isCell 1 = .ok (.ifCond .lt 14, 3) := by decide +kernel
theorem dX4_isCell_4 : decode cX4_isCell 4 = .ok (.iload_n 0, 1) := by decide +kernel
theorem dX4_isCell_5 : decode cX4_isCell 5 = .ok (.sipush 160, 3) := by decide +kernel
theorem dX4_isCell_8 : decode cX4_isCell 8 = .ok (.if_icmp .ge 7, 3) := by decide +kernel
theorem dX4_isCell_11 : decode cX4_isCell 11 = .ok (.iconst 1, 1) := by decide +kernel
theorem dX4_isCell_12 : decode cX4_isCell 12 = .ok (.goto 4, 3) := by decide +kernel
theorem dX4_isCell_15 : decode cX4_isCell 15 = .ok (.iconst 0, 1) := by decide +kernel
theorem dX4_isCell_16 : decode cX4_isCell 16 = .ok (.ireturn, 1) := by decide +kernel
theorem dX4_isSide_0 : decode cX4_isSide 0 = .ok (.iload_n 0, 1) := by decide +kernel
theorem dX4_isSide_1 : decode cX4_isSide 1 = .ok (.ifCond .eq 8, 3) := by decide +kernel
theorem dX4_isSide_4 : decode cX4_isSide 4 = .ok (.iload_n 0, 1) := by decide +kernel
theorem dX4_isSide_5 : decode cX4_isSide 5 = .ok (.iconst 1, 1) := by decide +kernel
theorem dX4_isSide_6 : decode cX4_isSide 6 = .ok (.if_icmp .ne 7, 3) := by decide +kernel
theorem dX4_isSide_9 : decode cX4_isSide 9 = .ok (.iconst 1, 1) := by decide +kernel
theorem dX4_isSide_10 : decode cX4_isSide 10 = .ok (.goto 4, 3) := by decide +kernel
theorem dX4_isSide_13 : decode cX4_isSide 13 = .ok (.iconst 0, 1) := by decide +kernel
theorem dX4_isSide_14 : decode cX4_isSide 14 = .ok (.ireturn, 1) := by decide +kernel
theorem dX4_isEdge_0 : decode cX4_isEdge 0 = .ok (.iload_n 0, 1) := by decide +kernel
theorem dX4_isEdge_1 : decode cX4_isEdge 1 = .ok (.bipush 16, 2) := by decide +kernel
theorem dX4_isEdge_3 : decode cX4_isEdge 3 = .ok (.irem, 1) := by decide +kernel
theorem dX4_isEdge_4 : decode cX4_isEdge 4 = .ok (.istore_n 1, 1) := by decide +kernel
theorem dX4_isEdge_5 : decode cX4_isEdge 5 = .ok (.iload_n 0, 1) := by decide +kernel
theorem dX4_isEdge_6 : decode cX4_isEdge 6 = .ok (.bipush 16, 2) := by decide +kernel
theorem dX4_isEdge_8 : decode cX4_isEdge 8 = .ok (.idiv, 1) := by decide +kernel
theorem dX4_isEdge_9 : decode cX4_isEdge 9 = .ok (.istore_n 2, 1) := by decide +kernel
theorem dX4_isEdge_10 : decode cX4_isEdge 10 = .ok (.iload_n 1, 1) := by decide +kernel
theorem dX4_isEdge_11 : decode cX4_isEdge 11 = .ok (.ifCond .eq 19, 3) := by decide +kernel
theorem dX4_isEdge_14 : decode cX4_isEdge 14 = .ok (.iload_n 1, 1) := by decide +kernel
theorem dX4_isEdge_15 : decode cX4_isEdge 15 = .ok (.bipush 15, 2) := by decide +kernel
theorem dX4_isEdge_17 : decode cX4_isEdge 17 = .ok (.if_icmp .eq 13, 3) := by decide +kernel
theorem dX4_isEdge_20 : decode cX4_isEdge 20 = .ok (.iload_n 2, 1) := by decide +kernel
theorem dX4_isEdge_21 : decode cX4_isEdge 21 = .ok (.ifCond .eq 9, 3) := by decide +kernel
theorem dX4_isEdge_24 : decode cX4_isEdge 24 = .ok (.iload_n 2, 1) := by decide +kernel
theorem dX4_isEdge_25 : decode cX4_isEdge 25 = .ok (.bipush 9, 2) := by decide +kernel
theorem dX4_isEdge_27 : decode cX4_isEdge 27 = .ok (.if_icmp .ne 7, 3) := by decide +kernel
theorem dX4_isEdge_30 : decode cX4_isEdge 30 = .ok (.iconst 1, 1) := by decide +kernel
theorem dX4_isEdge_31 : decode cX4_isEdge 31 = .ok (.goto 4, 3) := by decide +kernel
theorem dX4_isEdge_34 : decode cX4_isEdge 34 = .ok (.iconst 0, 1) := by decide +kernel
theorem dX4_isEdge_35 : decode cX4_isEdge 35 = .ok (.ireturn, 1) := by decide +kernel
theorem dX4_stopsSight_0 : decode cX4_stopsSight 0 = .ok (.iload_n 0, 1) := by decide +kernel
theorem dX4_stopsSight_1 : decode cX4_stopsSight 1 = .ok (.iconst 1, 1) := by decide +kernel
theorem dX4_stopsSight_2 : decode cX4_stopsSight 2 = .ok (.if_icmp .eq 8, 3) := by decide +kernel
theorem dX4_stopsSight_5 : decode cX4_stopsSight 5 = .ok (.iload_n 0, 1) := by decide +kernel
theorem dX4_stopsSight_6 : decode cX4_stopsSight 6 = .ok (.iconst 2, 1) := by decide +kernel
theorem dX4_stopsSight_7 : decode cX4_stopsSight 7 = .ok (.if_icmp .ne 7, 3) := by decide +kernel
theorem dX4_stopsSight_10 : decode cX4_stopsSight 10 = .ok (.iconst 1, 1) := by decide +kernel
theorem dX4_stopsSight_11 : decode cX4_stopsSight 11 = .ok (.goto 4, 3) := by decide +kernel
theorem dX4_stopsSight_14 : decode cX4_stopsSight 14 = .ok (.iconst 0, 1) := by decide +kernel
theorem dX4_stopsSight_15 : decode cX4_stopsSight 15 = .ok (.ireturn, 1) := by decide +kernel
theorem dJ9_floorDiv_7cf53_0 : decode cJ9_floorDiv_7cf53 0 = .ok (.iload_n 0, 1) := by decide +kernel
theorem dJ9_floorDiv_7cf53_1 : decode cJ9_floorDiv_7cf53 1 = .ok (.iload_n 1, 1) := by decide +kernel
theorem dJ9_floorDiv_7cf53_2 : decode cJ9_floorDiv_7cf53 2 = .ok (.idiv, 1) := by decide +kernel
theorem dJ9_floorDiv_7cf53_3 : decode cJ9_floorDiv_7cf53 3 = .ok (.istore_n 2, 1) := by decide +kernel
theorem dJ9_floorDiv_7cf53_4 : decode cJ9_floorDiv_7cf53 4 = .ok (.iload_n 0, 1) := by decide +kernel
theorem dJ9_floorDiv_7cf53_5 : decode cJ9_floorDiv_7cf53 5 = .ok (.iload_n 1, 1) := by decide +kernel
theorem dJ9_floorDiv_7cf53_6 : decode cJ9_floorDiv_7cf53 6 = .ok (.ixor, 1) := by decide +kernel
theorem dJ9_floorDiv_7cf53_7 : decode cJ9_floorDiv_7cf53 7 = .ok (.ifCond .ge 14, 3) := by decide +kernel
theorem dJ9_floorDiv_7cf53_10 : decode cJ9_floorDiv_7cf53 10 = .ok (.iload_n 2, 1) := by decide +kernel
theorem dJ9_floorDiv_7cf53_11 : decode cJ9_floorDiv_7cf53 11 = .ok (.iload_n 1, 1) := by decide +kernel
theorem dJ9_floorDiv_7cf53_12 : decode cJ9_floorDiv_7cf53 12 = .ok (.imul, 1) := by decide +kernel
theorem dJ9_floorDiv_7cf53_13 : decode cJ9_floorDiv_7cf53 13 = .ok (.iload_n 0, 1) := by decide +kernel
theorem dJ9_floorDiv_7cf53_14 : decode cJ9_floorDiv_7cf53 14 = .ok (.if_icmp .eq 7, 3) := by decide +kernel
theorem dJ9_floorDiv_7cf53_17 : decode cJ9_floorDiv_7cf53 17 = .ok (.iload_n 2, 1) := by decide +kernel
theorem dJ9_floorDiv_7cf53_18 : decode cJ9_floorDiv_7cf53 18 = .ok (.iconst 1, 1) := by decide +kernel
theorem dJ9_floorDiv_7cf53_19 : decode cJ9_floorDiv_7cf53 19 = .ok (.isub, 1) := by decide +kernel
theorem dJ9_floorDiv_7cf53_20 : decode cJ9_floorDiv_7cf53 20 = .ok (.ireturn, 1) := by decide +kernel
theorem dJ9_floorDiv_7cf53_21 : decode cJ9_floorDiv_7cf53 21 = .ok (.iload_n 2, 1) := by decide +kernel
theorem dJ9_floorDiv_7cf53_22 : decode cJ9_floorDiv_7cf53 22 = .ok (.ireturn, 1) := by decide +kernel
theorem dJ7_fill_53178_0 : decode cJ7_fill_53178 0 = .ok (.iconst 0, 1) := by decide +kernel
theorem dJ7_fill_53178_1 : decode cJ7_fill_53178 1 = .ok (.istore_n 2, 1) := by decide +kernel
theorem dJ7_fill_53178_2 : decode cJ7_fill_53178 2 = .ok (.aload_n 0, 1) := by decide +kernel
theorem dJ7_fill_53178_3 : decode cJ7_fill_53178 3 = .ok (.arraylength, 1) := by decide +kernel
theorem dJ7_fill_53178_4 : decode cJ7_fill_53178 4 = .ok (.istore_n 3, 1) := by decide +kernel
theorem dJ7_fill_53178_5 : decode cJ7_fill_53178 5 = .ok (.iload_n 2, 1) := by decide +kernel
theorem dJ7_fill_53178_6 : decode cJ7_fill_53178 6 = .ok (.iload_n 3, 1) := by decide +kernel
theorem dJ7_fill_53178_7 : decode cJ7_fill_53178 7 = .ok (.if_icmp .ge 13, 3) := by decide +kernel
theorem dJ7_fill_53178_10 : decode cJ7_fill_53178 10 = .ok (.aload_n 0, 1) := by decide +kernel
theorem dJ7_fill_53178_11 : decode cJ7_fill_53178 11 = .ok (.iload_n 2, 1) := by decide +kernel
theorem dJ7_fill_53178_12 : decode cJ7_fill_53178 12 = .ok (.iload_n 1, 1) := by decide +kernel
theorem dJ7_fill_53178_13 : decode cJ7_fill_53178 13 = .ok (.iastore, 1) := by decide +kernel
theorem dJ7_fill_53178_14 : decode cJ7_fill_53178 14 = .ok (.iinc 2 1, 3) := by decide +kernel
theorem dJ7_fill_53178_17 : decode cJ7_fill_53178 17 = .ok (.goto (-12), 3) := by decide +kernel
theorem dJ7_fill_53178_20 : decode cJ7_fill_53178 20 = .ok (.return_, 1) := by decide +kernel
