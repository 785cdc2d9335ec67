set_option maxRecDepth 20000 in
theorem ggX6_init_X0_init : GoodIn wsX6_init wsX0_init := goodIn_r _ [30, 31, 2, 3, 32, 33, 34, 35, 36, 37, 38, 39, 40, 6, 41, 42, 43, 44, 45, 46, 47, 95, 96, 97, 98, 99, 100] (by decide +kernel) (by decide +kernel)
set_option maxRecDepth 20000 in
theorem gX6_init_X0_init : GoodIn wsX6_init (wsX0_init) := ggX6_init_X0_init
set_option maxRecDepth 20000 in
theorem ggX6_init_X4_init : GoodIn wsX6_init wsX4_init := goodIn_r _ [49, 50, 2, 3, 51, 52, 53, 54, 55, 56, 57, 58, 107] (by decide +kernel) (by decide +kernel)
set_option maxRecDepth 20000 in
theorem gX6_init_X4_init_n18 : GoodIn wsX6_init (wsX4_init) := ggX6_init_X4_init
set_option maxRecDepth 20000 in
theorem ggX6_init_X3_init : GoodIn wsX6_init wsX3_init := goodIn_r _ [61, 62, 2, 3, 63, 64, 108, 109] (by decide +kernel) (by decide +kernel)
set_option maxRecDepth 20000 in
theorem gX6_init_X3_init : GoodIn wsX6_init (wsX3_init) := ggX6_init_X3_init
set_option maxRecDepth 20000 in
theorem ggX6_init_X5_init : GoodIn wsX6_init wsX5_init := goodIn_r _ [67, 68, 2, 3, 69, 70, 71, 32, 72, 73, 74, 75, 76, 77, 110, 111, 112, 113, 114, 115, 116, 117] (by decide +kernel) (by decide +kernel)
set_option maxRecDepth 20000 in
theorem gX6_init_X5_init : GoodIn wsX6_init (wsX5_init) := ggX6_init_X5_init
set_option maxRecDepth 20000 in
theorem ggX6_init_X2_init : GoodIn wsX6_init wsX2_init := goodIn_r _ [80, 81, 2, 3, 69, 82, 83, 84, 85, 86, 118, 119, 120, 121, 122] (by decide +kernel) (by decide +kernel)
set_option maxRecDepth 20000 in
theorem gX6_init_X2_init : GoodIn wsX6_init (wsX2_init) := ggX6_init_X2_init
set_option maxRecDepth 20000 in
theorem ggX6_init_X1_init : GoodIn wsX6_init wsX1_init := goodIn_r _ [89, 90, 2, 3, 32, 91, 92, 93, 94, 123, 124, 125, 126] (by decide +kernel) (by decide +kernel)
set_option maxRecDepth 20000 in
theorem gX6_init_X1_init : GoodIn wsX6_init (wsX1_init) := ggX6_init_X1_init
theorem dX6_init_0 : decode cX6_init 0 = .ok (.aload_n 0, 1) := by decide +kernel
theorem dX6_init_1 : decode cX6_init 1 = .ok (.invokespecial 3, 3) := by decide +kernel
theorem dX6_init_4 : decode cX6_init 4 = .ok (.aload_n 0, 1) := by decide +kernel
theorem dX6_init_5 : decode cX6_init 5 = .ok (.new 9, 3) := by decide +kernel
theorem dX6_init_8 : decode cX6_init 8 = .ok (.dup, 1) := by decide +kernel
theorem dX6_init_9 : decode cX6_init 9 = .ok (.invokespecial 11, 3) := by decide +kernel
theorem dX6_init_12 : decode cX6_init 12 = .ok (.putfield 12, 3) := by decide +kernel
theorem dX6_init_15 : decode cX6_init 15 = .ok (.aload_n 0, 1) := by decide +kernel
theorem dX6_init_16 : decode cX6_init 16 = .ok (.new 16, 3) := by decide +kernel
theorem dX6_init_19 : decode cX6_init 19 = .ok (.dup, 1) := by decide +kernel
theorem dX6_init_20 : decode cX6_init 20 = .ok (.invokespecial 18, 3) := by decide +kernel
theorem dX6_init_23 : decode cX6_init 23 = .ok (.putfield 19, 3) := by decide +kernel
theorem dX6_init_26 : decode cX6_init 26 = .ok (.aload_n 0, 1) := by decide +kernel
theorem dX6_init_27 : decode cX6_init 27 = .ok (.new 23, 3) := by decide +kernel
theorem dX6_init_30 : decode cX6_init 30 = .ok (.dup, 1) := by decide +kernel
theorem dX6_init_31 : decode cX6_init 31 = .ok (.aload_n 0, 1) := by decide +kernel
theorem dX6_init_32 : decode cX6_init 32 = .ok (.getfield 12, 3) := by decide +kernel
theorem dX6_init_35 : decode cX6_init 35 = .ok (.aload_n 0, 1) := by decide +kernel
theorem dX6_init_36 : decode cX6_init 36 = .ok (.getfield 19, 3) := by decide +kernel
theorem dX6_init_39 : decode cX6_init 39 = .ok (.invokespecial 25, 3) := by decide +kernel
theorem dX6_init_42 : decode cX6_init 42 = .ok (.putfield 28, 3) := by decide +kernel
theorem dX6_init_45 : decode cX6_init 45 = .ok (.aload_n 0, 1) := by decide +kernel
theorem dX6_init_46 : decode cX6_init 46 = .ok (.new 32, 3) := by decide +kernel
theorem dX6_init_49 : decode cX6_init 49 = .ok (.dup, 1) := by decide +kernel
theorem dX6_init_50 : decode cX6_init 50 = .ok (.aload_n 0, 1) := by decide +kernel
theorem dX6_init_51 : decode cX6_init 51 = .ok (.getfield 12, 3) := by decide +kernel
theorem dX6_init_54 : decode cX6_init 54 = .ok (.aload_n 0, 1) := by decide +kernel
theorem dX6_init_55 : decode cX6_init 55 = .ok (.getfield 28, 3) := by decide +kernel
theorem dX6_init_58 : decode cX6_init 58 = .ok (.invokespecial 34, 3) := by decide +kernel
theorem dX6_init_61 : decode cX6_init 61 = .ok (.putfield 37, 3) := by decide +kernel
theorem dX6_init_64 : decode cX6_init 64 = .ok (.aload_n 0, 1) := by decide +kernel
theorem dX6_init_65 : decode cX6_init 65 = .ok (.new 41, 3) := by decide +kernel
theorem dX6_init_68 : decode cX6_init 68 = .ok (.dup, 1) := by decide +kernel
theorem dX6_init_69 : decode cX6_init 69 = .ok (.aload_n 0, 1) := by decide +kernel
theorem dX6_init_70 : decode cX6_init 70 = .ok (.getfield 12, 3) := by decide +kernel
theorem dX6_init_73 : decode cX6_init 73 = .ok (.aload_n 0, 1) := by decide +kernel
theorem dX6_init_74 : decode cX6_init 74 = .ok (.getfield 37, 3) := by decide +kernel
theorem dX6_init_77 : decode cX6_init 77 = .ok (.invokespecial 43, 3) := by decide +kernel
theorem dX6_init_80 : decode cX6_init 80 = .ok (.putfield 46, 3) := by decide +kernel
theorem dX6_init_83 : decode cX6_init 83 = .ok (.aload_n 0, 1) := by decide +kernel
theorem dX6_init_84 : decode cX6_init 84 = .ok (.new 50, 3) := by decide +kernel
theorem dX6_init_87 : decode cX6_init 87 = .ok (.dup, 1) := by decide +kernel
theorem dX6_init_88 : decode cX6_init 88 = .ok (.aload_n 0, 1) := by decide +kernel
theorem dX6_init_89 : decode cX6_init 89 = .ok (.getfield 12, 3) := by decide +kernel
theorem dX6_init_92 : decode cX6_init 92 = .ok (.aload_n 0, 1) := by decide +kernel
theorem dX6_init_93 : decode cX6_init 93 = .ok (.getfield 28, 3) := by decide +kernel
theorem dX6_init_96 : decode cX6_init 96 = .ok (.invokespecial 52, 3) := by decide +kernel
theorem dX6_init_99 : decode cX6_init 99 = .ok (.putfield 53, 3) := by decide +kernel
theorem dX6_init_102 : decode cX6_init 102 = .ok (.return_, 1) := by decide +kernel
set_option maxRecDepth 20000 in
theorem ggX6_line_X0_cellCount : GoodIn wsX6_line wsX0_cellCount := goodIn_r _ [7, 8, 53, 54, 55, 56, 57, 58] (by decide +kernel) (by decide +kernel)
set_option maxRecDepth 20000 in
theorem gX6_line_X0_cellCount : GoodIn wsX6_line (wsV RX6 57 RX0 yX0_cellCount wsX0_cellCount) := goodIn_app (goodIn_of _ (by decide +kernel)) ggX6_line_X0_cellCount
set_option maxRecDepth 20000 in
theorem ggX6_line_X0_lay : GoodIn wsX6_line wsX0_lay := goodIn_r _ [12, 8, 13, 14, 15, 16, 17, 18, 6, 19, 20, 21, 53, 54, 55, 56, 57, 58] (by decide +kernel) (by decide +kernel)
set_option maxRecDepth 20000 in
theorem gX6_line_X0_lay : GoodIn wsX6_line (wsV RX6 61 RX0 yX0_lay wsX0_lay) := goodIn_app (goodIn_of _ (by decide +kernel)) ggX6_line_X0_lay
set_option maxRecDepth 20000 in
theorem ggX6_line_X1_wipe : GoodIn wsX6_line wsX1_wipe := goodIn_r _ [26, 27, 59, 60, 61, 62] (by decide +kernel) (by decide +kernel)
set_option maxRecDepth 20000 in
theorem gX6_line_X1_wipe : GoodIn wsX6_line (wsV RX6 65 RX1 yX1_wipe wsX1_wipe) := goodIn_app (goodIn_of _ (by decide +kernel)) ggX6_line_X1_wipe
set_option maxRecDepth 20000 in
theorem ggX6_line_X6_forgetChoices : GoodIn wsX6_line wsX6_forgetChoices := goodIn_r _ [32, 33, 34, 35, 36, 37, 38, 39, 40, 41, 42, 43, 44, 45, 46, 47, 48, 49, 50, 51, 52, 63, 64, 65, 66, 67, 68, 69, 70, 71, 72, 73, 74, 75] (by decide +kernel) (by decide +kernel)
set_option maxRecDepth 20000 in
theorem gX6_line_X6_forgetChoices : GoodIn wsX6_line (wsV RX6 68 RX6 yX6_forgetChoices wsX6_forgetChoices) := goodIn_app (goodIn_of _ (by decide +kernel)) ggX6_line_X6_forgetChoices
theorem dX6_line_0 : decode cX6_line 0 = .ok (.iload_n 1, 1) := by decide +kernel
theorem dX6_line_1 : decode cX6_line 1 = .ok (.iconst 1, 1) := by decide +kernel
theorem dX6_line_2 : decode cX6_line 2 = .ok (.if_icmp .lt 9, 3) := by decide +kernel
theorem dX6_line_5 : decode cX6_line 5 = .ok (.iload_n 1, 1) := by decide +kernel
theorem dX6_line_6 : decode cX6_line 6 = .ok (.bipush 16, 2) := by decide +kernel
theorem dX6_line_8 : decode cX6_line 8 = .ok (.if_icmp .le 6, 3) := by decide +kernel
theorem dX6_line_11 : decode cX6_line 11 = .ok (.bipush (-2), 2) := by decide +kernel
theorem dX6_line_13 : decode cX6_line 13 = .ok (.ireturn, 1) := by decide +kernel
theorem dX6_line_14 : decode cX6_line 14 = .ok (.aload_n 0, 1) := by decide +kernel
theorem dX6_line_15 : decode cX6_line 15 = .ok (.getfield 12, 3) := by decide +kernel
theorem dX6_line_18 : decode cX6_line 18 = .ok (.invokevirtual 57, 3) := by decide +kernel
theorem dX6_line_21 : decode cX6_line 21 = .ok (.istore_n 2, 1) := by decide +kernel
theorem dX6_line_22 : decode cX6_line 22 = .ok (.aload_n 0, 1) := by decide +kernel
theorem dX6_line_23 : decode cX6_line 23 = .ok (.getfield 12, 3) := by decide +kernel
theorem dX6_line_26 : decode cX6_line 26 = .ok (.iload_n 1, 1) := by decide +kernel
theorem dX6_line_27 : decode cX6_line 27 = .ok (.invokevirtual 61, 3) := by decide +kernel
theorem dX6_line_30 : decode cX6_line 30 = .ok (.aload_n 0, 1) := by decide +kernel
theorem dX6_line_31 : decode cX6_line 31 = .ok (.getfield 53, 3) := by decide +kernel
theorem dX6_line_34 : decode cX6_line 34 = .ok (.invokevirtual 65, 3) := by decide +kernel
theorem dX6_line_37 : decode cX6_line 37 = .ok (.aload_n 0, 1) := by decide +kernel
theorem dX6_line_38 : decode cX6_line 38 = .ok (.invokevirtual 68, 3) := by decide +kernel
theorem dX6_line_41 : decode cX6_line 41 = .ok (.iload_n 2, 1) := by decide +kernel
theorem dX6_line_42 : decode cX6_line 42 = .ok (.ireturn, 1) := by decide +kernel
set_option maxRecDepth 20000 in
theorem ggX6_cell_X0_hasCell : GoodIn wsX6_cell wsX0_hasCell := goodIn_r _ [6, 7, 43, 44, 45, 46, 47, 48] (by decide +kernel) (by decide +kernel)
set_option maxRecDepth 20000 in
theorem gX6_cell_X0_hasCell : GoodIn wsX6_cell (wsV RX6 71 RX0 yX0_hasCell wsX0_hasCell) := goodIn_app (goodIn_of _ (by decide +kernel)) ggX6_cell_X0_hasCell
set_option maxRecDepth 20000 in
theorem ggX6_cell_X0_limitOf : GoodIn wsX6_cell wsX0_limitOf := goodIn_r _ [11, 12, 43, 44, 45, 46, 47, 48] (by decide +kernel) (by decide +kernel)
set_option maxRecDepth 20000 in
theorem gX6_cell_X0_limitOf : GoodIn wsX6_cell (wsV RX6 75 RX0 yX0_limitOf wsX0_limitOf) := goodIn_app (goodIn_of _ (by decide +kernel)) ggX6_cell_X0_limitOf
set_option maxRecDepth 20000 in
theorem ggX6_cell_X0_shape : GoodIn wsX6_cell wsX0_shape := goodIn_r _ [16, 17, 12, 43, 44, 45, 46, 47, 48] (by decide +kernel) (by decide +kernel)
set_option maxRecDepth 20000 in
theorem gX6_cell_X0_shape : GoodIn wsX6_cell (wsV RX6 79 RX0 yX0_shape wsX0_shape) := goodIn_app (goodIn_of _ (by decide +kernel)) ggX6_cell_X0_shape
set_option maxRecDepth 20000 in
theorem ggX6_cell_X6_forgetChoices : GoodIn wsX6_cell wsX6_forgetChoices := goodIn_r _ [22, 23, 24, 25, 26, 27, 28, 29, 30, 31, 32, 33, 34, 35, 36, 37, 38, 39, 40, 41, 42, 49, 50, 51, 52, 53, 54, 55, 56, 57, 58, 59, 60, 61] (by decide +kernel) (by decide +kernel)
set_option maxRecDepth 20000 in
theorem gX6_cell_X6_forgetChoices : GoodIn wsX6_cell (wsV RX6 68 RX6 yX6_forgetChoices wsX6_forgetChoices) := goodIn_app (goodIn_of _ (by decide +kernel)) ggX6_cell_X6_forgetChoices
theorem dX6_cell_0 : decode cX6_cell 0 = .ok (.aload_n 0, 1) := by decide +kernel
theorem dX6_cell_1 : decode cX6_cell 1 = .ok (.getfield 12, 3) := by decide +kernel
theorem dX6_cell_4 : decode cX6_cell 4 = .ok (.iload_n 1, 1) := by decide +kernel
theorem dX6_cell_5 : decode cX6_cell 5 = .ok (.invokevirtual 71, 3) := by decide +kernel
theorem dX6_cell_8 : decode cX6_cell 8 = .ok (.ifCond .ne 5, 3) := by decide +kernel
theorem dX6_cell_11 : decode cX6_cell 11 = .ok (.iconst (-1), 1) := by decide +kernel
theorem dX6_cell_12 : decode cX6_cell 12 = .ok (.ireturn, 1) := by decide +kernel
theorem dX6_cell_13 : decode cX6_cell 13 = .ok (.iload_n 2, 1) := by decide +kernel
theorem dX6_cell_14 : decode cX6_cell 14 = .ok (.bipush (-4), 2) := by decide +kernel
theorem dX6_cell_16 : decode cX6_cell 16 = .ok (.if_icmp .lt 19, 3) := by decide +kernel
theorem dX6_cell_19 : decode cX6_cell 19 = .ok (.iload_n 2, 1) := by decide +kernel
theorem dX6_cell_20 : decode cX6_cell 20 = .ok (.iconst 4, 1) := by decide +kernel
theorem dX6_cell_21 : decode cX6_cell 21 = .ok (.if_icmp .gt 14, 3) := by decide +kernel
theorem dX6_cell_24 : decode cX6_cell 24 = .ok (.iload_n 3, 1) := by decide +kernel
theorem dX6_cell_25 : decode cX6_cell 25 = .ok (.iconst 1, 1) := by decide +kernel
theorem dX6_cell_26 : decode cX6_cell 26 = .ok (.if_icmp .lt 9, 3) := by decide +kernel
theorem dX6_cell_29 : decode cX6_cell 29 = .ok (.iload_n 3, 1) := by decide +kernel
theorem dX6_cell_30 : decode cX6_cell 30 = .ok (.bipush 6, 2) := by decide +kernel
theorem dX6_cell_32 : decode cX6_cell 32 = .ok (.if_icmp .le 6, 3) := by decide +kernel
theorem dX6_cell_35 : decode cX6_cell 35 = .ok (.bipush (-2), 2) := by decide +kernel
theorem dX6_cell_37 : decode cX6_cell 37 = .ok (.ireturn, 1) := by decide +kernel
theorem dX6_cell_38 : decode cX6_cell 38 = .ok (.aload_n 0, 1) := by decide +kernel
theorem dX6_cell_39 : decode cX6_cell 39 = .ok (.getfield 12, 3) := by decide +kernel
theorem dX6_cell_42 : decode cX6_cell 42 = .ok (.iload_n 1, 1) := by decide +kernel
theorem dX6_cell_43 : decode cX6_cell 43 = .ok (.invokevirtual 75, 3) := by decide +kernel
theorem dX6_cell_46 : decode cX6_cell 46 = .ok (.istore 4, 2) := by decide +kernel
theorem dX6_cell_48 : decode cX6_cell 48 = .ok (.aload_n 0, 1) := by decide +kernel
theorem dX6_cell_49 : decode cX6_cell 49 = .ok (.getfield 12, 3) := by decide +kernel
theorem dX6_cell_52 : decode cX6_cell 52 = .ok (.iload_n 1, 1) := by decide +kernel
theorem dX6_cell_53 : decode cX6_cell 53 = .ok (.iload_n 2, 1) := by decide +kernel
theorem dX6_cell_54 : decode cX6_cell 54 = .ok (.iload_n 3, 1) := by decide +kernel
theorem dX6_cell_55 : decode cX6_cell 55 = .ok (.invokevirtual 79, 3) := by decide +kernel
theorem dX6_cell_58 : decode cX6_cell 58 = .ok (.aload_n 0, 1) := by decide +kernel
theorem dX6_cell_59 : decode cX6_cell 59 = .ok (.invokevirtual 68, 3) := by decide +kernel
theorem dX6_cell_62 : decode cX6_cell 62 = .ok (.iload 4, 2) := by decide +kernel
theorem dX6_cell_64 : decode cX6_cell 64 = .ok (.ireturn, 1) := by decide +kernel
set_option maxRecDepth 20000 in
theorem ggX6_stop_X0_hasPost : GoodIn wsX6_stop wsX0_hasPost := goodIn_r _ [6, 7, 52, 53, 54, 55, 56, 57] (by decide +kernel) (by decide +kernel)
set_option maxRecDepth 20000 in
theorem gX6_stop_X0_hasPost : GoodIn wsX6_stop (wsV RX6 83 RX0 yX0_hasPost wsX0_hasPost) := goodIn_app (goodIn_of _ (by decide +kernel)) ggX6_stop_X0_hasPost
set_option maxRecDepth 20000 in
theorem ggX6_stop_X0_isEnd : GoodIn wsX6_stop wsX0_isEnd := goodIn_r _ [11, 7, 52, 53, 54, 55, 56, 57] (by decide +kernel) (by decide +kernel)
set_option maxRecDepth 20000 in
theorem gX6_stop_X0_isEnd : GoodIn wsX6_stop (wsV RX6 86 RX0 yX0_isEnd wsX0_isEnd) := goodIn_app (goodIn_of _ (by decide +kernel)) ggX6_stop_X0_isEnd
set_option maxRecDepth 20000 in
theorem ggX6_stop_X0_markStop : GoodIn wsX6_stop wsX0_markStop := goodIn_r _ [15, 16, 17, 18, 19, 5, 20, 7, 21, 22, 52, 53, 54, 55, 56, 57] (by decide +kernel) (by decide +kernel)
set_option maxRecDepth 20000 in
theorem gX6_stop_X0_markStop : GoodIn wsX6_stop (wsV RX6 89 RX0 yX0_markStop wsX0_markStop) := goodIn_app (goodIn_of _ (by decide +kernel)) ggX6_stop_X0_markStop
set_option maxRecDepth 20000 in
theorem ggX6_stop_X6_forgetChoices : GoodIn wsX6_stop wsX6_forgetChoices := goodIn_r _ [27, 28, 29, 30, 31, 32, 33, 34, 35, 36, 37, 38, 39, 40, 41, 46, 47, 48, 49, 50, 51, 58, 59, 60, 61, 62, 63, 64, 65, 66, 67, 68, 69, 70] (by decide +kernel) (by decide +kernel)
set_option maxRecDepth 20000 in
theorem gX6_stop_X6_forgetChoices : GoodIn wsX6_stop (wsV RX6 68 RX6 yX6_forgetChoices wsX6_forgetChoices) := goodIn_app (goodIn_of _ (by decide +kernel)) ggX6_stop_X6_forgetChoices
set_option maxRecDepth 20000 in
theorem ggX6_stop_X0_legCount : GoodIn wsX6_stop wsX0_legCount := goodIn_r _ [45, 22, 52, 53, 54, 55, 56, 57] (by decide +kernel) (by decide +kernel)
set_option maxRecDepth 20000 in
theorem gX6_stop_X0_legCount : GoodIn wsX6_stop (wsV RX6 93 RX0 yX0_legCount wsX0_legCount) := goodIn_app (goodIn_of _ (by decide +kernel)) ggX6_stop_X0_legCount
theorem dX6_stop_0 : decode cX6_stop 0 = .ok (.aload_n 0, 1) := by decide +kernel
theorem dX6_stop_1 : decode cX6_stop 1 = .ok (.getfield 12, 3) := by decide +kernel
theorem dX6_stop_4 : decode cX6_stop 4 = .ok (.iload_n 1, 1) := by decide +kernel
theorem dX6_stop_5 : decode cX6_stop 5 = .ok (.invokevirtual 83, 3) := by decide +kernel
theorem dX6_stop_8 : decode cX6_stop 8 = .ok (.ifCond .ne 5, 3) := by decide +kernel
theorem dX6_stop_11 : decode cX6_stop 11 = .ok (.iconst (-1), 1) := by decide +kernel
theorem dX6_stop_12 : decode cX6_stop 12 = .ok (.ireturn, 1) := by decide +kernel
theorem dX6_stop_13 : decode cX6_stop 13 = .ok (.aload_n 0, 1) := by decide +kernel
theorem dX6_stop_14 : decode cX6_stop 14 = .ok (.getfield 12, 3) := by decide +kernel
theorem dX6_stop_17 : decode cX6_stop 17 = .ok (.iload_n 1, 1) := by decide +kernel
theorem dX6_stop_18 : decode cX6_stop 18 = .ok (.invokevirtual 86, 3) := by decide +kernel
theorem dX6_stop_21 : decode cX6_stop 21 = .ok (.ifCond .eq 6, 3) := by decide +kernel
theorem dX6_stop_24 : decode cX6_stop 24 = .ok (.bipush (-3), 2) := by decide +kernel
theorem dX6_stop_26 : decode cX6_stop 26 = .ok (.ireturn, 1) := by decide +kernel
theorem dX6_stop_27 : decode cX6_stop 27 = .ok (.aload_n 0, 1) := by decide +kernel
theorem dX6_stop_28 : decode cX6_stop 28 = .ok (.getfield 12, 3) := by decide +kernel
theorem dX6_stop_31 : decode cX6_stop 31 = .ok (.iload_n 1, 1) := by decide +kernel
theorem dX6_stop_32 : decode cX6_stop 32 = .ok (.iload_n 2, 1) := by decide +kernel
theorem dX6_stop_33 : decode cX6_stop 33 = .ok (.invokevirtual 89, 3) := by decide +kernel
theorem dX6_stop_36 : decode cX6_stop 36 = .ok (.aload_n 0, 1) := by decide +kernel
theorem dX6_stop_37 : decode cX6_stop 37 = .ok (.invokevirtual 68, 3) := by decide +kernel
theorem dX6_stop_40 : decode cX6_stop 40 = .ok (.aload_n 0, 1) := by decide +kernel
theorem dX6_stop_41 : decode cX6_stop 41 = .ok (.getfield 12, 3) := by decide +kernel
theorem dX6_stop_44 : decode cX6_stop 44 = .ok (.invokevirtual 93, 3) := by decide +kernel
theorem dX6_stop_47 : decode cX6_stop 47 = .ok (.ireturn, 1) := by decide +kernel
set_option maxRecDepth 20000 in
theorem ggX6_train_X4_knows : GoodIn wsX6_train wsX4_knows := goodIn_r _ [6, 7, 47] (by decide +kernel) (by decide +kernel)
set_option maxRecDepth 20000 in
theorem gX6_train_X4_knows : GoodIn wsX6_train (wsV RX6 96 RX4 yX4_knows wsX4_knows) := goodIn_app (goodIn_of _ (by decide +kernel)) ggX6_train_X4_knows
set_option maxRecDepth 20000 in
theorem ggX6_train_X4_mayBe : GoodIn wsX6_train wsX4_mayBe := goodIn_r _ [11, 12, 13] (by decide +kernel) (by decide +kernel)
set_option maxRecDepth 20000 in
theorem gX6_train_X4_mayBe : GoodIn wsX6_train (wsV RX6 99 RX4 yX4_mayBe wsX4_mayBe) := goodIn_app (goodIn_of _ (by decide +kernel)) ggX6_train_X4_mayBe
set_option maxRecDepth 20000 in
theorem ggX6_train_X4_number : GoodIn wsX6_train wsX4_number := goodIn_r _ [17, 7, 47] (by decide +kernel) (by decide +kernel)
set_option maxRecDepth 20000 in
theorem gX6_train_X4_number : GoodIn wsX6_train (wsV RX6 103 RX4 yX4_number wsX4_number) := goodIn_app (goodIn_of _ (by decide +kernel)) ggX6_train_X4_number
set_option maxRecDepth 20000 in
theorem ggX6_train_X4_put : GoodIn wsX6_train wsX4_put := goodIn_r _ [21, 7, 47] (by decide +kernel) (by decide +kernel)
set_option maxRecDepth 20000 in
theorem gX6_train_X4_put : GoodIn wsX6_train (wsV RX6 106 RX4 yX4_put wsX4_put) := goodIn_app (goodIn_of _ (by decide +kernel)) ggX6_train_X4_put
set_option maxRecDepth 20000 in
theorem ggX6_train_X6_forgetChoices : GoodIn wsX6_train wsX6_forgetChoices := goodIn_r _ [26, 27, 28, 29, 30, 31, 32, 33, 34, 35, 36, 37, 38, 39, 40, 41, 42, 43, 44, 45, 46, 48, 49, 50, 51, 52, 53, 54, 55, 56, 57, 58, 59, 60] (by decide +kernel) (by decide +kernel)
set_option maxRecDepth 20000 in
theorem gX6_train_X6_forgetChoices : GoodIn wsX6_train (wsV RX6 68 RX6 yX6_forgetChoices wsX6_forgetChoices) := goodIn_app (goodIn_of _ (by decide +kernel)) ggX6_train_X6_forgetChoices
theorem dX6_train_0 : decode cX6_train 0 = .ok (.aload_n 0, 1) := by decide +kernel
theorem dX6_train_1 : decode cX6_train 1 = .ok (.getfield 19, 3) := by decide +kernel
theorem dX6_train_4 : decode cX6_train 4 = .ok (.iload_n 1, 1) := by decide +kernel
theorem dX6_train_5 : decode cX6_train 5 = .ok (.invokevirtual 96, 3) := by decide +kernel
theorem dX6_train_8 : decode cX6_train 8 = .ok (.ifCond .eq 15, 3) := by decide +kernel
theorem dX6_train_11 : decode cX6_train 11 = .ok (.aload_n 0, 1) := by decide +kernel
theorem dX6_train_12 : decode cX6_train 12 = .ok (.getfield 19, 3) := by decide +kernel
theorem dX6_train_15 : decode cX6_train 15 = .ok (.iload_n 1, 1) := by decide +kernel
theorem dX6_train_16 : decode cX6_train 16 = .ok (.iload_n 2, 1) := by decide +kernel
theorem dX6_train_17 : decode cX6_train 17 = .ok (.invokevirtual 99, 3) := by decide +kernel
theorem dX6_train_20 : decode cX6_train 20 = .ok (.ifCond .ne 6, 3) := by decide +kernel
theorem dX6_train_23 : decode cX6_train 23 = .ok (.bipush (-2), 2) := by decide +kernel
theorem dX6_train_25 : decode cX6_train 25 = .ok (.ireturn, 1) := by decide +kernel
theorem dX6_train_26 : decode cX6_train 26 = .ok (.aload_n 0, 1) := by decide +kernel
theorem dX6_train_27 : decode cX6_train 27 = .ok (.getfield 19, 3) := by decide +kernel
theorem dX6_train_30 : decode cX6_train 30 = .ok (.iload_n 1, 1) := by decide +kernel
theorem dX6_train_31 : decode cX6_train 31 = .ok (.invokevirtual 103, 3) := by decide +kernel
theorem dX6_train_34 : decode cX6_train 34 = .ok (.istore_n 3, 1) := by decide +kernel
theorem dX6_train_35 : decode cX6_train 35 = .ok (.aload_n 0, 1) := by decide +kernel
theorem dX6_train_36 : decode cX6_train 36 = .ok (.getfield 19, 3) := by decide +kernel
theorem dX6_train_39 : decode cX6_train 39 = .ok (.iload_n 1, 1) := by decide +kernel
theorem dX6_train_40 : decode cX6_train 40 = .ok (.iload_n 2, 1) := by decide +kernel
theorem dX6_train_41 : decode cX6_train 41 = .ok (.invokevirtual 106, 3) := by decide +kernel
theorem dX6_train_44 : decode cX6_train 44 = .ok (.aload_n 0, 1) := by decide +kernel
theorem dX6_train_45 : decode cX6_train 45 = .ok (.invokevirtual 68, 3) := by decide +kernel
theorem dX6_train_48 : decode cX6_train 48 = .ok (.iload_n 3, 1) := by decide +kernel
theorem dX6_train_49 : decode cX6_train 49 = .ok (.ireturn, 1) := by decide +kernel
set_option maxRecDepth 20000 in
theorem ggX6_has_X4_knows : GoodIn wsX6_has wsX4_knows := goodIn_r _ [6, 7, 18] (by decide +kernel) (by decide +kernel)
set_option maxRecDepth 20000 in
theorem gX6_has_X4_knows : GoodIn wsX6_has (wsV RX6 96 RX4 yX4_knows wsX4_knows) := goodIn_app (goodIn_of _ (by decide +kernel)) ggX6_has_X4_knows
set_option maxRecDepth 20000 in
theorem ggX6_has_X4_number : GoodIn wsX6_has wsX4_number := goodIn_r _ [11, 7, 18] (by decide +kernel) (by decide +kernel)
set_option maxRecDepth 20000 in
theorem gX6_has_X4_number : GoodIn wsX6_has (wsV RX6 103 RX4 yX4_number wsX4_number) := goodIn_app (goodIn_of _ (by decide +kernel)) ggX6_has_X4_number
theorem dX6_has_0 : decode cX6_has 0 = .ok (.aload_n 0, 1) := by decide +kernel
theorem dX6_has_1 : decode cX6_has 1 = .ok (.getfield 19, 3) := by decide +kernel
theorem dX6_has_4 : decode cX6_has 4 = .ok (.iload_n 1, 1) := by decide +kernel
theorem dX6_has_5 : decode cX6_has 5 = .ok (.invokevirtual 96, 3) := by decide +kernel
theorem dX6_has_8 : decode cX6_has 8 = .ok (.ifCond .eq 14, 3) := by decide +kernel
theorem dX6_has_11 : decode cX6_has 11 = .ok (.aload_n 0, 1) := by decide +kernel
theorem dX6_has_12 : decode cX6_has 12 = .ok (.getfield 19, 3) := by decide +kernel
theorem dX6_has_15 : decode cX6_has 15 = .ok (.iload_n 1, 1) := by decide +kernel
theorem dX6_has_16 : decode cX6_has 16 = .ok (.invokevirtual 103, 3) := by decide +kernel
theorem dX6_has_19 : decode cX6_has 19 = .ok (.goto 5, 3) := by decide +kernel
theorem dX6_has_22 : decode cX6_has 22 = .ok (.bipush (-2), 2) := by decide +kernel
theorem dX6_has_24 : decode cX6_has 24 = .ok (.ireturn, 1) := by decide +kernel
set_option maxRecDepth 20000 in
theorem ggX6_leg_X0_hasLeg : GoodIn wsX6_leg wsX0_hasLeg := goodIn_r _ [6, 7, 23, 24, 25, 26, 27, 28] (by decide +kernel) (by decide +kernel)
set_option maxRecDepth 20000 in
theorem gX6_leg_X0_hasLeg : GoodIn wsX6_leg (wsV RX6 110 RX0 yX0_hasLeg wsX0_hasLeg) := goodIn_app (goodIn_of _ (by decide +kernel)) ggX6_leg_X0_hasLeg
set_option maxRecDepth 20000 in
theorem ggX6_leg_X0_lastPost : GoodIn wsX6_leg wsX0_lastPost := goodIn_r _ [11, 12, 23, 24, 25, 26, 27, 28] (by decide +kernel) (by decide +kernel)
set_option maxRecDepth 20000 in
theorem gX6_leg_X0_lastPost : GoodIn wsX6_leg (wsV RX6 113 RX0 yX0_lastPost wsX0_lastPost) := goodIn_app (goodIn_of _ (by decide +kernel)) ggX6_leg_X0_lastPost
set_option maxRecDepth 20000 in
theorem ggX6_leg_X0_firstPost : GoodIn wsX6_leg wsX0_firstPost := goodIn_r _ [16, 12, 23, 24, 25, 26, 27, 28] (by decide +kernel) (by decide +kernel)
set_option maxRecDepth 20000 in
theorem gX6_leg_X0_firstPost : GoodIn wsX6_leg (wsV RX6 116 RX0 yX0_firstPost wsX0_firstPost) := goodIn_app (goodIn_of _ (by decide +kernel)) ggX6_leg_X0_firstPost
theorem dX6_leg_0 : decode cX6_leg 0 = .ok (.aload_n 0, 1) := by decide +kernel
theorem dX6_leg_1 : decode cX6_leg 1 = .ok (.getfield 12, 3) := by decide +kernel
theorem dX6_leg_4 : decode cX6_leg 4 = .ok (.iload_n 1, 1) := by decide +kernel
theorem dX6_leg_5 : decode cX6_leg 5 = .ok (.invokevirtual 110, 3) := by decide +kernel
theorem dX6_leg_8 : decode cX6_leg 8 = .ok (.ifCond .ne 5, 3) := by decide +kernel
theorem dX6_leg_11 : decode cX6_leg 11 = .ok (.iconst (-1), 1) := by decide +kernel
theorem dX6_leg_12 : decode cX6_leg 12 = .ok (.ireturn, 1) := by decide +kernel
theorem dX6_leg_13 : decode cX6_leg 13 = .ok (.iload_n 2, 1) := by decide +kernel
theorem dX6_leg_14 : decode cX6_leg 14 = .ok (.ifCond .eq 14, 3) := by decide +kernel
theorem dX6_leg_17 : decode cX6_leg 17 = .ok (.aload_n 0, 1) := by decide +kernel
theorem dX6_leg_18 : decode cX6_leg 18 = .ok (.getfield 12, 3) := by decide +kernel
theorem dX6_leg_21 : decode cX6_leg 21 = .ok (.iload_n 1, 1) := by decide +kernel
theorem dX6_leg_22 : decode cX6_leg 22 = .ok (.invokevirtual 113, 3) := by decide +kernel
theorem dX6_leg_25 : decode cX6_leg 25 = .ok (.goto 11, 3) := by decide +kernel
theorem dX6_leg_28 : decode cX6_leg 28 = .ok (.aload_n 0, 1) := by decide +kernel
theorem dX6_leg_29 : decode cX6_leg 29 = .ok (.getfield 12, 3) := by decide +kernel
theorem dX6_leg_32 : decode cX6_leg 32 = .ok (.iload_n 1, 1) := by decide +kernel
theorem dX6_leg_33 : decode cX6_leg 33 = .ok (.invokevirtual 116, 3) := by decide +kernel
theorem dX6_leg_36 : decode cX6_leg 36 = .ok (.ireturn, 1) := by decide +kernel
set_option maxRecDepth 20000 in
theorem ggX6_force_X6_stepRefusal : GoodIn wsX6_force wsX6_stepRefusal := goodIn_r _ [6, 7, 8, 9, 10, 11, 12, 13, 14, 15, 5, 16, 35, 36, 37, 38, 39, 40, 41, 42, 43, 44, 45, 46] (by decide +kernel) (by decide +kernel)
set_option maxRecDepth 20000 in
theorem gX6_force_X6_stepRefusal : GoodIn wsX6_force (wsV RX6 119 RX6 yX6_stepRefusal wsX6_stepRefusal) := goodIn_app (goodIn_of _ (by decide +kernel)) ggX6_force_X6_stepRefusal
set_option maxRecDepth 20000 in
theorem ggX6_force_X3_forceOf : GoodIn wsX6_force wsX3_forceOf := goodIn_r _ [21, 22, 23, 24, 25, 26, 27, 28, 29, 30, 31, 32, 11, 33, 34, 47, 48, 49, 41, 42, 43, 44, 45, 46] (by decide +kernel) (by decide +kernel)
set_option maxRecDepth 20000 in
theorem gX6_force_X3_forceOf : GoodIn wsX6_force (wsV RX6 123 RX3 yX3_forceOf wsX3_forceOf) := goodIn_app (goodIn_of _ (by decide +kernel)) ggX6_force_X3_forceOf
theorem dX6_force_0 : decode cX6_force 0 = .ok (.aload_n 0, 1) := by decide +kernel
theorem dX6_force_1 : decode cX6_force 1 = .ok (.iload_n 1, 1) := by decide +kernel
theorem dX6_force_2 : decode cX6_force 2 = .ok (.iload_n 2, 1) := by decide +kernel
theorem dX6_force_3 : decode cX6_force 3 = .ok (.iload_n 3, 1) := by decide +kernel
theorem dX6_force_4 : decode cX6_force 4 = .ok (.invokevirtual 119, 3) := by decide +kernel
theorem dX6_force_7 : decode cX6_force 7 = .ok (.istore 4, 2) := by decide +kernel
theorem dX6_force_9 : decode cX6_force 9 = .ok (.iload 4, 2) := by decide +kernel
theorem dX6_force_11 : decode cX6_force 11 = .ok (.ifCond .eq 8, 3) := by decide +kernel
theorem dX6_force_14 : decode cX6_force 14 = .ok (.iload 4, 2) := by decide +kernel
theorem dX6_force_16 : decode cX6_force 16 = .ok (.goto 13, 3) := by decide +kernel
theorem dX6_force_19 : decode cX6_force 19 = .ok (.aload_n 0, 1) := by decide +kernel
theorem dX6_force_20 : decode cX6_force 20 = .ok (.getfield 28, 3) := by decide +kernel
theorem dX6_force_23 : decode cX6_force 23 = .ok (.iload_n 1, 1) := by decide +kernel
theorem dX6_force_24 : decode cX6_force 24 = .ok (.iload_n 2, 1) := by decide +kernel
theorem dX6_force_25 : decode cX6_force 25 = .ok (.iload_n 3, 1) := by decide +kernel
theorem dX6_force_26 : decode cX6_force 26 = .ok (.invokevirtual 123, 3) := by decide +kernel
theorem dX6_force_29 : decode cX6_force 29 = .ok (.ireturn, 1) := by decide +kernel
set_option maxRecDepth 20000 in
theorem ggX6_fault_X6_stepRefusal : GoodIn wsX6_fault wsX6_stepRefusal := goodIn_r _ [6, 7, 8, 9, 10, 11, 12, 13, 14, 15, 5, 16, 51, 52, 53, 54, 55, 56, 57, 58, 59, 60, 61, 62] (by decide +kernel) (by decide +kernel)
set_option maxRecDepth 20000 in
theorem gX6_fault_X6_stepRefusal : GoodIn wsX6_fault (wsV RX6 119 RX6 yX6_stepRefusal wsX6_stepRefusal) := goodIn_app (goodIn_of _ (by decide +kernel)) ggX6_fault_X6_stepRefusal
set_option maxRecDepth 20000 in
theorem ggX6_fault_X3_faultOf : GoodIn wsX6_fault wsX3_faultOf := goodIn_r _ [21, 22, 23, 24, 25, 26, 27, 28, 29, 30, 31, 32, 33, 11, 34, 35, 36, 37, 38, 20, 39, 40, 41, 42, 43, 44, 45, 46, 47, 48, 49, 50, 63, 64, 57, 58, 59, 60, 61, 62, 65] (by decide +kernel) (by decide +kernel)
set_option maxRecDepth 20000 in
theorem gX6_fault_X3_faultOf : GoodIn wsX6_fault (wsV RX6 126 RX3 yX3_faultOf wsX3_faultOf) := goodIn_app (goodIn_of _ (by decide +kernel)) ggX6_fault_X3_faultOf
theorem dX6_fault_0 : decode cX6_fault 0 = .ok (.aload_n 0, 1) := by decide +kernel
theorem dX6_fault_1 : decode cX6_fault 1 = .ok (.iload_n 1, 1) := by decide +kernel
theorem dX6_fault_2 : decode cX6_fault 2 = .ok (.iload_n 2, 1) := by decide +kernel
theorem dX6_fault_3 : decode cX6_fault 3 = .ok (.iload_n 3, 1) := by decide +kernel
theorem dX6_fault_4 : decode cX6_fault 4 = .ok (.invokevirtual 119, 3) := by decide +kernel
theorem dX6_fault_7 : decode cX6_fault 7 = .ok (.istore 4, 2) := by decide +kernel
theorem dX6_fault_9 : decode cX6_fault 9 = .ok (.iload 4, 2) := by decide +kernel
theorem dX6_fault_11 : decode cX6_fault 11 = .ok (.ifCond .eq 8, 3) := by decide +kernel
theorem dX6_fault_14 : decode cX6_fault 14 = .ok (.iload 4, 2) := by decide +kernel
theorem dX6_fault_16 : decode cX6_fault 16 = .ok (.goto 13, 3) := by decide +kernel
theorem dX6_fault_19 : decode cX6_fault 19 = .ok (.aload_n 0, 1) := by decide +kernel
theorem dX6_fault_20 : decode cX6_fault 20 = .ok (.getfield 28, 3) := by decide +kernel
theorem dX6_fault_23 : decode cX6_fault 23 = .ok (.iload_n 1, 1) := by decide +kernel
theorem dX6_fault_24 : decode cX6_fault 24 = .ok (.iload_n 2, 1) := by decide +kernel
theorem dX6_fault_25 : decode cX6_fault 25 = .ok (.iload_n 3, 1) := by decide +kernel
theorem dX6_fault_26 : decode cX6_fault 26 = .ok (.invokevirtual 126, 3) := by decide +kernel
theorem dX6_fault_29 : decode cX6_fault 29 = .ok (.ireturn, 1) := by decide +kernel
set_option maxRecDepth 20000 in
theorem ggX6_time_X6_stepRefusal : GoodIn wsX6_time wsX6_stepRefusal := goodIn_r _ [7, 8, 9, 10, 11, 12, 13, 14, 15, 16, 6, 17, 56, 57, 58, 59, 60, 61, 62, 63, 64, 65, 66, 67] (by decide +kernel) (by decide +kernel)
set_option maxRecDepth 20000 in
theorem gX6_time_X6_stepRefusal : GoodIn wsX6_time (wsV RX6 119 RX6 yX6_stepRefusal wsX6_stepRefusal) := goodIn_app (goodIn_of _ (by decide +kernel)) ggX6_time_X6_stepRefusal
set_option maxRecDepth 20000 in
theorem ggX6_time_X3_faultOf : GoodIn wsX6_time wsX3_faultOf := goodIn_r _ [22, 23, 24, 25, 26, 27, 28, 29, 30, 31, 32, 33, 34, 12, 35, 36, 37, 38, 39, 21, 40, 41, 42, 43, 44, 45, 46, 47, 48, 49, 50, 51, 68, 69, 62, 63, 64, 65, 66, 67, 70] (by decide +kernel) (by decide +kernel)
set_option maxRecDepth 20000 in
theorem gX6_time_X3_faultOf : GoodIn wsX6_time (wsV RX6 126 RX3 yX3_faultOf wsX3_faultOf) := goodIn_app (goodIn_of _ (by decide +kernel)) ggX6_time_X3_faultOf
set_option maxRecDepth 20000 in
theorem ggX6_time_X3_timeOf : GoodIn wsX6_time wsX3_timeOf := goodIn_r _ [55] (by decide +kernel) (by decide +kernel)
set_option maxRecDepth 20000 in
theorem gX6_time_X3_timeOf : GoodIn wsX6_time (wsV RX6 130 RX3 yX3_timeOf wsX3_timeOf) := goodIn_app (goodIn_of _ (by decide +kernel)) ggX6_time_X3_timeOf
theorem dX6_time_0 : decode cX6_time 0 = .ok (.aload_n 0, 1) := by decide +kernel
theorem dX6_time_1 : decode cX6_time 1 = .ok (.iload_n 1, 1) := by decide +kernel
theorem dX6_time_2 : decode cX6_time 2 = .ok (.iload_n 2, 1) := by decide +kernel
theorem dX6_time_3 : decode cX6_time 3 = .ok (.iload_n 3, 1) := by decide +kernel
theorem dX6_time_4 : decode cX6_time 4 = .ok (.invokevirtual 119, 3) := by decide +kernel
theorem dX6_time_7 : decode cX6_time 7 = .ok (.istore 4, 2) := by decide +kernel
theorem dX6_time_9 : decode cX6_time 9 = .ok (.iload 4, 2) := by decide +kernel
theorem dX6_time_11 : decode cX6_time 11 = .ok (.ifCond .eq 6, 3) := by decide +kernel
theorem dX6_time_14 : decode cX6_time 14 = .ok (.iload 4, 2) := by decide +kernel
theorem dX6_time_16 : decode cX6_time 16 = .ok (.ireturn, 1) := by decide +kernel
theorem dX6_time_17 : decode cX6_time 17 = .ok (.aload_n 0, 1) := by decide +kernel
theorem dX6_time_18 : decode cX6_time 18 = .ok (.getfield 28, 3) := by decide +kernel
theorem dX6_time_21 : decode cX6_time 21 = .ok (.iload_n 1, 1) := by decide +kernel
theorem dX6_time_22 : decode cX6_time 22 = .ok (.iload_n 2, 1) := by decide +kernel
theorem dX6_time_23 : decode cX6_time 23 = .ok (.iload_n 3, 1) := by decide +kernel
theorem dX6_time_24 : decode cX6_time 24 = .ok (.invokevirtual 126, 3) := by decide +kernel
theorem dX6_time_27 : decode cX6_time 27 = .ok (.ifCond .eq 8, 3) := by decide +kernel
theorem dX6_time_30 : decode cX6_time 30 = .ok (.ldc 129, 2) := by decide +kernel
theorem dX6_time_32 : decode cX6_time 32 = .ok (.goto 12, 3) := by decide +kernel
theorem dX6_time_35 : decode cX6_time 35 = .ok (.aload_n 0, 1) := by decide +kernel
theorem dX6_time_36 : decode cX6_time 36 = .ok (.getfield 28, 3) := by decide +kernel
theorem dX6_time_39 : decode cX6_time 39 = .ok (.iload_n 2, 1) := by decide +kernel
theorem dX6_time_40 : decode cX6_time 40 = .ok (.iload_n 3, 1) := by decide +kernel
theorem dX6_time_41 : decode cX6_time 41 = .ok (.invokevirtual 130, 3) := by decide +kernel
theorem dX6_time_44 : decode cX6_time 44 = .ok (.ireturn, 1) := by decide +kernel
set_option maxRecDepth 20000 in
theorem ggX6_power_X6_stepRefusal : GoodIn wsX6_power wsX6_stepRefusal := goodIn_r _ [7, 8, 9, 10, 11, 12, 13, 14, 15, 16, 6, 17, 56, 57, 58, 59, 60, 61, 62, 63, 64, 65, 66, 67] (by decide +kernel) (by decide +kernel)
set_option maxRecDepth 20000 in
theorem gX6_power_X6_stepRefusal : GoodIn wsX6_power (wsV RX6 119 RX6 yX6_stepRefusal wsX6_stepRefusal) := goodIn_app (goodIn_of _ (by decide +kernel)) ggX6_power_X6_stepRefusal
set_option maxRecDepth 20000 in
theorem ggX6_power_X3_faultOf : GoodIn wsX6_power wsX3_faultOf := goodIn_r _ [22, 23, 24, 25, 26, 27, 28, 29, 30, 31, 32, 33, 34, 12, 35, 36, 37, 38, 39, 21, 40, 41, 42, 43, 44, 45, 46, 47, 48, 49, 50, 51, 68, 69, 62, 63, 64, 65, 66, 67, 70] (by decide +kernel) (by decide +kernel)
set_option maxRecDepth 20000 in
theorem gX6_power_X3_faultOf : GoodIn wsX6_power (wsV RX6 126 RX3 yX3_faultOf wsX3_faultOf) := goodIn_app (goodIn_of _ (by decide +kernel)) ggX6_power_X3_faultOf
set_option maxRecDepth 20000 in
theorem ggX6_power_X3_powerOf : GoodIn wsX6_power wsX3_powerOf := goodIn_r _ [55, 31, 37, 38, 39, 21, 40, 27, 41, 42, 43, 44, 45, 46, 47, 48, 49, 12, 50, 51, 68, 69, 70, 62, 63, 64, 65, 66, 67] (by decide +kernel) (by decide +kernel)
set_option maxRecDepth 20000 in
theorem gX6_power_X3_powerOf : GoodIn wsX6_power (wsV RX6 134 RX3 yX3_powerOf wsX3_powerOf) := goodIn_app (goodIn_of _ (by decide +kernel)) ggX6_power_X3_powerOf
theorem dX6_power_0 : decode cX6_power 0 = .ok (.aload_n 0, 1) := by decide +kernel
theorem dX6_power_1 : decode cX6_power 1 = .ok (.iload_n 1, 1) := by decide +kernel
theorem dX6_power_2 : decode cX6_power 2 = .ok (.iload_n 2, 1) := by decide +kernel
theorem dX6_power_3 : decode cX6_power 3 = .ok (.iload_n 3, 1) := by decide +kernel
theorem dX6_power_4 : decode cX6_power 4 = .ok (.invokevirtual 119, 3) := by decide +kernel
theorem dX6_power_7 : decode cX6_power 7 = .ok (.istore 4, 2) := by decide +kernel
theorem dX6_power_9 : decode cX6_power 9 = .ok (.iload 4, 2) := by decide +kernel
theorem dX6_power_11 : decode cX6_power 11 = .ok (.ifCond .eq 6, 3) := by decide +kernel
theorem dX6_power_14 : decode cX6_power 14 = .ok (.iload 4, 2) := by decide +kernel
theorem dX6_power_16 : decode cX6_power 16 = .ok (.ireturn, 1) := by decide +kernel
theorem dX6_power_17 : decode cX6_power 17 = .ok (.aload_n 0, 1) := by decide +kernel
theorem dX6_power_18 : decode cX6_power 18 = .ok (.getfield 28, 3) := by decide +kernel
theorem dX6_power_21 : decode cX6_power 21 = .ok (.iload_n 1, 1) := by decide +kernel
theorem dX6_power_22 : decode cX6_power 22 = .ok (.iload_n 2, 1) := by decide +kernel
theorem dX6_power_23 : decode cX6_power 23 = .ok (.iload_n 3, 1) := by decide +kernel
theorem dX6_power_24 : decode cX6_power 24 = .ok (.invokevirtual 126, 3) := by decide +kernel
theorem dX6_power_27 : decode cX6_power 27 = .ok (.ifCond .eq 8, 3) := by decide +kernel
theorem dX6_power_30 : decode cX6_power 30 = .ok (.ldc 129, 2) := by decide +kernel
theorem dX6_power_32 : decode cX6_power 32 = .ok (.goto 13, 3) := by decide +kernel
theorem dX6_power_35 : decode cX6_power 35 = .ok (.aload_n 0, 1) := by decide +kernel
theorem dX6_power_36 : decode cX6_power 36 = .ok (.getfield 28, 3) := by decide +kernel
theorem dX6_power_39 : decode cX6_power 39 = .ok (.iload_n 1, 1) := by decide +kernel
theorem dX6_power_40 : decode cX6_power 40 = .ok (.iload_n 2, 1) := by decide +kernel
theorem dX6_power_41 : decode cX6_power 41 = .ok (.iload_n 3, 1) := by decide +kernel
theorem dX6_power_42 : decode cX6_power 42 = .ok (.invokevirtual 134, 3) := by decide +kernel
theorem dX6_power_45 : decode cX6_power 45 = .ok (.ireturn, 1) := by decide +kernel
set_option maxRecDepth 20000 in
theorem ggX6_fastest_X0_hasLeg : GoodIn wsX6_fastest wsX0_hasLeg := goodIn_r _ [8, 9, 119, 120, 121, 122, 123, 124] (by decide +kernel) (by decide +kernel)
set_option maxRecDepth 20000 in
theorem gX6_fastest_X0_hasLeg : GoodIn wsX6_fastest (wsV RX6 110 RX0 yX0_hasLeg wsX0_hasLeg) := goodIn_app (goodIn_of _ (by decide +kernel)) ggX6_fastest_X0_hasLeg
set_option maxRecDepth 20000 in
theorem ggX6_fastest_X5_bringUpToDate : GoodIn wsX6_fastest wsX5_bringUpToDate := goodIn_r _ [14, 15, 16, 17, 18, 19, 20, 7, 21, 9, 22, 23, 24, 13, 25, 26, 27, 28, 29, 30, 31, 32, 33, 34, 35, 36, 37, 38, 39, 40, 41, 42, 43, 44, 45, 46, 47, 48, 49, 50, 51, 52, 53, 54, 55, 56, 57, 58, 59, 60, 61, 62, 63, 64, 65, 66, 67, 68, 69, 70, 71, 72, 73, 74, 75, 76, 77, 78, 79, 80, 81, 82, 83, 84, 85, 86, 87, 88, 89, 90, 91, 92, 93, 94, 95, 96, 97, 98, 99, 100, 101, 102, 103, 104, 125, 126, 127, 128, 129, 130, 131, 132, 119, 120, 121, 122, 123, 124, 133, 134, 135] (by decide +kernel) (by decide +kernel)
set_option maxRecDepth 20000 in
theorem gX6_fastest_X5_bringUpToDate : GoodIn wsX6_fastest (wsV RX6 137 RX5 yX5_bringUpToDate wsX5_bringUpToDate) := goodIn_app (goodIn_of _ (by decide +kernel)) ggX6_fastest_X5_bringUpToDate
set_option maxRecDepth 20000 in
theorem ggX6_fastest_X5_pairCount : GoodIn wsX6_fastest wsX5_pairCount := goodIn_r _ [108, 17, 125, 126, 127, 128, 129, 130, 131, 132] (by decide +kernel) (by decide +kernel)
set_option maxRecDepth 20000 in
theorem gX6_fastest_X5_pairCount : GoodIn wsX6_fastest (wsV RX6 140 RX5 yX5_pairCount wsX5_pairCount) := goodIn_app (goodIn_of _ (by decide +kernel)) ggX6_fastest_X5_pairCount
set_option maxRecDepth 20000 in
theorem ggX6_fastest_X5_pairTime : GoodIn wsX6_fastest wsX5_pairTime := goodIn_r _ [112, 103, 17, 125, 126, 127, 128, 129, 130, 131, 132] (by decide +kernel) (by decide +kernel)
set_option maxRecDepth 20000 in
theorem gX6_fastest_X5_pairTime : GoodIn wsX6_fastest (wsV RX6 143 RX5 yX5_pairTime wsX5_pairTime) := goodIn_app (goodIn_of _ (by decide +kernel)) ggX6_fastest_X5_pairTime
theorem dX6_fastest_0 : decode cX6_fastest 0 = .ok (.aload_n 0, 1) := by decide +kernel
theorem dX6_fastest_1 : decode cX6_fastest 1 = .ok (.getfield 12, 3) := by decide +kernel
theorem dX6_fastest_4 : decode cX6_fastest 4 = .ok (.iload_n 1, 1) := by decide +kernel
theorem dX6_fastest_5 : decode cX6_fastest 5 = .ok (.invokevirtual 110, 3) := by decide +kernel
theorem dX6_fastest_8 : decode cX6_fastest 8 = .ok (.ifCond .ne 5, 3) := by decide +kernel
theorem dX6_fastest_11 : decode cX6_fastest 11 = .ok (.iconst (-1), 1) := by decide +kernel
theorem dX6_fastest_12 : decode cX6_fastest 12 = .ok (.ireturn, 1) := by decide +kernel
theorem dX6_fastest_13 : decode cX6_fastest 13 = .ok (.aload_n 0, 1) := by decide +kernel
theorem dX6_fastest_14 : decode cX6_fastest 14 = .ok (.getfield 37, 3) := by decide +kernel
theorem dX6_fastest_17 : decode cX6_fastest 17 = .ok (.invokevirtual 137, 3) := by decide +kernel
theorem dX6_fastest_20 : decode cX6_fastest 20 = .ok (.aload_n 0, 1) := by decide +kernel
theorem dX6_fastest_21 : decode cX6_fastest 21 = .ok (.getfield 37, 3) := by decide +kernel
theorem dX6_fastest_24 : decode cX6_fastest 24 = .ok (.iload_n 1, 1) := by decide +kernel
theorem dX6_fastest_25 : decode cX6_fastest 25 = .ok (.invokevirtual 140, 3) := by decide +kernel
theorem dX6_fastest_28 : decode cX6_fastest 28 = .ok (.ifCond .ne 8, 3) := by decide +kernel
theorem dX6_fastest_31 : decode cX6_fastest 31 = .ok (.ldc 129, 2) := by decide +kernel
theorem dX6_fastest_33 : decode cX6_fastest 33 = .ok (.goto 12, 3) := by decide +kernel
theorem dX6_fastest_36 : decode cX6_fastest 36 = .ok (.aload_n 0, 1) := by decide +kernel
theorem dX6_fastest_37 : decode cX6_fastest 37 = .ok (.getfield 37, 3) := by decide +kernel
theorem dX6_fastest_40 : decode cX6_fastest 40 = .ok (.iload_n 1, 1) := by decide +kernel
theorem dX6_fastest_41 : decode cX6_fastest 41 = .ok (.iconst 0, 1) := by decide +kernel
theorem dX6_fastest_42 : decode cX6_fastest 42 = .ok (.invokevirtual 143, 3) := by decide +kernel
theorem dX6_fastest_45 : decode cX6_fastest 45 = .ok (.ireturn, 1) := by decide +kernel
set_option maxRecDepth 20000 in
theorem ggX6_best_X6_driveRefusal : GoodIn wsX6_best wsX6_driveRefusal := goodIn_r _ [7, 8, 9, 10, 11, 12, 13, 14, 15, 16, 6, 17, 129, 130, 131, 132, 133, 134, 135, 136, 137, 138, 139, 140] (by decide +kernel) (by decide +kernel)
set_option maxRecDepth 20000 in
theorem gX6_best_X6_driveRefusal : GoodIn wsX6_best (wsV RX6 146 RX6 yX6_driveRefusal wsX6_driveRefusal) := goodIn_app (goodIn_of _ (by decide +kernel)) ggX6_best_X6_driveRefusal
set_option maxRecDepth 20000 in
theorem ggX6_best_X5_bringUpToDate : GoodIn wsX6_best wsX5_bringUpToDate := goodIn_r _ [22, 23, 24, 25, 26, 27, 28, 12, 29, 14, 30, 31, 32, 21, 33, 34, 35, 36, 37, 38, 39, 40, 41, 42, 43, 44, 45, 46, 47, 48, 49, 50, 51, 52, 53, 54, 55, 56, 57, 58, 59, 60, 61, 62, 63, 64, 65, 66, 67, 68, 69, 70, 71, 72, 73, 74, 75, 76, 77, 78, 79, 80, 81, 82, 83, 84, 85, 86, 87, 88, 89, 90, 91, 92, 93, 94, 95, 96, 97, 98, 99, 100, 101, 102, 103, 104, 105, 106, 107, 108, 109, 110, 111, 112, 141, 142, 143, 144, 145, 146, 147, 148, 135, 136, 137, 138, 139, 140, 149, 150, 151] (by decide +kernel) (by decide +kernel)
set_option maxRecDepth 20000 in
theorem gX6_best_X5_bringUpToDate : GoodIn wsX6_best (wsV RX6 137 RX5 yX5_bringUpToDate wsX5_bringUpToDate) := goodIn_app (goodIn_of _ (by decide +kernel)) ggX6_best_X5_bringUpToDate
set_option maxRecDepth 20000 in
theorem ggX6_best_X5_pairWithin : GoodIn wsX6_best wsX5_pairWithin := goodIn_r _ [116, 117, 118, 119, 21, 120, 25, 121, 122, 123, 124, 111, 141, 142, 143, 144, 145, 146, 147, 148] (by decide +kernel) (by decide +kernel)
set_option maxRecDepth 20000 in
theorem gX6_best_X5_pairWithin : GoodIn wsX6_best (wsV RX6 149 RX5 yX5_pairWithin wsX5_pairWithin) := goodIn_app (goodIn_of _ (by decide +kernel)) ggX6_best_X5_pairWithin
set_option maxRecDepth 20000 in
theorem ggX6_best_X5_pairPower : GoodIn wsX6_best wsX5_pairPower := goodIn_r _ [128, 112, 25, 141, 142, 143, 144, 145, 146, 147, 148] (by decide +kernel) (by decide +kernel)
set_option maxRecDepth 20000 in
theorem gX6_best_X5_pairPower : GoodIn wsX6_best (wsV RX6 152 RX5 yX5_pairPower wsX5_pairPower) := goodIn_app (goodIn_of _ (by decide +kernel)) ggX6_best_X5_pairPower
theorem dX6_best_0 : decode cX6_best 0 = .ok (.aload_n 0, 1) := by decide +kernel
theorem dX6_best_1 : decode cX6_best 1 = .ok (.iload_n 1, 1) := by decide +kernel
theorem dX6_best_2 : decode cX6_best 2 = .ok (.iload_n 2, 1) := by decide +kernel
theorem dX6_best_3 : decode cX6_best 3 = .ok (.invokevirtual 146, 3) := by decide +kernel
theorem dX6_best_6 : decode cX6_best 6 = .ok (.istore_n 3, 1) := by decide +kernel
theorem dX6_best_7 : decode cX6_best 7 = .ok (.iload_n 3, 1) := by decide +kernel
theorem dX6_best_8 : decode cX6_best 8 = .ok (.ifCond .eq 5, 3) := by decide +kernel
theorem dX6_best_11 : decode cX6_best 11 = .ok (.iload_n 3, 1) := by decide +kernel
theorem dX6_best_12 : decode cX6_best 12 = .ok (.ireturn, 1) := by decide +kernel
theorem dX6_best_13 : decode cX6_best 13 = .ok (.aload_n 0, 1) := by decide +kernel
theorem dX6_best_14 : decode cX6_best 14 = .ok (.getfield 37, 3) := by decide +kernel
theorem dX6_best_17 : decode cX6_best 17 = .ok (.invokevirtual 137, 3) := by decide +kernel
theorem dX6_best_20 : decode cX6_best 20 = .ok (.aload_n 0, 1) := by decide +kernel
theorem dX6_best_21 : decode cX6_best 21 = .ok (.getfield 37, 3) := by decide +kernel
theorem dX6_best_24 : decode cX6_best 24 = .ok (.iload_n 1, 1) := by decide +kernel
theorem dX6_best_25 : decode cX6_best 25 = .ok (.iload_n 2, 1) := by decide +kernel
theorem dX6_best_26 : decode cX6_best 26 = .ok (.invokevirtual 149, 3) := by decide +kernel
theorem dX6_best_29 : decode cX6_best 29 = .ok (.istore 4, 2) := by decide +kernel
theorem dX6_best_31 : decode cX6_best 31 = .ok (.iload 4, 2) := by decide +kernel
theorem dX6_best_33 : decode cX6_best 33 = .ok (.ifCond .ge 8, 3) := by decide +kernel
theorem dX6_best_36 : decode cX6_best 36 = .ok (.ldc 129, 2) := by decide +kernel
theorem dX6_best_38 : decode cX6_best 38 = .ok (.goto 13, 3) := by decide +kernel
theorem dX6_best_41 : decode cX6_best 41 = .ok (.aload_n 0, 1) := by decide +kernel
theorem dX6_best_42 : decode cX6_best 42 = .ok (.getfield 37, 3) := by decide +kernel
theorem dX6_best_45 : decode cX6_best 45 = .ok (.iload_n 1, 1) := by decide +kernel
theorem dX6_best_46 : decode cX6_best 46 = .ok (.iload 4, 2) := by decide +kernel
theorem dX6_best_48 : decode cX6_best 48 = .ok (.invokevirtual 152, 3) := by decide +kernel
theorem dX6_best_51 : decode cX6_best 51 = .ok (.ireturn, 1) := by decide +kernel
set_option maxRecDepth 20000 in
theorem ggX6_bestTime_X6_driveRefusal : GoodIn wsX6_bestTime wsX6_driveRefusal := goodIn_r _ [7, 8, 9, 10, 11, 12, 13, 14, 15, 16, 6, 17, 126, 127, 128, 129, 130, 131, 132, 133, 134, 135, 136, 137] (by decide +kernel) (by decide +kernel)
set_option maxRecDepth 20000 in
theorem gX6_bestTime_X6_driveRefusal : GoodIn wsX6_bestTime (wsV RX6 146 RX6 yX6_driveRefusal wsX6_driveRefusal) := goodIn_app (goodIn_of _ (by decide +kernel)) ggX6_bestTime_X6_driveRefusal
set_option maxRecDepth 20000 in
theorem ggX6_bestTime_X5_bringUpToDate : GoodIn wsX6_bestTime wsX5_bringUpToDate := goodIn_r _ [22, 23, 24, 25, 26, 27, 28, 12, 29, 14, 30, 31, 32, 21, 33, 34, 35, 36, 37, 38, 39, 40, 41, 42, 43, 44, 45, 46, 47, 48, 49, 50, 51, 52, 53, 54, 55, 56, 57, 58, 59, 60, 61, 62, 63, 64, 65, 66, 67, 68, 69, 70, 71, 72, 73, 74, 75, 76, 77, 78, 79, 80, 81, 82, 83, 84, 85, 86, 87, 88, 89, 90, 91, 92, 93, 94, 95, 96, 97, 98, 99, 100, 101, 102, 103, 104, 105, 106, 107, 108, 109, 110, 111, 112, 138, 139, 140, 141, 142, 143, 144, 145, 132, 133, 134, 135, 136, 137, 146, 147, 148] (by decide +kernel) (by decide +kernel)
set_option maxRecDepth 20000 in
theorem gX6_bestTime_X5_bringUpToDate : GoodIn wsX6_bestTime (wsV RX6 137 RX5 yX5_bringUpToDate wsX5_bringUpToDate) := goodIn_app (goodIn_of _ (by decide +kernel)) ggX6_bestTime_X5_bringUpToDate
set_option maxRecDepth 20000 in
theorem ggX6_bestTime_X5_pairWithin : GoodIn wsX6_bestTime wsX5_pairWithin := goodIn_r _ [116, 117, 118, 119, 21, 120, 25, 121, 122, 123, 124, 111, 138, 139, 140, 141, 142, 143, 144, 145] (by decide +kernel) (by decide +kernel)
set_option maxRecDepth 20000 in
theorem gX6_bestTime_X5_pairWithin : GoodIn wsX6_bestTime (wsV RX6 149 RX5 yX5_pairWithin wsX5_pairWithin) := goodIn_app (goodIn_of _ (by decide +kernel)) ggX6_bestTime_X5_pairWithin
set_option maxRecDepth 20000 in
theorem ggX6_bestTime_X5_pairTime : GoodIn wsX6_bestTime wsX5_pairTime := goodIn_r _ [124, 111, 25, 138, 139, 140, 141, 142, 143, 144, 145] (by decide +kernel) (by decide +kernel)
set_option maxRecDepth 20000 in
theorem gX6_bestTime_X5_pairTime : GoodIn wsX6_bestTime (wsV RX6 143 RX5 yX5_pairTime wsX5_pairTime) := goodIn_app (goodIn_of _ (by decide +kernel)) ggX6_bestTime_X5_pairTime
theorem dX6_bestTime_0 : decode cX6_bestTime 0 = .ok (.aload_n 0, 1) := by decide +kernel
theorem dX6_bestTime_1 : decode cX6_bestTime 1 = .ok (.iload_n 1, 1) := by decide +kernel
theorem dX6_bestTime_2 : decode cX6_bestTime 2 = .ok (.iload_n 2, 1) := by decide +kernel
theorem dX6_bestTime_3 : decode cX6_bestTime 3 = .ok (.invokevirtual 146, 3) := by decide +kernel
theorem dX6_bestTime_6 : decode cX6_bestTime 6 = .ok (.istore_n 3, 1) := by decide +kernel
theorem dX6_bestTime_7 : decode cX6_bestTime 7 = .ok (.iload_n 3, 1) := by decide +kernel
theorem dX6_bestTime_8 : decode cX6_bestTime 8 = .ok (.ifCond .eq 5, 3) := by decide +kernel
theorem dX6_bestTime_11 : decode cX6_bestTime 11 = .ok (.iload_n 3, 1) := by decide +kernel
theorem dX6_bestTime_12 : decode cX6_bestTime 12 = .ok (.ireturn, 1) := by decide +kernel
theorem dX6_bestTime_13 : decode cX6_bestTime 13 = .ok (.aload_n 0, 1) := by decide +kernel
theorem dX6_bestTime_14 : decode cX6_bestTime 14 = .ok (.getfield 37, 3) := by decide +kernel
theorem dX6_bestTime_17 : decode cX6_bestTime 17 = .ok (.invokevirtual 137, 3) := by decide +kernel
theorem dX6_bestTime_20 : decode cX6_bestTime 20 = .ok (.aload_n 0, 1) := by decide +kernel
theorem dX6_bestTime_21 : decode cX6_bestTime 21 = .ok (.getfield 37, 3) := by decide +kernel
theorem dX6_bestTime_24 : decode cX6_bestTime 24 = .ok (.iload_n 1, 1) := by decide +kernel
theorem dX6_bestTime_25 : decode cX6_bestTime 25 = .ok (.iload_n 2, 1) := by decide +kernel
theorem dX6_bestTime_26 : decode cX6_bestTime 26 = .ok (.invokevirtual 149, 3) := by decide +kernel
theorem dX6_bestTime_29 : decode cX6_bestTime 29 = .ok (.istore 4, 2) := by decide +kernel
theorem dX6_bestTime_31 : decode cX6_bestTime 31 = .ok (.iload 4, 2) := by decide +kernel
theorem dX6_bestTime_33 : decode cX6_bestTime 33 = .ok (.ifCond .ge 8, 3) := by decide +kernel
theorem dX6_bestTime_36 : decode cX6_bestTime 36 = .ok (.ldc 129, 2) := by decide +kernel
theorem dX6_bestTime_38 : decode cX6_bestTime 38 = .ok (.goto 13, 3) := by decide +kernel
theorem dX6_bestTime_41 : decode cX6_bestTime 41 = .ok (.aload_n 0, 1) := by decide +kernel
theorem dX6_bestTime_42 : decode cX6_bestTime 42 = .ok (.getfield 37, 3) := by decide +kernel
theorem dX6_bestTime_45 : decode cX6_bestTime 45 = .ok (.iload_n 1, 1) := by decide +kernel
theorem dX6_bestTime_46 : decode cX6_bestTime 46 = .ok (.iload 4, 2) := by decide +kernel
theorem dX6_bestTime_48 : decode cX6_bestTime 48 = .ok (.invokevirtual 143, 3) := by decide +kernel
theorem dX6_bestTime_51 : decode cX6_bestTime 51 = .ok (.ireturn, 1) := by decide +kernel
set_option maxRecDepth 20000 in
theorem ggX6_bestSpeed_X0_hasLeg : GoodIn wsX6_bestSpeed wsX0_hasLeg := goodIn_r _ [8, 9, 138, 139, 140, 141, 142, 143] (by decide +kernel) (by decide +kernel)
set_option maxRecDepth 20000 in
theorem gX6_bestSpeed_X0_hasLeg : GoodIn wsX6_bestSpeed (wsV RX6 110 RX0 yX0_hasLeg wsX0_hasLeg) := goodIn_app (goodIn_of _ (by decide +kernel)) ggX6_bestSpeed_X0_hasLeg
set_option maxRecDepth 20000 in
theorem ggX6_bestSpeed_X0_hasPost : GoodIn wsX6_bestSpeed wsX0_hasPost := goodIn_r _ [13, 14, 138, 139, 140, 141, 142, 143] (by decide +kernel) (by decide +kernel)
set_option maxRecDepth 20000 in
theorem gX6_bestSpeed_X0_hasPost : GoodIn wsX6_bestSpeed (wsV RX6 83 RX0 yX0_hasPost wsX0_hasPost) := goodIn_app (goodIn_of _ (by decide +kernel)) ggX6_bestSpeed_X0_hasPost
set_option maxRecDepth 20000 in
theorem ggX6_bestSpeed_X6_isTime : GoodIn wsX6_bestSpeed wsX6_isTime := goodIn_r _ [18] (by decide +kernel) (by decide +kernel)
set_option maxRecDepth 20000 in
theorem gX6_bestSpeed_X6_isTime : GoodIn wsX6_bestSpeed (va_wsS RX6 155 yX6_isTime wsX6_isTime) := goodIn_app (goodIn_of _ (by decide +kernel)) ggX6_bestSpeed_X6_isTime
set_option maxRecDepth 20000 in
theorem ggX6_bestSpeed_X0_firstPost : GoodIn wsX6_bestSpeed wsX0_firstPost := goodIn_r _ [22, 23, 138, 139, 140, 141, 142, 143] (by decide +kernel) (by decide +kernel)
set_option maxRecDepth 20000 in
theorem gX6_bestSpeed_X0_firstPost : GoodIn wsX6_bestSpeed (wsV RX6 116 RX0 yX0_firstPost wsX0_firstPost) := goodIn_app (goodIn_of _ (by decide +kernel)) ggX6_bestSpeed_X0_firstPost
set_option maxRecDepth 20000 in
theorem ggX6_bestSpeed_X0_lastPost : GoodIn wsX6_bestSpeed wsX0_lastPost := goodIn_r _ [27, 23, 138, 139, 140, 141, 142, 143] (by decide +kernel) (by decide +kernel)
set_option maxRecDepth 20000 in
theorem gX6_bestSpeed_X0_lastPost : GoodIn wsX6_bestSpeed (wsV RX6 113 RX0 yX0_lastPost wsX0_lastPost) := goodIn_app (goodIn_of _ (by decide +kernel)) ggX6_bestSpeed_X0_lastPost
set_option maxRecDepth 20000 in
theorem ggX6_bestSpeed_X5_bringUpToDate : GoodIn wsX6_bestSpeed wsX5_bringUpToDate := goodIn_r _ [32, 33, 34, 35, 36, 37, 38, 7, 39, 9, 40, 41, 42, 31, 43, 44, 45, 46, 47, 20, 21, 22, 23, 48, 25, 26, 27, 49, 50, 51, 52, 53, 54, 55, 56, 57, 58, 59, 60, 61, 62, 63, 64, 65, 66, 67, 68, 69, 70, 71, 72, 73, 74, 75, 76, 77, 78, 79, 80, 81, 82, 83, 84, 85, 86, 87, 88, 89, 90, 91, 92, 93, 94, 95, 96, 97, 98, 99, 100, 101, 102, 103, 104, 105, 106, 107, 108, 109, 110, 111, 112, 113, 114, 115, 144, 145, 146, 147, 148, 149, 150, 151, 138, 139, 140, 141, 142, 143, 152, 153, 154] (by decide +kernel) (by decide +kernel)
set_option maxRecDepth 20000 in
theorem gX6_bestSpeed_X5_bringUpToDate : GoodIn wsX6_bestSpeed (wsV RX6 137 RX5 yX5_bringUpToDate wsX5_bringUpToDate) := goodIn_app (goodIn_of _ (by decide +kernel)) ggX6_bestSpeed_X5_bringUpToDate
set_option maxRecDepth 20000 in
theorem ggX6_bestSpeed_X5_pairWithin : GoodIn wsX6_bestSpeed wsX5_pairWithin := goodIn_r _ [119, 120, 121, 122, 31, 123, 35, 124, 125, 126, 127, 114, 144, 145, 146, 147, 148, 149, 150, 151] (by decide +kernel) (by decide +kernel)
set_option maxRecDepth 20000 in
theorem gX6_bestSpeed_X5_pairWithin : GoodIn wsX6_bestSpeed (wsV RX6 149 RX5 yX5_pairWithin wsX5_pairWithin) := goodIn_app (goodIn_of _ (by decide +kernel)) ggX6_bestSpeed_X5_pairWithin
set_option maxRecDepth 20000 in
theorem ggX6_bestSpeed_X5_pairSpeed : GoodIn wsX6_bestSpeed wsX5_pairSpeed := goodIn_r _ [131, 34, 115, 35, 47, 20, 21, 7, 22, 23, 96, 97, 31, 98, 144, 145, 146, 147, 148, 149, 150, 151, 138, 139, 140, 141, 142, 143] (by decide +kernel) (by decide +kernel)
set_option maxRecDepth 20000 in
theorem gX6_bestSpeed_X5_pairSpeed : GoodIn wsX6_bestSpeed (wsV RX6 158 RX5 yX5_pairSpeed wsX5_pairSpeed) := goodIn_app (goodIn_of _ (by decide +kernel)) ggX6_bestSpeed_X5_pairSpeed
theorem dX6_bestSpeed_0 : decode cX6_bestSpeed 0 = .ok (.aload_n 0, 1) := by decide +kernel
theorem dX6_bestSpeed_1 : decode cX6_bestSpeed 1 = .ok (.getfield 12, 3) := by decide +kernel
theorem dX6_bestSpeed_4 : decode cX6_bestSpeed 4 = .ok (.iload_n 1, 1) := by decide +kernel
theorem dX6_bestSpeed_5 : decode cX6_bestSpeed 5 = .ok (.invokevirtual 110, 3) := by decide +kernel
theorem dX6_bestSpeed_8 : decode cX6_bestSpeed 8 = .ok (.ifCond .eq 14, 3) := by decide +kernel
theorem dX6_bestSpeed_11 : decode cX6_bestSpeed 11 = .ok (.aload_n 0, 1) := by decide +kernel
theorem dX6_bestSpeed_12 : decode cX6_bestSpeed 12 = .ok (.getfield 12, 3) := by decide +kernel
theorem dX6_bestSpeed_15 : decode cX6_bestSpeed 15 = .ok (.iload_n 3, 1) := by decide +kernel
theorem dX6_bestSpeed_16 : decode cX6_bestSpeed 16 = .ok (.invokevirtual 83, 3) := by decide +kernel
theorem dX6_bestSpeed_19 : decode cX6_bestSpeed 19 = .ok (.ifCond .ne 5, 3) := by decide +kernel
theorem dX6_bestSpeed_22 : decode cX6_bestSpeed 22 = .ok (.iconst (-1), 1) := by decide +kernel
theorem dX6_bestSpeed_23 : decode cX6_bestSpeed 23 = .ok (.ireturn, 1) := by decide +kernel
theorem dX6_bestSpeed_24 : decode cX6_bestSpeed 24 = .ok (.iload_n 2, 1) := by decide +kernel
theorem dX6_bestSpeed_25 : decode cX6_bestSpeed 25 = .ok (.invokestatic 155, 3) := by decide +kernel
theorem dX6_bestSpeed_28 : decode cX6_bestSpeed 28 = .ok (.ifCond .ne 6, 3) := by decide +kernel
theorem dX6_bestSpeed_31 : decode cX6_bestSpeed 31 = .ok (.bipush (-2), 2) := by decide +kernel
theorem dX6_bestSpeed_33 : decode cX6_bestSpeed 33 = .ok (.ireturn, 1) := by decide +kernel
theorem dX6_bestSpeed_34 : decode cX6_bestSpeed 34 = .ok (.iload_n 3, 1) := by decide +kernel
theorem dX6_bestSpeed_35 : decode cX6_bestSpeed 35 = .ok (.aload_n 0, 1) := by decide +kernel
theorem dX6_bestSpeed_36 : decode cX6_bestSpeed 36 = .ok (.getfield 12, 3) := by decide +kernel
theorem dX6_bestSpeed_39 : decode cX6_bestSpeed 39 = .ok (.iload_n 1, 1) := by decide +kernel
theorem dX6_bestSpeed_40 : decode cX6_bestSpeed 40 = .ok (.invokevirtual 116, 3) := by decide +kernel
theorem dX6_bestSpeed_43 : decode cX6_bestSpeed 43 = .ok (.if_icmp .lt 15, 3) := by decide +kernel
theorem dX6_bestSpeed_46 : decode cX6_bestSpeed 46 = .ok (.iload_n 3, 1) := by decide +kernel
theorem dX6_bestSpeed_47 : decode cX6_bestSpeed 47 = .ok (.aload_n 0, 1) := by decide +kernel
theorem dX6_bestSpeed_48 : decode cX6_bestSpeed 48 = .ok (.getfield 12, 3) := by decide +kernel
theorem dX6_bestSpeed_51 : decode cX6_bestSpeed 51 = .ok (.iload_n 1, 1) := by decide +kernel
theorem dX6_bestSpeed_52 : decode cX6_bestSpeed 52 = .ok (.invokevirtual 113, 3) := by decide +kernel
theorem dX6_bestSpeed_55 : decode cX6_bestSpeed 55 = .ok (.if_icmp .le 6, 3) := by decide +kernel
theorem dX6_bestSpeed_58 : decode cX6_bestSpeed 58 = .ok (.ldc 129, 2) := by decide +kernel
theorem dX6_bestSpeed_60 : decode cX6_bestSpeed 60 = .ok (.ireturn, 1) := by decide +kernel
theorem dX6_bestSpeed_61 : decode cX6_bestSpeed 61 = .ok (.aload_n 0, 1) := by decide +kernel
theorem dX6_bestSpeed_62 : decode cX6_bestSpeed 62 = .ok (.getfield 37, 3) := by decide +kernel
theorem dX6_bestSpeed_65 : decode cX6_bestSpeed 65 = .ok (.invokevirtual 137, 3) := by decide +kernel
theorem dX6_bestSpeed_68 : decode cX6_bestSpeed 68 = .ok (.aload_n 0, 1) := by decide +kernel
theorem dX6_bestSpeed_69 : decode cX6_bestSpeed 69 = .ok (.getfield 37, 3) := by decide +kernel
theorem dX6_bestSpeed_72 : decode cX6_bestSpeed 72 = .ok (.iload_n 1, 1) := by decide +kernel
theorem dX6_bestSpeed_73 : decode cX6_bestSpeed 73 = .ok (.iload_n 2, 1) := by decide +kernel
theorem dX6_bestSpeed_74 : decode cX6_bestSpeed 74 = .ok (.invokevirtual 149, 3) := by decide +kernel
theorem dX6_bestSpeed_77 : decode cX6_bestSpeed 77 = .ok (.istore 4, 2) := by decide +kernel
theorem dX6_bestSpeed_79 : decode cX6_bestSpeed 79 = .ok (.iload 4, 2) := by decide +kernel
theorem dX6_bestSpeed_81 : decode cX6_bestSpeed 81 = .ok (.ifCond .ge 8, 3) := by decide +kernel
theorem dX6_bestSpeed_84 : decode cX6_bestSpeed 84 = .ok (.ldc 129, 2) := by decide +kernel
theorem dX6_bestSpeed_86 : decode cX6_bestSpeed 86 = .ok (.goto 14, 3) := by decide +kernel
theorem dX6_bestSpeed_89 : decode cX6_bestSpeed 89 = .ok (.aload_n 0, 1) := by decide +kernel
theorem dX6_bestSpeed_90 : decode cX6_bestSpeed 90 = .ok (.getfield 37, 3) := by decide +kernel
theorem dX6_bestSpeed_93 : decode cX6_bestSpeed 93 = .ok (.iload_n 1, 1) := by decide +kernel
theorem dX6_bestSpeed_94 : decode cX6_bestSpeed 94 = .ok (.iload 4, 2) := by decide +kernel
theorem dX6_bestSpeed_96 : decode cX6_bestSpeed 96 = .ok (.iload_n 3, 1) := by decide +kernel
theorem dX6_bestSpeed_97 : decode cX6_bestSpeed 97 = .ok (.invokevirtual 158, 3) := by decide +kernel
theorem dX6_bestSpeed_100 : decode cX6_bestSpeed 100 = .ok (.ireturn, 1) := by decide +kernel
set_option maxRecDepth 20000 in
theorem ggX6_curve_X0_hasLeg : GoodIn wsX6_curve wsX0_hasLeg := goodIn_r _ [7, 8, 114, 115, 116, 117, 118, 119] (by decide +kernel) (by decide +kernel)
set_option maxRecDepth 20000 in
theorem gX6_curve_X0_hasLeg : GoodIn wsX6_curve (wsV RX6 110 RX0 yX0_hasLeg wsX0_hasLeg) := goodIn_app (goodIn_of _ (by decide +kernel)) ggX6_curve_X0_hasLeg
set_option maxRecDepth 20000 in
theorem ggX6_curve_X5_bringUpToDate : GoodIn wsX6_curve wsX5_bringUpToDate := goodIn_r _ [13, 14, 15, 16, 17, 18, 19, 6, 20, 8, 21, 22, 23, 12, 24, 25, 26, 27, 28, 29, 30, 31, 32, 33, 34, 35, 36, 37, 38, 39, 40, 41, 42, 43, 44, 45, 46, 47, 48, 49, 50, 51, 52, 53, 54, 55, 56, 57, 58, 59, 60, 61, 62, 63, 64, 65, 66, 67, 68, 69, 70, 71, 72, 73, 74, 75, 76, 77, 78, 79, 80, 81, 82, 83, 84, 85, 86, 87, 88, 89, 90, 91, 92, 93, 94, 95, 96, 97, 98, 99, 100, 101, 102, 103, 120, 121, 122, 123, 124, 125, 126, 127, 114, 115, 116, 117, 118, 119, 128, 129, 130] (by decide +kernel) (by decide +kernel)
set_option maxRecDepth 20000 in
theorem gX6_curve_X5_bringUpToDate : GoodIn wsX6_curve (wsV RX6 137 RX5 yX5_bringUpToDate wsX5_bringUpToDate) := goodIn_app (goodIn_of _ (by decide +kernel)) ggX6_curve_X5_bringUpToDate
set_option maxRecDepth 20000 in
theorem ggX6_curve_X5_pairCount : GoodIn wsX6_curve wsX5_pairCount := goodIn_r _ [107, 16, 120, 121, 122, 123, 124, 125, 126, 127] (by decide +kernel) (by decide +kernel)
set_option maxRecDepth 20000 in
theorem gX6_curve_X5_pairCount : GoodIn wsX6_curve (wsV RX6 140 RX5 yX5_pairCount wsX5_pairCount) := goodIn_app (goodIn_of _ (by decide +kernel)) ggX6_curve_X5_pairCount
theorem dX6_curve_0 : decode cX6_curve 0 = .ok (.aload_n 0, 1) := by decide +kernel
theorem dX6_curve_1 : decode cX6_curve 1 = .ok (.getfield 12, 3) := by decide +kernel
theorem dX6_curve_4 : decode cX6_curve 4 = .ok (.iload_n 1, 1) := by decide +kernel
theorem dX6_curve_5 : decode cX6_curve 5 = .ok (.invokevirtual 110, 3) := by decide +kernel
theorem dX6_curve_8 : decode cX6_curve 8 = .ok (.ifCond .ne 5, 3) := by decide +kernel
theorem dX6_curve_11 : decode cX6_curve 11 = .ok (.iconst (-1), 1) := by decide +kernel
theorem dX6_curve_12 : decode cX6_curve 12 = .ok (.ireturn, 1) := by decide +kernel
theorem dX6_curve_13 : decode cX6_curve 13 = .ok (.aload_n 0, 1) := by decide +kernel
theorem dX6_curve_14 : decode cX6_curve 14 = .ok (.getfield 37, 3) := by decide +kernel
theorem dX6_curve_17 : decode cX6_curve 17 = .ok (.invokevirtual 137, 3) := by decide +kernel
theorem dX6_curve_20 : decode cX6_curve 20 = .ok (.aload_n 0, 1) := by decide +kernel
theorem dX6_curve_21 : decode cX6_curve 21 = .ok (.getfield 37, 3) := by decide +kernel
theorem dX6_curve_24 : decode cX6_curve 24 = .ok (.iload_n 1, 1) := by decide +kernel
theorem dX6_curve_25 : decode cX6_curve 25 = .ok (.invokevirtual 140, 3) := by decide +kernel
theorem dX6_curve_28 : decode cX6_curve 28 = .ok (.ireturn, 1) := by decide +kernel
set_option maxRecDepth 20000 in
theorem ggX6_point_X0_hasLeg : GoodIn wsX6_point wsX0_hasLeg := goodIn_r _ [8, 9, 123, 124, 125, 126, 127, 128] (by decide +kernel) (by decide +kernel)
set_option maxRecDepth 20000 in
theorem gX6_point_X0_hasLeg : GoodIn wsX6_point (wsV RX6 110 RX0 yX0_hasLeg wsX0_hasLeg) := goodIn_app (goodIn_of _ (by decide +kernel)) ggX6_point_X0_hasLeg
set_option maxRecDepth 20000 in
theorem ggX6_point_X5_bringUpToDate : GoodIn wsX6_point wsX5_bringUpToDate := goodIn_r _ [14, 15, 16, 17, 18, 19, 20, 7, 21, 9, 22, 23, 24, 13, 25, 26, 27, 28, 29, 30, 31, 32, 33, 34, 35, 36, 37, 38, 39, 40, 41, 42, 43, 44, 45, 46, 47, 48, 49, 50, 51, 52, 53, 54, 55, 56, 57, 58, 59, 60, 61, 62, 63, 64, 65, 66, 67, 68, 69, 70, 71, 72, 73, 74, 75, 76, 77, 78, 79, 80, 81, 82, 83, 84, 85, 86, 87, 88, 89, 90, 91, 92, 93, 94, 95, 96, 97, 98, 99, 100, 101, 102, 103, 104, 129, 130, 131, 132, 133, 134, 135, 136, 123, 124, 125, 126, 127, 128, 137, 138, 139] (by decide +kernel) (by decide +kernel)
set_option maxRecDepth 20000 in
theorem gX6_point_X5_bringUpToDate : GoodIn wsX6_point (wsV RX6 137 RX5 yX5_bringUpToDate wsX5_bringUpToDate) := goodIn_app (goodIn_of _ (by decide +kernel)) ggX6_point_X5_bringUpToDate
set_option maxRecDepth 20000 in
theorem ggX6_point_X5_pairCount : GoodIn wsX6_point wsX5_pairCount := goodIn_r _ [108, 17, 129, 130, 131, 132, 133, 134, 135, 136] (by decide +kernel) (by decide +kernel)
set_option maxRecDepth 20000 in
theorem gX6_point_X5_pairCount : GoodIn wsX6_point (wsV RX6 140 RX5 yX5_pairCount wsX5_pairCount) := goodIn_app (goodIn_of _ (by decide +kernel)) ggX6_point_X5_pairCount
set_option maxRecDepth 20000 in
theorem ggX6_point_X5_pairPower : GoodIn wsX6_point wsX5_pairPower := goodIn_r _ [112, 104, 17, 129, 130, 131, 132, 133, 134, 135, 136] (by decide +kernel) (by decide +kernel)
set_option maxRecDepth 20000 in
theorem gX6_point_X5_pairPower : GoodIn wsX6_point (wsV RX6 152 RX5 yX5_pairPower wsX5_pairPower) := goodIn_app (goodIn_of _ (by decide +kernel)) ggX6_point_X5_pairPower
set_option maxRecDepth 20000 in
theorem ggX6_point_X5_pairTime : GoodIn wsX6_point wsX5_pairTime := goodIn_r _ [116, 103, 17, 129, 130, 131, 132, 133, 134, 135, 136] (by decide +kernel) (by decide +kernel)
set_option maxRecDepth 20000 in
theorem gX6_point_X5_pairTime : GoodIn wsX6_point (wsV RX6 143 RX5 yX5_pairTime wsX5_pairTime) := goodIn_app (goodIn_of _ (by decide +kernel)) ggX6_point_X5_pairTime
theorem dX6_point_0 : decode cX6_point 0 = .ok (.aload_n 0, 1) := by decide +kernel
theorem dX6_point_1 : decode cX6_point 1 = .ok (.getfield 12, 3) := by decide +kernel
theorem dX6_point_4 : decode cX6_point 4 = .ok (.iload_n 1, 1) := by decide +kernel
theorem dX6_point_5 : decode cX6_point 5 = .ok (.invokevirtual 110, 3) := by decide +kernel
theorem dX6_point_8 : decode cX6_point 8 = .ok (.ifCond .ne 5, 3) := by decide +kernel
theorem dX6_point_11 : decode cX6_point 11 = .ok (.iconst (-1), 1) := by decide +kernel
theorem dX6_point_12 : decode cX6_point 12 = .ok (.ireturn, 1) := by decide +kernel
theorem dX6_point_13 : decode cX6_point 13 = .ok (.aload_n 0, 1) := by decide +kernel
theorem dX6_point_14 : decode cX6_point 14 = .ok (.getfield 37, 3) := by decide +kernel
theorem dX6_point_17 : decode cX6_point 17 = .ok (.invokevirtual 137, 3) := by decide +kernel
theorem dX6_point_20 : decode cX6_point 20 = .ok (.iload_n 2, 1) := by decide +kernel
theorem dX6_point_21 : decode cX6_point 21 = .ok (.ifCond .lt 15, 3) := by decide +kernel
theorem dX6_point_24 : decode cX6_point 24 = .ok (.iload_n 2, 1) := by decide +kernel
theorem dX6_point_25 : decode cX6_point 25 = .ok (.aload_n 0, 1) := by decide +kernel
theorem dX6_point_26 : decode cX6_point 26 = .ok (.getfield 37, 3) := by decide +kernel
theorem dX6_point_29 : decode cX6_point 29 = .ok (.iload_n 1, 1) := by decide +kernel
theorem dX6_point_30 : decode cX6_point 30 = .ok (.invokevirtual 140, 3) := by decide +kernel
theorem dX6_point_33 : decode cX6_point 33 = .ok (.if_icmp .lt 6, 3) := by decide +kernel
theorem dX6_point_36 : decode cX6_point 36 = .ok (.ldc 129, 2) := by decide +kernel
theorem dX6_point_38 : decode cX6_point 38 = .ok (.ireturn, 1) := by decide +kernel
theorem dX6_point_39 : decode cX6_point 39 = .ok (.iload_n 3, 1) := by decide +kernel
theorem dX6_point_40 : decode cX6_point 40 = .ok (.ifCond .eq 15, 3) := by decide +kernel
theorem dX6_point_43 : decode cX6_point 43 = .ok (.aload_n 0, 1) := by decide +kernel
theorem dX6_point_44 : decode cX6_point 44 = .ok (.getfield 37, 3) := by decide +kernel
theorem dX6_point_47 : decode cX6_point 47 = .ok (.iload_n 1, 1) := by decide +kernel
theorem dX6_point_48 : decode cX6_point 48 = .ok (.iload_n 2, 1) := by decide +kernel
theorem dX6_point_49 : decode cX6_point 49 = .ok (.invokevirtual 152, 3) := by decide +kernel
theorem dX6_point_52 : decode cX6_point 52 = .ok (.goto 12, 3) := by decide +kernel
theorem dX6_point_55 : decode cX6_point 55 = .ok (.aload_n 0, 1) := by decide +kernel
theorem dX6_point_56 : decode cX6_point 56 = .ok (.getfield 37, 3) := by decide +kernel
theorem dX6_point_59 : decode cX6_point 59 = .ok (.iload_n 1, 1) := by decide +kernel
theorem dX6_point_60 : decode cX6_point 60 = .ok (.iload_n 2, 1) := by decide +kernel
theorem dX6_point_61 : decode cX6_point 61 = .ok (.invokevirtual 143, 3) := by decide +kernel
theorem dX6_point_64 : decode cX6_point 64 = .ok (.ireturn, 1) := by decide +kernel
set_option maxRecDepth 20000 in
theorem ggX6_share_X6_isTime : GoodIn wsX6_share wsX6_isTime := goodIn_r _ [7] (by decide +kernel) (by decide +kernel)
set_option maxRecDepth 20000 in
theorem gX6_share_X6_isTime : GoodIn wsX6_share (va_wsS RX6 155 yX6_isTime wsX6_isTime) := goodIn_app (goodIn_of _ (by decide +kernel)) ggX6_share_X6_isTime
set_option maxRecDepth 20000 in
theorem ggX6_share_X5_bringUpToDate : GoodIn wsX6_share wsX5_bringUpToDate := goodIn_r _ [12, 13, 14, 15, 16, 17, 18, 19, 20, 21, 22, 23, 24, 11, 25, 26, 27, 28, 29, 30, 31, 32, 33, 34, 35, 36, 37, 38, 39, 40, 41, 42, 43, 44, 45, 46, 47, 48, 49, 50, 51, 52, 53, 54, 55, 56, 57, 58, 59, 60, 61, 62, 63, 64, 65, 66, 67, 68, 69, 70, 71, 72, 73, 74, 75, 76, 77, 78, 79, 80, 81, 82, 83, 84, 85, 86, 87, 88, 89, 90, 91, 92, 93, 94, 95, 96, 97, 98, 99, 100, 101, 102, 103, 104, 150, 151, 152, 153, 154, 155, 156, 157, 158, 159, 160, 161, 162, 163, 164, 165, 166] (by decide +kernel) (by decide +kernel)
set_option maxRecDepth 20000 in
theorem gX6_share_X5_bringUpToDate : GoodIn wsX6_share (wsV RX6 137 RX5 yX5_bringUpToDate wsX5_bringUpToDate) := goodIn_app (goodIn_of _ (by decide +kernel)) ggX6_share_X5_bringUpToDate
set_option maxRecDepth 20000 in
theorem ggX6_share_X2_bringUpToDate : GoodIn wsX6_share wsX2_bringUpToDate := goodIn_r _ [109, 110, 111, 112, 113, 114, 115, 53, 54, 55, 116, 39, 40, 41, 117, 17, 18, 19, 20, 21, 118, 119, 120, 108, 121, 122, 123, 96, 97, 124, 125, 126, 11, 127, 15, 128, 129, 130, 131, 103, 132, 133, 134, 135, 104, 167, 168, 169, 170, 171, 158, 159, 160, 161, 162, 163, 150, 151, 152, 153, 154, 155, 156, 157] (by decide +kernel) (by decide +kernel)
set_option maxRecDepth 20000 in
theorem gX6_share_X2_bringUpToDate : GoodIn wsX6_share (wsV RX6 161 RX2 yX2_bringUpToDate wsX2_bringUpToDate) := goodIn_app (goodIn_of _ (by decide +kernel)) ggX6_share_X2_bringUpToDate
set_option maxRecDepth 20000 in
theorem ggX6_share_X2_isThere : GoodIn wsX6_share wsX2_isThere := goodIn_r _ [139, 111, 122, 167, 168, 169, 170, 171] (by decide +kernel) (by decide +kernel)
set_option maxRecDepth 20000 in
theorem gX6_share_X2_isThere : GoodIn wsX6_share (wsV RX6 162 RX2 yX2_isThere wsX2_isThere) := goodIn_app (goodIn_of _ (by decide +kernel)) ggX6_share_X2_isThere
set_option maxRecDepth 20000 in
theorem ggX6_share_X2_powerTogether : GoodIn wsX6_share wsX2_powerTogether := goodIn_r _ [143, 111, 167, 168, 169, 170, 171] (by decide +kernel) (by decide +kernel)
set_option maxRecDepth 20000 in
theorem gX6_share_X2_powerTogether : GoodIn wsX6_share (wsV RX6 165 RX2 yX2_powerTogether wsX2_powerTogether) := goodIn_app (goodIn_of _ (by decide +kernel)) ggX6_share_X2_powerTogether
theorem dX6_share_0 : decode cX6_share 0 = .ok (.iload_n 1, 1) := by decide +kernel
theorem dX6_share_1 : decode cX6_share 1 = .ok (.invokestatic 155, 3) := by decide +kernel
theorem dX6_share_4 : decode cX6_share 4 = .ok (.ifCond .ne 6, 3) := by decide +kernel
theorem dX6_share_7 : decode cX6_share 7 = .ok (.bipush (-2), 2) := by decide +kernel
theorem dX6_share_9 : decode cX6_share 9 = .ok (.ireturn, 1) := by decide +kernel
theorem dX6_share_10 : decode cX6_share 10 = .ok (.aload_n 0, 1) := by decide +kernel
theorem dX6_share_11 : decode cX6_share 11 = .ok (.getfield 37, 3) := by decide +kernel
theorem dX6_share_14 : decode cX6_share 14 = .ok (.invokevirtual 137, 3) := by decide +kernel
theorem dX6_share_17 : decode cX6_share 17 = .ok (.aload_n 0, 1) := by decide +kernel
theorem dX6_share_18 : decode cX6_share 18 = .ok (.getfield 46, 3) := by decide +kernel
theorem dX6_share_21 : decode cX6_share 21 = .ok (.invokevirtual 161, 3) := by decide +kernel
theorem dX6_share_24 : decode cX6_share 24 = .ok (.aload_n 0, 1) := by decide +kernel
theorem dX6_share_25 : decode cX6_share 25 = .ok (.getfield 46, 3) := by decide +kernel
theorem dX6_share_28 : decode cX6_share 28 = .ok (.iload_n 1, 1) := by decide +kernel
theorem dX6_share_29 : decode cX6_share 29 = .ok (.invokevirtual 162, 3) := by decide +kernel
theorem dX6_share_32 : decode cX6_share 32 = .ok (.ifCond .eq 14, 3) := by decide +kernel
theorem dX6_share_35 : decode cX6_share 35 = .ok (.aload_n 0, 1) := by decide +kernel
theorem dX6_share_36 : decode cX6_share 36 = .ok (.getfield 46, 3) := by decide +kernel
theorem dX6_share_39 : decode cX6_share 39 = .ok (.iload_n 1, 1) := by decide +kernel
theorem dX6_share_40 : decode cX6_share 40 = .ok (.invokevirtual 165, 3) := by decide +kernel
theorem dX6_share_43 : decode cX6_share 43 = .ok (.goto 5, 3) := by decide +kernel
theorem dX6_share_46 : decode cX6_share 46 = .ok (.ldc 129, 2) := by decide +kernel
theorem dX6_share_48 : decode cX6_share 48 = .ok (.ireturn, 1) := by decide +kernel
set_option maxRecDepth 20000 in
theorem ggX6_shareTime_X0_hasLeg : GoodIn wsX6_shareTime wsX0_hasLeg := goodIn_r _ [9, 10, 157, 158, 159, 160, 161, 162] (by decide +kernel) (by decide +kernel)
set_option maxRecDepth 20000 in
theorem gX6_shareTime_X0_hasLeg : GoodIn wsX6_shareTime (wsV RX6 110 RX0 yX0_hasLeg wsX0_hasLeg) := goodIn_app (goodIn_of _ (by decide +kernel)) ggX6_shareTime_X0_hasLeg
set_option maxRecDepth 20000 in
theorem ggX6_shareTime_X6_isTime : GoodIn wsX6_shareTime wsX6_isTime := goodIn_r _ [14] (by decide +kernel) (by decide +kernel)
set_option maxRecDepth 20000 in
theorem gX6_shareTime_X6_isTime : GoodIn wsX6_shareTime (va_wsS RX6 155 yX6_isTime wsX6_isTime) := goodIn_app (goodIn_of _ (by decide +kernel)) ggX6_shareTime_X6_isTime
set_option maxRecDepth 20000 in
theorem ggX6_shareTime_X5_bringUpToDate : GoodIn wsX6_shareTime wsX5_bringUpToDate := goodIn_r _ [19, 20, 21, 22, 23, 24, 25, 8, 26, 10, 27, 28, 29, 18, 30, 31, 32, 33, 34, 35, 36, 37, 38, 39, 40, 41, 42, 43, 44, 45, 46, 47, 48, 49, 50, 51, 52, 53, 54, 55, 56, 57, 58, 59, 60, 61, 62, 63, 64, 65, 66, 67, 68, 69, 70, 71, 72, 73, 74, 75, 76, 77, 78, 79, 80, 81, 82, 83, 84, 85, 86, 87, 88, 89, 90, 91, 92, 93, 94, 95, 96, 97, 98, 99, 100, 101, 102, 103, 104, 105, 106, 107, 108, 109, 163, 164, 165, 166, 167, 168, 169, 170, 157, 158, 159, 160, 161, 162, 171, 172, 173] (by decide +kernel) (by decide +kernel)
set_option maxRecDepth 20000 in
theorem gX6_shareTime_X5_bringUpToDate : GoodIn wsX6_shareTime (wsV RX6 137 RX5 yX5_bringUpToDate wsX5_bringUpToDate) := goodIn_app (goodIn_of _ (by decide +kernel)) ggX6_shareTime_X5_bringUpToDate
set_option maxRecDepth 20000 in
theorem ggX6_shareTime_X2_bringUpToDate : GoodIn wsX6_shareTime wsX2_bringUpToDate := goodIn_r _ [114, 115, 116, 117, 118, 119, 120, 58, 59, 60, 121, 44, 45, 46, 122, 24, 25, 8, 26, 10, 123, 124, 125, 113, 126, 127, 128, 101, 102, 129, 130, 131, 18, 132, 22, 133, 134, 135, 136, 108, 137, 138, 139, 140, 109, 174, 175, 176, 177, 178, 157, 158, 159, 160, 161, 162, 163, 164, 165, 166, 167, 168, 169, 170] (by decide +kernel) (by decide +kernel)
set_option maxRecDepth 20000 in
theorem gX6_shareTime_X2_bringUpToDate : GoodIn wsX6_shareTime (wsV RX6 161 RX2 yX2_bringUpToDate wsX2_bringUpToDate) := goodIn_app (goodIn_of _ (by decide +kernel)) ggX6_shareTime_X2_bringUpToDate
set_option maxRecDepth 20000 in
theorem ggX6_shareTime_X2_isThere : GoodIn wsX6_shareTime wsX2_isThere := goodIn_r _ [144, 116, 127, 174, 175, 176, 177, 178] (by decide +kernel) (by decide +kernel)
set_option maxRecDepth 20000 in
theorem gX6_shareTime_X2_isThere : GoodIn wsX6_shareTime (wsV RX6 162 RX2 yX2_isThere wsX2_isThere) := goodIn_app (goodIn_of _ (by decide +kernel)) ggX6_shareTime_X2_isThere
set_option maxRecDepth 20000 in
theorem ggX6_shareTime_X2_legTime : GoodIn wsX6_shareTime wsX2_legTime := goodIn_r _ [148, 119, 118, 149, 116, 150, 129, 130, 131, 18, 132, 22, 133, 134, 135, 136, 108, 174, 175, 176, 177, 178, 163, 164, 165, 166, 167, 168, 169, 170] (by decide +kernel) (by decide +kernel)
set_option maxRecDepth 20000 in
theorem gX6_shareTime_X2_legTime : GoodIn wsX6_shareTime (wsV RX6 168 RX2 yX2_legTime wsX2_legTime) := goodIn_app (goodIn_of _ (by decide +kernel)) ggX6_shareTime_X2_legTime
theorem dX6_shareTime_0 : decode cX6_shareTime 0 = .ok (.aload_n 0, 1) := by decide +kernel
theorem dX6_shareTime_1 : decode cX6_shareTime 1 = .ok (.getfield 12, 3) := by decide +kernel
theorem dX6_shareTime_4 : decode cX6_shareTime 4 = .ok (.iload_n 2, 1) := by decide +kernel
theorem dX6_shareTime_5 : decode cX6_shareTime 5 = .ok (.invokevirtual 110, 3) := by decide +kernel
theorem dX6_shareTime_8 : decode cX6_shareTime 8 = .ok (.ifCond .ne 5, 3) := by decide +kernel
theorem dX6_shareTime_11 : decode cX6_shareTime 11 = .ok (.iconst (-1), 1) := by decide +kernel
theorem dX6_shareTime_12 : decode cX6_shareTime 12 = .ok (.ireturn, 1) := by decide +kernel
theorem dX6_shareTime_13 : decode cX6_shareTime 13 = .ok (.iload_n 1, 1) := by decide +kernel
theorem dX6_shareTime_14 : decode cX6_shareTime 14 = .ok (.invokestatic 155, 3) := by decide +kernel
theorem dX6_shareTime_17 : decode cX6_shareTime 17 = .ok (.ifCond .ne 6, 3) := by decide +kernel
theorem dX6_shareTime_20 : decode cX6_shareTime 20 = .ok (.bipush (-2), 2) := by decide +kernel
theorem dX6_shareTime_22 : decode cX6_shareTime 22 = .ok (.ireturn, 1) := by decide +kernel
theorem dX6_shareTime_23 : decode cX6_shareTime 23 = .ok (.aload_n 0, 1) := by decide +kernel
theorem dX6_shareTime_24 : decode cX6_shareTime 24 = .ok (.getfield 37, 3) := by decide +kernel
theorem dX6_shareTime_27 : decode cX6_shareTime 27 = .ok (.invokevirtual 137, 3) := by decide +kernel
theorem dX6_shareTime_30 : decode cX6_shareTime 30 = .ok (.aload_n 0, 1) := by decide +kernel
theorem dX6_shareTime_31 : decode cX6_shareTime 31 = .ok (.getfield 46, 3) := by decide +kernel
theorem dX6_shareTime_34 : decode cX6_shareTime 34 = .ok (.invokevirtual 161, 3) := by decide +kernel
theorem dX6_shareTime_37 : decode cX6_shareTime 37 = .ok (.aload_n 0, 1) := by decide +kernel
theorem dX6_shareTime_38 : decode cX6_shareTime 38 = .ok (.getfield 46, 3) := by decide +kernel
theorem dX6_shareTime_41 : decode cX6_shareTime 41 = .ok (.iload_n 1, 1) := by decide +kernel
theorem dX6_shareTime_42 : decode cX6_shareTime 42 = .ok (.invokevirtual 162, 3) := by decide +kernel
theorem dX6_shareTime_45 : decode cX6_shareTime 45 = .ok (.ifCond .eq 15, 3) := by decide +kernel
theorem dX6_shareTime_48 : decode cX6_shareTime 48 = .ok (.aload_n 0, 1) := by decide +kernel
theorem dX6_shareTime_49 : decode cX6_shareTime 49 = .ok (.getfield 46, 3) := by decide +kernel
theorem dX6_shareTime_52 : decode cX6_shareTime 52 = .ok (.iload_n 1, 1) := by decide +kernel
theorem dX6_shareTime_53 : decode cX6_shareTime 53 = .ok (.iload_n 2, 1) := by decide +kernel
theorem dX6_shareTime_54 : decode cX6_shareTime 54 = .ok (.invokevirtual 168, 3) := by decide +kernel
theorem dX6_shareTime_57 : decode cX6_shareTime 57 = .ok (.goto 5, 3) := by decide +kernel
theorem dX6_shareTime_60 : decode cX6_shareTime 60 = .ok (.ldc 129, 2) := by decide +kernel
theorem dX6_shareTime_62 : decode cX6_shareTime 62 = .ok (.ireturn, 1) := by decide +kernel
set_option maxRecDepth 20000 in
theorem ggX6_needs_X5_bringUpToDate : GoodIn wsX6_needs wsX5_bringUpToDate := goodIn_r _ [8, 9, 10, 11, 12, 13, 14, 15, 16, 17, 18, 19, 20, 7, 21, 22, 23, 24, 25, 26, 27, 28, 29, 30, 31, 32, 33, 34, 35, 36, 37, 38, 39, 40, 41, 42, 43, 44, 45, 46, 47, 48, 49, 50, 51, 52, 53, 54, 55, 56, 57, 58, 59, 60, 61, 62, 63, 64, 65, 66, 67, 68, 69, 70, 71, 72, 73, 74, 75, 76, 77, 78, 79, 80, 81, 82, 83, 84, 85, 86, 87, 88, 89, 90, 91, 92, 93, 94, 95, 96, 97, 98, 99, 100, 146, 147, 148, 149, 150, 151, 152, 153, 154, 155, 156, 157, 158, 159, 160, 161, 162] (by decide +kernel) (by decide +kernel)
set_option maxRecDepth 20000 in
theorem gX6_needs_X5_bringUpToDate : GoodIn wsX6_needs (wsV RX6 137 RX5 yX5_bringUpToDate wsX5_bringUpToDate) := goodIn_app (goodIn_of _ (by decide +kernel)) ggX6_needs_X5_bringUpToDate
set_option maxRecDepth 20000 in
theorem ggX6_needs_X2_bringUpToDate : GoodIn wsX6_needs wsX2_bringUpToDate := goodIn_r _ [105, 106, 107, 108, 109, 110, 111, 49, 50, 51, 112, 35, 36, 37, 113, 13, 14, 15, 16, 17, 114, 115, 116, 104, 117, 118, 119, 92, 93, 120, 121, 122, 7, 123, 11, 124, 125, 126, 127, 99, 128, 129, 130, 131, 100, 163, 164, 165, 166, 167, 154, 155, 156, 157, 158, 159, 146, 147, 148, 149, 150, 151, 152, 153] (by decide +kernel) (by decide +kernel)
set_option maxRecDepth 20000 in
theorem gX6_needs_X2_bringUpToDate : GoodIn wsX6_needs (wsV RX6 161 RX2 yX2_bringUpToDate wsX2_bringUpToDate) := goodIn_app (goodIn_of _ (by decide +kernel)) ggX6_needs_X2_bringUpToDate
set_option maxRecDepth 20000 in
theorem ggX6_needs_X2_isThere : GoodIn wsX6_needs wsX2_isThere := goodIn_r _ [135, 107, 118, 163, 164, 165, 166, 167] (by decide +kernel) (by decide +kernel)
set_option maxRecDepth 20000 in
theorem gX6_needs_X2_isThere : GoodIn wsX6_needs (wsV RX6 162 RX2 yX2_isThere wsX2_isThere) := goodIn_app (goodIn_of _ (by decide +kernel)) ggX6_needs_X2_isThere
set_option maxRecDepth 20000 in
theorem ggX6_needs_X2_powerTogether : GoodIn wsX6_needs wsX2_powerTogether := goodIn_r _ [139, 107, 163, 164, 165, 166, 167] (by decide +kernel) (by decide +kernel)
set_option maxRecDepth 20000 in
theorem gX6_needs_X2_powerTogether : GoodIn wsX6_needs (wsV RX6 165 RX2 yX2_powerTogether wsX2_powerTogether) := goodIn_app (goodIn_of _ (by decide +kernel)) ggX6_needs_X2_powerTogether
theorem dX6_needs_0 : decode cX6_needs 0 = .ok (.aload_n 0, 1) := by decide +kernel
theorem dX6_needs_1 : decode cX6_needs 1 = .ok (.getfield 37, 3) := by decide +kernel
theorem dX6_needs_4 : decode cX6_needs 4 = .ok (.invokevirtual 137, 3) := by decide +kernel
theorem dX6_needs_7 : decode cX6_needs 7 = .ok (.aload_n 0, 1) := by decide +kernel
theorem dX6_needs_8 : decode cX6_needs 8 = .ok (.getfield 46, 3) := by decide +kernel
theorem dX6_needs_11 : decode cX6_needs 11 = .ok (.invokevirtual 161, 3) := by decide +kernel
theorem dX6_needs_14 : decode cX6_needs 14 = .ok (.iconst 0, 1) := by decide +kernel
theorem dX6_needs_15 : decode cX6_needs 15 = .ok (.istore_n 2, 1) := by decide +kernel
theorem dX6_needs_16 : decode cX6_needs 16 = .ok (.iload_n 2, 1) := by decide +kernel
theorem dX6_needs_17 : decode cX6_needs 17 = .ok (.sipush 1000, 3) := by decide +kernel
theorem dX6_needs_20 : decode cX6_needs 20 = .ok (.if_icmp .gt 34, 3) := by decide +kernel
theorem dX6_needs_23 : decode cX6_needs 23 = .ok (.aload_n 0, 1) := by decide +kernel
theorem dX6_needs_24 : decode cX6_needs 24 = .ok (.getfield 46, 3) := by decide +kernel
theorem dX6_needs_27 : decode cX6_needs 27 = .ok (.iload_n 2, 1) := by decide +kernel
theorem dX6_needs_28 : decode cX6_needs 28 = .ok (.invokevirtual 162, 3) := by decide +kernel
theorem dX6_needs_31 : decode cX6_needs 31 = .ok (.ifCond .eq 17, 3) := by decide +kernel
theorem dX6_needs_34 : decode cX6_needs 34 = .ok (.aload_n 0, 1) := by decide +kernel
theorem dX6_needs_35 : decode cX6_needs 35 = .ok (.getfield 46, 3) := by decide +kernel
theorem dX6_needs_38 : decode cX6_needs 38 = .ok (.iload_n 2, 1) := by decide +kernel
theorem dX6_needs_39 : decode cX6_needs 39 = .ok (.invokevirtual 165, 3) := by decide +kernel
theorem dX6_needs_42 : decode cX6_needs 42 = .ok (.iload_n 1, 1) := by decide +kernel
theorem dX6_needs_43 : decode cX6_needs 43 = .ok (.if_icmp .gt 5, 3) := by decide +kernel
theorem dX6_needs_46 : decode cX6_needs 46 = .ok (.iload_n 2, 1) := by decide +kernel
theorem dX6_needs_47 : decode cX6_needs 47 = .ok (.ireturn, 1) := by decide +kernel
theorem dX6_needs_48 : decode cX6_needs 48 = .ok (.iinc 2 1, 3) := by decide +kernel
theorem dX6_needs_51 : decode cX6_needs 51 = .ok (.goto (-35), 3) := by decide +kernel
theorem dX6_needs_54 : decode cX6_needs 54 = .ok (.ldc 129, 2) := by decide +kernel
theorem dX6_needs_56 : decode cX6_needs 56 = .ok (.ireturn, 1) := by decide +kernel
set_option maxRecDepth 20000 in
theorem ggX6_log_X6_isSpeed : GoodIn wsX6_log wsX6_isSpeed := goodIn_r _ [5] (by decide +kernel) (by decide +kernel)
set_option maxRecDepth 20000 in
theorem gX6_log_X6_isSpeed : GoodIn wsX6_log (va_wsS RX6 171 yX6_isSpeed wsX6_isSpeed) := goodIn_app (goodIn_of _ (by decide +kernel)) ggX6_log_X6_isSpeed
set_option maxRecDepth 20000 in
theorem ggX6_log_X1_isFull : GoodIn wsX6_log wsX1_isFull := goodIn_r _ [10, 11, 12, 13, 14, 15, 16, 17, 18, 34, 35, 36, 37, 38, 39, 40, 41, 42, 43] (by decide +kernel) (by decide +kernel)
set_option maxRecDepth 20000 in
theorem gX6_log_X1_isFull : GoodIn wsX6_log (wsV RX6 174 RX1 yX1_isFull wsX1_isFull) := goodIn_app (goodIn_of _ (by decide +kernel)) ggX6_log_X1_isFull
set_option maxRecDepth 20000 in
theorem ggX6_log_X1_add : GoodIn wsX6_log wsX1_add := goodIn_r _ [22, 23, 11, 34, 35, 36, 37] (by decide +kernel) (by decide +kernel)
set_option maxRecDepth 20000 in
theorem gX6_log_X1_add : GoodIn wsX6_log (wsV RX6 178 RX1 yX1_add wsX1_add) := goodIn_app (goodIn_of _ (by decide +kernel)) ggX6_log_X1_add
set_option maxRecDepth 20000 in
theorem ggX6_log_X1_size : GoodIn wsX6_log wsX1_size := goodIn_r _ [27, 11, 34, 35, 36, 37] (by decide +kernel) (by decide +kernel)
set_option maxRecDepth 20000 in
theorem gX6_log_X1_size : GoodIn wsX6_log (wsV RX6 181 RX1 yX1_size wsX1_size) := goodIn_app (goodIn_of _ (by decide +kernel)) ggX6_log_X1_size
theorem dX6_log_0 : decode cX6_log 0 = .ok (.iload_n 1, 1) := by decide +kernel
theorem dX6_log_1 : decode cX6_log 1 = .ok (.invokestatic 171, 3) := by decide +kernel
theorem dX6_log_4 : decode cX6_log 4 = .ok (.ifCond .ne 6, 3) := by decide +kernel
theorem dX6_log_7 : decode cX6_log 7 = .ok (.bipush (-2), 2) := by decide +kernel
theorem dX6_log_9 : decode cX6_log 9 = .ok (.ireturn, 1) := by decide +kernel
theorem dX6_log_10 : decode cX6_log 10 = .ok (.aload_n 0, 1) := by decide +kernel
theorem dX6_log_11 : decode cX6_log 11 = .ok (.getfield 53, 3) := by decide +kernel
theorem dX6_log_14 : decode cX6_log 14 = .ok (.invokevirtual 174, 3) := by decide +kernel
theorem dX6_log_17 : decode cX6_log 17 = .ok (.ifCond .eq 6, 3) := by decide +kernel
theorem dX6_log_20 : decode cX6_log 20 = .ok (.bipush (-4), 2) := by decide +kernel
theorem dX6_log_22 : decode cX6_log 22 = .ok (.ireturn, 1) := by decide +kernel
theorem dX6_log_23 : decode cX6_log 23 = .ok (.aload_n 0, 1) := by decide +kernel
theorem dX6_log_24 : decode cX6_log 24 = .ok (.getfield 53, 3) := by decide +kernel
theorem dX6_log_27 : decode cX6_log 27 = .ok (.iload_n 1, 1) := by decide +kernel
theorem dX6_log_28 : decode cX6_log 28 = .ok (.invokevirtual 178, 3) := by decide +kernel
theorem dX6_log_31 : decode cX6_log 31 = .ok (.aload_n 0, 1) := by decide +kernel
theorem dX6_log_32 : decode cX6_log 32 = .ok (.getfield 53, 3) := by decide +kernel
theorem dX6_log_35 : decode cX6_log 35 = .ok (.invokevirtual 181, 3) := by decide +kernel
theorem dX6_log_38 : decode cX6_log 38 = .ok (.ireturn, 1) := by decide +kernel
set_option maxRecDepth 20000 in
theorem ggX6_clear_X1_size : GoodIn wsX6_clear wsX1_size := goodIn_r _ [6, 7, 18, 19, 20, 21] (by decide +kernel) (by decide +kernel)
set_option maxRecDepth 20000 in
theorem gX6_clear_X1_size : GoodIn wsX6_clear (wsV RX6 181 RX1 yX1_size wsX1_size) := goodIn_app (goodIn_of _ (by decide +kernel)) ggX6_clear_X1_size
set_option maxRecDepth 20000 in
theorem ggX6_clear_X1_wipe : GoodIn wsX6_clear wsX1_wipe := goodIn_r _ [11, 7, 18, 19, 20, 21] (by decide +kernel) (by decide +kernel)
set_option maxRecDepth 20000 in
theorem gX6_clear_X1_wipe : GoodIn wsX6_clear (wsV RX6 65 RX1 yX1_wipe wsX1_wipe) := goodIn_app (goodIn_of _ (by decide +kernel)) ggX6_clear_X1_wipe
theorem dX6_clear_0 : decode cX6_clear 0 = .ok (.aload_n 0, 1) := by decide +kernel
theorem dX6_clear_1 : decode cX6_clear 1 = .ok (.getfield 53, 3) := by decide +kernel
theorem dX6_clear_4 : decode cX6_clear 4 = .ok (.invokevirtual 181, 3) := by decide +kernel
theorem dX6_clear_7 : decode cX6_clear 7 = .ok (.istore_n 1, 1) := by decide +kernel
theorem dX6_clear_8 : decode cX6_clear 8 = .ok (.aload_n 0, 1) := by decide +kernel
theorem dX6_clear_9 : decode cX6_clear 9 = .ok (.getfield 53, 3) := by decide +kernel
theorem dX6_clear_12 : decode cX6_clear 12 = .ok (.invokevirtual 65, 3) := by decide +kernel
theorem dX6_clear_15 : decode cX6_clear 15 = .ok (.iload_n 1, 1) := by decide +kernel
theorem dX6_clear_16 : decode cX6_clear 16 = .ok (.ireturn, 1) := by decide +kernel
set_option maxRecDepth 20000 in
theorem ggX6_judged_X1_timeTogether : GoodIn wsX6_judged wsX1_timeTogether := goodIn_r _ [6, 7, 8, 9, 10, 11, 12, 5, 13, 14, 15, 16, 17, 18, 19, 20, 21, 22, 23, 24, 25, 26, 27, 28, 29, 30, 31, 32, 33, 34, 35, 36, 37, 38, 39, 40, 41, 42, 43, 44, 45, 46, 47, 48, 49, 50, 51, 52, 86, 87, 88, 89, 90, 91, 92, 93, 94, 95, 96, 97, 98] (by decide +kernel) (by decide +kernel)
set_option maxRecDepth 20000 in
theorem gX6_judged_X1_timeTogether : GoodIn wsX6_judged (wsV RX6 184 RX1 yX1_timeTogether wsX1_timeTogether) := goodIn_app (goodIn_of _ (by decide +kernel)) ggX6_judged_X1_timeTogether
set_option maxRecDepth 20000 in
theorem ggX6_judged_X1_powerTogether : GoodIn wsX6_judged wsX1_powerTogether := goodIn_r _ [56, 7, 8, 9, 10, 11, 12, 5, 13, 14, 15, 16, 17, 18, 19, 20, 21, 22, 23, 24, 25, 26, 27, 28, 29, 30, 31, 32, 33, 34, 35, 36, 37, 38, 39, 40, 41, 42, 43, 44, 45, 46, 47, 48, 57, 58, 59, 60, 86, 87, 88, 89, 90, 91, 92, 93, 94, 95, 96, 97, 98] (by decide +kernel) (by decide +kernel)
set_option maxRecDepth 20000 in
theorem gX6_judged_X1_powerTogether : GoodIn wsX6_judged (wsV RX6 187 RX1 yX1_powerTogether wsX1_powerTogether) := goodIn_app (goodIn_of _ (by decide +kernel)) ggX6_judged_X1_powerTogether
set_option maxRecDepth 20000 in
theorem ggX6_judged_X1_faultCount : GoodIn wsX6_judged wsX1_faultCount := goodIn_r _ [64, 7, 10, 11, 12, 5, 13, 8, 9, 14, 15, 16, 17, 18, 19, 20, 21, 22, 23, 24, 25, 26, 27, 28, 29, 30, 31, 32, 33, 34, 35, 36, 37, 38, 39, 40, 41, 42, 43, 44, 45, 46, 47, 48, 86, 87, 88, 89, 90, 91, 92, 93, 94, 95, 96, 97, 98] (by decide +kernel) (by decide +kernel)
set_option maxRecDepth 20000 in
theorem gX6_judged_X1_faultCount : GoodIn wsX6_judged (wsV RX6 189 RX1 yX1_faultCount wsX1_faultCount) := goodIn_app (goodIn_of _ (by decide +kernel)) ggX6_judged_X1_faultCount
set_option maxRecDepth 20000 in
theorem ggX6_judged_X1_firstFaultCell : GoodIn wsX6_judged wsX1_firstFaultCell := goodIn_r _ [68, 7, 69, 10, 11, 12, 5, 13, 8, 9, 14, 15, 16, 17, 18, 19, 20, 21, 22, 23, 24, 25, 26, 27, 28, 29, 30, 31, 32, 33, 34, 35, 36, 37, 38, 39, 40, 41, 42, 43, 44, 45, 46, 47, 48, 86, 87, 88, 89, 90, 91, 92, 93, 94, 95, 96, 97, 98] (by decide +kernel) (by decide +kernel)
set_option maxRecDepth 20000 in
theorem gX6_judged_X1_firstFaultCell : GoodIn wsX6_judged (wsV RX6 192 RX1 yX1_firstFaultCell wsX1_firstFaultCell) := goodIn_app (goodIn_of _ (by decide +kernel)) ggX6_judged_X1_firstFaultCell
set_option maxRecDepth 20000 in
theorem ggX6_judged_X1_stopsPassed : GoodIn wsX6_judged wsX1_stopsPassed := goodIn_r _ [73, 7, 74, 9, 75, 76, 77, 31, 78, 79, 86, 87, 88, 89, 92, 93, 94, 95, 96, 97] (by decide +kernel) (by decide +kernel)
set_option maxRecDepth 20000 in
theorem gX6_judged_X1_stopsPassed : GoodIn wsX6_judged (wsV RX6 195 RX1 yX1_stopsPassed wsX1_stopsPassed) := goodIn_app (goodIn_of _ (by decide +kernel)) ggX6_judged_X1_stopsPassed
theorem dX6_judged_0 : decode cX6_judged 0 = .ok (.iload_n 1, 1) := by decide +kernel
theorem dX6_judged_1 : decode cX6_judged 1 = .ok (.tableswitch 75 0 4 #[35, 43, 51, 59, 67], 35) := by decide +kernel
theorem dX6_judged_36 : decode cX6_judged 36 = .ok (.aload_n 0, 1) := by decide +kernel
theorem dX6_judged_37 : decode cX6_judged 37 = .ok (.getfield 53, 3) := by decide +kernel
theorem dX6_judged_40 : decode cX6_judged 40 = .ok (.invokevirtual 184, 3) := by decide +kernel
theorem dX6_judged_43 : decode cX6_judged 43 = .ok (.ireturn, 1) := by decide +kernel
theorem dX6_judged_44 : decode cX6_judged 44 = .ok (.aload_n 0, 1) := by decide +kernel
theorem dX6_judged_45 : decode cX6_judged 45 = .ok (.getfield 53, 3) := by decide +kernel
theorem dX6_judged_48 : decode cX6_judged 48 = .ok (.invokevirtual 187, 3) := by decide +kernel
theorem dX6_judged_51 : decode cX6_judged 51 = .ok (.ireturn, 1) := by decide +kernel
theorem dX6_judged_52 : decode cX6_judged 52 = .ok (.aload_n 0, 1) := by decide +kernel
theorem dX6_judged_53 : decode cX6_judged 53 = .ok (.getfield 53, 3) := by decide +kernel
theorem dX6_judged_56 : decode cX6_judged 56 = .ok (.invokevirtual 189, 3) := by decide +kernel
theorem dX6_judged_59 : decode cX6_judged 59 = .ok (.ireturn, 1) := by decide +kernel
theorem dX6_judged_60 : decode cX6_judged 60 = .ok (.aload_n 0, 1) := by decide +kernel
theorem dX6_judged_61 : decode cX6_judged 61 = .ok (.getfield 53, 3) := by decide +kernel
theorem dX6_judged_64 : decode cX6_judged 64 = .ok (.invokevirtual 192, 3) := by decide +kernel
theorem dX6_judged_67 : decode cX6_judged 67 = .ok (.ireturn, 1) := by decide +kernel
theorem dX6_judged_68 : decode cX6_judged 68 = .ok (.aload_n 0, 1) := by decide +kernel
theorem dX6_judged_69 : decode cX6_judged 69 = .ok (.getfield 53, 3) := by decide +kernel
theorem dX6_judged_72 : decode cX6_judged 72 = .ok (.invokevirtual 195, 3) := by decide +kernel
theorem dX6_judged_75 : decode cX6_judged 75 = .ok (.ireturn, 1) := by decide +kernel
theorem dX6_judged_76 : decode cX6_judged 76 = .ok (.bipush (-2), 2) := by decide +kernel
theorem dX6_judged_78 : decode cX6_judged 78 = .ok (.ireturn, 1) := by decide +kernel
set_option maxRecDepth 20000 in
theorem ggX6_count_X0_cellCount : GoodIn wsX6_count wsX0_cellCount := goodIn_r _ [7, 8, 26, 27, 28, 29, 30, 31] (by decide +kernel) (by decide +kernel)
set_option maxRecDepth 20000 in
theorem gX6_count_X0_cellCount : GoodIn wsX6_count (wsV RX6 57 RX0 yX0_cellCount wsX0_cellCount) := goodIn_app (goodIn_of _ (by decide +kernel)) ggX6_count_X0_cellCount
set_option maxRecDepth 20000 in
theorem ggX6_count_X0_legCount : GoodIn wsX6_count wsX0_legCount := goodIn_r _ [12, 13, 26, 27, 28, 29, 30, 31] (by decide +kernel) (by decide +kernel)
set_option maxRecDepth 20000 in
theorem gX6_count_X0_legCount : GoodIn wsX6_count (wsV RX6 93 RX0 yX0_legCount wsX0_legCount) := goodIn_app (goodIn_of _ (by decide +kernel)) ggX6_count_X0_legCount
set_option maxRecDepth 20000 in
theorem ggX6_count_X1_size : GoodIn wsX6_count wsX1_size := goodIn_r _ [18, 19, 32, 33, 34, 35] (by decide +kernel) (by decide +kernel)
set_option maxRecDepth 20000 in
theorem gX6_count_X1_size : GoodIn wsX6_count (wsV RX6 181 RX1 yX1_size wsX1_size) := goodIn_app (goodIn_of _ (by decide +kernel)) ggX6_count_X1_size
theorem dX6_count_0 : decode cX6_count 0 = .ok (.iload_n 1, 1) := by decide +kernel
theorem dX6_count_1 : decode cX6_count 1 = .ok (.tableswitch 51 0 2 #[27, 35, 43], 27) := by decide +kernel
theorem dX6_count_28 : decode cX6_count 28 = .ok (.aload_n 0, 1) := by decide +kernel
theorem dX6_count_29 : decode cX6_count 29 = .ok (.getfield 12, 3) := by decide +kernel
theorem dX6_count_32 : decode cX6_count 32 = .ok (.invokevirtual 57, 3) := by decide +kernel
theorem dX6_count_35 : decode cX6_count 35 = .ok (.ireturn, 1) := by decide +kernel
theorem dX6_count_36 : decode cX6_count 36 = .ok (.aload_n 0, 1) := by decide +kernel
theorem dX6_count_37 : decode cX6_count 37 = .ok (.getfield 12, 3) := by decide +kernel
theorem dX6_count_40 : decode cX6_count 40 = .ok (.invokevirtual 93, 3) := by decide +kernel
theorem dX6_count_43 : decode cX6_count 43 = .ok (.ireturn, 1) := by decide +kernel
theorem dX6_count_44 : decode cX6_count 44 = .ok (.aload_n 0, 1) := by decide +kernel
theorem dX6_count_45 : decode cX6_count 45 = .ok (.getfield 53, 3) := by decide +kernel
theorem dX6_count_48 : decode cX6_count 48 = .ok (.invokevirtual 181, 3) := by decide +kernel
theorem dX6_count_51 : decode cX6_count 51 = .ok (.ireturn, 1) := by decide +kernel
theorem dX6_count_52 : decode cX6_count 52 = .ok (.bipush (-2), 2) := by decide +kernel
theorem dX6_count_54 : decode cX6_count 54 = .ok (.ireturn, 1) := by decide +kernel
set_option maxRecDepth 20000 in
theorem ggX6_forgetChoices_X5_forget : GoodIn wsX6_forgetChoices wsX5_forget := goodIn_r _ [7, 8, 21, 22, 23, 24, 25, 26, 27, 28] (by decide +kernel) (by decide +kernel)
set_option maxRecDepth 20000 in
theorem gX6_forgetChoices_X5_forget : GoodIn wsX6_forgetChoices (wsV RX6 198 RX5 yX5_forget wsX5_forget) := goodIn_app (goodIn_of _ (by decide +kernel)) ggX6_forgetChoices_X5_forget
set_option maxRecDepth 20000 in
theorem ggX6_forgetChoices_X2_forget : GoodIn wsX6_forgetChoices wsX2_forget := goodIn_r _ [13, 14, 29, 30, 31, 32, 33] (by decide +kernel) (by decide +kernel)
set_option maxRecDepth 20000 in
theorem gX6_forgetChoices_X2_forget : GoodIn wsX6_forgetChoices (wsV RX6 201 RX2 yX2_forget wsX2_forget) := goodIn_app (goodIn_of _ (by decide +kernel)) ggX6_forgetChoices_X2_forget
theorem dX6_forgetChoices_0 : decode cX6_forgetChoices 0 = .ok (.aload_n 0, 1) := by decide +kernel
theorem dX6_forgetChoices_1 : decode cX6_forgetChoices 1 = .ok (.getfield 37, 3) := by decide +kernel
theorem dX6_forgetChoices_4 : decode cX6_forgetChoices 4 = .ok (.invokevirtual 198, 3) := by decide +kernel
theorem dX6_forgetChoices_7 : decode cX6_forgetChoices 7 = .ok (.aload_n 0, 1) := by decide +kernel
theorem dX6_forgetChoices_8 : decode cX6_forgetChoices 8 = .ok (.getfield 46, 3) := by decide +kernel
theorem dX6_forgetChoices_11 : decode cX6_forgetChoices 11 = .ok (.invokevirtual 201, 3) := by decide +kernel
theorem dX6_forgetChoices_14 : decode cX6_forgetChoices 14 = .ok (.return_, 1) := by decide +kernel
set_option maxRecDepth 20000 in
theorem ggX6_stepRefusal_X0_hasCell : GoodIn wsX6_stepRefusal wsX0_hasCell := goodIn_r _ [6, 7, 18, 19, 20, 21, 22, 23] (by decide +kernel) (by decide +kernel)
set_option maxRecDepth 20000 in
theorem gX6_stepRefusal_X0_hasCell : GoodIn wsX6_stepRefusal (wsV RX6 71 RX0 yX0_hasCell wsX0_hasCell) := goodIn_app (goodIn_of _ (by decide +kernel)) ggX6_stepRefusal_X0_hasCell
set_option maxRecDepth 20000 in
theorem ggX6_stepRefusal_X6_isSpeed : GoodIn wsX6_stepRefusal wsX6_isSpeed := goodIn_r _ [11] (by decide +kernel) (by decide +kernel)
set_option maxRecDepth 20000 in
theorem gX6_stepRefusal_X6_isSpeed : GoodIn wsX6_stepRefusal (va_wsS RX6 171 yX6_isSpeed wsX6_isSpeed) := goodIn_app (goodIn_of _ (by decide +kernel)) ggX6_stepRefusal_X6_isSpeed
theorem dX6_stepRefusal_0 : decode cX6_stepRefusal 0 = .ok (.aload_n 0, 1) := by decide +kernel
theorem dX6_stepRefusal_1 : decode cX6_stepRefusal 1 = .ok (.getfield 12, 3) := by decide +kernel
theorem dX6_stepRefusal_4 : decode cX6_stepRefusal 4 = .ok (.iload_n 1, 1) := by decide +kernel
theorem dX6_stepRefusal_5 : decode cX6_stepRefusal 5 = .ok (.invokevirtual 71, 3) := by decide +kernel
theorem dX6_stepRefusal_8 : decode cX6_stepRefusal 8 = .ok (.ifCond .ne 5, 3) := by decide +kernel
theorem dX6_stepRefusal_11 : decode cX6_stepRefusal 11 = .ok (.iconst (-1), 1) := by decide +kernel
theorem dX6_stepRefusal_12 : decode cX6_stepRefusal 12 = .ok (.ireturn, 1) := by decide +kernel
theorem dX6_stepRefusal_13 : decode cX6_stepRefusal 13 = .ok (.iload_n 2, 1) := by decide +kernel
theorem dX6_stepRefusal_14 : decode cX6_stepRefusal 14 = .ok (.invokestatic 171, 3) := by decide +kernel
theorem dX6_stepRefusal_17 : decode cX6_stepRefusal 17 = .ok (.ifCond .eq 14, 3) := by decide +kernel
theorem dX6_stepRefusal_20 : decode cX6_stepRefusal 20 = .ok (.iload_n 3, 1) := by decide +kernel
theorem dX6_stepRefusal_21 : decode cX6_stepRefusal 21 = .ok (.invokestatic 171, 3) := by decide +kernel
theorem dX6_stepRefusal_24 : decode cX6_stepRefusal 24 = .ok (.ifCond .eq 7, 3) := by decide +kernel
theorem dX6_stepRefusal_27 : decode cX6_stepRefusal 27 = .ok (.iconst 0, 1) := by decide +kernel
theorem dX6_stepRefusal_28 : decode cX6_stepRefusal 28 = .ok (.goto 5, 3) := by decide +kernel
theorem dX6_stepRefusal_31 : decode cX6_stepRefusal 31 = .ok (.bipush (-2), 2) := by decide +kernel
theorem dX6_stepRefusal_33 : decode cX6_stepRefusal 33 = .ok (.ireturn, 1) := by decide +kernel
set_option maxRecDepth 20000 in
theorem ggX6_driveRefusal_X0_hasLeg : GoodIn wsX6_driveRefusal wsX0_hasLeg := goodIn_r _ [6, 7, 18, 19, 20, 21, 22, 23] (by decide +kernel) (by decide +kernel)
set_option maxRecDepth 20000 in
theorem gX6_driveRefusal_X0_hasLeg : GoodIn wsX6_driveRefusal (wsV RX6 110 RX0 yX0_hasLeg wsX0_hasLeg) := goodIn_app (goodIn_of _ (by decide +kernel)) ggX6_driveRefusal_X0_hasLeg
set_option maxRecDepth 20000 in
theorem ggX6_driveRefusal_X6_isTime : GoodIn wsX6_driveRefusal wsX6_isTime := goodIn_r _ [11] (by decide +kernel) (by decide +kernel)
set_option maxRecDepth 20000 in
theorem gX6_driveRefusal_X6_isTime : GoodIn wsX6_driveRefusal (va_wsS RX6 155 yX6_isTime wsX6_isTime) := goodIn_app (goodIn_of _ (by decide +kernel)) ggX6_driveRefusal_X6_isTime
theorem dX6_driveRefusal_0 : decode cX6_driveRefusal 0 = .ok (.aload_n 0, 1) := by decide +kernel
theorem dX6_driveRefusal_1 : decode cX6_driveRefusal 1 = .ok (.getfield 12, 3) := by decide +kernel
theorem dX6_driveRefusal_4 : decode cX6_driveRefusal 4 = .ok (.iload_n 1, 1) := by decide +kernel
theorem dX6_driveRefusal_5 : decode cX6_driveRefusal 5 = .ok (.invokevirtual 110, 3) := by decide +kernel
theorem dX6_driveRefusal_8 : decode cX6_driveRefusal 8 = .ok (.ifCond .ne 5, 3) := by decide +kernel
theorem dX6_driveRefusal_11 : decode cX6_driveRefusal 11 = .ok (.iconst (-1), 1) := by decide +kernel
theorem dX6_driveRefusal_12 : decode cX6_driveRefusal 12 = .ok (.ireturn, 1) := by decide +kernel
theorem dX6_driveRefusal_13 : decode cX6_driveRefusal 13 = .ok (.iload_n 2, 1) := by decide +kernel
theorem dX6_driveRefusal_14 : decode cX6_driveRefusal 14 = .ok (.invokestatic 155, 3) := by decide +kernel
theorem dX6_driveRefusal_17 : decode cX6_driveRefusal 17 = .ok (.ifCond .eq 7, 3) := by decide +kernel
theorem dX6_driveRefusal_20 : decode cX6_driveRefusal 20 = .ok (.iconst 0, 1) := by decide +kernel
theorem dX6_driveRefusal_21 : decode cX6_driveRefusal 21 = .ok (.goto 5, 3) := by decide +kernel
theorem dX6_driveRefusal_24 : decode cX6_driveRefusal 24 = .ok (.bipush (-2), 2) := by decide +kernel
theorem dX6_driveRefusal_26 : decode cX6_driveRefusal 26 = .ok (.ireturn, 1) := by decide +kernel
theorem dX6_isSpeed_0 : decode cX6_isSpeed 0 = .ok (.iload_n 0, 1) := by decide +kernel
theorem dX6_isSpeed_1 : decode cX6_isSpeed 1 = .ok (.ifCond .lt 13, 3) := by decide +kernel
theorem dX6_isSpeed_4 : decode cX6_isSpeed 4 = .ok (.iload_n 0, 1) := by decide +kernel
theorem dX6_isSpeed_5 : decode cX6_isSpeed 5 = .ok (.bipush 6, 2) := by decide +kernel
theorem dX6_isSpeed_7 : decode cX6_isSpeed 7 = .ok (.if_icmp .gt 7, 3) := by decide +kernel
theorem dX6_isSpeed_10 : decode cX6_isSpeed 10 = .ok (.iconst 1, 1) := by decide +kernel
theorem dX6_isSpeed_11 : decode cX6_isSpeed 11 = .ok (.goto 4, 3) := by decide +kernel
theorem dX6_isSpeed_14 : decode cX6_isSpeed 14 = .ok (.iconst 0, 1) := by decide +kernel
theorem dX6_isSpeed_15 : decode cX6_isSpeed 15 = .ok (.ireturn, 1) := by decide +kernel
theorem dX6_isTime_0 : decode cX6_isTime 0 = .ok (.iload_n 0, 1) := by decide +kernel
theorem dX6_isTime_1 : decode cX6_isTime 1 = .ok (.ifCond .lt 14, 3) := by decide +kernel
theorem dX6_isTime_4 : decode cX6_isTime 4 = .ok (.iload_n 0, 1) := by decide +kernel
theorem dX6_isTime_5 : decode cX6_isTime 5 = .ok (.sipush 1000, 3) := by decide +kernel
theorem dX6_isTime_8 : decode cX6_isTime 8 = .ok (.if_icmp .gt 7, 3) := by decide +kernel
theorem dX6_isTime_11 : decode cX6_isTime 11 = .ok (.iconst 1, 1) := by decide +kernel
theorem dX6_isTime_12 : decode cX6_isTime 12 = .ok (.goto 4, 3) := by decide +kernel
theorem dX6_isTime_15 : decode cX6_isTime 15 = .ok (.iconst 0, 1) := by decide +kernel
theorem dX6_isTime_16 : decode cX6_isTime 16 = .ok (.ireturn, 1) := by decide +kernel
