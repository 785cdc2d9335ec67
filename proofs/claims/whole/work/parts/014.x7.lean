set_option maxRecDepth 20000 in
theorem ggX7_init_X7_begin : GoodIn wsX7_init wsX7_begin := goodIn_r _ [22, 4, 6, 7, 9, 23, 24, 25, 26, 27, 28, 29, 30, 31, 32, 33, 34, 35, 36, 37, 38] (by decide +kernel) (by decide +kernel)
set_option maxRecDepth 20000 in
theorem gX7_init_X7_begin : GoodIn wsX7_init (wsV RX7 46 RX7 yX7_begin wsX7_begin) := goodIn_app (goodIn_of _ (by decide +kernel)) ggX7_init_X7_begin
theorem dX7_init_0 : decode cX7_init 0 = .ok (.aload_n 0, 1) := by decide +kernel
theorem dX7_init_1 : decode cX7_init 1 = .ok (.invokespecial 1, 3) := by decide +kernel
theorem dX7_init_4 : decode cX7_init 4 = .ok (.aload_n 0, 1) := by decide +kernel
theorem dX7_init_5 : decode cX7_init 5 = .ok (.iconst 1, 1) := by decide +kernel
theorem dX7_init_6 : decode cX7_init 6 = .ok (.putfield 7, 3) := by decide +kernel
theorem dX7_init_9 : decode cX7_init 9 = .ok (.aload_n 0, 1) := by decide +kernel
theorem dX7_init_10 : decode cX7_init 10 = .ok (.bipush 16, 2) := by decide +kernel
theorem dX7_init_12 : decode cX7_init 12 = .ok (.newarray .int, 2) := by decide +kernel
theorem dX7_init_14 : decode cX7_init 14 = .ok (.putfield 13, 3) := by decide +kernel
theorem dX7_init_17 : decode cX7_init 17 = .ok (.aload_n 0, 1) := by decide +kernel
theorem dX7_init_18 : decode cX7_init 18 = .ok (.bipush 16, 2) := by decide +kernel
theorem dX7_init_20 : decode cX7_init 20 = .ok (.newarray .int, 2) := by decide +kernel
theorem dX7_init_22 : decode cX7_init 22 = .ok (.putfield 17, 3) := by decide +kernel
theorem dX7_init_25 : decode cX7_init 25 = .ok (.aload_n 0, 1) := by decide +kernel
theorem dX7_init_26 : decode cX7_init 26 = .ok (.bipush 17, 2) := by decide +kernel
theorem dX7_init_28 : decode cX7_init 28 = .ok (.newarray .boolean, 2) := by decide +kernel
theorem dX7_init_30 : decode cX7_init 30 = .ok (.putfield 20, 3) := by decide +kernel
theorem dX7_init_33 : decode cX7_init 33 = .ok (.aload_n 0, 1) := by decide +kernel
theorem dX7_init_34 : decode cX7_init 34 = .ok (.iconst 5, 1) := by decide +kernel
theorem dX7_init_35 : decode cX7_init 35 = .ok (.newarray .int, 2) := by decide +kernel
theorem dX7_init_37 : decode cX7_init 37 = .ok (.putfield 24, 3) := by decide +kernel
theorem dX7_init_40 : decode cX7_init 40 = .ok (.aload_n 0, 1) := by decide +kernel
theorem dX7_init_41 : decode cX7_init 41 = .ok (.bipush 17, 2) := by decide +kernel
theorem dX7_init_43 : decode cX7_init 43 = .ok (.newarray .int, 2) := by decide +kernel
theorem dX7_init_45 : decode cX7_init 45 = .ok (.putfield 27, 3) := by decide +kernel
theorem dX7_init_48 : decode cX7_init 48 = .ok (.aload_n 0, 1) := by decide +kernel
theorem dX7_init_49 : decode cX7_init 49 = .ok (.ldc 30, 2) := by decide +kernel
theorem dX7_init_51 : decode cX7_init 51 = .ok (.newarray .int, 2) := by decide +kernel
theorem dX7_init_53 : decode cX7_init 53 = .ok (.putfield 31, 3) := by decide +kernel
theorem dX7_init_56 : decode cX7_init 56 = .ok (.aload_n 0, 1) := by decide +kernel
theorem dX7_init_57 : decode cX7_init 57 = .ok (.sipush 1001, 3) := by decide +kernel
theorem dX7_init_60 : decode cX7_init 60 = .ok (.newarray .int, 2) := by decide +kernel
theorem dX7_init_62 : decode cX7_init 62 = .ok (.putfield 34, 3) := by decide +kernel
theorem dX7_init_65 : decode cX7_init 65 = .ok (.aload_n 0, 1) := by decide +kernel
theorem dX7_init_66 : decode cX7_init 66 = .ok (.sipush 1001, 3) := by decide +kernel
theorem dX7_init_69 : decode cX7_init 69 = .ok (.newarray .int, 2) := by decide +kernel
theorem dX7_init_71 : decode cX7_init 71 = .ok (.putfield 37, 3) := by decide +kernel
theorem dX7_init_74 : decode cX7_init 74 = .ok (.aload_n 0, 1) := by decide +kernel
theorem dX7_init_75 : decode cX7_init 75 = .ok (.sipush 17017, 3) := by decide +kernel
theorem dX7_init_78 : decode cX7_init 78 = .ok (.newarray .int, 2) := by decide +kernel
theorem dX7_init_80 : decode cX7_init 80 = .ok (.putfield 40, 3) := by decide +kernel
theorem dX7_init_83 : decode cX7_init 83 = .ok (.aload_n 0, 1) := by decide +kernel
theorem dX7_init_84 : decode cX7_init 84 = .ok (.sipush 17017, 3) := by decide +kernel
theorem dX7_init_87 : decode cX7_init 87 = .ok (.newarray .int, 2) := by decide +kernel
theorem dX7_init_89 : decode cX7_init 89 = .ok (.putfield 43, 3) := by decide +kernel
theorem dX7_init_92 : decode cX7_init 92 = .ok (.aload_n 0, 1) := by decide +kernel
theorem dX7_init_93 : decode cX7_init 93 = .ok (.getfield 24, 3) := by decide +kernel
theorem dX7_init_96 : decode cX7_init 96 = .ok (.iconst 0, 1) := by decide +kernel
theorem dX7_init_97 : decode cX7_init 97 = .ok (.iconst 1, 1) := by decide +kernel
theorem dX7_init_98 : decode cX7_init 98 = .ok (.iastore, 1) := by decide +kernel
theorem dX7_init_99 : decode cX7_init 99 = .ok (.aload_n 0, 1) := by decide +kernel
theorem dX7_init_100 : decode cX7_init 100 = .ok (.getfield 24, 3) := by decide +kernel
theorem dX7_init_103 : decode cX7_init 103 = .ok (.iconst 1, 1) := by decide +kernel
theorem dX7_init_104 : decode cX7_init 104 = .ok (.iconst 1, 1) := by decide +kernel
theorem dX7_init_105 : decode cX7_init 105 = .ok (.iastore, 1) := by decide +kernel
theorem dX7_init_106 : decode cX7_init 106 = .ok (.aload_n 0, 1) := by decide +kernel
theorem dX7_init_107 : decode cX7_init 107 = .ok (.getfield 24, 3) := by decide +kernel
theorem dX7_init_110 : decode cX7_init 110 = .ok (.iconst 2, 1) := by decide +kernel
theorem dX7_init_111 : decode cX7_init 111 = .ok (.bipush 100, 2) := by decide +kernel
theorem dX7_init_113 : decode cX7_init 113 = .ok (.iastore, 1) := by decide +kernel
theorem dX7_init_114 : decode cX7_init 114 = .ok (.aload_n 0, 1) := by decide +kernel
theorem dX7_init_115 : decode cX7_init 115 = .ok (.getfield 24, 3) := by decide +kernel
theorem dX7_init_118 : decode cX7_init 118 = .ok (.iconst 3, 1) := by decide +kernel
theorem dX7_init_119 : decode cX7_init 119 = .ok (.bipush 100, 2) := by decide +kernel
theorem dX7_init_121 : decode cX7_init 121 = .ok (.iastore, 1) := by decide +kernel
theorem dX7_init_122 : decode cX7_init 122 = .ok (.aload_n 0, 1) := by decide +kernel
theorem dX7_init_123 : decode cX7_init 123 = .ok (.iconst 1, 1) := by decide +kernel
theorem dX7_init_124 : decode cX7_init 124 = .ok (.invokevirtual 46, 3) := by decide +kernel
theorem dX7_init_127 : decode cX7_init 127 = .ok (.return_, 1) := by decide +kernel
theorem dX7_in_0 : decode cX7_in 0 = .ok (.iload_n 0, 1) := by decide +kernel
theorem dX7_in_1 : decode cX7_in 1 = .ok (.iload_n 1, 1) := by decide +kernel
theorem dX7_in_2 : decode cX7_in 2 = .ok (.if_icmp .lt 12, 3) := by decide +kernel
theorem dX7_in_5 : decode cX7_in 5 = .ok (.iload_n 0, 1) := by decide +kernel
theorem dX7_in_6 : decode cX7_in 6 = .ok (.iload_n 2, 1) := by decide +kernel
theorem dX7_in_7 : decode cX7_in 7 = .ok (.if_icmp .gt 7, 3) := by decide +kernel
theorem dX7_in_10 : decode cX7_in 10 = .ok (.iconst 1, 1) := by decide +kernel
theorem dX7_in_11 : decode cX7_in 11 = .ok (.goto 4, 3) := by decide +kernel
theorem dX7_in_14 : decode cX7_in 14 = .ok (.iconst 0, 1) := by decide +kernel
theorem dX7_in_15 : decode cX7_in 15 = .ok (.ireturn, 1) := by decide +kernel
set_option maxRecDepth 20000 in
theorem ggX7_isCell_X7_in : GoodIn wsX7_isCell wsX7_in := goodIn_r _ [5] (by decide +kernel) (by decide +kernel)
set_option maxRecDepth 20000 in
theorem gX7_isCell_X7_in : GoodIn wsX7_isCell (va_wsS RX7 50 yX7_in wsX7_in) := goodIn_app (goodIn_of _ (by decide +kernel)) ggX7_isCell_X7_in
theorem dX7_isCell_0 : decode cX7_isCell 0 = .ok (.iload_n 1, 1) := by decide +kernel
theorem dX7_isCell_1 : decode cX7_isCell 1 = .ok (.iconst 0, 1) := by decide +kernel
theorem dX7_isCell_2 : decode cX7_isCell 2 = .ok (.aload_n 0, 1) := by decide +kernel
theorem dX7_isCell_3 : decode cX7_isCell 3 = .ok (.getfield 7, 3) := by decide +kernel
theorem dX7_isCell_6 : decode cX7_isCell 6 = .ok (.iconst 1, 1) := by decide +kernel
theorem dX7_isCell_7 : decode cX7_isCell 7 = .ok (.isub, 1) := by decide +kernel
theorem dX7_isCell_8 : decode cX7_isCell 8 = .ok (.invokestatic 50, 3) := by decide +kernel
theorem dX7_isCell_11 : decode cX7_isCell 11 = .ok (.ireturn, 1) := by decide +kernel
set_option maxRecDepth 20000 in
theorem ggX7_isSpeed_X7_in : GoodIn wsX7_isSpeed wsX7_in := goodIn_r _ [4] (by decide +kernel) (by decide +kernel)
set_option maxRecDepth 20000 in
theorem gX7_isSpeed_X7_in : GoodIn wsX7_isSpeed (va_wsS RX7 50 yX7_in wsX7_in) := goodIn_app (goodIn_of _ (by decide +kernel)) ggX7_isSpeed_X7_in
theorem dX7_isSpeed_0 : decode cX7_isSpeed 0 = .ok (.iload_n 0, 1) := by decide +kernel
theorem dX7_isSpeed_1 : decode cX7_isSpeed 1 = .ok (.iconst 0, 1) := by decide +kernel
theorem dX7_isSpeed_2 : decode cX7_isSpeed 2 = .ok (.bipush 6, 2) := by decide +kernel
theorem dX7_isSpeed_4 : decode cX7_isSpeed 4 = .ok (.invokestatic 50, 3) := by decide +kernel
theorem dX7_isSpeed_7 : decode cX7_isSpeed 7 = .ok (.ireturn, 1) := by decide +kernel
theorem dX7_begin_0 : decode cX7_begin 0 = .ok (.aload_n 0, 1) := by decide +kernel
theorem dX7_begin_1 : decode cX7_begin 1 = .ok (.iload_n 1, 1) := by decide +kernel
theorem dX7_begin_2 : decode cX7_begin 2 = .ok (.putfield 7, 3) := by decide +kernel
theorem dX7_begin_5 : decode cX7_begin 5 = .ok (.iconst 0, 1) := by decide +kernel
theorem dX7_begin_6 : decode cX7_begin 6 = .ok (.istore_n 2, 1) := by decide +kernel
theorem dX7_begin_7 : decode cX7_begin 7 = .ok (.iload_n 2, 1) := by decide +kernel
theorem dX7_begin_8 : decode cX7_begin 8 = .ok (.bipush 16, 2) := by decide +kernel
theorem dX7_begin_10 : decode cX7_begin 10 = .ok (.if_icmp .ge 24, 3) := by decide +kernel
theorem dX7_begin_13 : decode cX7_begin 13 = .ok (.aload_n 0, 1) := by decide +kernel
theorem dX7_begin_14 : decode cX7_begin 14 = .ok (.getfield 13, 3) := by decide +kernel
theorem dX7_begin_17 : decode cX7_begin 17 = .ok (.iload_n 2, 1) := by decide +kernel
theorem dX7_begin_18 : decode cX7_begin 18 = .ok (.iconst 0, 1) := by decide +kernel
theorem dX7_begin_19 : decode cX7_begin 19 = .ok (.iastore, 1) := by decide +kernel
theorem dX7_begin_20 : decode cX7_begin 20 = .ok (.aload_n 0, 1) := by decide +kernel
theorem dX7_begin_21 : decode cX7_begin 21 = .ok (.getfield 17, 3) := by decide +kernel
theorem dX7_begin_24 : decode cX7_begin 24 = .ok (.iload_n 2, 1) := by decide +kernel
theorem dX7_begin_25 : decode cX7_begin 25 = .ok (.bipush 6, 2) := by decide +kernel
theorem dX7_begin_27 : decode cX7_begin 27 = .ok (.iastore, 1) := by decide +kernel
theorem dX7_begin_28 : decode cX7_begin 28 = .ok (.iinc 2 1, 3) := by decide +kernel
theorem dX7_begin_31 : decode cX7_begin 31 = .ok (.goto (-24), 3) := by decide +kernel
theorem dX7_begin_34 : decode cX7_begin 34 = .ok (.iconst 0, 1) := by decide +kernel
theorem dX7_begin_35 : decode cX7_begin 35 = .ok (.istore_n 2, 1) := by decide +kernel
theorem dX7_begin_36 : decode cX7_begin 36 = .ok (.iload_n 2, 1) := by decide +kernel
theorem dX7_begin_37 : decode cX7_begin 37 = .ok (.bipush 17, 2) := by decide +kernel
theorem dX7_begin_39 : decode cX7_begin 39 = .ok (.if_icmp .ge 29, 3) := by decide +kernel
theorem dX7_begin_42 : decode cX7_begin 42 = .ok (.aload_n 0, 1) := by decide +kernel
theorem dX7_begin_43 : decode cX7_begin 43 = .ok (.getfield 20, 3) := by decide +kernel
theorem dX7_begin_46 : decode cX7_begin 46 = .ok (.iload_n 2, 1) := by decide +kernel
theorem dX7_begin_47 : decode cX7_begin 47 = .ok (.iload_n 2, 1) := by decide +kernel
theorem dX7_begin_48 : decode cX7_begin 48 = .ok (.ifCond .eq 8, 3) := by decide +kernel
theorem dX7_begin_51 : decode cX7_begin 51 = .ok (.iload_n 2, 1) := by decide +kernel
theorem dX7_begin_52 : decode cX7_begin 52 = .ok (.iload_n 1, 1) := by decide +kernel
theorem dX7_begin_53 : decode cX7_begin 53 = .ok (.if_icmp .ne 7, 3) := by decide +kernel
theorem dX7_begin_56 : decode cX7_begin 56 = .ok (.iconst 1, 1) := by decide +kernel
theorem dX7_begin_57 : decode cX7_begin 57 = .ok (.goto 4, 3) := by decide +kernel
theorem dX7_begin_60 : decode cX7_begin 60 = .ok (.iconst 0, 1) := by decide +kernel
theorem dX7_begin_61 : decode cX7_begin 61 = .ok (.bastore, 1) := by decide +kernel
theorem dX7_begin_62 : decode cX7_begin 62 = .ok (.iinc 2 1, 3) := by decide +kernel
theorem dX7_begin_65 : decode cX7_begin 65 = .ok (.goto (-29), 3) := by decide +kernel
theorem dX7_begin_68 : decode cX7_begin 68 = .ok (.aload_n 0, 1) := by decide +kernel
theorem dX7_begin_69 : decode cX7_begin 69 = .ok (.iconst 0, 1) := by decide +kernel
theorem dX7_begin_70 : decode cX7_begin 70 = .ok (.putfield 54, 3) := by decide +kernel
theorem dX7_begin_73 : decode cX7_begin 73 = .ok (.aload_n 0, 1) := by decide +kernel
theorem dX7_begin_74 : decode cX7_begin 74 = .ok (.iconst 0, 1) := by decide +kernel
theorem dX7_begin_75 : decode cX7_begin 75 = .ok (.putfield 57, 3) := by decide +kernel
theorem dX7_begin_78 : decode cX7_begin 78 = .ok (.return_, 1) := by decide +kernel
set_option maxRecDepth 20000 in
theorem ggX7_line_X7_in : GoodIn wsX7_line wsX7_in := goodIn_r _ [5] (by decide +kernel) (by decide +kernel)
set_option maxRecDepth 20000 in
theorem gX7_line_X7_in : GoodIn wsX7_line (va_wsS RX7 50 yX7_in wsX7_in) := goodIn_app (goodIn_of _ (by decide +kernel)) ggX7_line_X7_in
set_option maxRecDepth 20000 in
theorem ggX7_line_X7_begin : GoodIn wsX7_line wsX7_begin := goodIn_r _ [9, 1, 10, 11, 12, 13, 14, 15, 16, 17, 18, 19, 20, 21, 22, 23, 24, 25, 26, 27, 28] (by decide +kernel) (by decide +kernel)
set_option maxRecDepth 20000 in
theorem gX7_line_X7_begin : GoodIn wsX7_line (wsV RX7 46 RX7 yX7_begin wsX7_begin) := goodIn_app (goodIn_of _ (by decide +kernel)) ggX7_line_X7_begin
theorem dX7_line_0 : decode cX7_line 0 = .ok (.iload_n 1, 1) := by decide +kernel
theorem dX7_line_1 : decode cX7_line 1 = .ok (.iconst 1, 1) := by decide +kernel
theorem dX7_line_2 : decode cX7_line 2 = .ok (.bipush 16, 2) := by decide +kernel
theorem dX7_line_4 : decode cX7_line 4 = .ok (.invokestatic 50, 3) := by decide +kernel
theorem dX7_line_7 : decode cX7_line 7 = .ok (.ifCond .ne 6, 3) := by decide +kernel
theorem dX7_line_10 : decode cX7_line 10 = .ok (.bipush (-2), 2) := by decide +kernel
theorem dX7_line_12 : decode cX7_line 12 = .ok (.ireturn, 1) := by decide +kernel
theorem dX7_line_13 : decode cX7_line 13 = .ok (.aload_n 0, 1) := by decide +kernel
theorem dX7_line_14 : decode cX7_line 14 = .ok (.getfield 7, 3) := by decide +kernel
theorem dX7_line_17 : decode cX7_line 17 = .ok (.istore_n 2, 1) := by decide +kernel
theorem dX7_line_18 : decode cX7_line 18 = .ok (.aload_n 0, 1) := by decide +kernel
theorem dX7_line_19 : decode cX7_line 19 = .ok (.iload_n 1, 1) := by decide +kernel
theorem dX7_line_20 : decode cX7_line 20 = .ok (.invokevirtual 46, 3) := by decide +kernel
theorem dX7_line_23 : decode cX7_line 23 = .ok (.iload_n 2, 1) := by decide +kernel
theorem dX7_line_24 : decode cX7_line 24 = .ok (.ireturn, 1) := by decide +kernel
set_option maxRecDepth 20000 in
theorem ggX7_cell_X7_isCell : GoodIn wsX7_cell wsX7_isCell := goodIn_r _ [8, 9, 10, 11, 7, 12, 13, 14, 15, 16, 17, 18, 19, 20, 21, 22, 23, 24, 25, 26] (by decide +kernel) (by decide +kernel)
set_option maxRecDepth 20000 in
theorem gX7_cell_X7_isCell : GoodIn wsX7_cell (wsV RX7 61 RX7 yX7_isCell wsX7_isCell) := goodIn_app (goodIn_of _ (by decide +kernel)) ggX7_cell_X7_isCell
set_option maxRecDepth 20000 in
theorem ggX7_cell_X7_in : GoodIn wsX7_cell wsX7_in := goodIn_r _ [12] (by decide +kernel) (by decide +kernel)
set_option maxRecDepth 20000 in
theorem gX7_cell_X7_in : GoodIn wsX7_cell (va_wsS RX7 50 yX7_in wsX7_in) := goodIn_app (goodIn_of _ (by decide +kernel)) ggX7_cell_X7_in
theorem dX7_cell_0 : decode cX7_cell 0 = .ok (.aload_n 0, 1) := by decide +kernel
theorem dX7_cell_1 : decode cX7_cell 1 = .ok (.iload_n 1, 1) := by decide +kernel
theorem dX7_cell_2 : decode cX7_cell 2 = .ok (.invokevirtual 61, 3) := by decide +kernel
theorem dX7_cell_5 : decode cX7_cell 5 = .ok (.ifCond .ne 5, 3) := by decide +kernel
theorem dX7_cell_8 : decode cX7_cell 8 = .ok (.iconst (-1), 1) := by decide +kernel
theorem dX7_cell_9 : decode cX7_cell 9 = .ok (.ireturn, 1) := by decide +kernel
theorem dX7_cell_10 : decode cX7_cell 10 = .ok (.iload_n 2, 1) := by decide +kernel
theorem dX7_cell_11 : decode cX7_cell 11 = .ok (.bipush (-4), 2) := by decide +kernel
theorem dX7_cell_13 : decode cX7_cell 13 = .ok (.iconst 4, 1) := by decide +kernel
theorem dX7_cell_14 : decode cX7_cell 14 = .ok (.invokestatic 50, 3) := by decide +kernel
theorem dX7_cell_17 : decode cX7_cell 17 = .ok (.ifCond .eq 13, 3) := by decide +kernel
theorem dX7_cell_20 : decode cX7_cell 20 = .ok (.iload_n 3, 1) := by decide +kernel
theorem dX7_cell_21 : decode cX7_cell 21 = .ok (.iconst 1, 1) := by decide +kernel
theorem dX7_cell_22 : decode cX7_cell 22 = .ok (.bipush 6, 2) := by decide +kernel
theorem dX7_cell_24 : decode cX7_cell 24 = .ok (.invokestatic 50, 3) := by decide +kernel
theorem dX7_cell_27 : decode cX7_cell 27 = .ok (.ifCond .ne 6, 3) := by decide +kernel
theorem dX7_cell_30 : decode cX7_cell 30 = .ok (.bipush (-2), 2) := by decide +kernel
theorem dX7_cell_32 : decode cX7_cell 32 = .ok (.ireturn, 1) := by decide +kernel
theorem dX7_cell_33 : decode cX7_cell 33 = .ok (.aload_n 0, 1) := by decide +kernel
theorem dX7_cell_34 : decode cX7_cell 34 = .ok (.getfield 17, 3) := by decide +kernel
theorem dX7_cell_37 : decode cX7_cell 37 = .ok (.iload_n 1, 1) := by decide +kernel
theorem dX7_cell_38 : decode cX7_cell 38 = .ok (.iaload, 1) := by decide +kernel
theorem dX7_cell_39 : decode cX7_cell 39 = .ok (.istore 4, 2) := by decide +kernel
theorem dX7_cell_41 : decode cX7_cell 41 = .ok (.aload_n 0, 1) := by decide +kernel
theorem dX7_cell_42 : decode cX7_cell 42 = .ok (.getfield 13, 3) := by decide +kernel
theorem dX7_cell_45 : decode cX7_cell 45 = .ok (.iload_n 1, 1) := by decide +kernel
theorem dX7_cell_46 : decode cX7_cell 46 = .ok (.iload_n 2, 1) := by decide +kernel
theorem dX7_cell_47 : decode cX7_cell 47 = .ok (.iastore, 1) := by decide +kernel
theorem dX7_cell_48 : decode cX7_cell 48 = .ok (.aload_n 0, 1) := by decide +kernel
theorem dX7_cell_49 : decode cX7_cell 49 = .ok (.getfield 17, 3) := by decide +kernel
theorem dX7_cell_52 : decode cX7_cell 52 = .ok (.iload_n 1, 1) := by decide +kernel
theorem dX7_cell_53 : decode cX7_cell 53 = .ok (.iload_n 3, 1) := by decide +kernel
theorem dX7_cell_54 : decode cX7_cell 54 = .ok (.iastore, 1) := by decide +kernel
theorem dX7_cell_55 : decode cX7_cell 55 = .ok (.aload_n 0, 1) := by decide +kernel
theorem dX7_cell_56 : decode cX7_cell 56 = .ok (.iconst 0, 1) := by decide +kernel
theorem dX7_cell_57 : decode cX7_cell 57 = .ok (.putfield 57, 3) := by decide +kernel
theorem dX7_cell_60 : decode cX7_cell 60 = .ok (.iload 4, 2) := by decide +kernel
theorem dX7_cell_62 : decode cX7_cell 62 = .ok (.ireturn, 1) := by decide +kernel
theorem dX7_legs_0 : decode cX7_legs 0 = .ok (.iconst 0, 1) := by decide +kernel
theorem dX7_legs_1 : decode cX7_legs 1 = .ok (.istore_n 1, 1) := by decide +kernel
theorem dX7_legs_2 : decode cX7_legs 2 = .ok (.iconst 1, 1) := by decide +kernel
theorem dX7_legs_3 : decode cX7_legs 3 = .ok (.istore_n 2, 1) := by decide +kernel
theorem dX7_legs_4 : decode cX7_legs 4 = .ok (.iload_n 2, 1) := by decide +kernel
theorem dX7_legs_5 : decode cX7_legs 5 = .ok (.aload_n 0, 1) := by decide +kernel
theorem dX7_legs_6 : decode cX7_legs 6 = .ok (.getfield 7, 3) := by decide +kernel
theorem dX7_legs_9 : decode cX7_legs 9 = .ok (.if_icmp .gt 26, 3) := by decide +kernel
theorem dX7_legs_12 : decode cX7_legs 12 = .ok (.iload_n 1, 1) := by decide +kernel
theorem dX7_legs_13 : decode cX7_legs 13 = .ok (.aload_n 0, 1) := by decide +kernel
theorem dX7_legs_14 : decode cX7_legs 14 = .ok (.getfield 20, 3) := by decide +kernel
theorem dX7_legs_17 : decode cX7_legs 17 = .ok (.iload_n 2, 1) := by decide +kernel
theorem dX7_legs_18 : decode cX7_legs 18 = .ok (.baload, 1) := by decide +kernel
theorem dX7_legs_19 : decode cX7_legs 19 = .ok (.ifCond .eq 7, 3) := by decide +kernel
theorem dX7_legs_22 : decode cX7_legs 22 = .ok (.iconst 1, 1) := by decide +kernel
theorem dX7_legs_23 : decode cX7_legs 23 = .ok (.goto 4, 3) := by decide +kernel
theorem dX7_legs_26 : decode cX7_legs 26 = .ok (.iconst 0, 1) := by decide +kernel
theorem dX7_legs_27 : decode cX7_legs 27 = .ok (.iadd, 1) := by decide +kernel
theorem dX7_legs_28 : decode cX7_legs 28 = .ok (.istore_n 1, 1) := by decide +kernel
theorem dX7_legs_29 : decode cX7_legs 29 = .ok (.iinc 2 1, 3) := by decide +kernel
theorem dX7_legs_32 : decode cX7_legs 32 = .ok (.goto (-28), 3) := by decide +kernel
theorem dX7_legs_35 : decode cX7_legs 35 = .ok (.iload_n 1, 1) := by decide +kernel
theorem dX7_legs_36 : decode cX7_legs 36 = .ok (.ireturn, 1) := by decide +kernel
set_option maxRecDepth 20000 in
theorem ggX7_stop_X7_in : GoodIn wsX7_stop wsX7_in := goodIn_r _ [7] (by decide +kernel) (by decide +kernel)
set_option maxRecDepth 20000 in
theorem gX7_stop_X7_in : GoodIn wsX7_stop (va_wsS RX7 50 yX7_in wsX7_in) := goodIn_app (goodIn_of _ (by decide +kernel)) ggX7_stop_X7_in
set_option maxRecDepth 20000 in
theorem ggX7_stop_X7_legs : GoodIn wsX7_stop wsX7_legs := goodIn_r _ [11, 1, 2, 12, 13, 14, 15, 16, 17, 18, 19, 20, 21, 22, 23, 24, 25] (by decide +kernel) (by decide +kernel)
set_option maxRecDepth 20000 in
theorem gX7_stop_X7_legs : GoodIn wsX7_stop (wsV RX7 65 RX7 yX7_legs wsX7_legs) := goodIn_app (goodIn_of _ (by decide +kernel)) ggX7_stop_X7_legs
theorem dX7_stop_0 : decode cX7_stop 0 = .ok (.iload_n 1, 1) := by decide +kernel
theorem dX7_stop_1 : decode cX7_stop 1 = .ok (.iconst 0, 1) := by decide +kernel
theorem dX7_stop_2 : decode cX7_stop 2 = .ok (.aload_n 0, 1) := by decide +kernel
theorem dX7_stop_3 : decode cX7_stop 3 = .ok (.getfield 7, 3) := by decide +kernel
theorem dX7_stop_6 : decode cX7_stop 6 = .ok (.invokestatic 50, 3) := by decide +kernel
theorem dX7_stop_9 : decode cX7_stop 9 = .ok (.ifCond .ne 5, 3) := by decide +kernel
theorem dX7_stop_12 : decode cX7_stop 12 = .ok (.iconst (-1), 1) := by decide +kernel
theorem dX7_stop_13 : decode cX7_stop 13 = .ok (.ireturn, 1) := by decide +kernel
theorem dX7_stop_14 : decode cX7_stop 14 = .ok (.iload_n 1, 1) := by decide +kernel
theorem dX7_stop_15 : decode cX7_stop 15 = .ok (.ifCond .eq 11, 3) := by decide +kernel
theorem dX7_stop_18 : decode cX7_stop 18 = .ok (.iload_n 1, 1) := by decide +kernel
theorem dX7_stop_19 : decode cX7_stop 19 = .ok (.aload_n 0, 1) := by decide +kernel
theorem dX7_stop_20 : decode cX7_stop 20 = .ok (.getfield 7, 3) := by decide +kernel
theorem dX7_stop_23 : decode cX7_stop 23 = .ok (.if_icmp .ne 6, 3) := by decide +kernel
theorem dX7_stop_26 : decode cX7_stop 26 = .ok (.bipush (-3), 2) := by decide +kernel
theorem dX7_stop_28 : decode cX7_stop 28 = .ok (.ireturn, 1) := by decide +kernel
theorem dX7_stop_29 : decode cX7_stop 29 = .ok (.aload_n 0, 1) := by decide +kernel
theorem dX7_stop_30 : decode cX7_stop 30 = .ok (.getfield 20, 3) := by decide +kernel
theorem dX7_stop_33 : decode cX7_stop 33 = .ok (.iload_n 1, 1) := by decide +kernel
theorem dX7_stop_34 : decode cX7_stop 34 = .ok (.iload_n 2, 1) := by decide +kernel
theorem dX7_stop_35 : decode cX7_stop 35 = .ok (.bastore, 1) := by decide +kernel
theorem dX7_stop_36 : decode cX7_stop 36 = .ok (.aload_n 0, 1) := by decide +kernel
theorem dX7_stop_37 : decode cX7_stop 37 = .ok (.iconst 0, 1) := by decide +kernel
theorem dX7_stop_38 : decode cX7_stop 38 = .ok (.putfield 57, 3) := by decide +kernel
theorem dX7_stop_41 : decode cX7_stop 41 = .ok (.aload_n 0, 1) := by decide +kernel
theorem dX7_stop_42 : decode cX7_stop 42 = .ok (.invokevirtual 65, 3) := by decide +kernel
theorem dX7_stop_45 : decode cX7_stop 45 = .ok (.ireturn, 1) := by decide +kernel
set_option maxRecDepth 20000 in
theorem ggX7_train_X7_in : GoodIn wsX7_train wsX7_in := goodIn_r _ [6] (by decide +kernel) (by decide +kernel)
set_option maxRecDepth 20000 in
theorem gX7_train_X7_in : GoodIn wsX7_train (va_wsS RX7 50 yX7_in wsX7_in) := goodIn_app (goodIn_of _ (by decide +kernel)) ggX7_train_X7_in
theorem dX7_train_0 : decode cX7_train 0 = .ok (.iload_n 1, 1) := by decide +kernel
theorem dX7_train_1 : decode cX7_train 1 = .ok (.iconst 0, 1) := by decide +kernel
theorem dX7_train_2 : decode cX7_train 2 = .ok (.iconst 4, 1) := by decide +kernel
theorem dX7_train_3 : decode cX7_train 3 = .ok (.invokestatic 50, 3) := by decide +kernel
theorem dX7_train_6 : decode cX7_train 6 = .ok (.ifCond .ne 6, 3) := by decide +kernel
theorem dX7_train_9 : decode cX7_train 9 = .ok (.bipush (-2), 2) := by decide +kernel
theorem dX7_train_11 : decode cX7_train 11 = .ok (.ireturn, 1) := by decide +kernel
theorem dX7_train_12 : decode cX7_train 12 = .ok (.iload_n 1, 1) := by decide +kernel
theorem dX7_train_13 : decode cX7_train 13 = .ok (.iconst 1, 1) := by decide +kernel
theorem dX7_train_14 : decode cX7_train 14 = .ok (.if_icmp .eq 8, 3) := by decide +kernel
theorem dX7_train_17 : decode cX7_train 17 = .ok (.iload_n 1, 1) := by decide +kernel
theorem dX7_train_18 : decode cX7_train 18 = .ok (.iconst 4, 1) := by decide +kernel
theorem dX7_train_19 : decode cX7_train 19 = .ok (.if_icmp .ne 7, 3) := by decide +kernel
theorem dX7_train_22 : decode cX7_train 22 = .ok (.iconst 0, 1) := by decide +kernel
theorem dX7_train_23 : decode cX7_train 23 = .ok (.goto 4, 3) := by decide +kernel
theorem dX7_train_26 : decode cX7_train 26 = .ok (.iconst 1, 1) := by decide +kernel
theorem dX7_train_27 : decode cX7_train 27 = .ok (.istore_n 3, 1) := by decide +kernel
theorem dX7_train_28 : decode cX7_train 28 = .ok (.iload_n 1, 1) := by decide +kernel
theorem dX7_train_29 : decode cX7_train 29 = .ok (.iconst 2, 1) := by decide +kernel
theorem dX7_train_30 : decode cX7_train 30 = .ok (.if_icmp .ge 8, 3) := by decide +kernel
theorem dX7_train_33 : decode cX7_train 33 = .ok (.bipush 20, 2) := by decide +kernel
theorem dX7_train_35 : decode cX7_train 35 = .ok (.goto 16, 3) := by decide +kernel
theorem dX7_train_38 : decode cX7_train 38 = .ok (.iload_n 1, 1) := by decide +kernel
theorem dX7_train_39 : decode cX7_train 39 = .ok (.iconst 4, 1) := by decide +kernel
theorem dX7_train_40 : decode cX7_train 40 = .ok (.if_icmp .ge 9, 3) := by decide +kernel
theorem dX7_train_43 : decode cX7_train 43 = .ok (.sipush 400, 3) := by decide +kernel
theorem dX7_train_46 : decode cX7_train 46 = .ok (.goto 5, 3) := by decide +kernel
theorem dX7_train_49 : decode cX7_train 49 = .ok (.bipush 10, 2) := by decide +kernel
theorem dX7_train_51 : decode cX7_train 51 = .ok (.istore 4, 2) := by decide +kernel
theorem dX7_train_53 : decode cX7_train 53 = .ok (.iload_n 2, 1) := by decide +kernel
theorem dX7_train_54 : decode cX7_train 54 = .ok (.iload_n 3, 1) := by decide +kernel
theorem dX7_train_55 : decode cX7_train 55 = .ok (.iload 4, 2) := by decide +kernel
theorem dX7_train_57 : decode cX7_train 57 = .ok (.invokestatic 50, 3) := by decide +kernel
theorem dX7_train_60 : decode cX7_train 60 = .ok (.ifCond .ne 6, 3) := by decide +kernel
theorem dX7_train_63 : decode cX7_train 63 = .ok (.bipush (-2), 2) := by decide +kernel
theorem dX7_train_65 : decode cX7_train 65 = .ok (.ireturn, 1) := by decide +kernel
theorem dX7_train_66 : decode cX7_train 66 = .ok (.aload_n 0, 1) := by decide +kernel
theorem dX7_train_67 : decode cX7_train 67 = .ok (.getfield 24, 3) := by decide +kernel
theorem dX7_train_70 : decode cX7_train 70 = .ok (.iload_n 1, 1) := by decide +kernel
theorem dX7_train_71 : decode cX7_train 71 = .ok (.iaload, 1) := by decide +kernel
theorem dX7_train_72 : decode cX7_train 72 = .ok (.istore 5, 2) := by decide +kernel
theorem dX7_train_74 : decode cX7_train 74 = .ok (.aload_n 0, 1) := by decide +kernel
theorem dX7_train_75 : decode cX7_train 75 = .ok (.getfield 24, 3) := by decide +kernel
theorem dX7_train_78 : decode cX7_train 78 = .ok (.iload_n 1, 1) := by decide +kernel
theorem dX7_train_79 : decode cX7_train 79 = .ok (.iload_n 2, 1) := by decide +kernel
theorem dX7_train_80 : decode cX7_train 80 = .ok (.iastore, 1) := by decide +kernel
theorem dX7_train_81 : decode cX7_train 81 = .ok (.aload_n 0, 1) := by decide +kernel
theorem dX7_train_82 : decode cX7_train 82 = .ok (.iconst 0, 1) := by decide +kernel
theorem dX7_train_83 : decode cX7_train 83 = .ok (.putfield 57, 3) := by decide +kernel
theorem dX7_train_86 : decode cX7_train 86 = .ok (.iload 5, 2) := by decide +kernel
theorem dX7_train_88 : decode cX7_train 88 = .ok (.ireturn, 1) := by decide +kernel
set_option maxRecDepth 20000 in
theorem ggX7_has_X7_in : GoodIn wsX7_has wsX7_in := goodIn_r _ [5] (by decide +kernel) (by decide +kernel)
set_option maxRecDepth 20000 in
theorem gX7_has_X7_in : GoodIn wsX7_has (va_wsS RX7 50 yX7_in wsX7_in) := goodIn_app (goodIn_of _ (by decide +kernel)) ggX7_has_X7_in
theorem dX7_has_0 : decode cX7_has 0 = .ok (.iload_n 1, 1) := by decide +kernel
theorem dX7_has_1 : decode cX7_has 1 = .ok (.iconst 0, 1) := by decide +kernel
theorem dX7_has_2 : decode cX7_has 2 = .ok (.iconst 4, 1) := by decide +kernel
theorem dX7_has_3 : decode cX7_has 3 = .ok (.invokestatic 50, 3) := by decide +kernel
theorem dX7_has_6 : decode cX7_has 6 = .ok (.ifCond .eq 12, 3) := by decide +kernel
theorem dX7_has_9 : decode cX7_has 9 = .ok (.aload_n 0, 1) := by decide +kernel
theorem dX7_has_10 : decode cX7_has 10 = .ok (.getfield 24, 3) := by decide +kernel
theorem dX7_has_13 : decode cX7_has 13 = .ok (.iload_n 1, 1) := by decide +kernel
theorem dX7_has_14 : decode cX7_has 14 = .ok (.iaload, 1) := by decide +kernel
theorem dX7_has_15 : decode cX7_has 15 = .ok (.goto 5, 3) := by decide +kernel
theorem dX7_has_18 : decode cX7_has 18 = .ok (.bipush (-2), 2) := by decide +kernel
theorem dX7_has_20 : decode cX7_has 20 = .ok (.ireturn, 1) := by decide +kernel
theorem dX7_endOf_0 : decode cX7_endOf 0 = .ok (.iload_n 1, 1) := by decide +kernel
theorem dX7_endOf_1 : decode cX7_endOf 1 = .ok (.istore_n 2, 1) := by decide +kernel
theorem dX7_endOf_2 : decode cX7_endOf 2 = .ok (.iconst 0, 1) := by decide +kernel
theorem dX7_endOf_3 : decode cX7_endOf 3 = .ok (.istore_n 3, 1) := by decide +kernel
theorem dX7_endOf_4 : decode cX7_endOf 4 = .ok (.iload_n 2, 1) := by decide +kernel
theorem dX7_endOf_5 : decode cX7_endOf 5 = .ok (.ifCond .lt 26, 3) := by decide +kernel
theorem dX7_endOf_8 : decode cX7_endOf 8 = .ok (.iinc 3 1, 3) := by decide +kernel
theorem dX7_endOf_11 : decode cX7_endOf 11 = .ok (.iload_n 2, 1) := by decide +kernel
theorem dX7_endOf_12 : decode cX7_endOf 12 = .ok (.aload_n 0, 1) := by decide +kernel
theorem dX7_endOf_13 : decode cX7_endOf 13 = .ok (.getfield 20, 3) := by decide +kernel
theorem dX7_endOf_16 : decode cX7_endOf 16 = .ok (.iload_n 3, 1) := by decide +kernel
theorem dX7_endOf_17 : decode cX7_endOf 17 = .ok (.baload, 1) := by decide +kernel
theorem dX7_endOf_18 : decode cX7_endOf 18 = .ok (.ifCond .eq 7, 3) := by decide +kernel
theorem dX7_endOf_21 : decode cX7_endOf 21 = .ok (.iconst 1, 1) := by decide +kernel
theorem dX7_endOf_22 : decode cX7_endOf 22 = .ok (.goto 4, 3) := by decide +kernel
theorem dX7_endOf_25 : decode cX7_endOf 25 = .ok (.iconst 0, 1) := by decide +kernel
theorem dX7_endOf_26 : decode cX7_endOf 26 = .ok (.isub, 1) := by decide +kernel
theorem dX7_endOf_27 : decode cX7_endOf 27 = .ok (.istore_n 2, 1) := by decide +kernel
theorem dX7_endOf_28 : decode cX7_endOf 28 = .ok (.goto (-24), 3) := by decide +kernel
theorem dX7_endOf_31 : decode cX7_endOf 31 = .ok (.iload_n 3, 1) := by decide +kernel
theorem dX7_endOf_32 : decode cX7_endOf 32 = .ok (.ireturn, 1) := by decide +kernel
set_option maxRecDepth 20000 in
theorem ggX7_firstOf_X7_endOf : GoodIn wsX7_firstOf wsX7_endOf := goodIn_r _ [5, 6, 7, 8, 9, 10, 11, 12, 13, 14, 15, 16, 17, 18, 19, 20] (by decide +kernel) (by decide +kernel)
set_option maxRecDepth 20000 in
theorem gX7_firstOf_X7_endOf : GoodIn wsX7_firstOf (wsV RX7 69 RX7 yX7_endOf wsX7_endOf) := goodIn_app (goodIn_of _ (by decide +kernel)) ggX7_firstOf_X7_endOf
theorem dX7_firstOf_0 : decode cX7_firstOf 0 = .ok (.iload_n 1, 1) := by decide +kernel
theorem dX7_firstOf_1 : decode cX7_firstOf 1 = .ok (.ifCond .ne 7, 3) := by decide +kernel
theorem dX7_firstOf_4 : decode cX7_firstOf 4 = .ok (.iconst 0, 1) := by decide +kernel
theorem dX7_firstOf_5 : decode cX7_firstOf 5 = .ok (.goto 10, 3) := by decide +kernel
theorem dX7_firstOf_8 : decode cX7_firstOf 8 = .ok (.aload_n 0, 1) := by decide +kernel
theorem dX7_firstOf_9 : decode cX7_firstOf 9 = .ok (.iload_n 1, 1) := by decide +kernel
theorem dX7_firstOf_10 : decode cX7_firstOf 10 = .ok (.iconst 1, 1) := by decide +kernel
theorem dX7_firstOf_11 : decode cX7_firstOf 11 = .ok (.isub, 1) := by decide +kernel
theorem dX7_firstOf_12 : decode cX7_firstOf 12 = .ok (.invokevirtual 69, 3) := by decide +kernel
theorem dX7_firstOf_15 : decode cX7_firstOf 15 = .ok (.ireturn, 1) := by decide +kernel
set_option maxRecDepth 20000 in
theorem ggX7_isLeg_X7_legs : GoodIn wsX7_isLeg wsX7_legs := goodIn_r _ [5, 6, 7, 11, 12, 13, 14, 15, 16, 17, 18, 19, 20, 21, 22, 23, 24] (by decide +kernel) (by decide +kernel)
set_option maxRecDepth 20000 in
theorem gX7_isLeg_X7_legs : GoodIn wsX7_isLeg (wsV RX7 65 RX7 yX7_legs wsX7_legs) := goodIn_app (goodIn_of _ (by decide +kernel)) ggX7_isLeg_X7_legs
set_option maxRecDepth 20000 in
theorem ggX7_isLeg_X7_in : GoodIn wsX7_isLeg wsX7_in := goodIn_r _ [10] (by decide +kernel) (by decide +kernel)
set_option maxRecDepth 20000 in
theorem gX7_isLeg_X7_in : GoodIn wsX7_isLeg (va_wsS RX7 50 yX7_in wsX7_in) := goodIn_app (goodIn_of _ (by decide +kernel)) ggX7_isLeg_X7_in
theorem dX7_isLeg_0 : decode cX7_isLeg 0 = .ok (.iload_n 1, 1) := by decide +kernel
theorem dX7_isLeg_1 : decode cX7_isLeg 1 = .ok (.iconst 0, 1) := by decide +kernel
theorem dX7_isLeg_2 : decode cX7_isLeg 2 = .ok (.aload_n 0, 1) := by decide +kernel
theorem dX7_isLeg_3 : decode cX7_isLeg 3 = .ok (.invokevirtual 65, 3) := by decide +kernel
theorem dX7_isLeg_6 : decode cX7_isLeg 6 = .ok (.iconst 1, 1) := by decide +kernel
theorem dX7_isLeg_7 : decode cX7_isLeg 7 = .ok (.isub, 1) := by decide +kernel
theorem dX7_isLeg_8 : decode cX7_isLeg 8 = .ok (.invokestatic 50, 3) := by decide +kernel
theorem dX7_isLeg_11 : decode cX7_isLeg 11 = .ok (.ireturn, 1) := by decide +kernel
set_option maxRecDepth 20000 in
theorem ggX7_leg_X7_isLeg : GoodIn wsX7_leg wsX7_isLeg := goodIn_r _ [5, 6, 7, 8, 4, 9, 10, 11, 12, 13, 14, 23, 24, 25, 26, 27, 28, 29, 30, 31, 32, 33, 34, 35, 36] (by decide +kernel) (by decide +kernel)
set_option maxRecDepth 20000 in
theorem gX7_leg_X7_isLeg : GoodIn wsX7_leg (wsV RX7 73 RX7 yX7_isLeg wsX7_isLeg) := goodIn_app (goodIn_of _ (by decide +kernel)) ggX7_leg_X7_isLeg
set_option maxRecDepth 20000 in
theorem ggX7_leg_X7_endOf : GoodIn wsX7_leg wsX7_endOf := goodIn_r _ [18, 11, 23, 24, 25, 26, 27, 28, 29, 30, 31, 32, 33, 34, 35, 36] (by decide +kernel) (by decide +kernel)
set_option maxRecDepth 20000 in
theorem gX7_leg_X7_endOf : GoodIn wsX7_leg (wsV RX7 69 RX7 yX7_endOf wsX7_endOf) := goodIn_app (goodIn_of _ (by decide +kernel)) ggX7_leg_X7_endOf
set_option maxRecDepth 20000 in
theorem ggX7_leg_X7_firstOf : GoodIn wsX7_leg wsX7_firstOf := goodIn_r _ [22, 15, 16, 17, 4, 18, 11, 23, 24, 25, 26, 27, 28, 29, 30, 31, 32, 33, 34, 35, 36] (by decide +kernel) (by decide +kernel)
set_option maxRecDepth 20000 in
theorem gX7_leg_X7_firstOf : GoodIn wsX7_leg (wsV RX7 76 RX7 yX7_firstOf wsX7_firstOf) := goodIn_app (goodIn_of _ (by decide +kernel)) ggX7_leg_X7_firstOf
theorem dX7_leg_0 : decode cX7_leg 0 = .ok (.aload_n 0, 1) := by decide +kernel
theorem dX7_leg_1 : decode cX7_leg 1 = .ok (.iload_n 1, 1) := by decide +kernel
theorem dX7_leg_2 : decode cX7_leg 2 = .ok (.invokevirtual 73, 3) := by decide +kernel
theorem dX7_leg_5 : decode cX7_leg 5 = .ok (.ifCond .ne 5, 3) := by decide +kernel
theorem dX7_leg_8 : decode cX7_leg 8 = .ok (.iconst (-1), 1) := by decide +kernel
theorem dX7_leg_9 : decode cX7_leg 9 = .ok (.ireturn, 1) := by decide +kernel
theorem dX7_leg_10 : decode cX7_leg 10 = .ok (.iload_n 2, 1) := by decide +kernel
theorem dX7_leg_11 : decode cX7_leg 11 = .ok (.ifCond .eq 11, 3) := by decide +kernel
theorem dX7_leg_14 : decode cX7_leg 14 = .ok (.aload_n 0, 1) := by decide +kernel
theorem dX7_leg_15 : decode cX7_leg 15 = .ok (.iload_n 1, 1) := by decide +kernel
theorem dX7_leg_16 : decode cX7_leg 16 = .ok (.invokevirtual 69, 3) := by decide +kernel
theorem dX7_leg_19 : decode cX7_leg 19 = .ok (.goto 8, 3) := by decide +kernel
theorem dX7_leg_22 : decode cX7_leg 22 = .ok (.aload_n 0, 1) := by decide +kernel
theorem dX7_leg_23 : decode cX7_leg 23 = .ok (.iload_n 1, 1) := by decide +kernel
theorem dX7_leg_24 : decode cX7_leg 24 = .ok (.invokevirtual 76, 3) := by decide +kernel
theorem dX7_leg_27 : decode cX7_leg 27 = .ok (.ireturn, 1) := by decide +kernel
theorem dX7_forceOf_0 : decode cX7_forceOf 0 = .ok (.aload_n 0, 1) := by decide +kernel
theorem dX7_forceOf_1 : decode cX7_forceOf 1 = .ok (.getfield 24, 3) := by decide +kernel
theorem dX7_forceOf_4 : decode cX7_forceOf 4 = .ok (.iconst 0, 1) := by decide +kernel
theorem dX7_forceOf_5 : decode cX7_forceOf 5 = .ok (.iaload, 1) := by decide +kernel
theorem dX7_forceOf_6 : decode cX7_forceOf 6 = .ok (.iload_n 3, 1) := by decide +kernel
theorem dX7_forceOf_7 : decode cX7_forceOf 7 = .ok (.iload_n 3, 1) := by decide +kernel
theorem dX7_forceOf_8 : decode cX7_forceOf 8 = .ok (.imul, 1) := by decide +kernel
theorem dX7_forceOf_9 : decode cX7_forceOf 9 = .ok (.iload_n 2, 1) := by decide +kernel
theorem dX7_forceOf_10 : decode cX7_forceOf 10 = .ok (.iload_n 2, 1) := by decide +kernel
theorem dX7_forceOf_11 : decode cX7_forceOf 11 = .ok (.imul, 1) := by decide +kernel
theorem dX7_forceOf_12 : decode cX7_forceOf 12 = .ok (.isub, 1) := by decide +kernel
theorem dX7_forceOf_13 : decode cX7_forceOf 13 = .ok (.imul, 1) := by decide +kernel
theorem dX7_forceOf_14 : decode cX7_forceOf 14 = .ok (.aload_n 0, 1) := by decide +kernel
theorem dX7_forceOf_15 : decode cX7_forceOf 15 = .ok (.getfield 24, 3) := by decide +kernel
theorem dX7_forceOf_18 : decode cX7_forceOf 18 = .ok (.iconst 0, 1) := by decide +kernel
theorem dX7_forceOf_19 : decode cX7_forceOf 19 = .ok (.iaload, 1) := by decide +kernel
theorem dX7_forceOf_20 : decode cX7_forceOf 20 = .ok (.aload_n 0, 1) := by decide +kernel
theorem dX7_forceOf_21 : decode cX7_forceOf 21 = .ok (.getfield 13, 3) := by decide +kernel
theorem dX7_forceOf_24 : decode cX7_forceOf 24 = .ok (.iload_n 1, 1) := by decide +kernel
theorem dX7_forceOf_25 : decode cX7_forceOf 25 = .ok (.iaload, 1) := by decide +kernel
theorem dX7_forceOf_26 : decode cX7_forceOf 26 = .ok (.imul, 1) := by decide +kernel
theorem dX7_forceOf_27 : decode cX7_forceOf 27 = .ok (.iadd, 1) := by decide +kernel
theorem dX7_forceOf_28 : decode cX7_forceOf 28 = .ok (.aload_n 0, 1) := by decide +kernel
theorem dX7_forceOf_29 : decode cX7_forceOf 29 = .ok (.getfield 24, 3) := by decide +kernel
theorem dX7_forceOf_32 : decode cX7_forceOf 32 = .ok (.iconst 1, 1) := by decide +kernel
theorem dX7_forceOf_33 : decode cX7_forceOf 33 = .ok (.iaload, 1) := by decide +kernel
theorem dX7_forceOf_34 : decode cX7_forceOf 34 = .ok (.iload_n 2, 1) := by decide +kernel
theorem dX7_forceOf_35 : decode cX7_forceOf 35 = .ok (.iload_n 3, 1) := by decide +kernel
theorem dX7_forceOf_36 : decode cX7_forceOf 36 = .ok (.iadd, 1) := by decide +kernel
theorem dX7_forceOf_37 : decode cX7_forceOf 37 = .ok (.imul, 1) := by decide +kernel
theorem dX7_forceOf_38 : decode cX7_forceOf 38 = .ok (.iadd, 1) := by decide +kernel
theorem dX7_forceOf_39 : decode cX7_forceOf 39 = .ok (.ireturn, 1) := by decide +kernel
set_option maxRecDepth 20000 in
theorem ggX7_faultOf_X7_forceOf : GoodIn wsX7_faultOf wsX7_forceOf := goodIn_r _ [7, 2, 8, 9, 10, 11, 12, 13, 14, 15, 16, 17, 18, 19, 20, 21, 22] (by decide +kernel) (by decide +kernel)
set_option maxRecDepth 20000 in
theorem gX7_faultOf_X7_forceOf : GoodIn wsX7_faultOf (wsV RX7 79 RX7 yX7_forceOf wsX7_forceOf) := goodIn_app (goodIn_of _ (by decide +kernel)) ggX7_faultOf_X7_forceOf
theorem dX7_faultOf_0 : decode cX7_faultOf 0 = .ok (.iload_n 2, 1) := by decide +kernel
theorem dX7_faultOf_1 : decode cX7_faultOf 1 = .ok (.aload_n 0, 1) := by decide +kernel
theorem dX7_faultOf_2 : decode cX7_faultOf 2 = .ok (.getfield 17, 3) := by decide +kernel
theorem dX7_faultOf_5 : decode cX7_faultOf 5 = .ok (.iload_n 1, 1) := by decide +kernel
theorem dX7_faultOf_6 : decode cX7_faultOf 6 = .ok (.iaload, 1) := by decide +kernel
theorem dX7_faultOf_7 : decode cX7_faultOf 7 = .ok (.if_icmp .gt 13, 3) := by decide +kernel
theorem dX7_faultOf_10 : decode cX7_faultOf 10 = .ok (.iload_n 3, 1) := by decide +kernel
theorem dX7_faultOf_11 : decode cX7_faultOf 11 = .ok (.aload_n 0, 1) := by decide +kernel
theorem dX7_faultOf_12 : decode cX7_faultOf 12 = .ok (.getfield 17, 3) := by decide +kernel
theorem dX7_faultOf_15 : decode cX7_faultOf 15 = .ok (.iload_n 1, 1) := by decide +kernel
theorem dX7_faultOf_16 : decode cX7_faultOf 16 = .ok (.iaload, 1) := by decide +kernel
theorem dX7_faultOf_17 : decode cX7_faultOf 17 = .ok (.if_icmp .le 5, 3) := by decide +kernel
theorem dX7_faultOf_20 : decode cX7_faultOf 20 = .ok (.iconst 1, 1) := by decide +kernel
theorem dX7_faultOf_21 : decode cX7_faultOf 21 = .ok (.ireturn, 1) := by decide +kernel
theorem dX7_faultOf_22 : decode cX7_faultOf 22 = .ok (.iload_n 2, 1) := by decide +kernel
theorem dX7_faultOf_23 : decode cX7_faultOf 23 = .ok (.ifCond .ne 9, 3) := by decide +kernel
theorem dX7_faultOf_26 : decode cX7_faultOf 26 = .ok (.iload_n 3, 1) := by decide +kernel
theorem dX7_faultOf_27 : decode cX7_faultOf 27 = .ok (.ifCond .ne 5, 3) := by decide +kernel
theorem dX7_faultOf_30 : decode cX7_faultOf 30 = .ok (.iconst 2, 1) := by decide +kernel
theorem dX7_faultOf_31 : decode cX7_faultOf 31 = .ok (.ireturn, 1) := by decide +kernel
theorem dX7_faultOf_32 : decode cX7_faultOf 32 = .ok (.iload_n 2, 1) := by decide +kernel
theorem dX7_faultOf_33 : decode cX7_faultOf 33 = .ok (.iload_n 3, 1) := by decide +kernel
theorem dX7_faultOf_34 : decode cX7_faultOf 34 = .ok (.isub, 1) := by decide +kernel
theorem dX7_faultOf_35 : decode cX7_faultOf 35 = .ok (.iconst 2, 1) := by decide +kernel
theorem dX7_faultOf_36 : decode cX7_faultOf 36 = .ok (.if_icmp .gt 10, 3) := by decide +kernel
theorem dX7_faultOf_39 : decode cX7_faultOf 39 = .ok (.iload_n 3, 1) := by decide +kernel
theorem dX7_faultOf_40 : decode cX7_faultOf 40 = .ok (.iload_n 2, 1) := by decide +kernel
theorem dX7_faultOf_41 : decode cX7_faultOf 41 = .ok (.isub, 1) := by decide +kernel
theorem dX7_faultOf_42 : decode cX7_faultOf 42 = .ok (.iconst 2, 1) := by decide +kernel
theorem dX7_faultOf_43 : decode cX7_faultOf 43 = .ok (.if_icmp .le 5, 3) := by decide +kernel
theorem dX7_faultOf_46 : decode cX7_faultOf 46 = .ok (.iconst 3, 1) := by decide +kernel
theorem dX7_faultOf_47 : decode cX7_faultOf 47 = .ok (.ireturn, 1) := by decide +kernel
theorem dX7_faultOf_48 : decode cX7_faultOf 48 = .ok (.aload_n 0, 1) := by decide +kernel
theorem dX7_faultOf_49 : decode cX7_faultOf 49 = .ok (.iload_n 1, 1) := by decide +kernel
theorem dX7_faultOf_50 : decode cX7_faultOf 50 = .ok (.iload_n 2, 1) := by decide +kernel
theorem dX7_faultOf_51 : decode cX7_faultOf 51 = .ok (.iload_n 3, 1) := by decide +kernel
theorem dX7_faultOf_52 : decode cX7_faultOf 52 = .ok (.invokevirtual 79, 3) := by decide +kernel
theorem dX7_faultOf_55 : decode cX7_faultOf 55 = .ok (.istore 4, 2) := by decide +kernel
theorem dX7_faultOf_57 : decode cX7_faultOf 57 = .ok (.iload 4, 2) := by decide +kernel
theorem dX7_faultOf_59 : decode cX7_faultOf 59 = .ok (.aload_n 0, 1) := by decide +kernel
theorem dX7_faultOf_60 : decode cX7_faultOf 60 = .ok (.getfield 24, 3) := by decide +kernel
theorem dX7_faultOf_63 : decode cX7_faultOf 63 = .ok (.iconst 2, 1) := by decide +kernel
theorem dX7_faultOf_64 : decode cX7_faultOf 64 = .ok (.iaload, 1) := by decide +kernel
theorem dX7_faultOf_65 : decode cX7_faultOf 65 = .ok (.if_icmp .le 7, 3) := by decide +kernel
theorem dX7_faultOf_68 : decode cX7_faultOf 68 = .ok (.iconst 4, 1) := by decide +kernel
theorem dX7_faultOf_69 : decode cX7_faultOf 69 = .ok (.goto 20, 3) := by decide +kernel
theorem dX7_faultOf_72 : decode cX7_faultOf 72 = .ok (.iload 4, 2) := by decide +kernel
theorem dX7_faultOf_74 : decode cX7_faultOf 74 = .ok (.aload_n 0, 1) := by decide +kernel
theorem dX7_faultOf_75 : decode cX7_faultOf 75 = .ok (.getfield 24, 3) := by decide +kernel
theorem dX7_faultOf_78 : decode cX7_faultOf 78 = .ok (.iconst 3, 1) := by decide +kernel
theorem dX7_faultOf_79 : decode cX7_faultOf 79 = .ok (.iaload, 1) := by decide +kernel
theorem dX7_faultOf_80 : decode cX7_faultOf 80 = .ok (.ineg, 1) := by decide +kernel
theorem dX7_faultOf_81 : decode cX7_faultOf 81 = .ok (.if_icmp .ge 7, 3) := by decide +kernel
theorem dX7_faultOf_84 : decode cX7_faultOf 84 = .ok (.iconst 5, 1) := by decide +kernel
theorem dX7_faultOf_85 : decode cX7_faultOf 85 = .ok (.goto 4, 3) := by decide +kernel
theorem dX7_faultOf_88 : decode cX7_faultOf 88 = .ok (.iconst 0, 1) := by decide +kernel
theorem dX7_faultOf_89 : decode cX7_faultOf 89 = .ok (.ireturn, 1) := by decide +kernel
set_option maxRecDepth 20000 in
theorem ggX7_powerOf_X7_forceOf : GoodIn wsX7_powerOf wsX7_forceOf := goodIn_r _ [6, 1, 7, 8, 9, 10, 11, 12, 13, 14, 15, 16, 17, 18, 19, 20, 21] (by decide +kernel) (by decide +kernel)
set_option maxRecDepth 20000 in
theorem gX7_powerOf_X7_forceOf : GoodIn wsX7_powerOf (wsV RX7 79 RX7 yX7_forceOf wsX7_forceOf) := goodIn_app (goodIn_of _ (by decide +kernel)) ggX7_powerOf_X7_forceOf
theorem dX7_powerOf_0 : decode cX7_powerOf 0 = .ok (.aload_n 0, 1) := by decide +kernel
theorem dX7_powerOf_1 : decode cX7_powerOf 1 = .ok (.iload_n 1, 1) := by decide +kernel
theorem dX7_powerOf_2 : decode cX7_powerOf 2 = .ok (.iload_n 2, 1) := by decide +kernel
theorem dX7_powerOf_3 : decode cX7_powerOf 3 = .ok (.iload_n 3, 1) := by decide +kernel
theorem dX7_powerOf_4 : decode cX7_powerOf 4 = .ok (.invokevirtual 79, 3) := by decide +kernel
theorem dX7_powerOf_7 : decode cX7_powerOf 7 = .ok (.istore 4, 2) := by decide +kernel
theorem dX7_powerOf_9 : decode cX7_powerOf 9 = .ok (.iload 4, 2) := by decide +kernel
theorem dX7_powerOf_11 : decode cX7_powerOf 11 = .ok (.ifCond .le 8, 3) := by decide +kernel
theorem dX7_powerOf_14 : decode cX7_powerOf 14 = .ok (.iload 4, 2) := by decide +kernel
theorem dX7_powerOf_16 : decode cX7_powerOf 16 = .ok (.goto 17, 3) := by decide +kernel
theorem dX7_powerOf_19 : decode cX7_powerOf 19 = .ok (.aload_n 0, 1) := by decide +kernel
theorem dX7_powerOf_20 : decode cX7_powerOf 20 = .ok (.getfield 24, 3) := by decide +kernel
theorem dX7_powerOf_23 : decode cX7_powerOf 23 = .ok (.iconst 4, 1) := by decide +kernel
theorem dX7_powerOf_24 : decode cX7_powerOf 24 = .ok (.iaload, 1) := by decide +kernel
theorem dX7_powerOf_25 : decode cX7_powerOf 25 = .ok (.iload 4, 2) := by decide +kernel
theorem dX7_powerOf_27 : decode cX7_powerOf 27 = .ok (.ineg, 1) := by decide +kernel
theorem dX7_powerOf_28 : decode cX7_powerOf 28 = .ok (.imul, 1) := by decide +kernel
theorem dX7_powerOf_29 : decode cX7_powerOf 29 = .ok (.bipush 10, 2) := by decide +kernel
theorem dX7_powerOf_31 : decode cX7_powerOf 31 = .ok (.idiv, 1) := by decide +kernel
theorem dX7_powerOf_32 : decode cX7_powerOf 32 = .ok (.ineg, 1) := by decide +kernel
theorem dX7_powerOf_33 : decode cX7_powerOf 33 = .ok (.ireturn, 1) := by decide +kernel
set_option maxRecDepth 20000 in
theorem ggX7_force_X7_isCell : GoodIn wsX7_force wsX7_isCell := goodIn_r _ [5, 6, 7, 8, 4, 9, 19, 20, 21, 22, 23, 24, 25, 26, 27, 28, 29, 30, 31, 32] (by decide +kernel) (by decide +kernel)
set_option maxRecDepth 20000 in
theorem gX7_force_X7_isCell : GoodIn wsX7_force (wsV RX7 61 RX7 yX7_isCell wsX7_isCell) := goodIn_app (goodIn_of _ (by decide +kernel)) ggX7_force_X7_isCell
set_option maxRecDepth 20000 in
theorem ggX7_force_X7_isSpeed : GoodIn wsX7_force wsX7_isSpeed := goodIn_r _ [12, 7, 8, 4, 9] (by decide +kernel) (by decide +kernel)
set_option maxRecDepth 20000 in
theorem gX7_force_X7_isSpeed : GoodIn wsX7_force (va_wsS RX7 83 yX7_isSpeed wsX7_isSpeed) := goodIn_app (goodIn_of _ (by decide +kernel)) ggX7_force_X7_isSpeed
set_option maxRecDepth 20000 in
theorem ggX7_force_X7_forceOf : GoodIn wsX7_force wsX7_forceOf := goodIn_r _ [16, 17, 18, 19, 20, 21, 22, 23, 24, 25, 26, 27, 28, 29, 30, 31, 32] (by decide +kernel) (by decide +kernel)
set_option maxRecDepth 20000 in
theorem gX7_force_X7_forceOf : GoodIn wsX7_force (wsV RX7 79 RX7 yX7_forceOf wsX7_forceOf) := goodIn_app (goodIn_of _ (by decide +kernel)) ggX7_force_X7_forceOf
theorem dX7_force_0 : decode cX7_force 0 = .ok (.aload_n 0, 1) := by decide +kernel
theorem dX7_force_1 : decode cX7_force 1 = .ok (.iload_n 1, 1) := by decide +kernel
theorem dX7_force_2 : decode cX7_force 2 = .ok (.invokevirtual 61, 3) := by decide +kernel
theorem dX7_force_5 : decode cX7_force 5 = .ok (.ifCond .ne 5, 3) := by decide +kernel
theorem dX7_force_8 : decode cX7_force 8 = .ok (.iconst (-1), 1) := by decide +kernel
theorem dX7_force_9 : decode cX7_force 9 = .ok (.ireturn, 1) := by decide +kernel
theorem dX7_force_10 : decode cX7_force 10 = .ok (.iload_n 2, 1) := by decide +kernel
theorem dX7_force_11 : decode cX7_force 11 = .ok (.invokestatic 83, 3) := by decide +kernel
theorem dX7_force_14 : decode cX7_force 14 = .ok (.ifCond .eq 20, 3) := by decide +kernel
theorem dX7_force_17 : decode cX7_force 17 = .ok (.iload_n 3, 1) := by decide +kernel
theorem dX7_force_18 : decode cX7_force 18 = .ok (.invokestatic 83, 3) := by decide +kernel
theorem dX7_force_21 : decode cX7_force 21 = .ok (.ifCond .eq 13, 3) := by decide +kernel
theorem dX7_force_24 : decode cX7_force 24 = .ok (.aload_n 0, 1) := by decide +kernel
theorem dX7_force_25 : decode cX7_force 25 = .ok (.iload_n 1, 1) := by decide +kernel
theorem dX7_force_26 : decode cX7_force 26 = .ok (.iload_n 2, 1) := by decide +kernel
theorem dX7_force_27 : decode cX7_force 27 = .ok (.iload_n 3, 1) := by decide +kernel
theorem dX7_force_28 : decode cX7_force 28 = .ok (.invokevirtual 79, 3) := by decide +kernel
theorem dX7_force_31 : decode cX7_force 31 = .ok (.goto 5, 3) := by decide +kernel
theorem dX7_force_34 : decode cX7_force 34 = .ok (.bipush (-2), 2) := by decide +kernel
theorem dX7_force_36 : decode cX7_force 36 = .ok (.ireturn, 1) := by decide +kernel
set_option maxRecDepth 20000 in
theorem ggX7_fault_X7_isCell : GoodIn wsX7_fault wsX7_isCell := goodIn_r _ [5, 6, 7, 8, 4, 9, 24, 25, 26, 27, 28, 29, 30, 31, 32, 33, 34, 35, 36, 37] (by decide +kernel) (by decide +kernel)
set_option maxRecDepth 20000 in
theorem gX7_fault_X7_isCell : GoodIn wsX7_fault (wsV RX7 61 RX7 yX7_isCell wsX7_isCell) := goodIn_app (goodIn_of _ (by decide +kernel)) ggX7_fault_X7_isCell
set_option maxRecDepth 20000 in
theorem ggX7_fault_X7_isSpeed : GoodIn wsX7_fault wsX7_isSpeed := goodIn_r _ [12, 7, 8, 4, 9] (by decide +kernel) (by decide +kernel)
set_option maxRecDepth 20000 in
theorem gX7_fault_X7_isSpeed : GoodIn wsX7_fault (va_wsS RX7 83 yX7_isSpeed wsX7_isSpeed) := goodIn_app (goodIn_of _ (by decide +kernel)) ggX7_fault_X7_isSpeed
set_option maxRecDepth 20000 in
theorem ggX7_fault_X7_faultOf : GoodIn wsX7_fault wsX7_faultOf := goodIn_r _ [16, 17, 18, 19, 20, 21, 4, 22, 23, 24, 25, 26, 27, 28, 29, 30, 31, 32, 33, 34, 35, 36, 37] (by decide +kernel) (by decide +kernel)
set_option maxRecDepth 20000 in
theorem gX7_fault_X7_faultOf : GoodIn wsX7_fault (wsV RX7 86 RX7 yX7_faultOf wsX7_faultOf) := goodIn_app (goodIn_of _ (by decide +kernel)) ggX7_fault_X7_faultOf
theorem dX7_fault_0 : decode cX7_fault 0 = .ok (.aload_n 0, 1) := by decide +kernel
theorem dX7_fault_1 : decode cX7_fault 1 = .ok (.iload_n 1, 1) := by decide +kernel
theorem dX7_fault_2 : decode cX7_fault 2 = .ok (.invokevirtual 61, 3) := by decide +kernel
theorem dX7_fault_5 : decode cX7_fault 5 = .ok (.ifCond .ne 5, 3) := by decide +kernel
theorem dX7_fault_8 : decode cX7_fault 8 = .ok (.iconst (-1), 1) := by decide +kernel
theorem dX7_fault_9 : decode cX7_fault 9 = .ok (.ireturn, 1) := by decide +kernel
theorem dX7_fault_10 : decode cX7_fault 10 = .ok (.iload_n 2, 1) := by decide +kernel
theorem dX7_fault_11 : decode cX7_fault 11 = .ok (.invokestatic 83, 3) := by decide +kernel
theorem dX7_fault_14 : decode cX7_fault 14 = .ok (.ifCond .eq 20, 3) := by decide +kernel
theorem dX7_fault_17 : decode cX7_fault 17 = .ok (.iload_n 3, 1) := by decide +kernel
theorem dX7_fault_18 : decode cX7_fault 18 = .ok (.invokestatic 83, 3) := by decide +kernel
theorem dX7_fault_21 : decode cX7_fault 21 = .ok (.ifCond .eq 13, 3) := by decide +kernel
theorem dX7_fault_24 : decode cX7_fault 24 = .ok (.aload_n 0, 1) := by decide +kernel
theorem dX7_fault_25 : decode cX7_fault 25 = .ok (.iload_n 1, 1) := by decide +kernel
theorem dX7_fault_26 : decode cX7_fault 26 = .ok (.iload_n 2, 1) := by decide +kernel
theorem dX7_fault_27 : decode cX7_fault 27 = .ok (.iload_n 3, 1) := by decide +kernel
theorem dX7_fault_28 : decode cX7_fault 28 = .ok (.invokevirtual 86, 3) := by decide +kernel
theorem dX7_fault_31 : decode cX7_fault 31 = .ok (.goto 5, 3) := by decide +kernel
theorem dX7_fault_34 : decode cX7_fault 34 = .ok (.bipush (-2), 2) := by decide +kernel
theorem dX7_fault_36 : decode cX7_fault 36 = .ok (.ireturn, 1) := by decide +kernel
set_option maxRecDepth 20000 in
theorem ggX7_time_X7_fault : GoodIn wsX7_time wsX7_fault := goodIn_r _ [6, 7, 8, 9, 5, 10, 11, 12, 13, 14, 15, 16, 17, 18, 19, 20, 21, 22, 23, 24, 25, 26, 27, 28, 29, 30, 31, 32, 33, 34, 35, 36, 37, 38, 39, 40, 41, 42] (by decide +kernel) (by decide +kernel)
set_option maxRecDepth 20000 in
theorem gX7_time_X7_fault : GoodIn wsX7_time (wsV RX7 89 RX7 yX7_fault wsX7_fault) := goodIn_app (goodIn_of _ (by decide +kernel)) ggX7_time_X7_fault
theorem dX7_time_0 : decode cX7_time 0 = .ok (.aload_n 0, 1) := by decide +kernel
theorem dX7_time_1 : decode cX7_time 1 = .ok (.iload_n 1, 1) := by decide +kernel
theorem dX7_time_2 : decode cX7_time 2 = .ok (.iload_n 2, 1) := by decide +kernel
theorem dX7_time_3 : decode cX7_time 3 = .ok (.iload_n 3, 1) := by decide +kernel
theorem dX7_time_4 : decode cX7_time 4 = .ok (.invokevirtual 89, 3) := by decide +kernel
theorem dX7_time_7 : decode cX7_time 7 = .ok (.istore 4, 2) := by decide +kernel
theorem dX7_time_9 : decode cX7_time 9 = .ok (.iload 4, 2) := by decide +kernel
theorem dX7_time_11 : decode cX7_time 11 = .ok (.ifCond .ge 8, 3) := by decide +kernel
theorem dX7_time_14 : decode cX7_time 14 = .ok (.iload 4, 2) := by decide +kernel
theorem dX7_time_16 : decode cX7_time 16 = .ok (.goto 19, 3) := by decide +kernel
theorem dX7_time_19 : decode cX7_time 19 = .ok (.iload 4, 2) := by decide +kernel
theorem dX7_time_21 : decode cX7_time 21 = .ok (.ifCond .le 8, 3) := by decide +kernel
theorem dX7_time_24 : decode cX7_time 24 = .ok (.ldc 92, 2) := by decide +kernel
theorem dX7_time_26 : decode cX7_time 26 = .ok (.goto 9, 3) := by decide +kernel
theorem dX7_time_29 : decode cX7_time 29 = .ok (.bipush 60, 2) := by decide +kernel
theorem dX7_time_31 : decode cX7_time 31 = .ok (.iload_n 2, 1) := by decide +kernel
theorem dX7_time_32 : decode cX7_time 32 = .ok (.iload_n 3, 1) := by decide +kernel
theorem dX7_time_33 : decode cX7_time 33 = .ok (.iadd, 1) := by decide +kernel
theorem dX7_time_34 : decode cX7_time 34 = .ok (.idiv, 1) := by decide +kernel
theorem dX7_time_35 : decode cX7_time 35 = .ok (.ireturn, 1) := by decide +kernel
set_option maxRecDepth 20000 in
theorem ggX7_power_X7_fault : GoodIn wsX7_power wsX7_fault := goodIn_r _ [6, 7, 8, 9, 5, 10, 11, 12, 13, 14, 15, 16, 17, 18, 19, 20, 21, 22, 23, 24, 25, 26, 27, 28, 33, 34, 35, 36, 37, 38, 39, 40, 41, 42, 43, 44, 45, 46] (by decide +kernel) (by decide +kernel)
set_option maxRecDepth 20000 in
theorem gX7_power_X7_fault : GoodIn wsX7_power (wsV RX7 89 RX7 yX7_fault wsX7_fault) := goodIn_app (goodIn_of _ (by decide +kernel)) ggX7_power_X7_fault
set_option maxRecDepth 20000 in
theorem ggX7_power_X7_powerOf : GoodIn wsX7_power wsX7_powerOf := goodIn_r _ [32, 23, 24, 25, 26, 5, 27, 28, 33, 34, 35, 36, 37, 38, 39, 40, 41, 42, 43, 44, 45, 46] (by decide +kernel) (by decide +kernel)
set_option maxRecDepth 20000 in
theorem gX7_power_X7_powerOf : GoodIn wsX7_power (wsV RX7 93 RX7 yX7_powerOf wsX7_powerOf) := goodIn_app (goodIn_of _ (by decide +kernel)) ggX7_power_X7_powerOf
theorem dX7_power_0 : decode cX7_power 0 = .ok (.aload_n 0, 1) := by decide +kernel
theorem dX7_power_1 : decode cX7_power 1 = .ok (.iload_n 1, 1) := by decide +kernel
theorem dX7_power_2 : decode cX7_power 2 = .ok (.iload_n 2, 1) := by decide +kernel
theorem dX7_power_3 : decode cX7_power 3 = .ok (.iload_n 3, 1) := by decide +kernel
theorem dX7_power_4 : decode cX7_power 4 = .ok (.invokevirtual 89, 3) := by decide +kernel
theorem dX7_power_7 : decode cX7_power 7 = .ok (.istore 4, 2) := by decide +kernel
theorem dX7_power_9 : decode cX7_power 9 = .ok (.iload 4, 2) := by decide +kernel
theorem dX7_power_11 : decode cX7_power 11 = .ok (.ifCond .ge 8, 3) := by decide +kernel
theorem dX7_power_14 : decode cX7_power 14 = .ok (.iload 4, 2) := by decide +kernel
theorem dX7_power_16 : decode cX7_power 16 = .ok (.goto 20, 3) := by decide +kernel
theorem dX7_power_19 : decode cX7_power 19 = .ok (.iload 4, 2) := by decide +kernel
theorem dX7_power_21 : decode cX7_power 21 = .ok (.ifCond .le 8, 3) := by decide +kernel
theorem dX7_power_24 : decode cX7_power 24 = .ok (.ldc 92, 2) := by decide +kernel
theorem dX7_power_26 : decode cX7_power 26 = .ok (.goto 10, 3) := by decide +kernel
theorem dX7_power_29 : decode cX7_power 29 = .ok (.aload_n 0, 1) := by decide +kernel
theorem dX7_power_30 : decode cX7_power 30 = .ok (.iload_n 1, 1) := by decide +kernel
theorem dX7_power_31 : decode cX7_power 31 = .ok (.iload_n 2, 1) := by decide +kernel
theorem dX7_power_32 : decode cX7_power 32 = .ok (.iload_n 3, 1) := by decide +kernel
theorem dX7_power_33 : decode cX7_power 33 = .ok (.invokevirtual 93, 3) := by decide +kernel
theorem dX7_power_36 : decode cX7_power 36 = .ok (.ireturn, 1) := by decide +kernel
theorem dX7_place_0 : decode cX7_place 0 = .ok (.sipush 1001, 3) := by decide +kernel
theorem dX7_place_3 : decode cX7_place 3 = .ok (.bipush 7, 2) := by decide +kernel
theorem dX7_place_5 : decode cX7_place 5 = .ok (.iload_n 1, 1) := by decide +kernel
theorem dX7_place_6 : decode cX7_place 6 = .ok (.imul, 1) := by decide +kernel
theorem dX7_place_7 : decode cX7_place 7 = .ok (.iload_n 2, 1) := by decide +kernel
theorem dX7_place_8 : decode cX7_place 8 = .ok (.iadd, 1) := by decide +kernel
theorem dX7_place_9 : decode cX7_place 9 = .ok (.imul, 1) := by decide +kernel
theorem dX7_place_10 : decode cX7_place 10 = .ok (.ireturn, 1) := by decide +kernel
set_option maxRecDepth 20000 in
theorem ggX7_work_X7_firstOf : GoodIn wsX7_work wsX7_firstOf := goodIn_r _ [7, 8, 9, 10, 6, 11, 12, 36, 37, 38, 39, 40, 41, 42, 43, 44, 45, 46, 47, 48, 49] (by decide +kernel) (by decide +kernel)
set_option maxRecDepth 20000 in
theorem gX7_work_X7_firstOf : GoodIn wsX7_work (wsV RX7 76 RX7 yX7_firstOf wsX7_firstOf) := goodIn_app (goodIn_of _ (by decide +kernel)) ggX7_work_X7_firstOf
set_option maxRecDepth 20000 in
theorem ggX7_work_X7_endOf : GoodIn wsX7_work wsX7_endOf := goodIn_r _ [11, 12, 36, 37, 38, 39, 40, 41, 42, 43, 44, 45, 46, 47, 48, 49] (by decide +kernel) (by decide +kernel)
set_option maxRecDepth 20000 in
theorem gX7_work_X7_endOf : GoodIn wsX7_work (wsV RX7 69 RX7 yX7_endOf wsX7_endOf) := goodIn_app (goodIn_of _ (by decide +kernel)) ggX7_work_X7_endOf
set_option maxRecDepth 20000 in
theorem ggX7_work_X7_place : GoodIn wsX7_work wsX7_place := goodIn_r _ [16] (by decide +kernel) (by decide +kernel)
set_option maxRecDepth 20000 in
theorem gX7_work_X7_place : GoodIn wsX7_work (wsV RX7 96 RX7 yX7_place wsX7_place) := goodIn_app (goodIn_of _ (by decide +kernel)) ggX7_work_X7_place
set_option maxRecDepth 20000 in
theorem ggX7_work_X7_faultOf : GoodIn wsX7_work wsX7_faultOf := goodIn_r _ [20, 21, 22, 23, 24, 25, 6, 26, 27, 36, 37, 38, 39, 40, 41, 42, 43, 44, 45, 46, 47, 48, 49] (by decide +kernel) (by decide +kernel)
set_option maxRecDepth 20000 in
theorem gX7_work_X7_faultOf : GoodIn wsX7_work (wsV RX7 86 RX7 yX7_faultOf wsX7_faultOf) := goodIn_app (goodIn_of _ (by decide +kernel)) ggX7_work_X7_faultOf
set_option maxRecDepth 20000 in
theorem ggX7_work_X7_carry : GoodIn wsX7_work wsX7_carry := goodIn_r _ [31, 1, 2, 32, 33, 34, 6, 35, 22, 23, 24, 25, 26, 27, 13, 14, 15, 16, 36, 37, 38, 39, 40, 41, 42, 43, 44, 45, 46, 47, 48, 49] (by decide +kernel) (by decide +kernel)
set_option maxRecDepth 20000 in
theorem gX7_work_X7_carry : GoodIn wsX7_work (wsV RX7 101 RX7 yX7_carry wsX7_carry) := goodIn_app (goodIn_of _ (by decide +kernel)) ggX7_work_X7_carry
theorem dX7_work_0 : decode cX7_work 0 = .ok (.aload_n 0, 1) := by decide +kernel
theorem dX7_work_1 : decode cX7_work 1 = .ok (.iload_n 1, 1) := by decide +kernel
theorem dX7_work_2 : decode cX7_work 2 = .ok (.invokevirtual 76, 3) := by decide +kernel
theorem dX7_work_5 : decode cX7_work 5 = .ok (.istore_n 2, 1) := by decide +kernel
theorem dX7_work_6 : decode cX7_work 6 = .ok (.aload_n 0, 1) := by decide +kernel
theorem dX7_work_7 : decode cX7_work 7 = .ok (.iload_n 1, 1) := by decide +kernel
theorem dX7_work_8 : decode cX7_work 8 = .ok (.invokevirtual 69, 3) := by decide +kernel
theorem dX7_work_11 : decode cX7_work 11 = .ok (.istore_n 3, 1) := by decide +kernel
theorem dX7_work_12 : decode cX7_work 12 = .ok (.iload_n 2, 1) := by decide +kernel
theorem dX7_work_13 : decode cX7_work 13 = .ok (.istore 4, 2) := by decide +kernel
theorem dX7_work_15 : decode cX7_work 15 = .ok (.iload 4, 2) := by decide +kernel
theorem dX7_work_17 : decode cX7_work 17 = .ok (.iload_n 3, 1) := by decide +kernel
theorem dX7_work_18 : decode cX7_work 18 = .ok (.if_icmp .gt 47, 3) := by decide +kernel
theorem dX7_work_21 : decode cX7_work 21 = .ok (.aload_n 0, 1) := by decide +kernel
theorem dX7_work_22 : decode cX7_work 22 = .ok (.iload 4, 2) := by decide +kernel
theorem dX7_work_24 : decode cX7_work 24 = .ok (.iconst 0, 1) := by decide +kernel
theorem dX7_work_25 : decode cX7_work 25 = .ok (.invokevirtual 96, 3) := by decide +kernel
theorem dX7_work_28 : decode cX7_work 28 = .ok (.istore 5, 2) := by decide +kernel
theorem dX7_work_30 : decode cX7_work 30 = .ok (.iload 5, 2) := by decide +kernel
theorem dX7_work_32 : decode cX7_work 32 = .ok (.aload_n 0, 1) := by decide +kernel
theorem dX7_work_33 : decode cX7_work 33 = .ok (.iload 4, 2) := by decide +kernel
theorem dX7_work_35 : decode cX7_work 35 = .ok (.iconst 1, 1) := by decide +kernel
theorem dX7_work_36 : decode cX7_work 36 = .ok (.iadd, 1) := by decide +kernel
theorem dX7_work_37 : decode cX7_work 37 = .ok (.iconst 0, 1) := by decide +kernel
theorem dX7_work_38 : decode cX7_work 38 = .ok (.invokevirtual 96, 3) := by decide +kernel
theorem dX7_work_41 : decode cX7_work 41 = .ok (.if_icmp .ge 18, 3) := by decide +kernel
theorem dX7_work_44 : decode cX7_work 44 = .ok (.aload_n 0, 1) := by decide +kernel
theorem dX7_work_45 : decode cX7_work 45 = .ok (.getfield 31, 3) := by decide +kernel
theorem dX7_work_48 : decode cX7_work 48 = .ok (.iload 5, 2) := by decide +kernel
theorem dX7_work_50 : decode cX7_work 50 = .ok (.ldc 100, 2) := by decide +kernel
theorem dX7_work_52 : decode cX7_work 52 = .ok (.iastore, 1) := by decide +kernel
theorem dX7_work_53 : decode cX7_work 53 = .ok (.iinc 5 1, 3) := by decide +kernel
theorem dX7_work_56 : decode cX7_work 56 = .ok (.goto (-26), 3) := by decide +kernel
theorem dX7_work_59 : decode cX7_work 59 = .ok (.iinc 4 1, 3) := by decide +kernel
theorem dX7_work_62 : decode cX7_work 62 = .ok (.goto (-47), 3) := by decide +kernel
theorem dX7_work_65 : decode cX7_work 65 = .ok (.aload_n 0, 1) := by decide +kernel
theorem dX7_work_66 : decode cX7_work 66 = .ok (.getfield 31, 3) := by decide +kernel
theorem dX7_work_69 : decode cX7_work 69 = .ok (.aload_n 0, 1) := by decide +kernel
theorem dX7_work_70 : decode cX7_work 70 = .ok (.iload_n 3, 1) := by decide +kernel
theorem dX7_work_71 : decode cX7_work 71 = .ok (.iconst 0, 1) := by decide +kernel
theorem dX7_work_72 : decode cX7_work 72 = .ok (.invokevirtual 96, 3) := by decide +kernel
theorem dX7_work_75 : decode cX7_work 75 = .ok (.iconst 0, 1) := by decide +kernel
theorem dX7_work_76 : decode cX7_work 76 = .ok (.iastore, 1) := by decide +kernel
theorem dX7_work_77 : decode cX7_work 77 = .ok (.iload_n 3, 1) := by decide +kernel
theorem dX7_work_78 : decode cX7_work 78 = .ok (.iconst 1, 1) := by decide +kernel
theorem dX7_work_79 : decode cX7_work 79 = .ok (.isub, 1) := by decide +kernel
theorem dX7_work_80 : decode cX7_work 80 = .ok (.istore 4, 2) := by decide +kernel
theorem dX7_work_82 : decode cX7_work 82 = .ok (.iload 4, 2) := by decide +kernel
theorem dX7_work_84 : decode cX7_work 84 = .ok (.iload_n 2, 1) := by decide +kernel
theorem dX7_work_85 : decode cX7_work 85 = .ok (.if_icmp .lt 108, 3) := by decide +kernel
theorem dX7_work_88 : decode cX7_work 88 = .ok (.iload 4, 2) := by decide +kernel
theorem dX7_work_90 : decode cX7_work 90 = .ok (.iload_n 2, 1) := by decide +kernel
theorem dX7_work_91 : decode cX7_work 91 = .ok (.if_icmp .ne 7, 3) := by decide +kernel
theorem dX7_work_94 : decode cX7_work 94 = .ok (.iconst 0, 1) := by decide +kernel
theorem dX7_work_95 : decode cX7_work 95 = .ok (.goto 4, 3) := by decide +kernel
theorem dX7_work_98 : decode cX7_work 98 = .ok (.iconst 1, 1) := by decide +kernel
theorem dX7_work_99 : decode cX7_work 99 = .ok (.istore 5, 2) := by decide +kernel
theorem dX7_work_101 : decode cX7_work 101 = .ok (.iload 5, 2) := by decide +kernel
theorem dX7_work_103 : decode cX7_work 103 = .ok (.iload 4, 2) := by decide +kernel
theorem dX7_work_105 : decode cX7_work 105 = .ok (.iload_n 2, 1) := by decide +kernel
theorem dX7_work_106 : decode cX7_work 106 = .ok (.if_icmp .ne 7, 3) := by decide +kernel
theorem dX7_work_109 : decode cX7_work 109 = .ok (.iconst 0, 1) := by decide +kernel
theorem dX7_work_110 : decode cX7_work 110 = .ok (.goto 5, 3) := by decide +kernel
theorem dX7_work_113 : decode cX7_work 113 = .ok (.bipush 6, 2) := by decide +kernel
theorem dX7_work_115 : decode cX7_work 115 = .ok (.if_icmp .gt 72, 3) := by decide +kernel
theorem dX7_work_118 : decode cX7_work 118 = .ok (.iload 4, 2) := by decide +kernel
theorem dX7_work_120 : decode cX7_work 120 = .ok (.iconst 1, 1) := by decide +kernel
theorem dX7_work_121 : decode cX7_work 121 = .ok (.iadd, 1) := by decide +kernel
theorem dX7_work_122 : decode cX7_work 122 = .ok (.iload_n 3, 1) := by decide +kernel
theorem dX7_work_123 : decode cX7_work 123 = .ok (.if_icmp .ne 7, 3) := by decide +kernel
theorem dX7_work_126 : decode cX7_work 126 = .ok (.iconst 0, 1) := by decide +kernel
theorem dX7_work_127 : decode cX7_work 127 = .ok (.goto 4, 3) := by decide +kernel
theorem dX7_work_130 : decode cX7_work 130 = .ok (.iconst 1, 1) := by decide +kernel
theorem dX7_work_131 : decode cX7_work 131 = .ok (.istore 6, 2) := by decide +kernel
theorem dX7_work_133 : decode cX7_work 133 = .ok (.iload 6, 2) := by decide +kernel
theorem dX7_work_135 : decode cX7_work 135 = .ok (.iload 4, 2) := by decide +kernel
theorem dX7_work_137 : decode cX7_work 137 = .ok (.iconst 1, 1) := by decide +kernel
theorem dX7_work_138 : decode cX7_work 138 = .ok (.iadd, 1) := by decide +kernel
theorem dX7_work_139 : decode cX7_work 139 = .ok (.iload_n 3, 1) := by decide +kernel
theorem dX7_work_140 : decode cX7_work 140 = .ok (.if_icmp .ne 7, 3) := by decide +kernel
theorem dX7_work_143 : decode cX7_work 143 = .ok (.iconst 0, 1) := by decide +kernel
theorem dX7_work_144 : decode cX7_work 144 = .ok (.goto 5, 3) := by decide +kernel
theorem dX7_work_147 : decode cX7_work 147 = .ok (.bipush 6, 2) := by decide +kernel
theorem dX7_work_149 : decode cX7_work 149 = .ok (.if_icmp .gt 32, 3) := by decide +kernel
theorem dX7_work_152 : decode cX7_work 152 = .ok (.aload_n 0, 1) := by decide +kernel
theorem dX7_work_153 : decode cX7_work 153 = .ok (.iload 4, 2) := by decide +kernel
theorem dX7_work_155 : decode cX7_work 155 = .ok (.iload 5, 2) := by decide +kernel
theorem dX7_work_157 : decode cX7_work 157 = .ok (.iload 6, 2) := by decide +kernel
theorem dX7_work_159 : decode cX7_work 159 = .ok (.invokevirtual 86, 3) := by decide +kernel
theorem dX7_work_162 : decode cX7_work 162 = .ok (.ifCond .ne 13, 3) := by decide +kernel
theorem dX7_work_165 : decode cX7_work 165 = .ok (.aload_n 0, 1) := by decide +kernel
theorem dX7_work_166 : decode cX7_work 166 = .ok (.iload 4, 2) := by decide +kernel
theorem dX7_work_168 : decode cX7_work 168 = .ok (.iload 5, 2) := by decide +kernel
theorem dX7_work_170 : decode cX7_work 170 = .ok (.iload 6, 2) := by decide +kernel
theorem dX7_work_172 : decode cX7_work 172 = .ok (.invokevirtual 101, 3) := by decide +kernel
theorem dX7_work_175 : decode cX7_work 175 = .ok (.iinc 6 1, 3) := by decide +kernel
theorem dX7_work_178 : decode cX7_work 178 = .ok (.goto (-45), 3) := by decide +kernel
theorem dX7_work_181 : decode cX7_work 181 = .ok (.iinc 5 1, 3) := by decide +kernel
theorem dX7_work_184 : decode cX7_work 184 = .ok (.goto (-83), 3) := by decide +kernel
theorem dX7_work_187 : decode cX7_work 187 = .ok (.iinc 4 (-1), 3) := by decide +kernel
theorem dX7_work_190 : decode cX7_work 190 = .ok (.goto (-108), 3) := by decide +kernel
theorem dX7_work_193 : decode cX7_work 193 = .ok (.return_, 1) := by decide +kernel
set_option maxRecDepth 20000 in
theorem ggX7_carry_X7_powerOf : GoodIn wsX7_carry wsX7_powerOf := goodIn_r _ [7, 8, 9, 10, 11, 6, 12, 13, 18, 19, 20, 21, 22, 23, 24, 25, 26, 27, 28, 29, 30, 31] (by decide +kernel) (by decide +kernel)
set_option maxRecDepth 20000 in
theorem gX7_carry_X7_powerOf : GoodIn wsX7_carry (wsV RX7 93 RX7 yX7_powerOf wsX7_powerOf) := goodIn_app (goodIn_of _ (by decide +kernel)) ggX7_carry_X7_powerOf
set_option maxRecDepth 20000 in
theorem ggX7_carry_X7_place : GoodIn wsX7_carry wsX7_place := goodIn_r _ [17] (by decide +kernel) (by decide +kernel)
set_option maxRecDepth 20000 in
theorem gX7_carry_X7_place : GoodIn wsX7_carry (wsV RX7 96 RX7 yX7_place wsX7_place) := goodIn_app (goodIn_of _ (by decide +kernel)) ggX7_carry_X7_place
theorem dX7_carry_0 : decode cX7_carry 0 = .ok (.bipush 60, 2) := by decide +kernel
theorem dX7_carry_2 : decode cX7_carry 2 = .ok (.iload_n 2, 1) := by decide +kernel
theorem dX7_carry_3 : decode cX7_carry 3 = .ok (.iload_n 3, 1) := by decide +kernel
theorem dX7_carry_4 : decode cX7_carry 4 = .ok (.iadd, 1) := by decide +kernel
theorem dX7_carry_5 : decode cX7_carry 5 = .ok (.idiv, 1) := by decide +kernel
theorem dX7_carry_6 : decode cX7_carry 6 = .ok (.istore 4, 2) := by decide +kernel
theorem dX7_carry_8 : decode cX7_carry 8 = .ok (.aload_n 0, 1) := by decide +kernel
theorem dX7_carry_9 : decode cX7_carry 9 = .ok (.iload_n 1, 1) := by decide +kernel
theorem dX7_carry_10 : decode cX7_carry 10 = .ok (.iload_n 2, 1) := by decide +kernel
theorem dX7_carry_11 : decode cX7_carry 11 = .ok (.iload_n 3, 1) := by decide +kernel
theorem dX7_carry_12 : decode cX7_carry 12 = .ok (.invokevirtual 93, 3) := by decide +kernel
theorem dX7_carry_15 : decode cX7_carry 15 = .ok (.istore 5, 2) := by decide +kernel
theorem dX7_carry_17 : decode cX7_carry 17 = .ok (.aload_n 0, 1) := by decide +kernel
theorem dX7_carry_18 : decode cX7_carry 18 = .ok (.iload_n 1, 1) := by decide +kernel
theorem dX7_carry_19 : decode cX7_carry 19 = .ok (.iload_n 2, 1) := by decide +kernel
theorem dX7_carry_20 : decode cX7_carry 20 = .ok (.invokevirtual 96, 3) := by decide +kernel
theorem dX7_carry_23 : decode cX7_carry 23 = .ok (.istore 6, 2) := by decide +kernel
theorem dX7_carry_25 : decode cX7_carry 25 = .ok (.aload_n 0, 1) := by decide +kernel
theorem dX7_carry_26 : decode cX7_carry 26 = .ok (.iload_n 1, 1) := by decide +kernel
theorem dX7_carry_27 : decode cX7_carry 27 = .ok (.iconst 1, 1) := by decide +kernel
theorem dX7_carry_28 : decode cX7_carry 28 = .ok (.iadd, 1) := by decide +kernel
theorem dX7_carry_29 : decode cX7_carry 29 = .ok (.iload_n 3, 1) := by decide +kernel
theorem dX7_carry_30 : decode cX7_carry 30 = .ok (.invokevirtual 96, 3) := by decide +kernel
theorem dX7_carry_33 : decode cX7_carry 33 = .ok (.istore 7, 2) := by decide +kernel
theorem dX7_carry_35 : decode cX7_carry 35 = .ok (.iload 4, 2) := by decide +kernel
theorem dX7_carry_37 : decode cX7_carry 37 = .ok (.istore 8, 2) := by decide +kernel
theorem dX7_carry_39 : decode cX7_carry 39 = .ok (.iload 8, 2) := by decide +kernel
theorem dX7_carry_41 : decode cX7_carry 41 = .ok (.sipush 1001, 3) := by decide +kernel
theorem dX7_carry_44 : decode cX7_carry 44 = .ok (.if_icmp .ge 64, 3) := by decide +kernel
theorem dX7_carry_47 : decode cX7_carry 47 = .ok (.aload_n 0, 1) := by decide +kernel
theorem dX7_carry_48 : decode cX7_carry 48 = .ok (.getfield 31, 3) := by decide +kernel
theorem dX7_carry_51 : decode cX7_carry 51 = .ok (.iload 7, 2) := by decide +kernel
theorem dX7_carry_53 : decode cX7_carry 53 = .ok (.iload 8, 2) := by decide +kernel
theorem dX7_carry_55 : decode cX7_carry 55 = .ok (.iadd, 1) := by decide +kernel
theorem dX7_carry_56 : decode cX7_carry 56 = .ok (.iload 4, 2) := by decide +kernel
theorem dX7_carry_58 : decode cX7_carry 58 = .ok (.isub, 1) := by decide +kernel
theorem dX7_carry_59 : decode cX7_carry 59 = .ok (.iaload, 1) := by decide +kernel
theorem dX7_carry_60 : decode cX7_carry 60 = .ok (.istore 9, 2) := by decide +kernel
theorem dX7_carry_62 : decode cX7_carry 62 = .ok (.iload 9, 2) := by decide +kernel
theorem dX7_carry_64 : decode cX7_carry 64 = .ok (.ldc 100, 2) := by decide +kernel
theorem dX7_carry_66 : decode cX7_carry 66 = .ok (.if_icmp .ge 36, 3) := by decide +kernel
theorem dX7_carry_69 : decode cX7_carry 69 = .ok (.iload 5, 2) := by decide +kernel
theorem dX7_carry_71 : decode cX7_carry 71 = .ok (.iload 9, 2) := by decide +kernel
theorem dX7_carry_73 : decode cX7_carry 73 = .ok (.iadd, 1) := by decide +kernel
theorem dX7_carry_74 : decode cX7_carry 74 = .ok (.aload_n 0, 1) := by decide +kernel
theorem dX7_carry_75 : decode cX7_carry 75 = .ok (.getfield 31, 3) := by decide +kernel
theorem dX7_carry_78 : decode cX7_carry 78 = .ok (.iload 6, 2) := by decide +kernel
theorem dX7_carry_80 : decode cX7_carry 80 = .ok (.iload 8, 2) := by decide +kernel
theorem dX7_carry_82 : decode cX7_carry 82 = .ok (.iadd, 1) := by decide +kernel
theorem dX7_carry_83 : decode cX7_carry 83 = .ok (.iaload, 1) := by decide +kernel
theorem dX7_carry_84 : decode cX7_carry 84 = .ok (.if_icmp .ge 18, 3) := by decide +kernel
theorem dX7_carry_87 : decode cX7_carry 87 = .ok (.aload_n 0, 1) := by decide +kernel
theorem dX7_carry_88 : decode cX7_carry 88 = .ok (.getfield 31, 3) := by decide +kernel
theorem dX7_carry_91 : decode cX7_carry 91 = .ok (.iload 6, 2) := by decide +kernel
theorem dX7_carry_93 : decode cX7_carry 93 = .ok (.iload 8, 2) := by decide +kernel
theorem dX7_carry_95 : decode cX7_carry 95 = .ok (.iadd, 1) := by decide +kernel
theorem dX7_carry_96 : decode cX7_carry 96 = .ok (.iload 5, 2) := by decide +kernel
theorem dX7_carry_98 : decode cX7_carry 98 = .ok (.iload 9, 2) := by decide +kernel
theorem dX7_carry_100 : decode cX7_carry 100 = .ok (.iadd, 1) := by decide +kernel
theorem dX7_carry_101 : decode cX7_carry 101 = .ok (.iastore, 1) := by decide +kernel
theorem dX7_carry_102 : decode cX7_carry 102 = .ok (.iinc 8 1, 3) := by decide +kernel
theorem dX7_carry_105 : decode cX7_carry 105 = .ok (.goto (-66), 3) := by decide +kernel
theorem dX7_carry_108 : decode cX7_carry 108 = .ok (.return_, 1) := by decide +kernel
set_option maxRecDepth 20000 in
theorem ggX7_bestOf_X7_firstOf : GoodIn wsX7_bestOf wsX7_firstOf := goodIn_r _ [8, 9, 10, 11, 7, 12, 13, 18, 19, 20, 21, 22, 23, 24, 25, 26, 27, 28, 29, 30, 31] (by decide +kernel) (by decide +kernel)
set_option maxRecDepth 20000 in
theorem gX7_bestOf_X7_firstOf : GoodIn wsX7_bestOf (wsV RX7 76 RX7 yX7_firstOf wsX7_firstOf) := goodIn_app (goodIn_of _ (by decide +kernel)) ggX7_bestOf_X7_firstOf
set_option maxRecDepth 20000 in
theorem ggX7_bestOf_X7_place : GoodIn wsX7_bestOf wsX7_place := goodIn_r _ [17] (by decide +kernel) (by decide +kernel)
set_option maxRecDepth 20000 in
theorem gX7_bestOf_X7_place : GoodIn wsX7_bestOf (wsV RX7 96 RX7 yX7_place wsX7_place) := goodIn_app (goodIn_of _ (by decide +kernel)) ggX7_bestOf_X7_place
theorem dX7_bestOf_0 : decode cX7_bestOf 0 = .ok (.aload_n 0, 1) := by decide +kernel
theorem dX7_bestOf_1 : decode cX7_bestOf 1 = .ok (.aload_n 0, 1) := by decide +kernel
theorem dX7_bestOf_2 : decode cX7_bestOf 2 = .ok (.iload_n 1, 1) := by decide +kernel
theorem dX7_bestOf_3 : decode cX7_bestOf 3 = .ok (.invokevirtual 76, 3) := by decide +kernel
theorem dX7_bestOf_6 : decode cX7_bestOf 6 = .ok (.iconst 0, 1) := by decide +kernel
theorem dX7_bestOf_7 : decode cX7_bestOf 7 = .ok (.invokevirtual 96, 3) := by decide +kernel
theorem dX7_bestOf_10 : decode cX7_bestOf 10 = .ok (.istore_n 3, 1) := by decide +kernel
theorem dX7_bestOf_11 : decode cX7_bestOf 11 = .ok (.ldc 92, 2) := by decide +kernel
theorem dX7_bestOf_13 : decode cX7_bestOf 13 = .ok (.istore 4, 2) := by decide +kernel
theorem dX7_bestOf_15 : decode cX7_bestOf 15 = .ok (.iconst 0, 1) := by decide +kernel
theorem dX7_bestOf_16 : decode cX7_bestOf 16 = .ok (.istore 5, 2) := by decide +kernel
theorem dX7_bestOf_18 : decode cX7_bestOf 18 = .ok (.iload 5, 2) := by decide +kernel
theorem dX7_bestOf_20 : decode cX7_bestOf 20 = .ok (.iload_n 2, 1) := by decide +kernel
theorem dX7_bestOf_21 : decode cX7_bestOf 21 = .ok (.if_icmp .gt 55, 3) := by decide +kernel
theorem dX7_bestOf_24 : decode cX7_bestOf 24 = .ok (.aload_n 0, 1) := by decide +kernel
theorem dX7_bestOf_25 : decode cX7_bestOf 25 = .ok (.getfield 31, 3) := by decide +kernel
theorem dX7_bestOf_28 : decode cX7_bestOf 28 = .ok (.iload_n 3, 1) := by decide +kernel
theorem dX7_bestOf_29 : decode cX7_bestOf 29 = .ok (.iload 5, 2) := by decide +kernel
theorem dX7_bestOf_31 : decode cX7_bestOf 31 = .ok (.iadd, 1) := by decide +kernel
theorem dX7_bestOf_32 : decode cX7_bestOf 32 = .ok (.iaload, 1) := by decide +kernel
theorem dX7_bestOf_33 : decode cX7_bestOf 33 = .ok (.ldc 100, 2) := by decide +kernel
theorem dX7_bestOf_35 : decode cX7_bestOf 35 = .ok (.if_icmp .ge 35, 3) := by decide +kernel
theorem dX7_bestOf_38 : decode cX7_bestOf 38 = .ok (.iload 4, 2) := by decide +kernel
theorem dX7_bestOf_40 : decode cX7_bestOf 40 = .ok (.ldc 92, 2) := by decide +kernel
theorem dX7_bestOf_42 : decode cX7_bestOf 42 = .ok (.if_icmp .eq 24, 3) := by decide +kernel
theorem dX7_bestOf_45 : decode cX7_bestOf 45 = .ok (.aload_n 0, 1) := by decide +kernel
theorem dX7_bestOf_46 : decode cX7_bestOf 46 = .ok (.getfield 31, 3) := by decide +kernel
theorem dX7_bestOf_49 : decode cX7_bestOf 49 = .ok (.iload_n 3, 1) := by decide +kernel
theorem dX7_bestOf_50 : decode cX7_bestOf 50 = .ok (.iload 5, 2) := by decide +kernel
theorem dX7_bestOf_52 : decode cX7_bestOf 52 = .ok (.iadd, 1) := by decide +kernel
theorem dX7_bestOf_53 : decode cX7_bestOf 53 = .ok (.iaload, 1) := by decide +kernel
theorem dX7_bestOf_54 : decode cX7_bestOf 54 = .ok (.aload_n 0, 1) := by decide +kernel
theorem dX7_bestOf_55 : decode cX7_bestOf 55 = .ok (.getfield 31, 3) := by decide +kernel
theorem dX7_bestOf_58 : decode cX7_bestOf 58 = .ok (.iload_n 3, 1) := by decide +kernel
theorem dX7_bestOf_59 : decode cX7_bestOf 59 = .ok (.iload 4, 2) := by decide +kernel
theorem dX7_bestOf_61 : decode cX7_bestOf 61 = .ok (.iadd, 1) := by decide +kernel
theorem dX7_bestOf_62 : decode cX7_bestOf 62 = .ok (.iaload, 1) := by decide +kernel
theorem dX7_bestOf_63 : decode cX7_bestOf 63 = .ok (.if_icmp .ge 7, 3) := by decide +kernel
theorem dX7_bestOf_66 : decode cX7_bestOf 66 = .ok (.iload 5, 2) := by decide +kernel
theorem dX7_bestOf_68 : decode cX7_bestOf 68 = .ok (.istore 4, 2) := by decide +kernel
theorem dX7_bestOf_70 : decode cX7_bestOf 70 = .ok (.iinc 5 1, 3) := by decide +kernel
theorem dX7_bestOf_73 : decode cX7_bestOf 73 = .ok (.goto (-55), 3) := by decide +kernel
theorem dX7_bestOf_76 : decode cX7_bestOf 76 = .ok (.iload 4, 2) := by decide +kernel
theorem dX7_bestOf_78 : decode cX7_bestOf 78 = .ok (.ireturn, 1) := by decide +kernel
set_option maxRecDepth 20000 in
theorem ggX7_fastest_X7_isLeg : GoodIn wsX7_fastest wsX7_isLeg := goodIn_r _ [8, 9, 10, 11, 7, 12, 13, 14, 15, 16, 17, 53, 54, 55, 56, 57, 58, 59, 60, 61, 62, 63, 64, 65, 66] (by decide +kernel) (by decide +kernel)
set_option maxRecDepth 20000 in
theorem gX7_fastest_X7_isLeg : GoodIn wsX7_fastest (wsV RX7 73 RX7 yX7_isLeg wsX7_isLeg) := goodIn_app (goodIn_of _ (by decide +kernel)) ggX7_fastest_X7_isLeg
set_option maxRecDepth 20000 in
theorem ggX7_fastest_X7_work : GoodIn wsX7_fastest wsX7_work := goodIn_r _ [21, 1, 2, 22, 23, 24, 7, 25, 26, 27, 28, 29, 14, 30, 31, 32, 33, 34, 35, 36, 37, 38, 39, 40, 41, 42, 43, 44, 45, 46, 47, 48, 49, 50, 51, 52, 53, 54, 55, 56, 57, 58, 59, 60, 61, 62, 63, 64, 65, 66] (by decide +kernel) (by decide +kernel)
set_option maxRecDepth 20000 in
theorem gX7_fastest_X7_work : GoodIn wsX7_fastest (wsV RX7 105 RX7 yX7_work wsX7_work) := goodIn_app (goodIn_of _ (by decide +kernel)) ggX7_fastest_X7_work
set_option maxRecDepth 20000 in
theorem ggX7_fastest_X7_firstOf : GoodIn wsX7_fastest wsX7_firstOf := goodIn_r _ [25, 26, 27, 28, 7, 29, 14, 53, 54, 55, 56, 57, 58, 59, 60, 61, 62, 63, 64, 65, 66] (by decide +kernel) (by decide +kernel)
set_option maxRecDepth 20000 in
theorem gX7_fastest_X7_firstOf : GoodIn wsX7_fastest (wsV RX7 76 RX7 yX7_firstOf wsX7_firstOf) := goodIn_app (goodIn_of _ (by decide +kernel)) ggX7_fastest_X7_firstOf
set_option maxRecDepth 20000 in
theorem ggX7_fastest_X7_place : GoodIn wsX7_fastest wsX7_place := goodIn_r _ [33] (by decide +kernel) (by decide +kernel)
set_option maxRecDepth 20000 in
theorem gX7_fastest_X7_place : GoodIn wsX7_fastest (wsV RX7 96 RX7 yX7_place wsX7_place) := goodIn_app (goodIn_of _ (by decide +kernel)) ggX7_fastest_X7_place
theorem dX7_fastest_0 : decode cX7_fastest 0 = .ok (.aload_n 0, 1) := by decide +kernel
theorem dX7_fastest_1 : decode cX7_fastest 1 = .ok (.iload_n 1, 1) := by decide +kernel
theorem dX7_fastest_2 : decode cX7_fastest 2 = .ok (.invokevirtual 73, 3) := by decide +kernel
theorem dX7_fastest_5 : decode cX7_fastest 5 = .ok (.ifCond .ne 5, 3) := by decide +kernel
theorem dX7_fastest_8 : decode cX7_fastest 8 = .ok (.iconst (-1), 1) := by decide +kernel
theorem dX7_fastest_9 : decode cX7_fastest 9 = .ok (.ireturn, 1) := by decide +kernel
theorem dX7_fastest_10 : decode cX7_fastest 10 = .ok (.aload_n 0, 1) := by decide +kernel
theorem dX7_fastest_11 : decode cX7_fastest 11 = .ok (.iload_n 1, 1) := by decide +kernel
theorem dX7_fastest_12 : decode cX7_fastest 12 = .ok (.invokevirtual 105, 3) := by decide +kernel
theorem dX7_fastest_15 : decode cX7_fastest 15 = .ok (.aload_n 0, 1) := by decide +kernel
theorem dX7_fastest_16 : decode cX7_fastest 16 = .ok (.aload_n 0, 1) := by decide +kernel
theorem dX7_fastest_17 : decode cX7_fastest 17 = .ok (.iload_n 1, 1) := by decide +kernel
theorem dX7_fastest_18 : decode cX7_fastest 18 = .ok (.invokevirtual 76, 3) := by decide +kernel
theorem dX7_fastest_21 : decode cX7_fastest 21 = .ok (.iconst 0, 1) := by decide +kernel
theorem dX7_fastest_22 : decode cX7_fastest 22 = .ok (.invokevirtual 96, 3) := by decide +kernel
theorem dX7_fastest_25 : decode cX7_fastest 25 = .ok (.istore_n 2, 1) := by decide +kernel
theorem dX7_fastest_26 : decode cX7_fastest 26 = .ok (.iconst 0, 1) := by decide +kernel
theorem dX7_fastest_27 : decode cX7_fastest 27 = .ok (.istore_n 3, 1) := by decide +kernel
theorem dX7_fastest_28 : decode cX7_fastest 28 = .ok (.iload_n 3, 1) := by decide +kernel
theorem dX7_fastest_29 : decode cX7_fastest 29 = .ok (.sipush 1001, 3) := by decide +kernel
theorem dX7_fastest_32 : decode cX7_fastest 32 = .ok (.if_icmp .ge 24, 3) := by decide +kernel
theorem dX7_fastest_35 : decode cX7_fastest 35 = .ok (.aload_n 0, 1) := by decide +kernel
theorem dX7_fastest_36 : decode cX7_fastest 36 = .ok (.getfield 31, 3) := by decide +kernel
theorem dX7_fastest_39 : decode cX7_fastest 39 = .ok (.iload_n 2, 1) := by decide +kernel
theorem dX7_fastest_40 : decode cX7_fastest 40 = .ok (.iload_n 3, 1) := by decide +kernel
theorem dX7_fastest_41 : decode cX7_fastest 41 = .ok (.iadd, 1) := by decide +kernel
theorem dX7_fastest_42 : decode cX7_fastest 42 = .ok (.iaload, 1) := by decide +kernel
theorem dX7_fastest_43 : decode cX7_fastest 43 = .ok (.ldc 100, 2) := by decide +kernel
theorem dX7_fastest_45 : decode cX7_fastest 45 = .ok (.if_icmp .ge 5, 3) := by decide +kernel
theorem dX7_fastest_48 : decode cX7_fastest 48 = .ok (.iload_n 3, 1) := by decide +kernel
theorem dX7_fastest_49 : decode cX7_fastest 49 = .ok (.ireturn, 1) := by decide +kernel
theorem dX7_fastest_50 : decode cX7_fastest 50 = .ok (.iinc 3 1, 3) := by decide +kernel
theorem dX7_fastest_53 : decode cX7_fastest 53 = .ok (.goto (-25), 3) := by decide +kernel
theorem dX7_fastest_56 : decode cX7_fastest 56 = .ok (.ldc 92, 2) := by decide +kernel
theorem dX7_fastest_58 : decode cX7_fastest 58 = .ok (.ireturn, 1) := by decide +kernel
set_option maxRecDepth 20000 in
theorem ggX7_best_X7_bestTime : GoodIn wsX7_best wsX7_bestTime := goodIn_r _ [6, 7, 8, 9, 5, 10, 11, 12, 13, 14, 15, 16, 17, 18, 19, 20, 21, 22, 23, 1, 24, 25, 26, 27, 28, 29, 30, 31, 32, 33, 34, 35, 36, 37, 38, 39, 40, 41, 42, 43, 44, 45, 46, 47, 48, 49, 50, 51, 52, 53, 54, 55, 56, 57, 58, 59, 60, 61, 62, 63, 64, 65, 66, 67, 68, 69, 70, 71, 72, 73, 74] (by decide +kernel) (by decide +kernel)
set_option maxRecDepth 20000 in
theorem gX7_best_X7_bestTime : GoodIn wsX7_best (wsV RX7 108 RX7 yX7_bestTime wsX7_bestTime) := goodIn_app (goodIn_of _ (by decide +kernel)) ggX7_best_X7_bestTime
set_option maxRecDepth 20000 in
theorem ggX7_best_X7_firstOf : GoodIn wsX7_best wsX7_firstOf := goodIn_r _ [28, 29, 30, 31, 5, 32, 16, 61, 62, 63, 64, 65, 66, 67, 68, 69, 70, 71, 72, 73, 74] (by decide +kernel) (by decide +kernel)
set_option maxRecDepth 20000 in
theorem gX7_best_X7_firstOf : GoodIn wsX7_best (wsV RX7 76 RX7 yX7_firstOf wsX7_firstOf) := goodIn_app (goodIn_of _ (by decide +kernel)) ggX7_best_X7_firstOf
set_option maxRecDepth 20000 in
theorem ggX7_best_X7_place : GoodIn wsX7_best wsX7_place := goodIn_r _ [36] (by decide +kernel) (by decide +kernel)
set_option maxRecDepth 20000 in
theorem gX7_best_X7_place : GoodIn wsX7_best (wsV RX7 96 RX7 yX7_place wsX7_place) := goodIn_app (goodIn_of _ (by decide +kernel)) ggX7_best_X7_place
theorem dX7_best_0 : decode cX7_best 0 = .ok (.aload_n 0, 1) := by decide +kernel
theorem dX7_best_1 : decode cX7_best 1 = .ok (.iload_n 1, 1) := by decide +kernel
theorem dX7_best_2 : decode cX7_best 2 = .ok (.iload_n 2, 1) := by decide +kernel
theorem dX7_best_3 : decode cX7_best 3 = .ok (.invokevirtual 108, 3) := by decide +kernel
theorem dX7_best_6 : decode cX7_best 6 = .ok (.istore_n 3, 1) := by decide +kernel
theorem dX7_best_7 : decode cX7_best 7 = .ok (.iload_n 3, 1) := by decide +kernel
theorem dX7_best_8 : decode cX7_best 8 = .ok (.ifCond .ge 7, 3) := by decide +kernel
theorem dX7_best_11 : decode cX7_best 11 = .ok (.iload_n 3, 1) := by decide +kernel
theorem dX7_best_12 : decode cX7_best 12 = .ok (.goto 20, 3) := by decide +kernel
theorem dX7_best_15 : decode cX7_best 15 = .ok (.aload_n 0, 1) := by decide +kernel
theorem dX7_best_16 : decode cX7_best 16 = .ok (.getfield 31, 3) := by decide +kernel
theorem dX7_best_19 : decode cX7_best 19 = .ok (.aload_n 0, 1) := by decide +kernel
theorem dX7_best_20 : decode cX7_best 20 = .ok (.aload_n 0, 1) := by decide +kernel
theorem dX7_best_21 : decode cX7_best 21 = .ok (.iload_n 1, 1) := by decide +kernel
theorem dX7_best_22 : decode cX7_best 22 = .ok (.invokevirtual 76, 3) := by decide +kernel
theorem dX7_best_25 : decode cX7_best 25 = .ok (.iconst 0, 1) := by decide +kernel
theorem dX7_best_26 : decode cX7_best 26 = .ok (.invokevirtual 96, 3) := by decide +kernel
theorem dX7_best_29 : decode cX7_best 29 = .ok (.iload_n 3, 1) := by decide +kernel
theorem dX7_best_30 : decode cX7_best 30 = .ok (.iadd, 1) := by decide +kernel
theorem dX7_best_31 : decode cX7_best 31 = .ok (.iaload, 1) := by decide +kernel
theorem dX7_best_32 : decode cX7_best 32 = .ok (.ireturn, 1) := by decide +kernel
set_option maxRecDepth 20000 in
theorem ggX7_bestTime_X7_isLeg : GoodIn wsX7_bestTime wsX7_isLeg := goodIn_r _ [5, 6, 7, 8, 4, 9, 10, 11, 12, 13, 14, 57, 58, 59, 60, 61, 62, 63, 64, 65, 66, 67, 68, 69, 70] (by decide +kernel) (by decide +kernel)
set_option maxRecDepth 20000 in
theorem gX7_bestTime_X7_isLeg : GoodIn wsX7_bestTime (wsV RX7 73 RX7 yX7_isLeg wsX7_isLeg) := goodIn_app (goodIn_of _ (by decide +kernel)) ggX7_bestTime_X7_isLeg
set_option maxRecDepth 20000 in
theorem ggX7_bestTime_X7_in : GoodIn wsX7_bestTime wsX7_in := goodIn_r _ [14] (by decide +kernel) (by decide +kernel)
set_option maxRecDepth 20000 in
theorem gX7_bestTime_X7_in : GoodIn wsX7_bestTime (va_wsS RX7 50 yX7_in wsX7_in) := goodIn_app (goodIn_of _ (by decide +kernel)) ggX7_bestTime_X7_in
set_option maxRecDepth 20000 in
theorem ggX7_bestTime_X7_work : GoodIn wsX7_bestTime wsX7_work := goodIn_r _ [18, 19, 20, 21, 22, 23, 4, 24, 25, 26, 27, 28, 11, 29, 30, 31, 32, 33, 34, 35, 36, 37, 38, 39, 40, 41, 42, 43, 44, 45, 46, 47, 48, 49, 50, 51, 57, 58, 59, 60, 61, 62, 63, 64, 65, 66, 67, 68, 69, 70] (by decide +kernel) (by decide +kernel)
set_option maxRecDepth 20000 in
theorem gX7_bestTime_X7_work : GoodIn wsX7_bestTime (wsV RX7 105 RX7 yX7_work wsX7_work) := goodIn_app (goodIn_of _ (by decide +kernel)) ggX7_bestTime_X7_work
set_option maxRecDepth 20000 in
theorem ggX7_bestTime_X7_bestOf : GoodIn wsX7_bestTime wsX7_bestOf := goodIn_r _ [55, 56, 19, 20, 21, 22, 23, 4, 24, 25, 26, 27, 28, 11, 29, 30, 31, 32, 57, 58, 59, 60, 61, 62, 63, 64, 65, 66, 67, 68, 69, 70] (by decide +kernel) (by decide +kernel)
set_option maxRecDepth 20000 in
theorem gX7_bestTime_X7_bestOf : GoodIn wsX7_bestTime (wsV RX7 111 RX7 yX7_bestOf wsX7_bestOf) := goodIn_app (goodIn_of _ (by decide +kernel)) ggX7_bestTime_X7_bestOf
theorem dX7_bestTime_0 : decode cX7_bestTime 0 = .ok (.aload_n 0, 1) := by decide +kernel
theorem dX7_bestTime_1 : decode cX7_bestTime 1 = .ok (.iload_n 1, 1) := by decide +kernel
theorem dX7_bestTime_2 : decode cX7_bestTime 2 = .ok (.invokevirtual 73, 3) := by decide +kernel
theorem dX7_bestTime_5 : decode cX7_bestTime 5 = .ok (.ifCond .ne 5, 3) := by decide +kernel
theorem dX7_bestTime_8 : decode cX7_bestTime 8 = .ok (.iconst (-1), 1) := by decide +kernel
theorem dX7_bestTime_9 : decode cX7_bestTime 9 = .ok (.ireturn, 1) := by decide +kernel
theorem dX7_bestTime_10 : decode cX7_bestTime 10 = .ok (.iload_n 2, 1) := by decide +kernel
theorem dX7_bestTime_11 : decode cX7_bestTime 11 = .ok (.iconst 0, 1) := by decide +kernel
theorem dX7_bestTime_12 : decode cX7_bestTime 12 = .ok (.sipush 1000, 3) := by decide +kernel
theorem dX7_bestTime_15 : decode cX7_bestTime 15 = .ok (.invokestatic 50, 3) := by decide +kernel
theorem dX7_bestTime_18 : decode cX7_bestTime 18 = .ok (.ifCond .ne 6, 3) := by decide +kernel
theorem dX7_bestTime_21 : decode cX7_bestTime 21 = .ok (.bipush (-2), 2) := by decide +kernel
theorem dX7_bestTime_23 : decode cX7_bestTime 23 = .ok (.ireturn, 1) := by decide +kernel
theorem dX7_bestTime_24 : decode cX7_bestTime 24 = .ok (.aload_n 0, 1) := by decide +kernel
theorem dX7_bestTime_25 : decode cX7_bestTime 25 = .ok (.iload_n 1, 1) := by decide +kernel
theorem dX7_bestTime_26 : decode cX7_bestTime 26 = .ok (.invokevirtual 105, 3) := by decide +kernel
theorem dX7_bestTime_29 : decode cX7_bestTime 29 = .ok (.aload_n 0, 1) := by decide +kernel
theorem dX7_bestTime_30 : decode cX7_bestTime 30 = .ok (.iload_n 1, 1) := by decide +kernel
theorem dX7_bestTime_31 : decode cX7_bestTime 31 = .ok (.iload_n 2, 1) := by decide +kernel
theorem dX7_bestTime_32 : decode cX7_bestTime 32 = .ok (.invokevirtual 111, 3) := by decide +kernel
theorem dX7_bestTime_35 : decode cX7_bestTime 35 = .ok (.ireturn, 1) := by decide +kernel
set_option maxRecDepth 20000 in
theorem ggX7_bestSpeed_X7_isLeg : GoodIn wsX7_bestSpeed wsX7_isLeg := goodIn_r _ [7, 8, 9, 10, 6, 11, 1, 12, 13, 14, 15, 61, 62, 63, 64, 65, 66, 67, 68, 69, 70, 71, 72, 73, 74] (by decide +kernel) (by decide +kernel)
set_option maxRecDepth 20000 in
theorem gX7_bestSpeed_X7_isLeg : GoodIn wsX7_bestSpeed (wsV RX7 73 RX7 yX7_isLeg wsX7_isLeg) := goodIn_app (goodIn_of _ (by decide +kernel)) ggX7_bestSpeed_X7_isLeg
set_option maxRecDepth 20000 in
theorem ggX7_bestSpeed_X7_in : GoodIn wsX7_bestSpeed wsX7_in := goodIn_r _ [15] (by decide +kernel) (by decide +kernel)
set_option maxRecDepth 20000 in
theorem gX7_bestSpeed_X7_in : GoodIn wsX7_bestSpeed (va_wsS RX7 50 yX7_in wsX7_in) := goodIn_app (goodIn_of _ (by decide +kernel)) ggX7_bestSpeed_X7_in
set_option maxRecDepth 20000 in
theorem ggX7_bestSpeed_X7_work : GoodIn wsX7_bestSpeed wsX7_work := goodIn_r _ [19, 20, 21, 22, 23, 24, 6, 25, 26, 27, 28, 29, 12, 30, 31, 32, 33, 34, 35, 36, 37, 38, 39, 40, 41, 42, 43, 44, 45, 46, 47, 48, 49, 50, 51, 52, 61, 62, 63, 64, 65, 66, 67, 68, 69, 70, 71, 72, 73, 74] (by decide +kernel) (by decide +kernel)
set_option maxRecDepth 20000 in
theorem gX7_bestSpeed_X7_work : GoodIn wsX7_bestSpeed (wsV RX7 105 RX7 yX7_work wsX7_work) := goodIn_app (goodIn_of _ (by decide +kernel)) ggX7_bestSpeed_X7_work
set_option maxRecDepth 20000 in
theorem ggX7_bestSpeed_X7_bestOf : GoodIn wsX7_bestSpeed wsX7_bestOf := goodIn_r _ [56, 2, 20, 21, 22, 23, 24, 6, 25, 26, 27, 28, 29, 12, 30, 31, 32, 33, 61, 62, 63, 64, 65, 66, 67, 68, 69, 70, 71, 72, 73, 74] (by decide +kernel) (by decide +kernel)
set_option maxRecDepth 20000 in
theorem gX7_bestSpeed_X7_bestOf : GoodIn wsX7_bestSpeed (wsV RX7 111 RX7 yX7_bestOf wsX7_bestOf) := goodIn_app (goodIn_of _ (by decide +kernel)) ggX7_bestSpeed_X7_bestOf
set_option maxRecDepth 20000 in
theorem ggX7_bestSpeed_X7_firstOf : GoodIn wsX7_bestSpeed wsX7_firstOf := goodIn_r _ [25, 26, 27, 28, 6, 29, 12, 61, 62, 63, 64, 65, 66, 67, 68, 69, 70, 71, 72, 73, 74] (by decide +kernel) (by decide +kernel)
set_option maxRecDepth 20000 in
theorem gX7_bestSpeed_X7_firstOf : GoodIn wsX7_bestSpeed (wsV RX7 76 RX7 yX7_firstOf wsX7_firstOf) := goodIn_app (goodIn_of _ (by decide +kernel)) ggX7_bestSpeed_X7_firstOf
set_option maxRecDepth 20000 in
theorem ggX7_bestSpeed_X7_endOf : GoodIn wsX7_bestSpeed wsX7_endOf := goodIn_r _ [29, 12, 61, 62, 63, 64, 65, 66, 67, 68, 69, 70, 71, 72, 73, 74] (by decide +kernel) (by decide +kernel)
set_option maxRecDepth 20000 in
theorem gX7_bestSpeed_X7_endOf : GoodIn wsX7_bestSpeed (wsV RX7 69 RX7 yX7_endOf wsX7_endOf) := goodIn_app (goodIn_of _ (by decide +kernel)) ggX7_bestSpeed_X7_endOf
set_option maxRecDepth 20000 in
theorem ggX7_bestSpeed_X7_isOn : GoodIn wsX7_bestSpeed wsX7_isOn := goodIn_r _ [60, 20, 21, 34, 35, 36, 6, 37, 38, 39, 40, 41, 42, 43, 44, 30, 31, 32, 33, 49, 50, 51, 52, 61, 62, 63, 64, 65, 66, 67, 68, 69, 70, 71, 72, 73, 74] (by decide +kernel) (by decide +kernel)
set_option maxRecDepth 20000 in
theorem gX7_bestSpeed_X7_isOn : GoodIn wsX7_bestSpeed (wsV RX7 114 RX7 yX7_isOn wsX7_isOn) := goodIn_app (goodIn_of _ (by decide +kernel)) ggX7_bestSpeed_X7_isOn
theorem dX7_bestSpeed_0 : decode cX7_bestSpeed 0 = .ok (.aload_n 0, 1) := by decide +kernel
theorem dX7_bestSpeed_1 : decode cX7_bestSpeed 1 = .ok (.iload_n 1, 1) := by decide +kernel
theorem dX7_bestSpeed_2 : decode cX7_bestSpeed 2 = .ok (.invokevirtual 73, 3) := by decide +kernel
theorem dX7_bestSpeed_5 : decode cX7_bestSpeed 5 = .ok (.ifCond .eq 15, 3) := by decide +kernel
theorem dX7_bestSpeed_8 : decode cX7_bestSpeed 8 = .ok (.iload_n 3, 1) := by decide +kernel
theorem dX7_bestSpeed_9 : decode cX7_bestSpeed 9 = .ok (.iconst 0, 1) := by decide +kernel
theorem dX7_bestSpeed_10 : decode cX7_bestSpeed 10 = .ok (.aload_n 0, 1) := by decide +kernel
theorem dX7_bestSpeed_11 : decode cX7_bestSpeed 11 = .ok (.getfield 7, 3) := by decide +kernel
theorem dX7_bestSpeed_14 : decode cX7_bestSpeed 14 = .ok (.invokestatic 50, 3) := by decide +kernel
theorem dX7_bestSpeed_17 : decode cX7_bestSpeed 17 = .ok (.ifCond .ne 5, 3) := by decide +kernel
theorem dX7_bestSpeed_20 : decode cX7_bestSpeed 20 = .ok (.iconst (-1), 1) := by decide +kernel
theorem dX7_bestSpeed_21 : decode cX7_bestSpeed 21 = .ok (.ireturn, 1) := by decide +kernel
theorem dX7_bestSpeed_22 : decode cX7_bestSpeed 22 = .ok (.iload_n 2, 1) := by decide +kernel
theorem dX7_bestSpeed_23 : decode cX7_bestSpeed 23 = .ok (.iconst 0, 1) := by decide +kernel
theorem dX7_bestSpeed_24 : decode cX7_bestSpeed 24 = .ok (.sipush 1000, 3) := by decide +kernel
theorem dX7_bestSpeed_27 : decode cX7_bestSpeed 27 = .ok (.invokestatic 50, 3) := by decide +kernel
theorem dX7_bestSpeed_30 : decode cX7_bestSpeed 30 = .ok (.ifCond .ne 6, 3) := by decide +kernel
theorem dX7_bestSpeed_33 : decode cX7_bestSpeed 33 = .ok (.bipush (-2), 2) := by decide +kernel
theorem dX7_bestSpeed_35 : decode cX7_bestSpeed 35 = .ok (.ireturn, 1) := by decide +kernel
theorem dX7_bestSpeed_36 : decode cX7_bestSpeed 36 = .ok (.aload_n 0, 1) := by decide +kernel
theorem dX7_bestSpeed_37 : decode cX7_bestSpeed 37 = .ok (.iload_n 1, 1) := by decide +kernel
theorem dX7_bestSpeed_38 : decode cX7_bestSpeed 38 = .ok (.invokevirtual 105, 3) := by decide +kernel
theorem dX7_bestSpeed_41 : decode cX7_bestSpeed 41 = .ok (.aload_n 0, 1) := by decide +kernel
theorem dX7_bestSpeed_42 : decode cX7_bestSpeed 42 = .ok (.iload_n 1, 1) := by decide +kernel
theorem dX7_bestSpeed_43 : decode cX7_bestSpeed 43 = .ok (.iload_n 2, 1) := by decide +kernel
theorem dX7_bestSpeed_44 : decode cX7_bestSpeed 44 = .ok (.invokevirtual 111, 3) := by decide +kernel
theorem dX7_bestSpeed_47 : decode cX7_bestSpeed 47 = .ok (.istore 4, 2) := by decide +kernel
theorem dX7_bestSpeed_49 : decode cX7_bestSpeed 49 = .ok (.aload_n 0, 1) := by decide +kernel
theorem dX7_bestSpeed_50 : decode cX7_bestSpeed 50 = .ok (.iload_n 1, 1) := by decide +kernel
theorem dX7_bestSpeed_51 : decode cX7_bestSpeed 51 = .ok (.invokevirtual 76, 3) := by decide +kernel
theorem dX7_bestSpeed_54 : decode cX7_bestSpeed 54 = .ok (.istore 5, 2) := by decide +kernel
theorem dX7_bestSpeed_56 : decode cX7_bestSpeed 56 = .ok (.iload 4, 2) := by decide +kernel
theorem dX7_bestSpeed_58 : decode cX7_bestSpeed 58 = .ok (.ldc 92, 2) := by decide +kernel
theorem dX7_bestSpeed_60 : decode cX7_bestSpeed 60 = .ok (.if_icmp .eq 17, 3) := by decide +kernel
theorem dX7_bestSpeed_63 : decode cX7_bestSpeed 63 = .ok (.iload_n 3, 1) := by decide +kernel
theorem dX7_bestSpeed_64 : decode cX7_bestSpeed 64 = .ok (.iload 5, 2) := by decide +kernel
theorem dX7_bestSpeed_66 : decode cX7_bestSpeed 66 = .ok (.aload_n 0, 1) := by decide +kernel
theorem dX7_bestSpeed_67 : decode cX7_bestSpeed 67 = .ok (.iload_n 1, 1) := by decide +kernel
theorem dX7_bestSpeed_68 : decode cX7_bestSpeed 68 = .ok (.invokevirtual 69, 3) := by decide +kernel
theorem dX7_bestSpeed_71 : decode cX7_bestSpeed 71 = .ok (.invokestatic 50, 3) := by decide +kernel
theorem dX7_bestSpeed_74 : decode cX7_bestSpeed 74 = .ok (.ifCond .ne 6, 3) := by decide +kernel
theorem dX7_bestSpeed_77 : decode cX7_bestSpeed 77 = .ok (.ldc 92, 2) := by decide +kernel
theorem dX7_bestSpeed_79 : decode cX7_bestSpeed 79 = .ok (.ireturn, 1) := by decide +kernel
theorem dX7_bestSpeed_80 : decode cX7_bestSpeed 80 = .ok (.iconst 0, 1) := by decide +kernel
theorem dX7_bestSpeed_81 : decode cX7_bestSpeed 81 = .ok (.istore 6, 2) := by decide +kernel
theorem dX7_bestSpeed_83 : decode cX7_bestSpeed 83 = .ok (.iload 5, 2) := by decide +kernel
theorem dX7_bestSpeed_85 : decode cX7_bestSpeed 85 = .ok (.istore 7, 2) := by decide +kernel
theorem dX7_bestSpeed_87 : decode cX7_bestSpeed 87 = .ok (.iload 7, 2) := by decide +kernel
theorem dX7_bestSpeed_89 : decode cX7_bestSpeed 89 = .ok (.iload_n 3, 1) := by decide +kernel
theorem dX7_bestSpeed_90 : decode cX7_bestSpeed 90 = .ok (.if_icmp .ge 50, 3) := by decide +kernel
theorem dX7_bestSpeed_93 : decode cX7_bestSpeed 93 = .ok (.iconst 0, 1) := by decide +kernel
theorem dX7_bestSpeed_94 : decode cX7_bestSpeed 94 = .ok (.istore 8, 2) := by decide +kernel
theorem dX7_bestSpeed_96 : decode cX7_bestSpeed 96 = .ok (.aload_n 0, 1) := by decide +kernel
theorem dX7_bestSpeed_97 : decode cX7_bestSpeed 97 = .ok (.iload 7, 2) := by decide +kernel
theorem dX7_bestSpeed_99 : decode cX7_bestSpeed 99 = .ok (.iload 6, 2) := by decide +kernel
theorem dX7_bestSpeed_101 : decode cX7_bestSpeed 101 = .ok (.iload 8, 2) := by decide +kernel
theorem dX7_bestSpeed_103 : decode cX7_bestSpeed 103 = .ok (.iload 4, 2) := by decide +kernel
theorem dX7_bestSpeed_105 : decode cX7_bestSpeed 105 = .ok (.invokevirtual 114, 3) := by decide +kernel
theorem dX7_bestSpeed_108 : decode cX7_bestSpeed 108 = .ok (.ifCond .ne 9, 3) := by decide +kernel
theorem dX7_bestSpeed_111 : decode cX7_bestSpeed 111 = .ok (.iinc 8 1, 3) := by decide +kernel
theorem dX7_bestSpeed_114 : decode cX7_bestSpeed 114 = .ok (.goto (-18), 3) := by decide +kernel
theorem dX7_bestSpeed_117 : decode cX7_bestSpeed 117 = .ok (.iload 4, 2) := by decide +kernel
theorem dX7_bestSpeed_119 : decode cX7_bestSpeed 119 = .ok (.bipush 60, 2) := by decide +kernel
theorem dX7_bestSpeed_121 : decode cX7_bestSpeed 121 = .ok (.iload 6, 2) := by decide +kernel
theorem dX7_bestSpeed_123 : decode cX7_bestSpeed 123 = .ok (.iload 8, 2) := by decide +kernel
theorem dX7_bestSpeed_125 : decode cX7_bestSpeed 125 = .ok (.iadd, 1) := by decide +kernel
theorem dX7_bestSpeed_126 : decode cX7_bestSpeed 126 = .ok (.idiv, 1) := by decide +kernel
theorem dX7_bestSpeed_127 : decode cX7_bestSpeed 127 = .ok (.isub, 1) := by decide +kernel
theorem dX7_bestSpeed_128 : decode cX7_bestSpeed 128 = .ok (.istore 4, 2) := by decide +kernel
theorem dX7_bestSpeed_130 : decode cX7_bestSpeed 130 = .ok (.iload 8, 2) := by decide +kernel
theorem dX7_bestSpeed_132 : decode cX7_bestSpeed 132 = .ok (.istore 6, 2) := by decide +kernel
theorem dX7_bestSpeed_134 : decode cX7_bestSpeed 134 = .ok (.iinc 7 1, 3) := by decide +kernel
theorem dX7_bestSpeed_137 : decode cX7_bestSpeed 137 = .ok (.goto (-50), 3) := by decide +kernel
theorem dX7_bestSpeed_140 : decode cX7_bestSpeed 140 = .ok (.iload 6, 2) := by decide +kernel
theorem dX7_bestSpeed_142 : decode cX7_bestSpeed 142 = .ok (.ireturn, 1) := by decide +kernel
set_option maxRecDepth 20000 in
theorem ggX7_isOn_X7_faultOf : GoodIn wsX7_isOn wsX7_faultOf := goodIn_r _ [7, 8, 9, 10, 11, 12, 6, 13, 14, 23, 24, 25, 26, 27, 28, 29, 30, 31, 32, 33, 34, 35, 36] (by decide +kernel) (by decide +kernel)
set_option maxRecDepth 20000 in
theorem gX7_isOn_X7_faultOf : GoodIn wsX7_isOn (wsV RX7 86 RX7 yX7_faultOf wsX7_faultOf) := goodIn_app (goodIn_of _ (by decide +kernel)) ggX7_isOn_X7_faultOf
set_option maxRecDepth 20000 in
theorem ggX7_isOn_X7_place : GoodIn wsX7_isOn wsX7_place := goodIn_r _ [18] (by decide +kernel) (by decide +kernel)
set_option maxRecDepth 20000 in
theorem gX7_isOn_X7_place : GoodIn wsX7_isOn (wsV RX7 96 RX7 yX7_place wsX7_place) := goodIn_app (goodIn_of _ (by decide +kernel)) ggX7_isOn_X7_place
set_option maxRecDepth 20000 in
theorem ggX7_isOn_X7_powerOf : GoodIn wsX7_isOn wsX7_powerOf := goodIn_r _ [22, 9, 10, 11, 12, 6, 13, 14, 23, 24, 25, 26, 27, 28, 29, 30, 31, 32, 33, 34, 35, 36] (by decide +kernel) (by decide +kernel)
set_option maxRecDepth 20000 in
theorem gX7_isOn_X7_powerOf : GoodIn wsX7_isOn (wsV RX7 93 RX7 yX7_powerOf wsX7_powerOf) := goodIn_app (goodIn_of _ (by decide +kernel)) ggX7_isOn_X7_powerOf
theorem dX7_isOn_0 : decode cX7_isOn 0 = .ok (.aload_n 0, 1) := by decide +kernel
theorem dX7_isOn_1 : decode cX7_isOn 1 = .ok (.iload_n 1, 1) := by decide +kernel
theorem dX7_isOn_2 : decode cX7_isOn 2 = .ok (.iload_n 2, 1) := by decide +kernel
theorem dX7_isOn_3 : decode cX7_isOn 3 = .ok (.iload_n 3, 1) := by decide +kernel
theorem dX7_isOn_4 : decode cX7_isOn 4 = .ok (.invokevirtual 86, 3) := by decide +kernel
theorem dX7_isOn_7 : decode cX7_isOn 7 = .ok (.ifCond .ne 14, 3) := by decide +kernel
theorem dX7_isOn_10 : decode cX7_isOn 10 = .ok (.bipush 60, 2) := by decide +kernel
theorem dX7_isOn_12 : decode cX7_isOn 12 = .ok (.iload_n 2, 1) := by decide +kernel
theorem dX7_isOn_13 : decode cX7_isOn 13 = .ok (.iload_n 3, 1) := by decide +kernel
theorem dX7_isOn_14 : decode cX7_isOn 14 = .ok (.iadd, 1) := by decide +kernel
theorem dX7_isOn_15 : decode cX7_isOn 15 = .ok (.idiv, 1) := by decide +kernel
theorem dX7_isOn_16 : decode cX7_isOn 16 = .ok (.iload 4, 2) := by decide +kernel
theorem dX7_isOn_18 : decode cX7_isOn 18 = .ok (.if_icmp .le 5, 3) := by decide +kernel
theorem dX7_isOn_21 : decode cX7_isOn 21 = .ok (.iconst 0, 1) := by decide +kernel
theorem dX7_isOn_22 : decode cX7_isOn 22 = .ok (.ireturn, 1) := by decide +kernel
theorem dX7_isOn_23 : decode cX7_isOn 23 = .ok (.aload_n 0, 1) := by decide +kernel
theorem dX7_isOn_24 : decode cX7_isOn 24 = .ok (.getfield 31, 3) := by decide +kernel
theorem dX7_isOn_27 : decode cX7_isOn 27 = .ok (.aload_n 0, 1) := by decide +kernel
theorem dX7_isOn_28 : decode cX7_isOn 28 = .ok (.iload_n 1, 1) := by decide +kernel
theorem dX7_isOn_29 : decode cX7_isOn 29 = .ok (.iconst 1, 1) := by decide +kernel
theorem dX7_isOn_30 : decode cX7_isOn 30 = .ok (.iadd, 1) := by decide +kernel
theorem dX7_isOn_31 : decode cX7_isOn 31 = .ok (.iload_n 3, 1) := by decide +kernel
theorem dX7_isOn_32 : decode cX7_isOn 32 = .ok (.invokevirtual 96, 3) := by decide +kernel
theorem dX7_isOn_35 : decode cX7_isOn 35 = .ok (.iload 4, 2) := by decide +kernel
theorem dX7_isOn_37 : decode cX7_isOn 37 = .ok (.iadd, 1) := by decide +kernel
theorem dX7_isOn_38 : decode cX7_isOn 38 = .ok (.bipush 60, 2) := by decide +kernel
theorem dX7_isOn_40 : decode cX7_isOn 40 = .ok (.iload_n 2, 1) := by decide +kernel
theorem dX7_isOn_41 : decode cX7_isOn 41 = .ok (.iload_n 3, 1) := by decide +kernel
theorem dX7_isOn_42 : decode cX7_isOn 42 = .ok (.iadd, 1) := by decide +kernel
theorem dX7_isOn_43 : decode cX7_isOn 43 = .ok (.idiv, 1) := by decide +kernel
theorem dX7_isOn_44 : decode cX7_isOn 44 = .ok (.isub, 1) := by decide +kernel
theorem dX7_isOn_45 : decode cX7_isOn 45 = .ok (.iaload, 1) := by decide +kernel
theorem dX7_isOn_46 : decode cX7_isOn 46 = .ok (.istore 5, 2) := by decide +kernel
theorem dX7_isOn_48 : decode cX7_isOn 48 = .ok (.iload 5, 2) := by decide +kernel
theorem dX7_isOn_50 : decode cX7_isOn 50 = .ok (.ldc 100, 2) := by decide +kernel
theorem dX7_isOn_52 : decode cX7_isOn 52 = .ok (.if_icmp .ge 34, 3) := by decide +kernel
theorem dX7_isOn_55 : decode cX7_isOn 55 = .ok (.aload_n 0, 1) := by decide +kernel
theorem dX7_isOn_56 : decode cX7_isOn 56 = .ok (.iload_n 1, 1) := by decide +kernel
theorem dX7_isOn_57 : decode cX7_isOn 57 = .ok (.iload_n 2, 1) := by decide +kernel
theorem dX7_isOn_58 : decode cX7_isOn 58 = .ok (.iload_n 3, 1) := by decide +kernel
theorem dX7_isOn_59 : decode cX7_isOn 59 = .ok (.invokevirtual 93, 3) := by decide +kernel
theorem dX7_isOn_62 : decode cX7_isOn 62 = .ok (.iload 5, 2) := by decide +kernel
theorem dX7_isOn_64 : decode cX7_isOn 64 = .ok (.iadd, 1) := by decide +kernel
theorem dX7_isOn_65 : decode cX7_isOn 65 = .ok (.aload_n 0, 1) := by decide +kernel
theorem dX7_isOn_66 : decode cX7_isOn 66 = .ok (.getfield 31, 3) := by decide +kernel
theorem dX7_isOn_69 : decode cX7_isOn 69 = .ok (.aload_n 0, 1) := by decide +kernel
theorem dX7_isOn_70 : decode cX7_isOn 70 = .ok (.iload_n 1, 1) := by decide +kernel
theorem dX7_isOn_71 : decode cX7_isOn 71 = .ok (.iload_n 2, 1) := by decide +kernel
theorem dX7_isOn_72 : decode cX7_isOn 72 = .ok (.invokevirtual 96, 3) := by decide +kernel
theorem dX7_isOn_75 : decode cX7_isOn 75 = .ok (.iload 4, 2) := by decide +kernel
theorem dX7_isOn_77 : decode cX7_isOn 77 = .ok (.iadd, 1) := by decide +kernel
theorem dX7_isOn_78 : decode cX7_isOn 78 = .ok (.iaload, 1) := by decide +kernel
theorem dX7_isOn_79 : decode cX7_isOn 79 = .ok (.if_icmp .ne 7, 3) := by decide +kernel
theorem dX7_isOn_82 : decode cX7_isOn 82 = .ok (.iconst 1, 1) := by decide +kernel
theorem dX7_isOn_83 : decode cX7_isOn 83 = .ok (.goto 4, 3) := by decide +kernel
theorem dX7_isOn_86 : decode cX7_isOn 86 = .ok (.iconst 0, 1) := by decide +kernel
theorem dX7_isOn_87 : decode cX7_isOn 87 = .ok (.ireturn, 1) := by decide +kernel
set_option maxRecDepth 20000 in
theorem ggX7_draw_X7_work : GoodIn wsX7_draw wsX7_work := goodIn_r _ [10, 2, 3, 11, 12, 13, 9, 14, 15, 16, 17, 18, 19, 20, 21, 22, 23, 24, 25, 26, 27, 28, 29, 30, 31, 32, 33, 34, 35, 36, 37, 38, 39, 40, 41, 42, 43, 44, 45, 46, 47, 48, 49, 50, 51, 52, 53, 54, 55, 56] (by decide +kernel) (by decide +kernel)
set_option maxRecDepth 20000 in
theorem gX7_draw_X7_work : GoodIn wsX7_draw (wsV RX7 105 RX7 yX7_work wsX7_work) := goodIn_app (goodIn_of _ (by decide +kernel)) ggX7_draw_X7_work
set_option maxRecDepth 20000 in
theorem ggX7_draw_X7_firstOf : GoodIn wsX7_draw wsX7_firstOf := goodIn_r _ [14, 15, 16, 17, 9, 18, 19, 43, 44, 45, 46, 47, 48, 49, 50, 51, 52, 53, 54, 55, 56] (by decide +kernel) (by decide +kernel)
set_option maxRecDepth 20000 in
theorem gX7_draw_X7_firstOf : GoodIn wsX7_draw (wsV RX7 76 RX7 yX7_firstOf wsX7_firstOf) := goodIn_app (goodIn_of _ (by decide +kernel)) ggX7_draw_X7_firstOf
set_option maxRecDepth 20000 in
theorem ggX7_draw_X7_place : GoodIn wsX7_draw wsX7_place := goodIn_r _ [23] (by decide +kernel) (by decide +kernel)
set_option maxRecDepth 20000 in
theorem gX7_draw_X7_place : GoodIn wsX7_draw (wsV RX7 96 RX7 yX7_place wsX7_place) := goodIn_app (goodIn_of _ (by decide +kernel)) ggX7_draw_X7_place
theorem dX7_draw_0 : decode cX7_draw 0 = .ok (.aload_n 0, 1) := by decide +kernel
theorem dX7_draw_1 : decode cX7_draw 1 = .ok (.iload_n 1, 1) := by decide +kernel
theorem dX7_draw_2 : decode cX7_draw 2 = .ok (.invokevirtual 105, 3) := by decide +kernel
theorem dX7_draw_5 : decode cX7_draw 5 = .ok (.aload_n 0, 1) := by decide +kernel
theorem dX7_draw_6 : decode cX7_draw 6 = .ok (.aload_n 0, 1) := by decide +kernel
theorem dX7_draw_7 : decode cX7_draw 7 = .ok (.iload_n 1, 1) := by decide +kernel
theorem dX7_draw_8 : decode cX7_draw 8 = .ok (.invokevirtual 76, 3) := by decide +kernel
theorem dX7_draw_11 : decode cX7_draw 11 = .ok (.iconst 0, 1) := by decide +kernel
theorem dX7_draw_12 : decode cX7_draw 12 = .ok (.invokevirtual 96, 3) := by decide +kernel
theorem dX7_draw_15 : decode cX7_draw 15 = .ok (.istore_n 2, 1) := by decide +kernel
theorem dX7_draw_16 : decode cX7_draw 16 = .ok (.aload_n 0, 1) := by decide +kernel
theorem dX7_draw_17 : decode cX7_draw 17 = .ok (.iconst 0, 1) := by decide +kernel
theorem dX7_draw_18 : decode cX7_draw 18 = .ok (.putfield 118, 3) := by decide +kernel
theorem dX7_draw_21 : decode cX7_draw 21 = .ok (.iconst 0, 1) := by decide +kernel
theorem dX7_draw_22 : decode cX7_draw 22 = .ok (.istore_n 3, 1) := by decide +kernel
theorem dX7_draw_23 : decode cX7_draw 23 = .ok (.iload_n 3, 1) := by decide +kernel
theorem dX7_draw_24 : decode cX7_draw 24 = .ok (.sipush 1001, 3) := by decide +kernel
theorem dX7_draw_27 : decode cX7_draw 27 = .ok (.if_icmp .ge 88, 3) := by decide +kernel
theorem dX7_draw_30 : decode cX7_draw 30 = .ok (.aload_n 0, 1) := by decide +kernel
theorem dX7_draw_31 : decode cX7_draw 31 = .ok (.getfield 31, 3) := by decide +kernel
theorem dX7_draw_34 : decode cX7_draw 34 = .ok (.iload_n 2, 1) := by decide +kernel
theorem dX7_draw_35 : decode cX7_draw 35 = .ok (.iload_n 3, 1) := by decide +kernel
theorem dX7_draw_36 : decode cX7_draw 36 = .ok (.iadd, 1) := by decide +kernel
theorem dX7_draw_37 : decode cX7_draw 37 = .ok (.iaload, 1) := by decide +kernel
theorem dX7_draw_38 : decode cX7_draw 38 = .ok (.ldc 100, 2) := by decide +kernel
theorem dX7_draw_40 : decode cX7_draw 40 = .ok (.if_icmp .ge 69, 3) := by decide +kernel
theorem dX7_draw_43 : decode cX7_draw 43 = .ok (.aload_n 0, 1) := by decide +kernel
theorem dX7_draw_44 : decode cX7_draw 44 = .ok (.getfield 118, 3) := by decide +kernel
theorem dX7_draw_47 : decode cX7_draw 47 = .ok (.ifCond .eq 25, 3) := by decide +kernel
theorem dX7_draw_50 : decode cX7_draw 50 = .ok (.aload_n 0, 1) := by decide +kernel
theorem dX7_draw_51 : decode cX7_draw 51 = .ok (.getfield 31, 3) := by decide +kernel
theorem dX7_draw_54 : decode cX7_draw 54 = .ok (.iload_n 2, 1) := by decide +kernel
theorem dX7_draw_55 : decode cX7_draw 55 = .ok (.iload_n 3, 1) := by decide +kernel
theorem dX7_draw_56 : decode cX7_draw 56 = .ok (.iadd, 1) := by decide +kernel
theorem dX7_draw_57 : decode cX7_draw 57 = .ok (.iaload, 1) := by decide +kernel
theorem dX7_draw_58 : decode cX7_draw 58 = .ok (.aload_n 0, 1) := by decide +kernel
theorem dX7_draw_59 : decode cX7_draw 59 = .ok (.getfield 37, 3) := by decide +kernel
theorem dX7_draw_62 : decode cX7_draw 62 = .ok (.aload_n 0, 1) := by decide +kernel
theorem dX7_draw_63 : decode cX7_draw 63 = .ok (.getfield 118, 3) := by decide +kernel
theorem dX7_draw_66 : decode cX7_draw 66 = .ok (.iconst 1, 1) := by decide +kernel
theorem dX7_draw_67 : decode cX7_draw 67 = .ok (.isub, 1) := by decide +kernel
theorem dX7_draw_68 : decode cX7_draw 68 = .ok (.iaload, 1) := by decide +kernel
theorem dX7_draw_69 : decode cX7_draw 69 = .ok (.if_icmp .ge 40, 3) := by decide +kernel
theorem dX7_draw_72 : decode cX7_draw 72 = .ok (.aload_n 0, 1) := by decide +kernel
theorem dX7_draw_73 : decode cX7_draw 73 = .ok (.getfield 34, 3) := by decide +kernel
theorem dX7_draw_76 : decode cX7_draw 76 = .ok (.aload_n 0, 1) := by decide +kernel
theorem dX7_draw_77 : decode cX7_draw 77 = .ok (.getfield 118, 3) := by decide +kernel
theorem dX7_draw_80 : decode cX7_draw 80 = .ok (.iload_n 3, 1) := by decide +kernel
theorem dX7_draw_81 : decode cX7_draw 81 = .ok (.iastore, 1) := by decide +kernel
theorem dX7_draw_82 : decode cX7_draw 82 = .ok (.aload_n 0, 1) := by decide +kernel
theorem dX7_draw_83 : decode cX7_draw 83 = .ok (.getfield 37, 3) := by decide +kernel
theorem dX7_draw_86 : decode cX7_draw 86 = .ok (.aload_n 0, 1) := by decide +kernel
theorem dX7_draw_87 : decode cX7_draw 87 = .ok (.getfield 118, 3) := by decide +kernel
theorem dX7_draw_90 : decode cX7_draw 90 = .ok (.aload_n 0, 1) := by decide +kernel
theorem dX7_draw_91 : decode cX7_draw 91 = .ok (.getfield 31, 3) := by decide +kernel
theorem dX7_draw_94 : decode cX7_draw 94 = .ok (.iload_n 2, 1) := by decide +kernel
theorem dX7_draw_95 : decode cX7_draw 95 = .ok (.iload_n 3, 1) := by decide +kernel
theorem dX7_draw_96 : decode cX7_draw 96 = .ok (.iadd, 1) := by decide +kernel
theorem dX7_draw_97 : decode cX7_draw 97 = .ok (.iaload, 1) := by decide +kernel
theorem dX7_draw_98 : decode cX7_draw 98 = .ok (.iastore, 1) := by decide +kernel
theorem dX7_draw_99 : decode cX7_draw 99 = .ok (.aload_n 0, 1) := by decide +kernel
theorem dX7_draw_100 : decode cX7_draw 100 = .ok (.dup, 1) := by decide +kernel
theorem dX7_draw_101 : decode cX7_draw 101 = .ok (.getfield 118, 3) := by decide +kernel
theorem dX7_draw_104 : decode cX7_draw 104 = .ok (.iconst 1, 1) := by decide +kernel
theorem dX7_draw_105 : decode cX7_draw 105 = .ok (.iadd, 1) := by decide +kernel
theorem dX7_draw_106 : decode cX7_draw 106 = .ok (.putfield 118, 3) := by decide +kernel
theorem dX7_draw_109 : decode cX7_draw 109 = .ok (.iinc 3 1, 3) := by decide +kernel
theorem dX7_draw_112 : decode cX7_draw 112 = .ok (.goto (-89), 3) := by decide +kernel
theorem dX7_draw_115 : decode cX7_draw 115 = .ok (.return_, 1) := by decide +kernel
set_option maxRecDepth 20000 in
theorem ggX7_curve_X7_isLeg : GoodIn wsX7_curve wsX7_isLeg := goodIn_r _ [6, 7, 8, 9, 5, 10, 11, 12, 13, 14, 15, 59, 60, 61, 62, 63, 64, 65, 66, 67, 68, 69, 70, 71, 72] (by decide +kernel) (by decide +kernel)
set_option maxRecDepth 20000 in
theorem gX7_curve_X7_isLeg : GoodIn wsX7_curve (wsV RX7 73 RX7 yX7_isLeg wsX7_isLeg) := goodIn_app (goodIn_of _ (by decide +kernel)) ggX7_curve_X7_isLeg
set_option maxRecDepth 20000 in
theorem ggX7_curve_X7_draw : GoodIn wsX7_curve wsX7_draw := goodIn_r _ [19, 1, 20, 21, 22, 23, 24, 25, 26, 5, 27, 28, 29, 30, 31, 32, 33, 34, 35, 12, 36, 37, 38, 39, 40, 41, 42, 43, 44, 45, 46, 47, 48, 49, 50, 51, 52, 53, 54, 55, 56, 57, 58, 59, 60, 61, 62, 63, 64, 65, 66, 67, 68, 69, 70, 71, 72] (by decide +kernel) (by decide +kernel)
set_option maxRecDepth 20000 in
theorem gX7_curve_X7_draw : GoodIn wsX7_curve (wsV RX7 121 RX7 yX7_draw wsX7_draw) := goodIn_app (goodIn_of _ (by decide +kernel)) ggX7_curve_X7_draw
theorem dX7_curve_0 : decode cX7_curve 0 = .ok (.aload_n 0, 1) := by decide +kernel
theorem dX7_curve_1 : decode cX7_curve 1 = .ok (.iload_n 1, 1) := by decide +kernel
theorem dX7_curve_2 : decode cX7_curve 2 = .ok (.invokevirtual 73, 3) := by decide +kernel
theorem dX7_curve_5 : decode cX7_curve 5 = .ok (.ifCond .ne 5, 3) := by decide +kernel
theorem dX7_curve_8 : decode cX7_curve 8 = .ok (.iconst (-1), 1) := by decide +kernel
theorem dX7_curve_9 : decode cX7_curve 9 = .ok (.ireturn, 1) := by decide +kernel
theorem dX7_curve_10 : decode cX7_curve 10 = .ok (.aload_n 0, 1) := by decide +kernel
theorem dX7_curve_11 : decode cX7_curve 11 = .ok (.iload_n 1, 1) := by decide +kernel
theorem dX7_curve_12 : decode cX7_curve 12 = .ok (.invokevirtual 121, 3) := by decide +kernel
theorem dX7_curve_15 : decode cX7_curve 15 = .ok (.aload_n 0, 1) := by decide +kernel
theorem dX7_curve_16 : decode cX7_curve 16 = .ok (.getfield 118, 3) := by decide +kernel
theorem dX7_curve_19 : decode cX7_curve 19 = .ok (.ireturn, 1) := by decide +kernel
set_option maxRecDepth 20000 in
theorem ggX7_point_X7_isLeg : GoodIn wsX7_point wsX7_isLeg := goodIn_r _ [9, 10, 11, 12, 8, 13, 14, 15, 16, 17, 18, 60, 61, 62, 63, 64, 65, 66, 67, 68, 69, 70, 71, 72, 73] (by decide +kernel) (by decide +kernel)
set_option maxRecDepth 20000 in
theorem gX7_point_X7_isLeg : GoodIn wsX7_point (wsV RX7 73 RX7 yX7_isLeg wsX7_isLeg) := goodIn_app (goodIn_of _ (by decide +kernel)) ggX7_point_X7_isLeg
set_option maxRecDepth 20000 in
theorem ggX7_point_X7_draw : GoodIn wsX7_point wsX7_draw := goodIn_r _ [22, 1, 23, 24, 3, 4, 25, 26, 27, 8, 28, 29, 30, 31, 32, 33, 34, 35, 36, 15, 37, 38, 39, 40, 41, 42, 43, 44, 45, 46, 47, 48, 49, 50, 51, 52, 53, 54, 55, 56, 57, 58, 59, 60, 61, 62, 63, 64, 65, 66, 67, 68, 69, 70, 71, 72, 73] (by decide +kernel) (by decide +kernel)
set_option maxRecDepth 20000 in
theorem gX7_point_X7_draw : GoodIn wsX7_point (wsV RX7 121 RX7 yX7_draw wsX7_draw) := goodIn_app (goodIn_of _ (by decide +kernel)) ggX7_point_X7_draw
set_option maxRecDepth 20000 in
theorem ggX7_point_X7_in : GoodIn wsX7_point wsX7_in := goodIn_r _ [18] (by decide +kernel) (by decide +kernel)
set_option maxRecDepth 20000 in
theorem gX7_point_X7_in : GoodIn wsX7_point (va_wsS RX7 50 yX7_in wsX7_in) := goodIn_app (goodIn_of _ (by decide +kernel)) ggX7_point_X7_in
theorem dX7_point_0 : decode cX7_point 0 = .ok (.aload_n 0, 1) := by decide +kernel
theorem dX7_point_1 : decode cX7_point 1 = .ok (.iload_n 1, 1) := by decide +kernel
theorem dX7_point_2 : decode cX7_point 2 = .ok (.invokevirtual 73, 3) := by decide +kernel
theorem dX7_point_5 : decode cX7_point 5 = .ok (.ifCond .ne 5, 3) := by decide +kernel
theorem dX7_point_8 : decode cX7_point 8 = .ok (.iconst (-1), 1) := by decide +kernel
theorem dX7_point_9 : decode cX7_point 9 = .ok (.ireturn, 1) := by decide +kernel
theorem dX7_point_10 : decode cX7_point 10 = .ok (.aload_n 0, 1) := by decide +kernel
theorem dX7_point_11 : decode cX7_point 11 = .ok (.iload_n 1, 1) := by decide +kernel
theorem dX7_point_12 : decode cX7_point 12 = .ok (.invokevirtual 121, 3) := by decide +kernel
theorem dX7_point_15 : decode cX7_point 15 = .ok (.iload_n 2, 1) := by decide +kernel
theorem dX7_point_16 : decode cX7_point 16 = .ok (.iconst 0, 1) := by decide +kernel
theorem dX7_point_17 : decode cX7_point 17 = .ok (.aload_n 0, 1) := by decide +kernel
theorem dX7_point_18 : decode cX7_point 18 = .ok (.getfield 118, 3) := by decide +kernel
theorem dX7_point_21 : decode cX7_point 21 = .ok (.iconst 1, 1) := by decide +kernel
theorem dX7_point_22 : decode cX7_point 22 = .ok (.isub, 1) := by decide +kernel
theorem dX7_point_23 : decode cX7_point 23 = .ok (.invokestatic 50, 3) := by decide +kernel
theorem dX7_point_26 : decode cX7_point 26 = .ok (.ifCond .ne 8, 3) := by decide +kernel
theorem dX7_point_29 : decode cX7_point 29 = .ok (.ldc 92, 2) := by decide +kernel
theorem dX7_point_31 : decode cX7_point 31 = .ok (.goto 22, 3) := by decide +kernel
theorem dX7_point_34 : decode cX7_point 34 = .ok (.iload_n 3, 1) := by decide +kernel
theorem dX7_point_35 : decode cX7_point 35 = .ok (.ifCond .eq 12, 3) := by decide +kernel
theorem dX7_point_38 : decode cX7_point 38 = .ok (.aload_n 0, 1) := by decide +kernel
theorem dX7_point_39 : decode cX7_point 39 = .ok (.getfield 37, 3) := by decide +kernel
theorem dX7_point_42 : decode cX7_point 42 = .ok (.iload_n 2, 1) := by decide +kernel
theorem dX7_point_43 : decode cX7_point 43 = .ok (.iaload, 1) := by decide +kernel
theorem dX7_point_44 : decode cX7_point 44 = .ok (.goto 9, 3) := by decide +kernel
theorem dX7_point_47 : decode cX7_point 47 = .ok (.aload_n 0, 1) := by decide +kernel
theorem dX7_point_48 : decode cX7_point 48 = .ok (.getfield 34, 3) := by decide +kernel
theorem dX7_point_51 : decode cX7_point 51 = .ok (.iload_n 2, 1) := by decide +kernel
theorem dX7_point_52 : decode cX7_point 52 = .ok (.iaload, 1) := by decide +kernel
theorem dX7_point_53 : decode cX7_point 53 = .ok (.ireturn, 1) := by decide +kernel
set_option maxRecDepth 20000 in
theorem ggX7_shareAll_X7_legs : GoodIn wsX7_shareAll wsX7_legs := goodIn_r _ [13, 14, 15, 56, 57, 58, 59, 60, 61, 62, 63, 64, 65, 66, 67, 68, 69] (by decide +kernel) (by decide +kernel)
set_option maxRecDepth 20000 in
theorem gX7_shareAll_X7_legs : GoodIn wsX7_shareAll (wsV RX7 65 RX7 yX7_legs wsX7_legs) := goodIn_app (goodIn_of _ (by decide +kernel)) ggX7_shareAll_X7_legs
set_option maxRecDepth 20000 in
theorem ggX7_shareAll_X7_draw : GoodIn wsX7_shareAll wsX7_draw := goodIn_r _ [19, 6, 20, 3, 8, 7, 21, 22, 23, 12, 24, 25, 26, 27, 28, 29, 30, 31, 32, 15, 33, 34, 35, 36, 37, 38, 39, 40, 41, 42, 43, 44, 45, 46, 47, 48, 49, 50, 51, 52, 53, 54, 55, 56, 57, 58, 59, 60, 61, 62, 63, 64, 65, 66, 67, 68, 69] (by decide +kernel) (by decide +kernel)
set_option maxRecDepth 20000 in
theorem gX7_shareAll_X7_draw : GoodIn wsX7_shareAll (wsV RX7 121 RX7 yX7_draw wsX7_draw) := goodIn_app (goodIn_of _ (by decide +kernel)) ggX7_shareAll_X7_draw
theorem dX7_shareAll_0 : decode cX7_shareAll 0 = .ok (.aload_n 0, 1) := by decide +kernel
theorem dX7_shareAll_1 : decode cX7_shareAll 1 = .ok (.getfield 57, 3) := by decide +kernel
theorem dX7_shareAll_4 : decode cX7_shareAll 4 = .ok (.ifCond .eq 4, 3) := by decide +kernel
theorem dX7_shareAll_7 : decode cX7_shareAll 7 = .ok (.return_, 1) := by decide +kernel
theorem dX7_shareAll_8 : decode cX7_shareAll 8 = .ok (.aload_n 0, 1) := by decide +kernel
theorem dX7_shareAll_9 : decode cX7_shareAll 9 = .ok (.iconst 1, 1) := by decide +kernel
theorem dX7_shareAll_10 : decode cX7_shareAll 10 = .ok (.putfield 57, 3) := by decide +kernel
theorem dX7_shareAll_13 : decode cX7_shareAll 13 = .ok (.aload_n 0, 1) := by decide +kernel
theorem dX7_shareAll_14 : decode cX7_shareAll 14 = .ok (.invokevirtual 65, 3) := by decide +kernel
theorem dX7_shareAll_17 : decode cX7_shareAll 17 = .ok (.istore_n 1, 1) := by decide +kernel
theorem dX7_shareAll_18 : decode cX7_shareAll 18 = .ok (.iconst 0, 1) := by decide +kernel
theorem dX7_shareAll_19 : decode cX7_shareAll 19 = .ok (.istore_n 2, 1) := by decide +kernel
theorem dX7_shareAll_20 : decode cX7_shareAll 20 = .ok (.iload_n 2, 1) := by decide +kernel
theorem dX7_shareAll_21 : decode cX7_shareAll 21 = .ok (.sipush 1001, 3) := by decide +kernel
theorem dX7_shareAll_24 : decode cX7_shareAll 24 = .ok (.if_icmp .ge 22, 3) := by decide +kernel
theorem dX7_shareAll_27 : decode cX7_shareAll 27 = .ok (.aload_n 0, 1) := by decide +kernel
theorem dX7_shareAll_28 : decode cX7_shareAll 28 = .ok (.getfield 40, 3) := by decide +kernel
theorem dX7_shareAll_31 : decode cX7_shareAll 31 = .ok (.sipush 1001, 3) := by decide +kernel
theorem dX7_shareAll_34 : decode cX7_shareAll 34 = .ok (.iload_n 1, 1) := by decide +kernel
theorem dX7_shareAll_35 : decode cX7_shareAll 35 = .ok (.imul, 1) := by decide +kernel
theorem dX7_shareAll_36 : decode cX7_shareAll 36 = .ok (.iload_n 2, 1) := by decide +kernel
theorem dX7_shareAll_37 : decode cX7_shareAll 37 = .ok (.iadd, 1) := by decide +kernel
theorem dX7_shareAll_38 : decode cX7_shareAll 38 = .ok (.iconst 0, 1) := by decide +kernel
theorem dX7_shareAll_39 : decode cX7_shareAll 39 = .ok (.iastore, 1) := by decide +kernel
theorem dX7_shareAll_40 : decode cX7_shareAll 40 = .ok (.iinc 2 1, 3) := by decide +kernel
theorem dX7_shareAll_43 : decode cX7_shareAll 43 = .ok (.goto (-23), 3) := by decide +kernel
theorem dX7_shareAll_46 : decode cX7_shareAll 46 = .ok (.iload_n 1, 1) := by decide +kernel
theorem dX7_shareAll_47 : decode cX7_shareAll 47 = .ok (.iconst 1, 1) := by decide +kernel
theorem dX7_shareAll_48 : decode cX7_shareAll 48 = .ok (.isub, 1) := by decide +kernel
theorem dX7_shareAll_49 : decode cX7_shareAll 49 = .ok (.istore_n 2, 1) := by decide +kernel
theorem dX7_shareAll_50 : decode cX7_shareAll 50 = .ok (.iload_n 2, 1) := by decide +kernel
theorem dX7_shareAll_51 : decode cX7_shareAll 51 = .ok (.ifCond .lt 183, 3) := by decide +kernel
theorem dX7_shareAll_54 : decode cX7_shareAll 54 = .ok (.aload_n 0, 1) := by decide +kernel
theorem dX7_shareAll_55 : decode cX7_shareAll 55 = .ok (.iload_n 2, 1) := by decide +kernel
theorem dX7_shareAll_56 : decode cX7_shareAll 56 = .ok (.invokevirtual 121, 3) := by decide +kernel
theorem dX7_shareAll_59 : decode cX7_shareAll 59 = .ok (.iconst 0, 1) := by decide +kernel
theorem dX7_shareAll_60 : decode cX7_shareAll 60 = .ok (.istore_n 3, 1) := by decide +kernel
theorem dX7_shareAll_61 : decode cX7_shareAll 61 = .ok (.iload_n 3, 1) := by decide +kernel
theorem dX7_shareAll_62 : decode cX7_shareAll 62 = .ok (.sipush 1001, 3) := by decide +kernel
theorem dX7_shareAll_65 : decode cX7_shareAll 65 = .ok (.if_icmp .ge 163, 3) := by decide +kernel
theorem dX7_shareAll_68 : decode cX7_shareAll 68 = .ok (.aload_n 0, 1) := by decide +kernel
theorem dX7_shareAll_69 : decode cX7_shareAll 69 = .ok (.getfield 40, 3) := by decide +kernel
theorem dX7_shareAll_72 : decode cX7_shareAll 72 = .ok (.sipush 1001, 3) := by decide +kernel
theorem dX7_shareAll_75 : decode cX7_shareAll 75 = .ok (.iload_n 2, 1) := by decide +kernel
theorem dX7_shareAll_76 : decode cX7_shareAll 76 = .ok (.imul, 1) := by decide +kernel
theorem dX7_shareAll_77 : decode cX7_shareAll 77 = .ok (.iload_n 3, 1) := by decide +kernel
theorem dX7_shareAll_78 : decode cX7_shareAll 78 = .ok (.iadd, 1) := by decide +kernel
theorem dX7_shareAll_79 : decode cX7_shareAll 79 = .ok (.ldc 100, 2) := by decide +kernel
theorem dX7_shareAll_81 : decode cX7_shareAll 81 = .ok (.iastore, 1) := by decide +kernel
theorem dX7_shareAll_82 : decode cX7_shareAll 82 = .ok (.aload_n 0, 1) := by decide +kernel
theorem dX7_shareAll_83 : decode cX7_shareAll 83 = .ok (.getfield 43, 3) := by decide +kernel
theorem dX7_shareAll_86 : decode cX7_shareAll 86 = .ok (.sipush 1001, 3) := by decide +kernel
theorem dX7_shareAll_89 : decode cX7_shareAll 89 = .ok (.iload_n 2, 1) := by decide +kernel
theorem dX7_shareAll_90 : decode cX7_shareAll 90 = .ok (.imul, 1) := by decide +kernel
theorem dX7_shareAll_91 : decode cX7_shareAll 91 = .ok (.iload_n 3, 1) := by decide +kernel
theorem dX7_shareAll_92 : decode cX7_shareAll 92 = .ok (.iadd, 1) := by decide +kernel
theorem dX7_shareAll_93 : decode cX7_shareAll 93 = .ok (.ldc 92, 2) := by decide +kernel
theorem dX7_shareAll_95 : decode cX7_shareAll 95 = .ok (.iastore, 1) := by decide +kernel
theorem dX7_shareAll_96 : decode cX7_shareAll 96 = .ok (.iconst 0, 1) := by decide +kernel
theorem dX7_shareAll_97 : decode cX7_shareAll 97 = .ok (.istore 4, 2) := by decide +kernel
theorem dX7_shareAll_99 : decode cX7_shareAll 99 = .ok (.iload 4, 2) := by decide +kernel
theorem dX7_shareAll_101 : decode cX7_shareAll 101 = .ok (.aload_n 0, 1) := by decide +kernel
theorem dX7_shareAll_102 : decode cX7_shareAll 102 = .ok (.getfield 118, 3) := by decide +kernel
theorem dX7_shareAll_105 : decode cX7_shareAll 105 = .ok (.if_icmp .ge 117, 3) := by decide +kernel
theorem dX7_shareAll_108 : decode cX7_shareAll 108 = .ok (.aload_n 0, 1) := by decide +kernel
theorem dX7_shareAll_109 : decode cX7_shareAll 109 = .ok (.getfield 34, 3) := by decide +kernel
theorem dX7_shareAll_112 : decode cX7_shareAll 112 = .ok (.iload 4, 2) := by decide +kernel
theorem dX7_shareAll_114 : decode cX7_shareAll 114 = .ok (.iaload, 1) := by decide +kernel
theorem dX7_shareAll_115 : decode cX7_shareAll 115 = .ok (.iload_n 3, 1) := by decide +kernel
theorem dX7_shareAll_116 : decode cX7_shareAll 116 = .ok (.if_icmp .gt 106, 3) := by decide +kernel
theorem dX7_shareAll_119 : decode cX7_shareAll 119 = .ok (.aload_n 0, 1) := by decide +kernel
theorem dX7_shareAll_120 : decode cX7_shareAll 120 = .ok (.getfield 40, 3) := by decide +kernel
theorem dX7_shareAll_123 : decode cX7_shareAll 123 = .ok (.sipush 1001, 3) := by decide +kernel
theorem dX7_shareAll_126 : decode cX7_shareAll 126 = .ok (.iload_n 2, 1) := by decide +kernel
theorem dX7_shareAll_127 : decode cX7_shareAll 127 = .ok (.iconst 1, 1) := by decide +kernel
theorem dX7_shareAll_128 : decode cX7_shareAll 128 = .ok (.iadd, 1) := by decide +kernel
theorem dX7_shareAll_129 : decode cX7_shareAll 129 = .ok (.imul, 1) := by decide +kernel
theorem dX7_shareAll_130 : decode cX7_shareAll 130 = .ok (.iload_n 3, 1) := by decide +kernel
theorem dX7_shareAll_131 : decode cX7_shareAll 131 = .ok (.iadd, 1) := by decide +kernel
theorem dX7_shareAll_132 : decode cX7_shareAll 132 = .ok (.aload_n 0, 1) := by decide +kernel
theorem dX7_shareAll_133 : decode cX7_shareAll 133 = .ok (.getfield 34, 3) := by decide +kernel
theorem dX7_shareAll_136 : decode cX7_shareAll 136 = .ok (.iload 4, 2) := by decide +kernel
theorem dX7_shareAll_138 : decode cX7_shareAll 138 = .ok (.iaload, 1) := by decide +kernel
theorem dX7_shareAll_139 : decode cX7_shareAll 139 = .ok (.isub, 1) := by decide +kernel
theorem dX7_shareAll_140 : decode cX7_shareAll 140 = .ok (.iaload, 1) := by decide +kernel
theorem dX7_shareAll_141 : decode cX7_shareAll 141 = .ok (.istore 5, 2) := by decide +kernel
theorem dX7_shareAll_143 : decode cX7_shareAll 143 = .ok (.iload 5, 2) := by decide +kernel
theorem dX7_shareAll_145 : decode cX7_shareAll 145 = .ok (.ldc 100, 2) := by decide +kernel
theorem dX7_shareAll_147 : decode cX7_shareAll 147 = .ok (.if_icmp .ge 69, 3) := by decide +kernel
theorem dX7_shareAll_150 : decode cX7_shareAll 150 = .ok (.aload_n 0, 1) := by decide +kernel
theorem dX7_shareAll_151 : decode cX7_shareAll 151 = .ok (.getfield 37, 3) := by decide +kernel
theorem dX7_shareAll_154 : decode cX7_shareAll 154 = .ok (.iload 4, 2) := by decide +kernel
theorem dX7_shareAll_156 : decode cX7_shareAll 156 = .ok (.iaload, 1) := by decide +kernel
theorem dX7_shareAll_157 : decode cX7_shareAll 157 = .ok (.iload 5, 2) := by decide +kernel
theorem dX7_shareAll_159 : decode cX7_shareAll 159 = .ok (.iadd, 1) := by decide +kernel
theorem dX7_shareAll_160 : decode cX7_shareAll 160 = .ok (.aload_n 0, 1) := by decide +kernel
theorem dX7_shareAll_161 : decode cX7_shareAll 161 = .ok (.getfield 40, 3) := by decide +kernel
theorem dX7_shareAll_164 : decode cX7_shareAll 164 = .ok (.sipush 1001, 3) := by decide +kernel
theorem dX7_shareAll_167 : decode cX7_shareAll 167 = .ok (.iload_n 2, 1) := by decide +kernel
theorem dX7_shareAll_168 : decode cX7_shareAll 168 = .ok (.imul, 1) := by decide +kernel
theorem dX7_shareAll_169 : decode cX7_shareAll 169 = .ok (.iload_n 3, 1) := by decide +kernel
theorem dX7_shareAll_170 : decode cX7_shareAll 170 = .ok (.iadd, 1) := by decide +kernel
theorem dX7_shareAll_171 : decode cX7_shareAll 171 = .ok (.iaload, 1) := by decide +kernel
theorem dX7_shareAll_172 : decode cX7_shareAll 172 = .ok (.if_icmp .ge 44, 3) := by decide +kernel
theorem dX7_shareAll_175 : decode cX7_shareAll 175 = .ok (.aload_n 0, 1) := by decide +kernel
theorem dX7_shareAll_176 : decode cX7_shareAll 176 = .ok (.getfield 40, 3) := by decide +kernel
theorem dX7_shareAll_179 : decode cX7_shareAll 179 = .ok (.sipush 1001, 3) := by decide +kernel
theorem dX7_shareAll_182 : decode cX7_shareAll 182 = .ok (.iload_n 2, 1) := by decide +kernel
theorem dX7_shareAll_183 : decode cX7_shareAll 183 = .ok (.imul, 1) := by decide +kernel
theorem dX7_shareAll_184 : decode cX7_shareAll 184 = .ok (.iload_n 3, 1) := by decide +kernel
theorem dX7_shareAll_185 : decode cX7_shareAll 185 = .ok (.iadd, 1) := by decide +kernel
theorem dX7_shareAll_186 : decode cX7_shareAll 186 = .ok (.aload_n 0, 1) := by decide +kernel
theorem dX7_shareAll_187 : decode cX7_shareAll 187 = .ok (.getfield 37, 3) := by decide +kernel
theorem dX7_shareAll_190 : decode cX7_shareAll 190 = .ok (.iload 4, 2) := by decide +kernel
theorem dX7_shareAll_192 : decode cX7_shareAll 192 = .ok (.iaload, 1) := by decide +kernel
theorem dX7_shareAll_193 : decode cX7_shareAll 193 = .ok (.iload 5, 2) := by decide +kernel
theorem dX7_shareAll_195 : decode cX7_shareAll 195 = .ok (.iadd, 1) := by decide +kernel
theorem dX7_shareAll_196 : decode cX7_shareAll 196 = .ok (.iastore, 1) := by decide +kernel
theorem dX7_shareAll_197 : decode cX7_shareAll 197 = .ok (.aload_n 0, 1) := by decide +kernel
theorem dX7_shareAll_198 : decode cX7_shareAll 198 = .ok (.getfield 43, 3) := by decide +kernel
theorem dX7_shareAll_201 : decode cX7_shareAll 201 = .ok (.sipush 1001, 3) := by decide +kernel
theorem dX7_shareAll_204 : decode cX7_shareAll 204 = .ok (.iload_n 2, 1) := by decide +kernel
theorem dX7_shareAll_205 : decode cX7_shareAll 205 = .ok (.imul, 1) := by decide +kernel
theorem dX7_shareAll_206 : decode cX7_shareAll 206 = .ok (.iload_n 3, 1) := by decide +kernel
theorem dX7_shareAll_207 : decode cX7_shareAll 207 = .ok (.iadd, 1) := by decide +kernel
theorem dX7_shareAll_208 : decode cX7_shareAll 208 = .ok (.aload_n 0, 1) := by decide +kernel
theorem dX7_shareAll_209 : decode cX7_shareAll 209 = .ok (.getfield 34, 3) := by decide +kernel
theorem dX7_shareAll_212 : decode cX7_shareAll 212 = .ok (.iload 4, 2) := by decide +kernel
theorem dX7_shareAll_214 : decode cX7_shareAll 214 = .ok (.iaload, 1) := by decide +kernel
theorem dX7_shareAll_215 : decode cX7_shareAll 215 = .ok (.iastore, 1) := by decide +kernel
theorem dX7_shareAll_216 : decode cX7_shareAll 216 = .ok (.iinc 4 1, 3) := by decide +kernel
theorem dX7_shareAll_219 : decode cX7_shareAll 219 = .ok (.goto (-120), 3) := by decide +kernel
theorem dX7_shareAll_222 : decode cX7_shareAll 222 = .ok (.iinc 3 1, 3) := by decide +kernel
theorem dX7_shareAll_225 : decode cX7_shareAll 225 = .ok (.goto (-164), 3) := by decide +kernel
theorem dX7_shareAll_228 : decode cX7_shareAll 228 = .ok (.iinc 2 (-1), 3) := by decide +kernel
theorem dX7_shareAll_231 : decode cX7_shareAll 231 = .ok (.goto (-181), 3) := by decide +kernel
theorem dX7_shareAll_234 : decode cX7_shareAll 234 = .ok (.return_, 1) := by decide +kernel
set_option maxRecDepth 20000 in
theorem ggX7_share_X7_in : GoodIn wsX7_share wsX7_in := goodIn_r _ [7] (by decide +kernel) (by decide +kernel)
set_option maxRecDepth 20000 in
theorem gX7_share_X7_in : GoodIn wsX7_share (va_wsS RX7 50 yX7_in wsX7_in) := goodIn_app (goodIn_of _ (by decide +kernel)) ggX7_share_X7_in
set_option maxRecDepth 20000 in
theorem ggX7_share_X7_shareAll : GoodIn wsX7_share wsX7_shareAll := goodIn_r _ [11, 12, 1, 2, 13, 3, 14, 15, 16, 17, 18, 19, 6, 20, 21, 22, 23, 24, 25, 26, 27, 28, 29, 30, 31, 32, 33, 34, 35, 36, 37, 38, 39, 40, 41, 42, 43, 44, 45, 46, 47, 48, 49, 50, 51, 52, 53, 54, 55, 56, 57, 58, 59, 60, 61, 62, 63, 64, 65, 66, 67, 68, 69, 70, 71, 72, 73, 74, 75, 76] (by decide +kernel) (by decide +kernel)
set_option maxRecDepth 20000 in
theorem gX7_share_X7_shareAll : GoodIn wsX7_share (wsV RX7 124 RX7 yX7_shareAll wsX7_shareAll) := goodIn_app (goodIn_of _ (by decide +kernel)) ggX7_share_X7_shareAll
theorem dX7_share_0 : decode cX7_share 0 = .ok (.iload_n 1, 1) := by decide +kernel
theorem dX7_share_1 : decode cX7_share 1 = .ok (.iconst 0, 1) := by decide +kernel
theorem dX7_share_2 : decode cX7_share 2 = .ok (.sipush 1000, 3) := by decide +kernel
theorem dX7_share_5 : decode cX7_share 5 = .ok (.invokestatic 50, 3) := by decide +kernel
theorem dX7_share_8 : decode cX7_share 8 = .ok (.ifCond .ne 6, 3) := by decide +kernel
theorem dX7_share_11 : decode cX7_share 11 = .ok (.bipush (-2), 2) := by decide +kernel
theorem dX7_share_13 : decode cX7_share 13 = .ok (.ireturn, 1) := by decide +kernel
theorem dX7_share_14 : decode cX7_share 14 = .ok (.aload_n 0, 1) := by decide +kernel
theorem dX7_share_15 : decode cX7_share 15 = .ok (.invokevirtual 124, 3) := by decide +kernel
theorem dX7_share_18 : decode cX7_share 18 = .ok (.aload_n 0, 1) := by decide +kernel
theorem dX7_share_19 : decode cX7_share 19 = .ok (.getfield 40, 3) := by decide +kernel
theorem dX7_share_22 : decode cX7_share 22 = .ok (.iload_n 1, 1) := by decide +kernel
theorem dX7_share_23 : decode cX7_share 23 = .ok (.iaload, 1) := by decide +kernel
theorem dX7_share_24 : decode cX7_share 24 = .ok (.ldc 100, 2) := by decide +kernel
theorem dX7_share_26 : decode cX7_share 26 = .ok (.if_icmp .ge 12, 3) := by decide +kernel
theorem dX7_share_29 : decode cX7_share 29 = .ok (.aload_n 0, 1) := by decide +kernel
theorem dX7_share_30 : decode cX7_share 30 = .ok (.getfield 40, 3) := by decide +kernel
theorem dX7_share_33 : decode cX7_share 33 = .ok (.iload_n 1, 1) := by decide +kernel
theorem dX7_share_34 : decode cX7_share 34 = .ok (.iaload, 1) := by decide +kernel
theorem dX7_share_35 : decode cX7_share 35 = .ok (.goto 5, 3) := by decide +kernel
theorem dX7_share_38 : decode cX7_share 38 = .ok (.ldc 92, 2) := by decide +kernel
theorem dX7_share_40 : decode cX7_share 40 = .ok (.ireturn, 1) := by decide +kernel
set_option maxRecDepth 20000 in
theorem ggX7_shareTime_X7_isLeg : GoodIn wsX7_shareTime wsX7_isLeg := goodIn_r _ [9, 10, 11, 12, 8, 13, 14, 15, 16, 17, 18, 67, 68, 69, 70, 71, 72, 73, 74, 75, 76, 77, 78, 79, 80] (by decide +kernel) (by decide +kernel)
set_option maxRecDepth 20000 in
theorem gX7_shareTime_X7_isLeg : GoodIn wsX7_shareTime (wsV RX7 73 RX7 yX7_isLeg wsX7_isLeg) := goodIn_app (goodIn_of _ (by decide +kernel)) ggX7_shareTime_X7_isLeg
set_option maxRecDepth 20000 in
theorem ggX7_shareTime_X7_in : GoodIn wsX7_shareTime wsX7_in := goodIn_r _ [18] (by decide +kernel) (by decide +kernel)
set_option maxRecDepth 20000 in
theorem gX7_shareTime_X7_in : GoodIn wsX7_shareTime (va_wsS RX7 50 yX7_in wsX7_in) := goodIn_app (goodIn_of _ (by decide +kernel)) ggX7_shareTime_X7_in
set_option maxRecDepth 20000 in
theorem ggX7_shareTime_X7_shareAll : GoodIn wsX7_shareTime wsX7_shareAll := goodIn_r _ [22, 23, 1, 2, 4, 3, 24, 25, 26, 10, 11, 12, 8, 13, 14, 15, 27, 28, 29, 30, 31, 32, 33, 34, 35, 36, 37, 38, 39, 40, 41, 42, 43, 44, 45, 46, 47, 48, 49, 50, 51, 52, 53, 54, 55, 56, 57, 58, 59, 60, 61, 62, 63, 64, 65, 66, 67, 68, 69, 70, 71, 72, 73, 74, 75, 76, 77, 78, 79, 80] (by decide +kernel) (by decide +kernel)
set_option maxRecDepth 20000 in
theorem gX7_shareTime_X7_shareAll : GoodIn wsX7_shareTime (wsV RX7 124 RX7 yX7_shareAll wsX7_shareAll) := goodIn_app (goodIn_of _ (by decide +kernel)) ggX7_shareTime_X7_shareAll
theorem dX7_shareTime_0 : decode cX7_shareTime 0 = .ok (.aload_n 0, 1) := by decide +kernel
theorem dX7_shareTime_1 : decode cX7_shareTime 1 = .ok (.iload_n 2, 1) := by decide +kernel
theorem dX7_shareTime_2 : decode cX7_shareTime 2 = .ok (.invokevirtual 73, 3) := by decide +kernel
theorem dX7_shareTime_5 : decode cX7_shareTime 5 = .ok (.ifCond .ne 5, 3) := by decide +kernel
theorem dX7_shareTime_8 : decode cX7_shareTime 8 = .ok (.iconst (-1), 1) := by decide +kernel
theorem dX7_shareTime_9 : decode cX7_shareTime 9 = .ok (.ireturn, 1) := by decide +kernel
theorem dX7_shareTime_10 : decode cX7_shareTime 10 = .ok (.iload_n 1, 1) := by decide +kernel
theorem dX7_shareTime_11 : decode cX7_shareTime 11 = .ok (.iconst 0, 1) := by decide +kernel
theorem dX7_shareTime_12 : decode cX7_shareTime 12 = .ok (.sipush 1000, 3) := by decide +kernel
theorem dX7_shareTime_15 : decode cX7_shareTime 15 = .ok (.invokestatic 50, 3) := by decide +kernel
theorem dX7_shareTime_18 : decode cX7_shareTime 18 = .ok (.ifCond .ne 6, 3) := by decide +kernel
theorem dX7_shareTime_21 : decode cX7_shareTime 21 = .ok (.bipush (-2), 2) := by decide +kernel
theorem dX7_shareTime_23 : decode cX7_shareTime 23 = .ok (.ireturn, 1) := by decide +kernel
theorem dX7_shareTime_24 : decode cX7_shareTime 24 = .ok (.aload_n 0, 1) := by decide +kernel
theorem dX7_shareTime_25 : decode cX7_shareTime 25 = .ok (.invokevirtual 124, 3) := by decide +kernel
theorem dX7_shareTime_28 : decode cX7_shareTime 28 = .ok (.aload_n 0, 1) := by decide +kernel
theorem dX7_shareTime_29 : decode cX7_shareTime 29 = .ok (.getfield 40, 3) := by decide +kernel
theorem dX7_shareTime_32 : decode cX7_shareTime 32 = .ok (.iload_n 1, 1) := by decide +kernel
theorem dX7_shareTime_33 : decode cX7_shareTime 33 = .ok (.iaload, 1) := by decide +kernel
theorem dX7_shareTime_34 : decode cX7_shareTime 34 = .ok (.ldc 100, 2) := by decide +kernel
theorem dX7_shareTime_36 : decode cX7_shareTime 36 = .ok (.if_icmp .ne 6, 3) := by decide +kernel
theorem dX7_shareTime_39 : decode cX7_shareTime 39 = .ok (.ldc 92, 2) := by decide +kernel
theorem dX7_shareTime_41 : decode cX7_shareTime 41 = .ok (.ireturn, 1) := by decide +kernel
theorem dX7_shareTime_42 : decode cX7_shareTime 42 = .ok (.iload_n 1, 1) := by decide +kernel
theorem dX7_shareTime_43 : decode cX7_shareTime 43 = .ok (.istore_n 3, 1) := by decide +kernel
theorem dX7_shareTime_44 : decode cX7_shareTime 44 = .ok (.iconst 0, 1) := by decide +kernel
theorem dX7_shareTime_45 : decode cX7_shareTime 45 = .ok (.istore 4, 2) := by decide +kernel
theorem dX7_shareTime_47 : decode cX7_shareTime 47 = .ok (.iload 4, 2) := by decide +kernel
theorem dX7_shareTime_49 : decode cX7_shareTime 49 = .ok (.iload_n 2, 1) := by decide +kernel
theorem dX7_shareTime_50 : decode cX7_shareTime 50 = .ok (.if_icmp .ge 25, 3) := by decide +kernel
theorem dX7_shareTime_53 : decode cX7_shareTime 53 = .ok (.iload_n 3, 1) := by decide +kernel
theorem dX7_shareTime_54 : decode cX7_shareTime 54 = .ok (.aload_n 0, 1) := by decide +kernel
theorem dX7_shareTime_55 : decode cX7_shareTime 55 = .ok (.getfield 43, 3) := by decide +kernel
theorem dX7_shareTime_58 : decode cX7_shareTime 58 = .ok (.sipush 1001, 3) := by decide +kernel
theorem dX7_shareTime_61 : decode cX7_shareTime 61 = .ok (.iload 4, 2) := by decide +kernel
theorem dX7_shareTime_63 : decode cX7_shareTime 63 = .ok (.imul, 1) := by decide +kernel
theorem dX7_shareTime_64 : decode cX7_shareTime 64 = .ok (.iload_n 3, 1) := by decide +kernel
theorem dX7_shareTime_65 : decode cX7_shareTime 65 = .ok (.iadd, 1) := by decide +kernel
theorem dX7_shareTime_66 : decode cX7_shareTime 66 = .ok (.iaload, 1) := by decide +kernel
theorem dX7_shareTime_67 : decode cX7_shareTime 67 = .ok (.isub, 1) := by decide +kernel
theorem dX7_shareTime_68 : decode cX7_shareTime 68 = .ok (.istore_n 3, 1) := by decide +kernel
theorem dX7_shareTime_69 : decode cX7_shareTime 69 = .ok (.iinc 4 1, 3) := by decide +kernel
theorem dX7_shareTime_72 : decode cX7_shareTime 72 = .ok (.goto (-25), 3) := by decide +kernel
theorem dX7_shareTime_75 : decode cX7_shareTime 75 = .ok (.aload_n 0, 1) := by decide +kernel
theorem dX7_shareTime_76 : decode cX7_shareTime 76 = .ok (.getfield 43, 3) := by decide +kernel
theorem dX7_shareTime_79 : decode cX7_shareTime 79 = .ok (.sipush 1001, 3) := by decide +kernel
theorem dX7_shareTime_82 : decode cX7_shareTime 82 = .ok (.iload_n 2, 1) := by decide +kernel
theorem dX7_shareTime_83 : decode cX7_shareTime 83 = .ok (.imul, 1) := by decide +kernel
theorem dX7_shareTime_84 : decode cX7_shareTime 84 = .ok (.iload_n 3, 1) := by decide +kernel
theorem dX7_shareTime_85 : decode cX7_shareTime 85 = .ok (.iadd, 1) := by decide +kernel
theorem dX7_shareTime_86 : decode cX7_shareTime 86 = .ok (.iaload, 1) := by decide +kernel
theorem dX7_shareTime_87 : decode cX7_shareTime 87 = .ok (.ireturn, 1) := by decide +kernel
set_option maxRecDepth 20000 in
theorem ggX7_needs_X7_shareAll : GoodIn wsX7_needs wsX7_shareAll := goodIn_r _ [8, 9, 1, 2, 10, 3, 11, 12, 13, 14, 15, 16, 7, 17, 18, 19, 20, 21, 22, 23, 24, 25, 26, 27, 28, 29, 30, 31, 32, 33, 34, 35, 36, 37, 38, 39, 40, 41, 42, 43, 44, 45, 46, 47, 48, 49, 50, 51, 52, 53, 54, 55, 56, 57, 58, 59, 60, 61, 62, 63, 64, 65, 66, 67, 68, 69, 70, 71, 72, 73] (by decide +kernel) (by decide +kernel)
set_option maxRecDepth 20000 in
theorem gX7_needs_X7_shareAll : GoodIn wsX7_needs (wsV RX7 124 RX7 yX7_shareAll wsX7_shareAll) := goodIn_app (goodIn_of _ (by decide +kernel)) ggX7_needs_X7_shareAll
theorem dX7_needs_0 : decode cX7_needs 0 = .ok (.aload_n 0, 1) := by decide +kernel
theorem dX7_needs_1 : decode cX7_needs 1 = .ok (.invokevirtual 124, 3) := by decide +kernel
theorem dX7_needs_4 : decode cX7_needs 4 = .ok (.iconst 0, 1) := by decide +kernel
theorem dX7_needs_5 : decode cX7_needs 5 = .ok (.istore_n 2, 1) := by decide +kernel
theorem dX7_needs_6 : decode cX7_needs 6 = .ok (.iload_n 2, 1) := by decide +kernel
theorem dX7_needs_7 : decode cX7_needs 7 = .ok (.sipush 1001, 3) := by decide +kernel
theorem dX7_needs_10 : decode cX7_needs 10 = .ok (.if_icmp .ge 32, 3) := by decide +kernel
theorem dX7_needs_13 : decode cX7_needs 13 = .ok (.aload_n 0, 1) := by decide +kernel
theorem dX7_needs_14 : decode cX7_needs 14 = .ok (.getfield 40, 3) := by decide +kernel
theorem dX7_needs_17 : decode cX7_needs 17 = .ok (.iload_n 2, 1) := by decide +kernel
theorem dX7_needs_18 : decode cX7_needs 18 = .ok (.iaload, 1) := by decide +kernel
theorem dX7_needs_19 : decode cX7_needs 19 = .ok (.ldc 100, 2) := by decide +kernel
theorem dX7_needs_21 : decode cX7_needs 21 = .ok (.if_icmp .ge 15, 3) := by decide +kernel
theorem dX7_needs_24 : decode cX7_needs 24 = .ok (.aload_n 0, 1) := by decide +kernel
theorem dX7_needs_25 : decode cX7_needs 25 = .ok (.getfield 40, 3) := by decide +kernel
theorem dX7_needs_28 : decode cX7_needs 28 = .ok (.iload_n 2, 1) := by decide +kernel
theorem dX7_needs_29 : decode cX7_needs 29 = .ok (.iaload, 1) := by decide +kernel
theorem dX7_needs_30 : decode cX7_needs 30 = .ok (.iload_n 1, 1) := by decide +kernel
theorem dX7_needs_31 : decode cX7_needs 31 = .ok (.if_icmp .gt 5, 3) := by decide +kernel
theorem dX7_needs_34 : decode cX7_needs 34 = .ok (.iload_n 2, 1) := by decide +kernel
theorem dX7_needs_35 : decode cX7_needs 35 = .ok (.ireturn, 1) := by decide +kernel
theorem dX7_needs_36 : decode cX7_needs 36 = .ok (.iinc 2 1, 3) := by decide +kernel
theorem dX7_needs_39 : decode cX7_needs 39 = .ok (.goto (-33), 3) := by decide +kernel
theorem dX7_needs_42 : decode cX7_needs 42 = .ok (.ldc 92, 2) := by decide +kernel
theorem dX7_needs_44 : decode cX7_needs 44 = .ok (.ireturn, 1) := by decide +kernel
set_option maxRecDepth 20000 in
theorem ggX7_log_X7_isSpeed : GoodIn wsX7_log wsX7_isSpeed := goodIn_r _ [7, 8, 9, 6, 10] (by decide +kernel) (by decide +kernel)
set_option maxRecDepth 20000 in
theorem gX7_log_X7_isSpeed : GoodIn wsX7_log (va_wsS RX7 83 yX7_isSpeed wsX7_isSpeed) := goodIn_app (goodIn_of _ (by decide +kernel)) ggX7_log_X7_isSpeed
theorem dX7_log_0 : decode cX7_log 0 = .ok (.iload_n 1, 1) := by decide +kernel
theorem dX7_log_1 : decode cX7_log 1 = .ok (.invokestatic 83, 3) := by decide +kernel
theorem dX7_log_4 : decode cX7_log 4 = .ok (.ifCond .ne 6, 3) := by decide +kernel
theorem dX7_log_7 : decode cX7_log 7 = .ok (.bipush (-2), 2) := by decide +kernel
theorem dX7_log_9 : decode cX7_log 9 = .ok (.ireturn, 1) := by decide +kernel
theorem dX7_log_10 : decode cX7_log 10 = .ok (.aload_n 0, 1) := by decide +kernel
theorem dX7_log_11 : decode cX7_log 11 = .ok (.getfield 54, 3) := by decide +kernel
theorem dX7_log_14 : decode cX7_log 14 = .ok (.aload_n 0, 1) := by decide +kernel
theorem dX7_log_15 : decode cX7_log 15 = .ok (.getfield 7, 3) := by decide +kernel
theorem dX7_log_18 : decode cX7_log 18 = .ok (.if_icmp .le 6, 3) := by decide +kernel
theorem dX7_log_21 : decode cX7_log 21 = .ok (.bipush (-4), 2) := by decide +kernel
theorem dX7_log_23 : decode cX7_log 23 = .ok (.ireturn, 1) := by decide +kernel
theorem dX7_log_24 : decode cX7_log 24 = .ok (.aload_n 0, 1) := by decide +kernel
theorem dX7_log_25 : decode cX7_log 25 = .ok (.getfield 27, 3) := by decide +kernel
theorem dX7_log_28 : decode cX7_log 28 = .ok (.aload_n 0, 1) := by decide +kernel
theorem dX7_log_29 : decode cX7_log 29 = .ok (.getfield 54, 3) := by decide +kernel
theorem dX7_log_32 : decode cX7_log 32 = .ok (.iload_n 1, 1) := by decide +kernel
theorem dX7_log_33 : decode cX7_log 33 = .ok (.iastore, 1) := by decide +kernel
theorem dX7_log_34 : decode cX7_log 34 = .ok (.aload_n 0, 1) := by decide +kernel
theorem dX7_log_35 : decode cX7_log 35 = .ok (.dup, 1) := by decide +kernel
theorem dX7_log_36 : decode cX7_log 36 = .ok (.getfield 54, 3) := by decide +kernel
theorem dX7_log_39 : decode cX7_log 39 = .ok (.iconst 1, 1) := by decide +kernel
theorem dX7_log_40 : decode cX7_log 40 = .ok (.iadd, 1) := by decide +kernel
theorem dX7_log_41 : decode cX7_log 41 = .ok (.putfield 54, 3) := by decide +kernel
theorem dX7_log_44 : decode cX7_log 44 = .ok (.aload_n 0, 1) := by decide +kernel
theorem dX7_log_45 : decode cX7_log 45 = .ok (.getfield 54, 3) := by decide +kernel
theorem dX7_log_48 : decode cX7_log 48 = .ok (.ireturn, 1) := by decide +kernel
theorem dX7_clear_0 : decode cX7_clear 0 = .ok (.aload_n 0, 1) := by decide +kernel
theorem dX7_clear_1 : decode cX7_clear 1 = .ok (.getfield 54, 3) := by decide +kernel
theorem dX7_clear_4 : decode cX7_clear 4 = .ok (.istore_n 1, 1) := by decide +kernel
theorem dX7_clear_5 : decode cX7_clear 5 = .ok (.aload_n 0, 1) := by decide +kernel
theorem dX7_clear_6 : decode cX7_clear 6 = .ok (.iconst 0, 1) := by decide +kernel
theorem dX7_clear_7 : decode cX7_clear 7 = .ok (.putfield 54, 3) := by decide +kernel
theorem dX7_clear_10 : decode cX7_clear 10 = .ok (.iload_n 1, 1) := by decide +kernel
theorem dX7_clear_11 : decode cX7_clear 11 = .ok (.ireturn, 1) := by decide +kernel
set_option maxRecDepth 20000 in
theorem ggX7_judged_X7_faultOf : GoodIn wsX7_judged wsX7_faultOf := goodIn_r _ [9, 10, 11, 12, 13, 14, 8, 15, 16, 21, 22, 23, 24, 25, 26, 27, 28, 29, 30, 31, 32, 33, 34] (by decide +kernel) (by decide +kernel)
set_option maxRecDepth 20000 in
theorem gX7_judged_X7_faultOf : GoodIn wsX7_judged (wsV RX7 86 RX7 yX7_faultOf wsX7_faultOf) := goodIn_app (goodIn_of _ (by decide +kernel)) ggX7_judged_X7_faultOf
set_option maxRecDepth 20000 in
theorem ggX7_judged_X7_powerOf : GoodIn wsX7_judged wsX7_powerOf := goodIn_r _ [20, 11, 12, 13, 14, 8, 15, 16, 21, 22, 23, 24, 25, 26, 27, 28, 29, 30, 31, 32, 33, 34] (by decide +kernel) (by decide +kernel)
set_option maxRecDepth 20000 in
theorem gX7_judged_X7_powerOf : GoodIn wsX7_judged (wsV RX7 93 RX7 yX7_powerOf wsX7_powerOf) := goodIn_app (goodIn_of _ (by decide +kernel)) ggX7_judged_X7_powerOf
theorem dX7_judged_0 : decode cX7_judged 0 = .ok (.iconst 0, 1) := by decide +kernel
theorem dX7_judged_1 : decode cX7_judged 1 = .ok (.istore_n 2, 1) := by decide +kernel
theorem dX7_judged_2 : decode cX7_judged 2 = .ok (.iconst 0, 1) := by decide +kernel
theorem dX7_judged_3 : decode cX7_judged 3 = .ok (.istore_n 3, 1) := by decide +kernel
theorem dX7_judged_4 : decode cX7_judged 4 = .ok (.iconst 0, 1) := by decide +kernel
theorem dX7_judged_5 : decode cX7_judged 5 = .ok (.istore 4, 2) := by decide +kernel
theorem dX7_judged_7 : decode cX7_judged 7 = .ok (.ldc 92, 2) := by decide +kernel
theorem dX7_judged_9 : decode cX7_judged 9 = .ok (.istore 5, 2) := by decide +kernel
theorem dX7_judged_11 : decode cX7_judged 11 = .ok (.iconst 0, 1) := by decide +kernel
theorem dX7_judged_12 : decode cX7_judged 12 = .ok (.istore 6, 2) := by decide +kernel
theorem dX7_judged_14 : decode cX7_judged 14 = .ok (.iconst 0, 1) := by decide +kernel
theorem dX7_judged_15 : decode cX7_judged 15 = .ok (.istore 7, 2) := by decide +kernel
theorem dX7_judged_17 : decode cX7_judged 17 = .ok (.iload 7, 2) := by decide +kernel
theorem dX7_judged_19 : decode cX7_judged 19 = .ok (.iconst 1, 1) := by decide +kernel
theorem dX7_judged_20 : decode cX7_judged 20 = .ok (.iadd, 1) := by decide +kernel
theorem dX7_judged_21 : decode cX7_judged 21 = .ok (.aload_n 0, 1) := by decide +kernel
theorem dX7_judged_22 : decode cX7_judged 22 = .ok (.getfield 54, 3) := by decide +kernel
theorem dX7_judged_25 : decode cX7_judged 25 = .ok (.if_icmp .ge 86, 3) := by decide +kernel
theorem dX7_judged_28 : decode cX7_judged 28 = .ok (.aload_n 0, 1) := by decide +kernel
theorem dX7_judged_29 : decode cX7_judged 29 = .ok (.getfield 27, 3) := by decide +kernel
theorem dX7_judged_32 : decode cX7_judged 32 = .ok (.iload 7, 2) := by decide +kernel
theorem dX7_judged_34 : decode cX7_judged 34 = .ok (.iaload, 1) := by decide +kernel
theorem dX7_judged_35 : decode cX7_judged 35 = .ok (.istore 8, 2) := by decide +kernel
theorem dX7_judged_37 : decode cX7_judged 37 = .ok (.aload_n 0, 1) := by decide +kernel
theorem dX7_judged_38 : decode cX7_judged 38 = .ok (.getfield 27, 3) := by decide +kernel
theorem dX7_judged_41 : decode cX7_judged 41 = .ok (.iload 7, 2) := by decide +kernel
theorem dX7_judged_43 : decode cX7_judged 43 = .ok (.iconst 1, 1) := by decide +kernel
theorem dX7_judged_44 : decode cX7_judged 44 = .ok (.iadd, 1) := by decide +kernel
theorem dX7_judged_45 : decode cX7_judged 45 = .ok (.iaload, 1) := by decide +kernel
theorem dX7_judged_46 : decode cX7_judged 46 = .ok (.istore 9, 2) := by decide +kernel
theorem dX7_judged_48 : decode cX7_judged 48 = .ok (.aload_n 0, 1) := by decide +kernel
theorem dX7_judged_49 : decode cX7_judged 49 = .ok (.iload 7, 2) := by decide +kernel
theorem dX7_judged_51 : decode cX7_judged 51 = .ok (.iload 8, 2) := by decide +kernel
theorem dX7_judged_53 : decode cX7_judged 53 = .ok (.iload 9, 2) := by decide +kernel
theorem dX7_judged_55 : decode cX7_judged 55 = .ok (.invokevirtual 86, 3) := by decide +kernel
theorem dX7_judged_58 : decode cX7_judged 58 = .ok (.ifCond .ne 30, 3) := by decide +kernel
theorem dX7_judged_61 : decode cX7_judged 61 = .ok (.iload_n 2, 1) := by decide +kernel
theorem dX7_judged_62 : decode cX7_judged 62 = .ok (.bipush 60, 2) := by decide +kernel
theorem dX7_judged_64 : decode cX7_judged 64 = .ok (.iload 8, 2) := by decide +kernel
theorem dX7_judged_66 : decode cX7_judged 66 = .ok (.iload 9, 2) := by decide +kernel
theorem dX7_judged_68 : decode cX7_judged 68 = .ok (.iadd, 1) := by decide +kernel
theorem dX7_judged_69 : decode cX7_judged 69 = .ok (.idiv, 1) := by decide +kernel
theorem dX7_judged_70 : decode cX7_judged 70 = .ok (.iadd, 1) := by decide +kernel
theorem dX7_judged_71 : decode cX7_judged 71 = .ok (.istore_n 2, 1) := by decide +kernel
theorem dX7_judged_72 : decode cX7_judged 72 = .ok (.iload_n 3, 1) := by decide +kernel
theorem dX7_judged_73 : decode cX7_judged 73 = .ok (.aload_n 0, 1) := by decide +kernel
theorem dX7_judged_74 : decode cX7_judged 74 = .ok (.iload 7, 2) := by decide +kernel
theorem dX7_judged_76 : decode cX7_judged 76 = .ok (.iload 8, 2) := by decide +kernel
theorem dX7_judged_78 : decode cX7_judged 78 = .ok (.iload 9, 2) := by decide +kernel
theorem dX7_judged_80 : decode cX7_judged 80 = .ok (.invokevirtual 93, 3) := by decide +kernel
theorem dX7_judged_83 : decode cX7_judged 83 = .ok (.iadd, 1) := by decide +kernel
theorem dX7_judged_84 : decode cX7_judged 84 = .ok (.istore_n 3, 1) := by decide +kernel
theorem dX7_judged_85 : decode cX7_judged 85 = .ok (.goto 20, 3) := by decide +kernel
theorem dX7_judged_88 : decode cX7_judged 88 = .ok (.iload 4, 2) := by decide +kernel
theorem dX7_judged_90 : decode cX7_judged 90 = .ok (.ifCond .ne 8, 3) := by decide +kernel
theorem dX7_judged_93 : decode cX7_judged 93 = .ok (.iload 7, 2) := by decide +kernel
theorem dX7_judged_95 : decode cX7_judged 95 = .ok (.goto 5, 3) := by decide +kernel
theorem dX7_judged_98 : decode cX7_judged 98 = .ok (.iload 5, 2) := by decide +kernel
theorem dX7_judged_100 : decode cX7_judged 100 = .ok (.istore 5, 2) := by decide +kernel
theorem dX7_judged_102 : decode cX7_judged 102 = .ok (.iinc 4 1, 3) := by decide +kernel
theorem dX7_judged_105 : decode cX7_judged 105 = .ok (.iinc 7 1, 3) := by decide +kernel
theorem dX7_judged_108 : decode cX7_judged 108 = .ok (.goto (-91), 3) := by decide +kernel
theorem dX7_judged_111 : decode cX7_judged 111 = .ok (.iconst 0, 1) := by decide +kernel
theorem dX7_judged_112 : decode cX7_judged 112 = .ok (.istore 7, 2) := by decide +kernel
theorem dX7_judged_114 : decode cX7_judged 114 = .ok (.iload 7, 2) := by decide +kernel
theorem dX7_judged_116 : decode cX7_judged 116 = .ok (.aload_n 0, 1) := by decide +kernel
theorem dX7_judged_117 : decode cX7_judged 117 = .ok (.getfield 54, 3) := by decide +kernel
theorem dX7_judged_120 : decode cX7_judged 120 = .ok (.if_icmp .ge 39, 3) := by decide +kernel
theorem dX7_judged_123 : decode cX7_judged 123 = .ok (.iload 6, 2) := by decide +kernel
theorem dX7_judged_125 : decode cX7_judged 125 = .ok (.aload_n 0, 1) := by decide +kernel
theorem dX7_judged_126 : decode cX7_judged 126 = .ok (.getfield 20, 3) := by decide +kernel
theorem dX7_judged_129 : decode cX7_judged 129 = .ok (.iload 7, 2) := by decide +kernel
theorem dX7_judged_131 : decode cX7_judged 131 = .ok (.baload, 1) := by decide +kernel
theorem dX7_judged_132 : decode cX7_judged 132 = .ok (.ifCond .eq 17, 3) := by decide +kernel
theorem dX7_judged_135 : decode cX7_judged 135 = .ok (.aload_n 0, 1) := by decide +kernel
theorem dX7_judged_136 : decode cX7_judged 136 = .ok (.getfield 27, 3) := by decide +kernel
theorem dX7_judged_139 : decode cX7_judged 139 = .ok (.iload 7, 2) := by decide +kernel
theorem dX7_judged_141 : decode cX7_judged 141 = .ok (.iaload, 1) := by decide +kernel
theorem dX7_judged_142 : decode cX7_judged 142 = .ok (.ifCond .le 7, 3) := by decide +kernel
theorem dX7_judged_145 : decode cX7_judged 145 = .ok (.iconst 1, 1) := by decide +kernel
theorem dX7_judged_146 : decode cX7_judged 146 = .ok (.goto 4, 3) := by decide +kernel
theorem dX7_judged_149 : decode cX7_judged 149 = .ok (.iconst 0, 1) := by decide +kernel
theorem dX7_judged_150 : decode cX7_judged 150 = .ok (.iadd, 1) := by decide +kernel
theorem dX7_judged_151 : decode cX7_judged 151 = .ok (.istore 6, 2) := by decide +kernel
theorem dX7_judged_153 : decode cX7_judged 153 = .ok (.iinc 7 1, 3) := by decide +kernel
theorem dX7_judged_156 : decode cX7_judged 156 = .ok (.goto (-42), 3) := by decide +kernel
theorem dX7_judged_159 : decode cX7_judged 159 = .ok (.iload_n 1, 1) := by decide +kernel
theorem dX7_judged_160 : decode cX7_judged 160 = .ok (.tableswitch 49 0 4 #[36, 38, 40, 43, 46], 36) := by decide +kernel
theorem dX7_judged_196 : decode cX7_judged 196 = .ok (.iload_n 2, 1) := by decide +kernel
theorem dX7_judged_197 : decode cX7_judged 197 = .ok (.ireturn, 1) := by decide +kernel
theorem dX7_judged_198 : decode cX7_judged 198 = .ok (.iload_n 3, 1) := by decide +kernel
theorem dX7_judged_199 : decode cX7_judged 199 = .ok (.ireturn, 1) := by decide +kernel
theorem dX7_judged_200 : decode cX7_judged 200 = .ok (.iload 4, 2) := by decide +kernel
theorem dX7_judged_202 : decode cX7_judged 202 = .ok (.ireturn, 1) := by decide +kernel
theorem dX7_judged_203 : decode cX7_judged 203 = .ok (.iload 5, 2) := by decide +kernel
theorem dX7_judged_205 : decode cX7_judged 205 = .ok (.ireturn, 1) := by decide +kernel
theorem dX7_judged_206 : decode cX7_judged 206 = .ok (.iload 6, 2) := by decide +kernel
theorem dX7_judged_208 : decode cX7_judged 208 = .ok (.ireturn, 1) := by decide +kernel
theorem dX7_judged_209 : decode cX7_judged 209 = .ok (.bipush (-2), 2) := by decide +kernel
theorem dX7_judged_211 : decode cX7_judged 211 = .ok (.ireturn, 1) := by decide +kernel
set_option maxRecDepth 20000 in
theorem ggX7_count_X7_legs : GoodIn wsX7_count wsX7_legs := goodIn_r _ [7, 1, 8, 9, 10, 11, 12, 13, 14, 15, 16, 17, 18, 19, 20, 21, 22] (by decide +kernel) (by decide +kernel)
set_option maxRecDepth 20000 in
theorem gX7_count_X7_legs : GoodIn wsX7_count (wsV RX7 65 RX7 yX7_legs wsX7_legs) := goodIn_app (goodIn_of _ (by decide +kernel)) ggX7_count_X7_legs
theorem dX7_count_0 : decode cX7_count 0 = .ok (.iload_n 1, 1) := by decide +kernel
theorem dX7_count_1 : decode cX7_count 1 = .ok (.ifCond .ne 10, 3) := by decide +kernel
theorem dX7_count_4 : decode cX7_count 4 = .ok (.aload_n 0, 1) := by decide +kernel
theorem dX7_count_5 : decode cX7_count 5 = .ok (.getfield 7, 3) := by decide +kernel
theorem dX7_count_8 : decode cX7_count 8 = .ok (.goto 29, 3) := by decide +kernel
theorem dX7_count_11 : decode cX7_count 11 = .ok (.iload_n 1, 1) := by decide +kernel
theorem dX7_count_12 : decode cX7_count 12 = .ok (.iconst 1, 1) := by decide +kernel
theorem dX7_count_13 : decode cX7_count 13 = .ok (.if_icmp .ne 10, 3) := by decide +kernel
theorem dX7_count_16 : decode cX7_count 16 = .ok (.aload_n 0, 1) := by decide +kernel
theorem dX7_count_17 : decode cX7_count 17 = .ok (.invokevirtual 65, 3) := by decide +kernel
theorem dX7_count_20 : decode cX7_count 20 = .ok (.goto 17, 3) := by decide +kernel
theorem dX7_count_23 : decode cX7_count 23 = .ok (.iload_n 1, 1) := by decide +kernel
theorem dX7_count_24 : decode cX7_count 24 = .ok (.iconst 2, 1) := by decide +kernel
theorem dX7_count_25 : decode cX7_count 25 = .ok (.if_icmp .ne 10, 3) := by decide +kernel
theorem dX7_count_28 : decode cX7_count 28 = .ok (.aload_n 0, 1) := by decide +kernel
theorem dX7_count_29 : decode cX7_count 29 = .ok (.getfield 54, 3) := by decide +kernel
theorem dX7_count_32 : decode cX7_count 32 = .ok (.goto 5, 3) := by decide +kernel
theorem dX7_count_35 : decode cX7_count 35 = .ok (.bipush (-2), 2) := by decide +kernel
theorem dX7_count_37 : decode cX7_count 37 = .ok (.ireturn, 1) := by decide +kernel
theorem dJ9_abs_0f7a4_0 : decode cJ9_abs_0f7a4 0 = .ok (.iload_n 0, 1) := by decide +kernel
theorem dJ9_abs_0f7a4_1 : decode cJ9_abs_0f7a4 1 = .ok (.ifCond .ge 8, 3) := by decide +kernel
theorem dJ9_abs_0f7a4_4 : decode cJ9_abs_0f7a4 4 = .ok (.iload_n 0, 1) := by decide +kernel
theorem dJ9_abs_0f7a4_5 : decode cJ9_abs_0f7a4 5 = .ok (.ineg, 1) := by decide +kernel
theorem dJ9_abs_0f7a4_6 : decode cJ9_abs_0f7a4 6 = .ok (.goto 4, 3) := by decide +kernel
theorem dJ9_abs_0f7a4_9 : decode cJ9_abs_0f7a4 9 = .ok (.iload_n 0, 1) := by decide +kernel
theorem dJ9_abs_0f7a4_10 : decode cJ9_abs_0f7a4 10 = .ok (.ireturn, 1) := by decide +kernel
theorem dJ9_max_7cf53_0 : decode cJ9_max_7cf53 0 = .ok (.iload_n 0, 1) := by decide +kernel
theorem dJ9_max_7cf53_1 : decode cJ9_max_7cf53 1 = .ok (.iload_n 1, 1) := by decide +kernel
theorem dJ9_max_7cf53_2 : decode cJ9_max_7cf53 2 = .ok (.if_icmp .lt 7, 3) := by decide +kernel
theorem dJ9_max_7cf53_5 : decode cJ9_max_7cf53 5 = .ok (.iload_n 0, 1) := by decide +kernel
theorem dJ9_max_7cf53_6 : decode cJ9_max_7cf53 6 = .ok (.goto 4, 3) := by decide +kernel
theorem dJ9_max_7cf53_9 : decode cJ9_max_7cf53 9 = .ok (.iload_n 1, 1) := by decide +kernel
theorem dJ9_max_7cf53_10 : decode cJ9_max_7cf53 10 = .ok (.ireturn, 1) := by decide +kernel
theorem dJ9_min_f86c9_0 : decode cJ9_min_f86c9 0 = .ok (.lload_n 0, 1) := by decide +kernel
theorem dJ9_min_f86c9_1 : decode cJ9_min_f86c9 1 = .ok (.lload_n 2, 1) := by decide +kernel
theorem dJ9_min_f86c9_2 : decode cJ9_min_f86c9 2 = .ok (.lcmp, 1) := by decide +kernel
theorem dJ9_min_f86c9_3 : decode cJ9_min_f86c9 3 = .ok (.ifCond .gt 7, 3) := by decide +kernel
theorem dJ9_min_f86c9_6 : decode cJ9_min_f86c9 6 = .ok (.lload_n 0, 1) := by decide +kernel
theorem dJ9_min_f86c9_7 : decode cJ9_min_f86c9 7 = .ok (.goto 4, 3) := by decide +kernel
theorem dJ9_min_f86c9_10 : decode cJ9_min_f86c9 10 = .ok (.lload_n 2, 1) := by decide +kernel
theorem dJ9_min_f86c9_11 : decode cJ9_min_f86c9 11 = .ok (.lreturn, 1) := by decide +kernel
theorem dJ7_fill_d0a16_0 : decode cJ7_fill_d0a16 0 = .ok (.iconst 0, 1) := by decide +kernel
theorem dJ7_fill_d0a16_1 : decode cJ7_fill_d0a16 1 = .ok (.istore_n 3, 1) := by decide +kernel
theorem dJ7_fill_d0a16_2 : decode cJ7_fill_d0a16 2 = .ok (.aload_n 0, 1) := by decide +kernel
theorem dJ7_fill_d0a16_3 : decode cJ7_fill_d0a16 3 = .ok (.arraylength, 1) := by decide +kernel
theorem dJ7_fill_d0a16_4 : decode cJ7_fill_d0a16 4 = .ok (.istore 4, 2) := by decide +kernel
theorem dJ7_fill_d0a16_6 : decode cJ7_fill_d0a16 6 = .ok (.iload_n 3, 1) := by decide +kernel
theorem dJ7_fill_d0a16_7 : decode cJ7_fill_d0a16 7 = .ok (.iload 4, 2) := by decide +kernel
theorem dJ7_fill_d0a16_9 : decode cJ7_fill_d0a16 9 = .ok (.if_icmp .ge 13, 3) := by decide +kernel
theorem dJ7_fill_d0a16_12 : decode cJ7_fill_d0a16 12 = .ok (.aload_n 0, 1) := by decide +kernel
theorem dJ7_fill_d0a16_13 : decode cJ7_fill_d0a16 13 = .ok (.iload_n 3, 1) := by decide +kernel
theorem dJ7_fill_d0a16_14 : decode cJ7_fill_d0a16 14 = .ok (.lload_n 1, 1) := by decide +kernel
theorem dJ7_fill_d0a16_15 : decode cJ7_fill_d0a16 15 = .ok (.lastore, 1) := by decide +kernel
theorem dJ7_fill_d0a16_16 : decode cJ7_fill_d0a16 16 = .ok (.iinc 3 1, 3) := by decide +kernel
theorem dJ7_fill_d0a16_19 : decode cJ7_fill_d0a16 19 = .ok (.goto (-13), 3) := by decide +kernel
theorem dJ7_fill_d0a16_22 : decode cJ7_fill_d0a16 22 = .ok (.return_, 1) := by decide +kernel
