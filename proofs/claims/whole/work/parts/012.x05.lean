set_option maxRecDepth 20000 in
theorem ggX0_init_X0_lay : GoodIn wsX0_init wsX0_lay := goodIn_r _ [14, 15, 5, 6, 8, 16, 17, 18, 13, 19, 9, 20, 21, 22, 23, 24, 25, 26] (by decide +kernel) (by decide +kernel)
set_option maxRecDepth 20000 in
theorem gX0_init_X0_lay : GoodIn wsX0_init (wsV RX0 25 RX0 yX0_lay wsX0_lay) := goodIn_app (goodIn_of _ (by decide +kernel)) ggX0_init_X0_lay
theorem dX0_init_0 : decode cX0_init 0 = .ok (.aload_n 0, 1) := by decide +kernel
theorem dX0_init_1 : decode cX0_init 1 = .ok (.invokespecial 3, 3) := by decide +kernel
theorem dX0_init_4 : decode cX0_init 4 = .ok (.aload_n 0, 1) := by decide +kernel
theorem dX0_init_5 : decode cX0_init 5 = .ok (.bipush 16, 2) := by decide +kernel
theorem dX0_init_7 : decode cX0_init 7 = .ok (.newarray .int, 2) := by decide +kernel
theorem dX0_init_9 : decode cX0_init 9 = .ok (.putfield 9, 3) := by decide +kernel
theorem dX0_init_12 : decode cX0_init 12 = .ok (.aload_n 0, 1) := by decide +kernel
theorem dX0_init_13 : decode cX0_init 13 = .ok (.bipush 16, 2) := by decide +kernel
theorem dX0_init_15 : decode cX0_init 15 = .ok (.newarray .int, 2) := by decide +kernel
theorem dX0_init_17 : decode cX0_init 17 = .ok (.putfield 15, 3) := by decide +kernel
theorem dX0_init_20 : decode cX0_init 20 = .ok (.aload_n 0, 1) := by decide +kernel
theorem dX0_init_21 : decode cX0_init 21 = .ok (.bipush 17, 2) := by decide +kernel
theorem dX0_init_23 : decode cX0_init 23 = .ok (.newarray .boolean, 2) := by decide +kernel
theorem dX0_init_25 : decode cX0_init 25 = .ok (.putfield 18, 3) := by decide +kernel
theorem dX0_init_28 : decode cX0_init 28 = .ok (.aload_n 0, 1) := by decide +kernel
theorem dX0_init_29 : decode cX0_init 29 = .ok (.bipush 17, 2) := by decide +kernel
theorem dX0_init_31 : decode cX0_init 31 = .ok (.newarray .int, 2) := by decide +kernel
theorem dX0_init_33 : decode cX0_init 33 = .ok (.putfield 22, 3) := by decide +kernel
theorem dX0_init_36 : decode cX0_init 36 = .ok (.aload_n 0, 1) := by decide +kernel
theorem dX0_init_37 : decode cX0_init 37 = .ok (.iconst 1, 1) := by decide +kernel
theorem dX0_init_38 : decode cX0_init 38 = .ok (.invokevirtual 25, 3) := by decide +kernel
theorem dX0_init_41 : decode cX0_init 41 = .ok (.return_, 1) := by decide +kernel
set_option maxRecDepth 20000 in
theorem ggX0_lay_X0_findLegs : GoodIn wsX0_lay wsX0_findLegs := goodIn_r _ [9, 1, 4, 10, 11, 12, 13, 14, 15, 16, 17] (by decide +kernel) (by decide +kernel)
set_option maxRecDepth 20000 in
theorem gX0_lay_X0_findLegs : GoodIn wsX0_lay (wsV RX0 33 RX0 yX0_findLegs wsX0_findLegs) := goodIn_app (goodIn_of _ (by decide +kernel)) ggX0_lay_X0_findLegs
theorem dX0_lay_0 : decode cX0_lay 0 = .ok (.aload_n 0, 1) := by decide +kernel
theorem dX0_lay_1 : decode cX0_lay 1 = .ok (.iload_n 1, 1) := by decide +kernel
theorem dX0_lay_2 : decode cX0_lay 2 = .ok (.putfield 29, 3) := by decide +kernel
theorem dX0_lay_5 : decode cX0_lay 5 = .ok (.iconst 0, 1) := by decide +kernel
theorem dX0_lay_6 : decode cX0_lay 6 = .ok (.istore_n 2, 1) := by decide +kernel
theorem dX0_lay_7 : decode cX0_lay 7 = .ok (.iload_n 2, 1) := by decide +kernel
theorem dX0_lay_8 : decode cX0_lay 8 = .ok (.bipush 16, 2) := by decide +kernel
theorem dX0_lay_10 : decode cX0_lay 10 = .ok (.if_icmp .ge 24, 3) := by decide +kernel
theorem dX0_lay_13 : decode cX0_lay 13 = .ok (.aload_n 0, 1) := by decide +kernel
theorem dX0_lay_14 : decode cX0_lay 14 = .ok (.getfield 9, 3) := by decide +kernel
theorem dX0_lay_17 : decode cX0_lay 17 = .ok (.iload_n 2, 1) := by decide +kernel
theorem dX0_lay_18 : decode cX0_lay 18 = .ok (.iconst 0, 1) := by decide +kernel
theorem dX0_lay_19 : decode cX0_lay 19 = .ok (.iastore, 1) := by decide +kernel
theorem dX0_lay_20 : decode cX0_lay 20 = .ok (.aload_n 0, 1) := by decide +kernel
theorem dX0_lay_21 : decode cX0_lay 21 = .ok (.getfield 15, 3) := by decide +kernel
theorem dX0_lay_24 : decode cX0_lay 24 = .ok (.iload_n 2, 1) := by decide +kernel
theorem dX0_lay_25 : decode cX0_lay 25 = .ok (.bipush 6, 2) := by decide +kernel
theorem dX0_lay_27 : decode cX0_lay 27 = .ok (.iastore, 1) := by decide +kernel
theorem dX0_lay_28 : decode cX0_lay 28 = .ok (.iinc 2 1, 3) := by decide +kernel
theorem dX0_lay_31 : decode cX0_lay 31 = .ok (.goto (-24), 3) := by decide +kernel
theorem dX0_lay_34 : decode cX0_lay 34 = .ok (.iconst 0, 1) := by decide +kernel
theorem dX0_lay_35 : decode cX0_lay 35 = .ok (.istore_n 2, 1) := by decide +kernel
theorem dX0_lay_36 : decode cX0_lay 36 = .ok (.iload_n 2, 1) := by decide +kernel
theorem dX0_lay_37 : decode cX0_lay 37 = .ok (.bipush 16, 2) := by decide +kernel
theorem dX0_lay_39 : decode cX0_lay 39 = .ok (.if_icmp .gt 29, 3) := by decide +kernel
theorem dX0_lay_42 : decode cX0_lay 42 = .ok (.aload_n 0, 1) := by decide +kernel
theorem dX0_lay_43 : decode cX0_lay 43 = .ok (.getfield 18, 3) := by decide +kernel
theorem dX0_lay_46 : decode cX0_lay 46 = .ok (.iload_n 2, 1) := by decide +kernel
theorem dX0_lay_47 : decode cX0_lay 47 = .ok (.iload_n 2, 1) := by decide +kernel
theorem dX0_lay_48 : decode cX0_lay 48 = .ok (.ifCond .eq 8, 3) := by decide +kernel
theorem dX0_lay_51 : decode cX0_lay 51 = .ok (.iload_n 2, 1) := by decide +kernel
theorem dX0_lay_52 : decode cX0_lay 52 = .ok (.iload_n 1, 1) := by decide +kernel
theorem dX0_lay_53 : decode cX0_lay 53 = .ok (.if_icmp .ne 7, 3) := by decide +kernel
theorem dX0_lay_56 : decode cX0_lay 56 = .ok (.iconst 1, 1) := by decide +kernel
theorem dX0_lay_57 : decode cX0_lay 57 = .ok (.goto 4, 3) := by decide +kernel
theorem dX0_lay_60 : decode cX0_lay 60 = .ok (.iconst 0, 1) := by decide +kernel
theorem dX0_lay_61 : decode cX0_lay 61 = .ok (.bastore, 1) := by decide +kernel
theorem dX0_lay_62 : decode cX0_lay 62 = .ok (.iinc 2 1, 3) := by decide +kernel
theorem dX0_lay_65 : decode cX0_lay 65 = .ok (.goto (-29), 3) := by decide +kernel
theorem dX0_lay_68 : decode cX0_lay 68 = .ok (.aload_n 0, 1) := by decide +kernel
theorem dX0_lay_69 : decode cX0_lay 69 = .ok (.invokevirtual 33, 3) := by decide +kernel
theorem dX0_lay_72 : decode cX0_lay 72 = .ok (.return_, 1) := by decide +kernel
theorem dX0_shape_0 : decode cX0_shape 0 = .ok (.aload_n 0, 1) := by decide +kernel
theorem dX0_shape_1 : decode cX0_shape 1 = .ok (.getfield 9, 3) := by decide +kernel
theorem dX0_shape_4 : decode cX0_shape 4 = .ok (.iload_n 1, 1) := by decide +kernel
theorem dX0_shape_5 : decode cX0_shape 5 = .ok (.iload_n 2, 1) := by decide +kernel
theorem dX0_shape_6 : decode cX0_shape 6 = .ok (.iastore, 1) := by decide +kernel
theorem dX0_shape_7 : decode cX0_shape 7 = .ok (.aload_n 0, 1) := by decide +kernel
theorem dX0_shape_8 : decode cX0_shape 8 = .ok (.getfield 15, 3) := by decide +kernel
theorem dX0_shape_11 : decode cX0_shape 11 = .ok (.iload_n 1, 1) := by decide +kernel
theorem dX0_shape_12 : decode cX0_shape 12 = .ok (.iload_n 3, 1) := by decide +kernel
theorem dX0_shape_13 : decode cX0_shape 13 = .ok (.iastore, 1) := by decide +kernel
theorem dX0_shape_14 : decode cX0_shape 14 = .ok (.return_, 1) := by decide +kernel
set_option maxRecDepth 20000 in
theorem ggX0_markStop_X0_findLegs : GoodIn wsX0_markStop wsX0_findLegs := goodIn_r _ [6, 7, 1, 8, 9, 10, 11, 12, 13, 14, 15] (by decide +kernel) (by decide +kernel)
set_option maxRecDepth 20000 in
theorem gX0_markStop_X0_findLegs : GoodIn wsX0_markStop (wsV RX0 33 RX0 yX0_findLegs wsX0_findLegs) := goodIn_app (goodIn_of _ (by decide +kernel)) ggX0_markStop_X0_findLegs
theorem dX0_markStop_0 : decode cX0_markStop 0 = .ok (.aload_n 0, 1) := by decide +kernel
theorem dX0_markStop_1 : decode cX0_markStop 1 = .ok (.getfield 18, 3) := by decide +kernel
theorem dX0_markStop_4 : decode cX0_markStop 4 = .ok (.iload_n 1, 1) := by decide +kernel
theorem dX0_markStop_5 : decode cX0_markStop 5 = .ok (.iload_n 2, 1) := by decide +kernel
theorem dX0_markStop_6 : decode cX0_markStop 6 = .ok (.bastore, 1) := by decide +kernel
theorem dX0_markStop_7 : decode cX0_markStop 7 = .ok (.aload_n 0, 1) := by decide +kernel
theorem dX0_markStop_8 : decode cX0_markStop 8 = .ok (.invokevirtual 33, 3) := by decide +kernel
theorem dX0_markStop_11 : decode cX0_markStop 11 = .ok (.return_, 1) := by decide +kernel
theorem dX0_findLegs_0 : decode cX0_findLegs 0 = .ok (.iconst 0, 1) := by decide +kernel
theorem dX0_findLegs_1 : decode cX0_findLegs 1 = .ok (.istore_n 1, 1) := by decide +kernel
theorem dX0_findLegs_2 : decode cX0_findLegs 2 = .ok (.iconst 0, 1) := by decide +kernel
theorem dX0_findLegs_3 : decode cX0_findLegs 3 = .ok (.istore_n 2, 1) := by decide +kernel
theorem dX0_findLegs_4 : decode cX0_findLegs 4 = .ok (.iload_n 2, 1) := by decide +kernel
theorem dX0_findLegs_5 : decode cX0_findLegs 5 = .ok (.aload_n 0, 1) := by decide +kernel
theorem dX0_findLegs_6 : decode cX0_findLegs 6 = .ok (.getfield 29, 3) := by decide +kernel
theorem dX0_findLegs_9 : decode cX0_findLegs 9 = .ok (.if_icmp .gt 28, 3) := by decide +kernel
theorem dX0_findLegs_12 : decode cX0_findLegs 12 = .ok (.aload_n 0, 1) := by decide +kernel
theorem dX0_findLegs_13 : decode cX0_findLegs 13 = .ok (.getfield 18, 3) := by decide +kernel
theorem dX0_findLegs_16 : decode cX0_findLegs 16 = .ok (.iload_n 2, 1) := by decide +kernel
theorem dX0_findLegs_17 : decode cX0_findLegs 17 = .ok (.baload, 1) := by decide +kernel
theorem dX0_findLegs_18 : decode cX0_findLegs 18 = .ok (.ifCond .eq 13, 3) := by decide +kernel
theorem dX0_findLegs_21 : decode cX0_findLegs 21 = .ok (.aload_n 0, 1) := by decide +kernel
theorem dX0_findLegs_22 : decode cX0_findLegs 22 = .ok (.getfield 22, 3) := by decide +kernel
theorem dX0_findLegs_25 : decode cX0_findLegs 25 = .ok (.iload_n 1, 1) := by decide +kernel
theorem dX0_findLegs_26 : decode cX0_findLegs 26 = .ok (.iload_n 2, 1) := by decide +kernel
theorem dX0_findLegs_27 : decode cX0_findLegs 27 = .ok (.iastore, 1) := by decide +kernel
theorem dX0_findLegs_28 : decode cX0_findLegs 28 = .ok (.iinc 1 1, 3) := by decide +kernel
theorem dX0_findLegs_31 : decode cX0_findLegs 31 = .ok (.iinc 2 1, 3) := by decide +kernel
theorem dX0_findLegs_34 : decode cX0_findLegs 34 = .ok (.goto (-30), 3) := by decide +kernel
theorem dX0_findLegs_37 : decode cX0_findLegs 37 = .ok (.aload_n 0, 1) := by decide +kernel
theorem dX0_findLegs_38 : decode cX0_findLegs 38 = .ok (.iload_n 1, 1) := by decide +kernel
theorem dX0_findLegs_39 : decode cX0_findLegs 39 = .ok (.iconst 1, 1) := by decide +kernel
theorem dX0_findLegs_40 : decode cX0_findLegs 40 = .ok (.isub, 1) := by decide +kernel
theorem dX0_findLegs_41 : decode cX0_findLegs 41 = .ok (.putfield 36, 3) := by decide +kernel
theorem dX0_findLegs_44 : decode cX0_findLegs 44 = .ok (.return_, 1) := by decide +kernel
theorem dX0_cellCount_0 : decode cX0_cellCount 0 = .ok (.aload_n 0, 1) := by decide +kernel
theorem dX0_cellCount_1 : decode cX0_cellCount 1 = .ok (.getfield 29, 3) := by decide +kernel
theorem dX0_cellCount_4 : decode cX0_cellCount 4 = .ok (.ireturn, 1) := by decide +kernel
theorem dX0_legCount_0 : decode cX0_legCount 0 = .ok (.aload_n 0, 1) := by decide +kernel
theorem dX0_legCount_1 : decode cX0_legCount 1 = .ok (.getfield 36, 3) := by decide +kernel
theorem dX0_legCount_4 : decode cX0_legCount 4 = .ok (.ireturn, 1) := by decide +kernel
theorem dX0_hasCell_0 : decode cX0_hasCell 0 = .ok (.iload_n 1, 1) := by decide +kernel
theorem dX0_hasCell_1 : decode cX0_hasCell 1 = .ok (.ifCond .lt 15, 3) := by decide +kernel
theorem dX0_hasCell_4 : decode cX0_hasCell 4 = .ok (.iload_n 1, 1) := by decide +kernel
theorem dX0_hasCell_5 : decode cX0_hasCell 5 = .ok (.aload_n 0, 1) := by decide +kernel
theorem dX0_hasCell_6 : decode cX0_hasCell 6 = .ok (.getfield 29, 3) := by decide +kernel
theorem dX0_hasCell_9 : decode cX0_hasCell 9 = .ok (.if_icmp .ge 7, 3) := by decide +kernel
theorem dX0_hasCell_12 : decode cX0_hasCell 12 = .ok (.iconst 1, 1) := by decide +kernel
theorem dX0_hasCell_13 : decode cX0_hasCell 13 = .ok (.goto 4, 3) := by decide +kernel
theorem dX0_hasCell_16 : decode cX0_hasCell 16 = .ok (.iconst 0, 1) := by decide +kernel
theorem dX0_hasCell_17 : decode cX0_hasCell 17 = .ok (.ireturn, 1) := by decide +kernel
theorem dX0_hasPost_0 : decode cX0_hasPost 0 = .ok (.iload_n 1, 1) := by decide +kernel
theorem dX0_hasPost_1 : decode cX0_hasPost 1 = .ok (.ifCond .lt 15, 3) := by decide +kernel
theorem dX0_hasPost_4 : decode cX0_hasPost 4 = .ok (.iload_n 1, 1) := by decide +kernel
theorem dX0_hasPost_5 : decode cX0_hasPost 5 = .ok (.aload_n 0, 1) := by decide +kernel
theorem dX0_hasPost_6 : decode cX0_hasPost 6 = .ok (.getfield 29, 3) := by decide +kernel
theorem dX0_hasPost_9 : decode cX0_hasPost 9 = .ok (.if_icmp .gt 7, 3) := by decide +kernel
theorem dX0_hasPost_12 : decode cX0_hasPost 12 = .ok (.iconst 1, 1) := by decide +kernel
theorem dX0_hasPost_13 : decode cX0_hasPost 13 = .ok (.goto 4, 3) := by decide +kernel
theorem dX0_hasPost_16 : decode cX0_hasPost 16 = .ok (.iconst 0, 1) := by decide +kernel
theorem dX0_hasPost_17 : decode cX0_hasPost 17 = .ok (.ireturn, 1) := by decide +kernel
theorem dX0_hasLeg_0 : decode cX0_hasLeg 0 = .ok (.iload_n 1, 1) := by decide +kernel
theorem dX0_hasLeg_1 : decode cX0_hasLeg 1 = .ok (.ifCond .lt 15, 3) := by decide +kernel
theorem dX0_hasLeg_4 : decode cX0_hasLeg 4 = .ok (.iload_n 1, 1) := by decide +kernel
theorem dX0_hasLeg_5 : decode cX0_hasLeg 5 = .ok (.aload_n 0, 1) := by decide +kernel
theorem dX0_hasLeg_6 : decode cX0_hasLeg 6 = .ok (.getfield 36, 3) := by decide +kernel
theorem dX0_hasLeg_9 : decode cX0_hasLeg 9 = .ok (.if_icmp .ge 7, 3) := by decide +kernel
theorem dX0_hasLeg_12 : decode cX0_hasLeg 12 = .ok (.iconst 1, 1) := by decide +kernel
theorem dX0_hasLeg_13 : decode cX0_hasLeg 13 = .ok (.goto 4, 3) := by decide +kernel
theorem dX0_hasLeg_16 : decode cX0_hasLeg 16 = .ok (.iconst 0, 1) := by decide +kernel
theorem dX0_hasLeg_17 : decode cX0_hasLeg 17 = .ok (.ireturn, 1) := by decide +kernel
theorem dX0_isEnd_0 : decode cX0_isEnd 0 = .ok (.iload_n 1, 1) := by decide +kernel
theorem dX0_isEnd_1 : decode cX0_isEnd 1 = .ok (.ifCond .eq 11, 3) := by decide +kernel
theorem dX0_isEnd_4 : decode cX0_isEnd 4 = .ok (.iload_n 1, 1) := by decide +kernel
theorem dX0_isEnd_5 : decode cX0_isEnd 5 = .ok (.aload_n 0, 1) := by decide +kernel
theorem dX0_isEnd_6 : decode cX0_isEnd 6 = .ok (.getfield 29, 3) := by decide +kernel
theorem dX0_isEnd_9 : decode cX0_isEnd 9 = .ok (.if_icmp .ne 7, 3) := by decide +kernel
theorem dX0_isEnd_12 : decode cX0_isEnd 12 = .ok (.iconst 1, 1) := by decide +kernel
theorem dX0_isEnd_13 : decode cX0_isEnd 13 = .ok (.goto 4, 3) := by decide +kernel
theorem dX0_isEnd_16 : decode cX0_isEnd 16 = .ok (.iconst 0, 1) := by decide +kernel
theorem dX0_isEnd_17 : decode cX0_isEnd 17 = .ok (.ireturn, 1) := by decide +kernel
theorem dX0_isStop_0 : decode cX0_isStop 0 = .ok (.aload_n 0, 1) := by decide +kernel
theorem dX0_isStop_1 : decode cX0_isStop 1 = .ok (.getfield 18, 3) := by decide +kernel
theorem dX0_isStop_4 : decode cX0_isStop 4 = .ok (.iload_n 1, 1) := by decide +kernel
theorem dX0_isStop_5 : decode cX0_isStop 5 = .ok (.baload, 1) := by decide +kernel
theorem dX0_isStop_6 : decode cX0_isStop 6 = .ok (.ireturn, 1) := by decide +kernel
theorem dX0_gradeOf_0 : decode cX0_gradeOf 0 = .ok (.aload_n 0, 1) := by decide +kernel
theorem dX0_gradeOf_1 : decode cX0_gradeOf 1 = .ok (.getfield 9, 3) := by decide +kernel
theorem dX0_gradeOf_4 : decode cX0_gradeOf 4 = .ok (.iload_n 1, 1) := by decide +kernel
theorem dX0_gradeOf_5 : decode cX0_gradeOf 5 = .ok (.iaload, 1) := by decide +kernel
theorem dX0_gradeOf_6 : decode cX0_gradeOf 6 = .ok (.ireturn, 1) := by decide +kernel
theorem dX0_limitOf_0 : decode cX0_limitOf 0 = .ok (.aload_n 0, 1) := by decide +kernel
theorem dX0_limitOf_1 : decode cX0_limitOf 1 = .ok (.getfield 15, 3) := by decide +kernel
theorem dX0_limitOf_4 : decode cX0_limitOf 4 = .ok (.iload_n 1, 1) := by decide +kernel
theorem dX0_limitOf_5 : decode cX0_limitOf 5 = .ok (.iaload, 1) := by decide +kernel
theorem dX0_limitOf_6 : decode cX0_limitOf 6 = .ok (.ireturn, 1) := by decide +kernel
theorem dX0_firstPost_0 : decode cX0_firstPost 0 = .ok (.aload_n 0, 1) := by decide +kernel
theorem dX0_firstPost_1 : decode cX0_firstPost 1 = .ok (.getfield 22, 3) := by decide +kernel
theorem dX0_firstPost_4 : decode cX0_firstPost 4 = .ok (.iload_n 1, 1) := by decide +kernel
theorem dX0_firstPost_5 : decode cX0_firstPost 5 = .ok (.iaload, 1) := by decide +kernel
theorem dX0_firstPost_6 : decode cX0_firstPost 6 = .ok (.ireturn, 1) := by decide +kernel
theorem dX0_lastPost_0 : decode cX0_lastPost 0 = .ok (.aload_n 0, 1) := by decide +kernel
theorem dX0_lastPost_1 : decode cX0_lastPost 1 = .ok (.getfield 22, 3) := by decide +kernel
theorem dX0_lastPost_4 : decode cX0_lastPost 4 = .ok (.iload_n 1, 1) := by decide +kernel
theorem dX0_lastPost_5 : decode cX0_lastPost 5 = .ok (.iconst 1, 1) := by decide +kernel
theorem dX0_lastPost_6 : decode cX0_lastPost 6 = .ok (.iadd, 1) := by decide +kernel
theorem dX0_lastPost_7 : decode cX0_lastPost 7 = .ok (.iaload, 1) := by decide +kernel
theorem dX0_lastPost_8 : decode cX0_lastPost 8 = .ok (.ireturn, 1) := by decide +kernel
theorem dX1_init_0 : decode cX1_init 0 = .ok (.aload_n 0, 1) := by decide +kernel
theorem dX1_init_1 : decode cX1_init 1 = .ok (.invokespecial 3, 3) := by decide +kernel
theorem dX1_init_4 : decode cX1_init 4 = .ok (.aload_n 0, 1) := by decide +kernel
theorem dX1_init_5 : decode cX1_init 5 = .ok (.bipush 17, 2) := by decide +kernel
theorem dX1_init_7 : decode cX1_init 7 = .ok (.newarray .int, 2) := by decide +kernel
theorem dX1_init_9 : decode cX1_init 9 = .ok (.putfield 9, 3) := by decide +kernel
theorem dX1_init_12 : decode cX1_init 12 = .ok (.aload_n 0, 1) := by decide +kernel
theorem dX1_init_13 : decode cX1_init 13 = .ok (.iconst 0, 1) := by decide +kernel
theorem dX1_init_14 : decode cX1_init 14 = .ok (.putfield 15, 3) := by decide +kernel
theorem dX1_init_17 : decode cX1_init 17 = .ok (.aload_n 0, 1) := by decide +kernel
theorem dX1_init_18 : decode cX1_init 18 = .ok (.aload_n 1, 1) := by decide +kernel
theorem dX1_init_19 : decode cX1_init 19 = .ok (.putfield 19, 3) := by decide +kernel
theorem dX1_init_22 : decode cX1_init 22 = .ok (.aload_n 0, 1) := by decide +kernel
theorem dX1_init_23 : decode cX1_init 23 = .ok (.aload_n 2, 1) := by decide +kernel
theorem dX1_init_24 : decode cX1_init 24 = .ok (.putfield 23, 3) := by decide +kernel
theorem dX1_init_27 : decode cX1_init 27 = .ok (.return_, 1) := by decide +kernel
theorem dX1_size_0 : decode cX1_size 0 = .ok (.aload_n 0, 1) := by decide +kernel
theorem dX1_size_1 : decode cX1_size 1 = .ok (.getfield 15, 3) := by decide +kernel
theorem dX1_size_4 : decode cX1_size 4 = .ok (.ireturn, 1) := by decide +kernel
set_option maxRecDepth 20000 in
theorem ggX1_isFull_X0_cellCount : GoodIn wsX1_isFull wsX0_cellCount := goodIn_r _ [7, 8, 13, 14, 15, 16, 17, 18] (by decide +kernel) (by decide +kernel)
set_option maxRecDepth 20000 in
theorem gX1_isFull_X0_cellCount : GoodIn wsX1_isFull (wsV RX1 27 RX0 yX0_cellCount wsX0_cellCount) := goodIn_app (goodIn_of _ (by decide +kernel)) ggX1_isFull_X0_cellCount
theorem dX1_isFull_0 : decode cX1_isFull 0 = .ok (.aload_n 0, 1) := by decide +kernel
theorem dX1_isFull_1 : decode cX1_isFull 1 = .ok (.getfield 15, 3) := by decide +kernel
theorem dX1_isFull_4 : decode cX1_isFull 4 = .ok (.aload_n 0, 1) := by decide +kernel
theorem dX1_isFull_5 : decode cX1_isFull 5 = .ok (.getfield 19, 3) := by decide +kernel
theorem dX1_isFull_8 : decode cX1_isFull 8 = .ok (.invokevirtual 27, 3) := by decide +kernel
theorem dX1_isFull_11 : decode cX1_isFull 11 = .ok (.if_icmp .le 7, 3) := by decide +kernel
theorem dX1_isFull_14 : decode cX1_isFull 14 = .ok (.iconst 1, 1) := by decide +kernel
theorem dX1_isFull_15 : decode cX1_isFull 15 = .ok (.goto 4, 3) := by decide +kernel
theorem dX1_isFull_18 : decode cX1_isFull 18 = .ok (.iconst 0, 1) := by decide +kernel
theorem dX1_isFull_19 : decode cX1_isFull 19 = .ok (.ireturn, 1) := by decide +kernel
theorem dX1_add_0 : decode cX1_add 0 = .ok (.aload_n 0, 1) := by decide +kernel
theorem dX1_add_1 : decode cX1_add 1 = .ok (.getfield 9, 3) := by decide +kernel
theorem dX1_add_4 : decode cX1_add 4 = .ok (.aload_n 0, 1) := by decide +kernel
theorem dX1_add_5 : decode cX1_add 5 = .ok (.getfield 15, 3) := by decide +kernel
theorem dX1_add_8 : decode cX1_add 8 = .ok (.iload_n 1, 1) := by decide +kernel
theorem dX1_add_9 : decode cX1_add 9 = .ok (.iastore, 1) := by decide +kernel
theorem dX1_add_10 : decode cX1_add 10 = .ok (.aload_n 0, 1) := by decide +kernel
theorem dX1_add_11 : decode cX1_add 11 = .ok (.dup, 1) := by decide +kernel
theorem dX1_add_12 : decode cX1_add 12 = .ok (.getfield 15, 3) := by decide +kernel
theorem dX1_add_15 : decode cX1_add 15 = .ok (.iconst 1, 1) := by decide +kernel
theorem dX1_add_16 : decode cX1_add 16 = .ok (.iadd, 1) := by decide +kernel
theorem dX1_add_17 : decode cX1_add 17 = .ok (.putfield 15, 3) := by decide +kernel
theorem dX1_add_20 : decode cX1_add 20 = .ok (.return_, 1) := by decide +kernel
theorem dX1_wipe_0 : decode cX1_wipe 0 = .ok (.aload_n 0, 1) := by decide +kernel
theorem dX1_wipe_1 : decode cX1_wipe 1 = .ok (.iconst 0, 1) := by decide +kernel
theorem dX1_wipe_2 : decode cX1_wipe 2 = .ok (.putfield 15, 3) := by decide +kernel
theorem dX1_wipe_5 : decode cX1_wipe 5 = .ok (.return_, 1) := by decide +kernel
set_option maxRecDepth 20000 in
theorem ggX1_isFaulty_X3_faultOf : GoodIn wsX1_isFaulty wsX3_faultOf := goodIn_r _ [7, 8, 9, 10, 11, 12, 13, 14, 15, 16, 17, 18, 19, 20, 21, 22, 23, 24, 25, 6, 26, 27, 28, 29, 30, 31, 32, 33, 34, 35, 36, 37, 42, 43, 44, 45, 46, 47, 48, 49, 50] (by decide +kernel) (by decide +kernel)
set_option maxRecDepth 20000 in
theorem gX1_isFaulty_X3_faultOf : GoodIn wsX1_isFaulty (wsV RX1 33 RX3 yX3_faultOf wsX3_faultOf) := goodIn_app (goodIn_of _ (by decide +kernel)) ggX1_isFaulty_X3_faultOf
theorem dX1_isFaulty_0 : decode cX1_isFaulty 0 = .ok (.aload_n 0, 1) := by decide +kernel
theorem dX1_isFaulty_1 : decode cX1_isFaulty 1 = .ok (.getfield 23, 3) := by decide +kernel
theorem dX1_isFaulty_4 : decode cX1_isFaulty 4 = .ok (.iload_n 1, 1) := by decide +kernel
theorem dX1_isFaulty_5 : decode cX1_isFaulty 5 = .ok (.aload_n 0, 1) := by decide +kernel
theorem dX1_isFaulty_6 : decode cX1_isFaulty 6 = .ok (.getfield 9, 3) := by decide +kernel
theorem dX1_isFaulty_9 : decode cX1_isFaulty 9 = .ok (.iload_n 1, 1) := by decide +kernel
theorem dX1_isFaulty_10 : decode cX1_isFaulty 10 = .ok (.iaload, 1) := by decide +kernel
theorem dX1_isFaulty_11 : decode cX1_isFaulty 11 = .ok (.aload_n 0, 1) := by decide +kernel
theorem dX1_isFaulty_12 : decode cX1_isFaulty 12 = .ok (.getfield 9, 3) := by decide +kernel
theorem dX1_isFaulty_15 : decode cX1_isFaulty 15 = .ok (.iload_n 1, 1) := by decide +kernel
theorem dX1_isFaulty_16 : decode cX1_isFaulty 16 = .ok (.iconst 1, 1) := by decide +kernel
theorem dX1_isFaulty_17 : decode cX1_isFaulty 17 = .ok (.iadd, 1) := by decide +kernel
theorem dX1_isFaulty_18 : decode cX1_isFaulty 18 = .ok (.iaload, 1) := by decide +kernel
theorem dX1_isFaulty_19 : decode cX1_isFaulty 19 = .ok (.invokevirtual 33, 3) := by decide +kernel
theorem dX1_isFaulty_22 : decode cX1_isFaulty 22 = .ok (.ifCond .eq 7, 3) := by decide +kernel
theorem dX1_isFaulty_25 : decode cX1_isFaulty 25 = .ok (.iconst 1, 1) := by decide +kernel
theorem dX1_isFaulty_26 : decode cX1_isFaulty 26 = .ok (.goto 4, 3) := by decide +kernel
theorem dX1_isFaulty_29 : decode cX1_isFaulty 29 = .ok (.iconst 0, 1) := by decide +kernel
theorem dX1_isFaulty_30 : decode cX1_isFaulty 30 = .ok (.ireturn, 1) := by decide +kernel
set_option maxRecDepth 20000 in
theorem ggX1_timeTogether_X1_isFaulty : GoodIn wsX1_timeTogether wsX1_isFaulty := goodIn_r _ [8, 2, 3, 9, 10, 11, 12, 13, 14, 15, 16, 17, 18, 19, 20, 21, 22, 23, 24, 25, 26, 27, 28, 29, 30, 31, 32, 33, 34, 35, 36, 37, 38, 39, 40, 41, 42, 43, 48, 49, 50, 51, 52, 53, 54, 55, 56, 57, 58, 59, 60] (by decide +kernel) (by decide +kernel)
set_option maxRecDepth 20000 in
theorem gX1_timeTogether_X1_isFaulty : GoodIn wsX1_timeTogether (wsV RX1 39 RX1 yX1_isFaulty wsX1_isFaulty) := goodIn_app (goodIn_of _ (by decide +kernel)) ggX1_timeTogether_X1_isFaulty
set_option maxRecDepth 20000 in
theorem ggX1_timeTogether_X3_timeOf : GoodIn wsX1_timeTogether wsX3_timeOf := goodIn_r _ [47] (by decide +kernel) (by decide +kernel)
set_option maxRecDepth 20000 in
theorem gX1_timeTogether_X3_timeOf : GoodIn wsX1_timeTogether (wsV RX1 43 RX3 yX3_timeOf wsX3_timeOf) := goodIn_app (goodIn_of _ (by decide +kernel)) ggX1_timeTogether_X3_timeOf
theorem dX1_timeTogether_0 : decode cX1_timeTogether 0 = .ok (.iconst 0, 1) := by decide +kernel
theorem dX1_timeTogether_1 : decode cX1_timeTogether 1 = .ok (.istore_n 1, 1) := by decide +kernel
theorem dX1_timeTogether_2 : decode cX1_timeTogether 2 = .ok (.iconst 0, 1) := by decide +kernel
theorem dX1_timeTogether_3 : decode cX1_timeTogether 3 = .ok (.istore_n 2, 1) := by decide +kernel
theorem dX1_timeTogether_4 : decode cX1_timeTogether 4 = .ok (.iload_n 2, 1) := by decide +kernel
theorem dX1_timeTogether_5 : decode cX1_timeTogether 5 = .ok (.iconst 1, 1) := by decide +kernel
theorem dX1_timeTogether_6 : decode cX1_timeTogether 6 = .ok (.iadd, 1) := by decide +kernel
theorem dX1_timeTogether_7 : decode cX1_timeTogether 7 = .ok (.aload_n 0, 1) := by decide +kernel
theorem dX1_timeTogether_8 : decode cX1_timeTogether 8 = .ok (.getfield 15, 3) := by decide +kernel
theorem dX1_timeTogether_11 : decode cX1_timeTogether 11 = .ok (.if_icmp .ge 45, 3) := by decide +kernel
theorem dX1_timeTogether_14 : decode cX1_timeTogether 14 = .ok (.iload_n 1, 1) := by decide +kernel
theorem dX1_timeTogether_15 : decode cX1_timeTogether 15 = .ok (.aload_n 0, 1) := by decide +kernel
theorem dX1_timeTogether_16 : decode cX1_timeTogether 16 = .ok (.iload_n 2, 1) := by decide +kernel
theorem dX1_timeTogether_17 : decode cX1_timeTogether 17 = .ok (.invokevirtual 39, 3) := by decide +kernel
theorem dX1_timeTogether_20 : decode cX1_timeTogether 20 = .ok (.ifCond .eq 7, 3) := by decide +kernel
theorem dX1_timeTogether_23 : decode cX1_timeTogether 23 = .ok (.iconst 0, 1) := by decide +kernel
theorem dX1_timeTogether_24 : decode cX1_timeTogether 24 = .ok (.goto 24, 3) := by decide +kernel
theorem dX1_timeTogether_27 : decode cX1_timeTogether 27 = .ok (.aload_n 0, 1) := by decide +kernel
theorem dX1_timeTogether_28 : decode cX1_timeTogether 28 = .ok (.getfield 23, 3) := by decide +kernel
theorem dX1_timeTogether_31 : decode cX1_timeTogether 31 = .ok (.aload_n 0, 1) := by decide +kernel
theorem dX1_timeTogether_32 : decode cX1_timeTogether 32 = .ok (.getfield 9, 3) := by decide +kernel
theorem dX1_timeTogether_35 : decode cX1_timeTogether 35 = .ok (.iload_n 2, 1) := by decide +kernel
theorem dX1_timeTogether_36 : decode cX1_timeTogether 36 = .ok (.iaload, 1) := by decide +kernel
theorem dX1_timeTogether_37 : decode cX1_timeTogether 37 = .ok (.aload_n 0, 1) := by decide +kernel
theorem dX1_timeTogether_38 : decode cX1_timeTogether 38 = .ok (.getfield 9, 3) := by decide +kernel
theorem dX1_timeTogether_41 : decode cX1_timeTogether 41 = .ok (.iload_n 2, 1) := by decide +kernel
theorem dX1_timeTogether_42 : decode cX1_timeTogether 42 = .ok (.iconst 1, 1) := by decide +kernel
theorem dX1_timeTogether_43 : decode cX1_timeTogether 43 = .ok (.iadd, 1) := by decide +kernel
theorem dX1_timeTogether_44 : decode cX1_timeTogether 44 = .ok (.iaload, 1) := by decide +kernel
theorem dX1_timeTogether_45 : decode cX1_timeTogether 45 = .ok (.invokevirtual 43, 3) := by decide +kernel
theorem dX1_timeTogether_48 : decode cX1_timeTogether 48 = .ok (.iadd, 1) := by decide +kernel
theorem dX1_timeTogether_49 : decode cX1_timeTogether 49 = .ok (.istore_n 1, 1) := by decide +kernel
theorem dX1_timeTogether_50 : decode cX1_timeTogether 50 = .ok (.iinc 2 1, 3) := by decide +kernel
theorem dX1_timeTogether_53 : decode cX1_timeTogether 53 = .ok (.goto (-49), 3) := by decide +kernel
theorem dX1_timeTogether_56 : decode cX1_timeTogether 56 = .ok (.iload_n 1, 1) := by decide +kernel
theorem dX1_timeTogether_57 : decode cX1_timeTogether 57 = .ok (.ireturn, 1) := by decide +kernel
set_option maxRecDepth 20000 in
theorem ggX1_powerTogether_X1_isFaulty : GoodIn wsX1_powerTogether wsX1_isFaulty := goodIn_r _ [8, 2, 3, 9, 10, 11, 12, 13, 14, 15, 16, 17, 18, 19, 20, 21, 22, 23, 24, 25, 26, 27, 28, 29, 30, 31, 32, 33, 34, 35, 36, 37, 38, 39, 40, 41, 42, 43, 48, 49, 50, 51, 52, 53, 54, 55, 56, 57, 58, 59, 60] (by decide +kernel) (by decide +kernel)
set_option maxRecDepth 20000 in
theorem gX1_powerTogether_X1_isFaulty : GoodIn wsX1_powerTogether (wsV RX1 39 RX1 yX1_isFaulty wsX1_isFaulty) := goodIn_app (goodIn_of _ (by decide +kernel)) ggX1_powerTogether_X1_isFaulty
set_option maxRecDepth 20000 in
theorem ggX1_powerTogether_X3_powerOf : GoodIn wsX1_powerTogether wsX3_powerOf := goodIn_r _ [47, 22, 29, 30, 31, 12, 32, 18, 33, 34, 35, 36, 37, 38, 39, 40, 41, 26, 42, 43, 52, 53, 60, 54, 55, 56, 57, 58, 59] (by decide +kernel) (by decide +kernel)
set_option maxRecDepth 20000 in
theorem gX1_powerTogether_X3_powerOf : GoodIn wsX1_powerTogether (wsV RX1 47 RX3 yX3_powerOf wsX3_powerOf) := goodIn_app (goodIn_of _ (by decide +kernel)) ggX1_powerTogether_X3_powerOf
theorem dX1_powerTogether_0 : decode cX1_powerTogether 0 = .ok (.iconst 0, 1) := by decide +kernel
theorem dX1_powerTogether_1 : decode cX1_powerTogether 1 = .ok (.istore_n 1, 1) := by decide +kernel
theorem dX1_powerTogether_2 : decode cX1_powerTogether 2 = .ok (.iconst 0, 1) := by decide +kernel
theorem dX1_powerTogether_3 : decode cX1_powerTogether 3 = .ok (.istore_n 2, 1) := by decide +kernel
theorem dX1_powerTogether_4 : decode cX1_powerTogether 4 = .ok (.iload_n 2, 1) := by decide +kernel
theorem dX1_powerTogether_5 : decode cX1_powerTogether 5 = .ok (.iconst 1, 1) := by decide +kernel
theorem dX1_powerTogether_6 : decode cX1_powerTogether 6 = .ok (.iadd, 1) := by decide +kernel
theorem dX1_powerTogether_7 : decode cX1_powerTogether 7 = .ok (.aload_n 0, 1) := by decide +kernel
theorem dX1_powerTogether_8 : decode cX1_powerTogether 8 = .ok (.getfield 15, 3) := by decide +kernel
theorem dX1_powerTogether_11 : decode cX1_powerTogether 11 = .ok (.if_icmp .ge 46, 3) := by decide +kernel
theorem dX1_powerTogether_14 : decode cX1_powerTogether 14 = .ok (.iload_n 1, 1) := by decide +kernel
theorem dX1_powerTogether_15 : decode cX1_powerTogether 15 = .ok (.aload_n 0, 1) := by decide +kernel
theorem dX1_powerTogether_16 : decode cX1_powerTogether 16 = .ok (.iload_n 2, 1) := by decide +kernel
theorem dX1_powerTogether_17 : decode cX1_powerTogether 17 = .ok (.invokevirtual 39, 3) := by decide +kernel
theorem dX1_powerTogether_20 : decode cX1_powerTogether 20 = .ok (.ifCond .eq 7, 3) := by decide +kernel
theorem dX1_powerTogether_23 : decode cX1_powerTogether 23 = .ok (.iconst 0, 1) := by decide +kernel
theorem dX1_powerTogether_24 : decode cX1_powerTogether 24 = .ok (.goto 25, 3) := by decide +kernel
theorem dX1_powerTogether_27 : decode cX1_powerTogether 27 = .ok (.aload_n 0, 1) := by decide +kernel
theorem dX1_powerTogether_28 : decode cX1_powerTogether 28 = .ok (.getfield 23, 3) := by decide +kernel
theorem dX1_powerTogether_31 : decode cX1_powerTogether 31 = .ok (.iload_n 2, 1) := by decide +kernel
theorem dX1_powerTogether_32 : decode cX1_powerTogether 32 = .ok (.aload_n 0, 1) := by decide +kernel
theorem dX1_powerTogether_33 : decode cX1_powerTogether 33 = .ok (.getfield 9, 3) := by decide +kernel
theorem dX1_powerTogether_36 : decode cX1_powerTogether 36 = .ok (.iload_n 2, 1) := by decide +kernel
theorem dX1_powerTogether_37 : decode cX1_powerTogether 37 = .ok (.iaload, 1) := by decide +kernel
theorem dX1_powerTogether_38 : decode cX1_powerTogether 38 = .ok (.aload_n 0, 1) := by decide +kernel
theorem dX1_powerTogether_39 : decode cX1_powerTogether 39 = .ok (.getfield 9, 3) := by decide +kernel
theorem dX1_powerTogether_42 : decode cX1_powerTogether 42 = .ok (.iload_n 2, 1) := by decide +kernel
theorem dX1_powerTogether_43 : decode cX1_powerTogether 43 = .ok (.iconst 1, 1) := by decide +kernel
theorem dX1_powerTogether_44 : decode cX1_powerTogether 44 = .ok (.iadd, 1) := by decide +kernel
theorem dX1_powerTogether_45 : decode cX1_powerTogether 45 = .ok (.iaload, 1) := by decide +kernel
theorem dX1_powerTogether_46 : decode cX1_powerTogether 46 = .ok (.invokevirtual 47, 3) := by decide +kernel
theorem dX1_powerTogether_49 : decode cX1_powerTogether 49 = .ok (.iadd, 1) := by decide +kernel
theorem dX1_powerTogether_50 : decode cX1_powerTogether 50 = .ok (.istore_n 1, 1) := by decide +kernel
theorem dX1_powerTogether_51 : decode cX1_powerTogether 51 = .ok (.iinc 2 1, 3) := by decide +kernel
theorem dX1_powerTogether_54 : decode cX1_powerTogether 54 = .ok (.goto (-50), 3) := by decide +kernel
theorem dX1_powerTogether_57 : decode cX1_powerTogether 57 = .ok (.iload_n 1, 1) := by decide +kernel
theorem dX1_powerTogether_58 : decode cX1_powerTogether 58 = .ok (.ireturn, 1) := by decide +kernel
set_option maxRecDepth 20000 in
theorem ggX1_faultCount_X1_isFaulty : GoodIn wsX1_faultCount wsX1_isFaulty := goodIn_r _ [6, 7, 8, 9, 10, 11, 12, 13, 14, 15, 16, 17, 18, 19, 20, 21, 22, 23, 24, 25, 26, 27, 28, 29, 30, 31, 32, 33, 34, 35, 36, 37, 38, 39, 40, 41, 42, 43, 44, 45, 46, 47, 48, 49, 50, 51, 52, 53, 54, 55, 56] (by decide +kernel) (by decide +kernel)
set_option maxRecDepth 20000 in
theorem gX1_faultCount_X1_isFaulty : GoodIn wsX1_faultCount (wsV RX1 39 RX1 yX1_isFaulty wsX1_isFaulty) := goodIn_app (goodIn_of _ (by decide +kernel)) ggX1_faultCount_X1_isFaulty
theorem dX1_faultCount_0 : decode cX1_faultCount 0 = .ok (.iconst 0, 1) := by decide +kernel
theorem dX1_faultCount_1 : decode cX1_faultCount 1 = .ok (.istore_n 1, 1) := by decide +kernel
theorem dX1_faultCount_2 : decode cX1_faultCount 2 = .ok (.iconst 0, 1) := by decide +kernel
theorem dX1_faultCount_3 : decode cX1_faultCount 3 = .ok (.istore_n 2, 1) := by decide +kernel
theorem dX1_faultCount_4 : decode cX1_faultCount 4 = .ok (.iload_n 2, 1) := by decide +kernel
theorem dX1_faultCount_5 : decode cX1_faultCount 5 = .ok (.iconst 1, 1) := by decide +kernel
theorem dX1_faultCount_6 : decode cX1_faultCount 6 = .ok (.iadd, 1) := by decide +kernel
theorem dX1_faultCount_7 : decode cX1_faultCount 7 = .ok (.aload_n 0, 1) := by decide +kernel
theorem dX1_faultCount_8 : decode cX1_faultCount 8 = .ok (.getfield 15, 3) := by decide +kernel
theorem dX1_faultCount_11 : decode cX1_faultCount 11 = .ok (.if_icmp .ge 25, 3) := by decide +kernel
theorem dX1_faultCount_14 : decode cX1_faultCount 14 = .ok (.iload_n 1, 1) := by decide +kernel
theorem dX1_faultCount_15 : decode cX1_faultCount 15 = .ok (.aload_n 0, 1) := by decide +kernel
theorem dX1_faultCount_16 : decode cX1_faultCount 16 = .ok (.iload_n 2, 1) := by decide +kernel
theorem dX1_faultCount_17 : decode cX1_faultCount 17 = .ok (.invokevirtual 39, 3) := by decide +kernel
theorem dX1_faultCount_20 : decode cX1_faultCount 20 = .ok (.ifCond .eq 7, 3) := by decide +kernel
theorem dX1_faultCount_23 : decode cX1_faultCount 23 = .ok (.iconst 1, 1) := by decide +kernel
theorem dX1_faultCount_24 : decode cX1_faultCount 24 = .ok (.goto 4, 3) := by decide +kernel
theorem dX1_faultCount_27 : decode cX1_faultCount 27 = .ok (.iconst 0, 1) := by decide +kernel
theorem dX1_faultCount_28 : decode cX1_faultCount 28 = .ok (.iadd, 1) := by decide +kernel
theorem dX1_faultCount_29 : decode cX1_faultCount 29 = .ok (.istore_n 1, 1) := by decide +kernel
theorem dX1_faultCount_30 : decode cX1_faultCount 30 = .ok (.iinc 2 1, 3) := by decide +kernel
theorem dX1_faultCount_33 : decode cX1_faultCount 33 = .ok (.goto (-29), 3) := by decide +kernel
theorem dX1_faultCount_36 : decode cX1_faultCount 36 = .ok (.iload_n 1, 1) := by decide +kernel
theorem dX1_faultCount_37 : decode cX1_faultCount 37 = .ok (.ireturn, 1) := by decide +kernel
set_option maxRecDepth 20000 in
theorem ggX1_firstFaultCell_X1_isFaulty : GoodIn wsX1_firstFaultCell wsX1_isFaulty := goodIn_r _ [7, 8, 9, 10, 11, 12, 13, 14, 15, 16, 17, 18, 19, 20, 21, 22, 23, 24, 25, 26, 27, 28, 29, 30, 31, 32, 33, 34, 35, 36, 37, 38, 39, 40, 41, 42, 43, 44, 45, 46, 47, 48, 49, 50, 51, 52, 53, 54, 55, 56, 57] (by decide +kernel) (by decide +kernel)
set_option maxRecDepth 20000 in
theorem gX1_firstFaultCell_X1_isFaulty : GoodIn wsX1_firstFaultCell (wsV RX1 39 RX1 yX1_isFaulty wsX1_isFaulty) := goodIn_app (goodIn_of _ (by decide +kernel)) ggX1_firstFaultCell_X1_isFaulty
theorem dX1_firstFaultCell_0 : decode cX1_firstFaultCell 0 = .ok (.iconst 0, 1) := by decide +kernel
theorem dX1_firstFaultCell_1 : decode cX1_firstFaultCell 1 = .ok (.istore_n 1, 1) := by decide +kernel
theorem dX1_firstFaultCell_2 : decode cX1_firstFaultCell 2 = .ok (.iload_n 1, 1) := by decide +kernel
theorem dX1_firstFaultCell_3 : decode cX1_firstFaultCell 3 = .ok (.iconst 1, 1) := by decide +kernel
theorem dX1_firstFaultCell_4 : decode cX1_firstFaultCell 4 = .ok (.iadd, 1) := by decide +kernel
theorem dX1_firstFaultCell_5 : decode cX1_firstFaultCell 5 = .ok (.aload_n 0, 1) := by decide +kernel
theorem dX1_firstFaultCell_6 : decode cX1_firstFaultCell 6 = .ok (.getfield 15, 3) := by decide +kernel
theorem dX1_firstFaultCell_9 : decode cX1_firstFaultCell 9 = .ok (.if_icmp .ge 19, 3) := by decide +kernel
theorem dX1_firstFaultCell_12 : decode cX1_firstFaultCell 12 = .ok (.aload_n 0, 1) := by decide +kernel
theorem dX1_firstFaultCell_13 : decode cX1_firstFaultCell 13 = .ok (.iload_n 1, 1) := by decide +kernel
theorem dX1_firstFaultCell_14 : decode cX1_firstFaultCell 14 = .ok (.invokevirtual 39, 3) := by decide +kernel
theorem dX1_firstFaultCell_17 : decode cX1_firstFaultCell 17 = .ok (.ifCond .eq 5, 3) := by decide +kernel
theorem dX1_firstFaultCell_20 : decode cX1_firstFaultCell 20 = .ok (.iload_n 1, 1) := by decide +kernel
theorem dX1_firstFaultCell_21 : decode cX1_firstFaultCell 21 = .ok (.ireturn, 1) := by decide +kernel
theorem dX1_firstFaultCell_22 : decode cX1_firstFaultCell 22 = .ok (.iinc 1 1, 3) := by decide +kernel
theorem dX1_firstFaultCell_25 : decode cX1_firstFaultCell 25 = .ok (.goto (-23), 3) := by decide +kernel
theorem dX1_firstFaultCell_28 : decode cX1_firstFaultCell 28 = .ok (.ldc 50, 2) := by decide +kernel
theorem dX1_firstFaultCell_30 : decode cX1_firstFaultCell 30 = .ok (.ireturn, 1) := by decide +kernel
set_option maxRecDepth 20000 in
theorem ggX1_stopsPassed_X0_isStop : GoodIn wsX1_stopsPassed wsX0_isStop := goodIn_r _ [8, 9, 14, 15, 16, 17, 18, 19] (by decide +kernel) (by decide +kernel)
set_option maxRecDepth 20000 in
theorem gX1_stopsPassed_X0_isStop : GoodIn wsX1_stopsPassed (wsV RX1 51 RX0 yX0_isStop wsX0_isStop) := goodIn_app (goodIn_of _ (by decide +kernel)) ggX1_stopsPassed_X0_isStop
theorem dX1_stopsPassed_0 : decode cX1_stopsPassed 0 = .ok (.iconst 0, 1) := by decide +kernel
theorem dX1_stopsPassed_1 : decode cX1_stopsPassed 1 = .ok (.istore_n 1, 1) := by decide +kernel
theorem dX1_stopsPassed_2 : decode cX1_stopsPassed 2 = .ok (.iconst 0, 1) := by decide +kernel
theorem dX1_stopsPassed_3 : decode cX1_stopsPassed 3 = .ok (.istore_n 2, 1) := by decide +kernel
theorem dX1_stopsPassed_4 : decode cX1_stopsPassed 4 = .ok (.iload_n 2, 1) := by decide +kernel
theorem dX1_stopsPassed_5 : decode cX1_stopsPassed 5 = .ok (.aload_n 0, 1) := by decide +kernel
theorem dX1_stopsPassed_6 : decode cX1_stopsPassed 6 = .ok (.getfield 15, 3) := by decide +kernel
theorem dX1_stopsPassed_9 : decode cX1_stopsPassed 9 = .ok (.if_icmp .ge 37, 3) := by decide +kernel
theorem dX1_stopsPassed_12 : decode cX1_stopsPassed 12 = .ok (.iload_n 1, 1) := by decide +kernel
theorem dX1_stopsPassed_13 : decode cX1_stopsPassed 13 = .ok (.aload_n 0, 1) := by decide +kernel
theorem dX1_stopsPassed_14 : decode cX1_stopsPassed 14 = .ok (.getfield 19, 3) := by decide +kernel
theorem dX1_stopsPassed_17 : decode cX1_stopsPassed 17 = .ok (.iload_n 2, 1) := by decide +kernel
theorem dX1_stopsPassed_18 : decode cX1_stopsPassed 18 = .ok (.invokevirtual 51, 3) := by decide +kernel
theorem dX1_stopsPassed_21 : decode cX1_stopsPassed 21 = .ok (.ifCond .eq 16, 3) := by decide +kernel
theorem dX1_stopsPassed_24 : decode cX1_stopsPassed 24 = .ok (.aload_n 0, 1) := by decide +kernel
theorem dX1_stopsPassed_25 : decode cX1_stopsPassed 25 = .ok (.getfield 9, 3) := by decide +kernel
theorem dX1_stopsPassed_28 : decode cX1_stopsPassed 28 = .ok (.iload_n 2, 1) := by decide +kernel
theorem dX1_stopsPassed_29 : decode cX1_stopsPassed 29 = .ok (.iaload, 1) := by decide +kernel
theorem dX1_stopsPassed_30 : decode cX1_stopsPassed 30 = .ok (.ifCond .eq 7, 3) := by decide +kernel
theorem dX1_stopsPassed_33 : decode cX1_stopsPassed 33 = .ok (.iconst 1, 1) := by decide +kernel
theorem dX1_stopsPassed_34 : decode cX1_stopsPassed 34 = .ok (.goto 4, 3) := by decide +kernel
theorem dX1_stopsPassed_37 : decode cX1_stopsPassed 37 = .ok (.iconst 0, 1) := by decide +kernel
theorem dX1_stopsPassed_38 : decode cX1_stopsPassed 38 = .ok (.iadd, 1) := by decide +kernel
theorem dX1_stopsPassed_39 : decode cX1_stopsPassed 39 = .ok (.istore_n 1, 1) := by decide +kernel
theorem dX1_stopsPassed_40 : decode cX1_stopsPassed 40 = .ok (.iinc 2 1, 3) := by decide +kernel
theorem dX1_stopsPassed_43 : decode cX1_stopsPassed 43 = .ok (.goto (-39), 3) := by decide +kernel
theorem dX1_stopsPassed_46 : decode cX1_stopsPassed 46 = .ok (.iload_n 1, 1) := by decide +kernel
theorem dX1_stopsPassed_47 : decode cX1_stopsPassed 47 = .ok (.ireturn, 1) := by decide +kernel
theorem dX2_init_0 : decode cX2_init 0 = .ok (.aload_n 0, 1) := by decide +kernel
theorem dX2_init_1 : decode cX2_init 1 = .ok (.invokespecial 3, 3) := by decide +kernel
theorem dX2_init_4 : decode cX2_init 4 = .ok (.aload_n 0, 1) := by decide +kernel
theorem dX2_init_5 : decode cX2_init 5 = .ok (.sipush 1001, 3) := by decide +kernel
theorem dX2_init_8 : decode cX2_init 8 = .ok (.newarray .long, 2) := by decide +kernel
theorem dX2_init_10 : decode cX2_init 10 = .ok (.putfield 9, 3) := by decide +kernel
theorem dX2_init_13 : decode cX2_init 13 = .ok (.aload_n 0, 1) := by decide +kernel
theorem dX2_init_14 : decode cX2_init 14 = .ok (.bipush 16, 2) := by decide +kernel
theorem dX2_init_16 : decode cX2_init 16 = .ok (.newarray .long, 2) := by decide +kernel
theorem dX2_init_18 : decode cX2_init 18 = .ok (.putfield 15, 3) := by decide +kernel
theorem dX2_init_21 : decode cX2_init 21 = .ok (.aload_n 0, 1) := by decide +kernel
theorem dX2_init_22 : decode cX2_init 22 = .ok (.iconst 0, 1) := by decide +kernel
theorem dX2_init_23 : decode cX2_init 23 = .ok (.putfield 18, 3) := by decide +kernel
theorem dX2_init_26 : decode cX2_init 26 = .ok (.aload_n 0, 1) := by decide +kernel
theorem dX2_init_27 : decode cX2_init 27 = .ok (.aload_n 1, 1) := by decide +kernel
theorem dX2_init_28 : decode cX2_init 28 = .ok (.putfield 22, 3) := by decide +kernel
theorem dX2_init_31 : decode cX2_init 31 = .ok (.aload_n 0, 1) := by decide +kernel
theorem dX2_init_32 : decode cX2_init 32 = .ok (.aload_n 2, 1) := by decide +kernel
theorem dX2_init_33 : decode cX2_init 33 = .ok (.putfield 26, 3) := by decide +kernel
theorem dX2_init_36 : decode cX2_init 36 = .ok (.return_, 1) := by decide +kernel
theorem dX2_forget_0 : decode cX2_forget 0 = .ok (.aload_n 0, 1) := by decide +kernel
theorem dX2_forget_1 : decode cX2_forget 1 = .ok (.iconst 0, 1) := by decide +kernel
theorem dX2_forget_2 : decode cX2_forget 2 = .ok (.putfield 18, 3) := by decide +kernel
theorem dX2_forget_5 : decode cX2_forget 5 = .ok (.return_, 1) := by decide +kernel
set_option maxRecDepth 20000 in
theorem ggX2_bringUpToDate_J7_fill_d0a16 : GoodIn wsX2_bringUpToDate wsJ7_fill_d0a16 := goodIn_r _ [13] (by decide +kernel) (by decide +kernel)
set_option maxRecDepth 20000 in
theorem gX2_bringUpToDate_J7_fill_d0a16 : GoodIn wsX2_bringUpToDate (va_wsS RX2 30 yJ7_fill_d0a16 wsJ7_fill_d0a16) := goodIn_app (goodIn_of _ (by decide +kernel)) ggX2_bringUpToDate_J7_fill_d0a16
set_option maxRecDepth 20000 in
theorem ggX2_bringUpToDate_X0_legCount : GoodIn wsX2_bringUpToDate wsX0_legCount := goodIn_r _ [18, 19, 50, 51, 52, 53, 54, 55] (by decide +kernel) (by decide +kernel)
set_option maxRecDepth 20000 in
theorem gX2_bringUpToDate_X0_legCount : GoodIn wsX2_bringUpToDate (wsV RX2 36 RX0 yX0_legCount wsX0_legCount) := goodIn_app (goodIn_of _ (by decide +kernel)) ggX2_bringUpToDate_X0_legCount
set_option maxRecDepth 20000 in
theorem ggX2_bringUpToDate_X2_bestFrom : GoodIn wsX2_bringUpToDate wsX2_bestFrom := goodIn_r _ [24, 25, 5, 2, 4, 26, 27, 8, 28, 29, 30, 31, 32, 33, 34, 35, 36, 37, 38, 39, 40, 41, 42, 43, 44, 45, 46, 47, 48, 49, 56, 57, 58, 59, 60, 61, 62, 63] (by decide +kernel) (by decide +kernel)
set_option maxRecDepth 20000 in
theorem gX2_bringUpToDate_X2_bestFrom : GoodIn wsX2_bringUpToDate (wsV RX2 42 RX2 yX2_bestFrom wsX2_bestFrom) := goodIn_app (goodIn_of _ (by decide +kernel)) ggX2_bringUpToDate_X2_bestFrom
set_option maxRecDepth 20000 in
theorem ggX2_bringUpToDate_X5_pairCount : GoodIn wsX2_bringUpToDate wsX5_pairCount := goodIn_r _ [33, 34, 56, 57, 58, 59, 60, 61, 62, 63] (by decide +kernel) (by decide +kernel)
set_option maxRecDepth 20000 in
theorem gX2_bringUpToDate_X5_pairCount : GoodIn wsX2_bringUpToDate (wsV RX2 46 RX5 yX5_pairCount wsX5_pairCount) := goodIn_app (goodIn_of _ (by decide +kernel)) ggX2_bringUpToDate_X5_pairCount
theorem dX2_bringUpToDate_0 : decode cX2_bringUpToDate 0 = .ok (.aload_n 0, 1) := by decide +kernel
theorem dX2_bringUpToDate_1 : decode cX2_bringUpToDate 1 = .ok (.getfield 18, 3) := by decide +kernel
theorem dX2_bringUpToDate_4 : decode cX2_bringUpToDate 4 = .ok (.ifCond .eq 4, 3) := by decide +kernel
theorem dX2_bringUpToDate_7 : decode cX2_bringUpToDate 7 = .ok (.return_, 1) := by decide +kernel
theorem dX2_bringUpToDate_8 : decode cX2_bringUpToDate 8 = .ok (.aload_n 0, 1) := by decide +kernel
theorem dX2_bringUpToDate_9 : decode cX2_bringUpToDate 9 = .ok (.getfield 9, 3) := by decide +kernel
theorem dX2_bringUpToDate_12 : decode cX2_bringUpToDate 12 = .ok (.lconst 0, 1) := by decide +kernel
theorem dX2_bringUpToDate_13 : decode cX2_bringUpToDate 13 = .ok (.invokestatic 30, 3) := by decide +kernel
theorem dX2_bringUpToDate_16 : decode cX2_bringUpToDate 16 = .ok (.lconst 1, 1) := by decide +kernel
theorem dX2_bringUpToDate_17 : decode cX2_bringUpToDate 17 = .ok (.lstore_n 1, 1) := by decide +kernel
theorem dX2_bringUpToDate_18 : decode cX2_bringUpToDate 18 = .ok (.aload_n 0, 1) := by decide +kernel
theorem dX2_bringUpToDate_19 : decode cX2_bringUpToDate 19 = .ok (.getfield 22, 3) := by decide +kernel
theorem dX2_bringUpToDate_22 : decode cX2_bringUpToDate 22 = .ok (.invokevirtual 36, 3) := by decide +kernel
theorem dX2_bringUpToDate_25 : decode cX2_bringUpToDate 25 = .ok (.iconst 1, 1) := by decide +kernel
theorem dX2_bringUpToDate_26 : decode cX2_bringUpToDate 26 = .ok (.isub, 1) := by decide +kernel
theorem dX2_bringUpToDate_27 : decode cX2_bringUpToDate 27 = .ok (.istore_n 3, 1) := by decide +kernel
theorem dX2_bringUpToDate_28 : decode cX2_bringUpToDate 28 = .ok (.iload_n 3, 1) := by decide +kernel
theorem dX2_bringUpToDate_29 : decode cX2_bringUpToDate 29 = .ok (.ifCond .lt 62, 3) := by decide +kernel
theorem dX2_bringUpToDate_32 : decode cX2_bringUpToDate 32 = .ok (.aload_n 0, 1) := by decide +kernel
theorem dX2_bringUpToDate_33 : decode cX2_bringUpToDate 33 = .ok (.getfield 15, 3) := by decide +kernel
theorem dX2_bringUpToDate_36 : decode cX2_bringUpToDate 36 = .ok (.iload_n 3, 1) := by decide +kernel
theorem dX2_bringUpToDate_37 : decode cX2_bringUpToDate 37 = .ok (.lload_n 1, 1) := by decide +kernel
theorem dX2_bringUpToDate_38 : decode cX2_bringUpToDate 38 = .ok (.lastore, 1) := by decide +kernel
theorem dX2_bringUpToDate_39 : decode cX2_bringUpToDate 39 = .ok (.sipush 1000, 3) := by decide +kernel
theorem dX2_bringUpToDate_42 : decode cX2_bringUpToDate 42 = .ok (.istore 4, 2) := by decide +kernel
theorem dX2_bringUpToDate_44 : decode cX2_bringUpToDate 44 = .ok (.iload 4, 2) := by decide +kernel
theorem dX2_bringUpToDate_46 : decode cX2_bringUpToDate 46 = .ok (.ifCond .lt 23, 3) := by decide +kernel
theorem dX2_bringUpToDate_49 : decode cX2_bringUpToDate 49 = .ok (.aload_n 0, 1) := by decide +kernel
theorem dX2_bringUpToDate_50 : decode cX2_bringUpToDate 50 = .ok (.getfield 9, 3) := by decide +kernel
theorem dX2_bringUpToDate_53 : decode cX2_bringUpToDate 53 = .ok (.iload 4, 2) := by decide +kernel
theorem dX2_bringUpToDate_55 : decode cX2_bringUpToDate 55 = .ok (.aload_n 0, 1) := by decide +kernel
theorem dX2_bringUpToDate_56 : decode cX2_bringUpToDate 56 = .ok (.iload_n 3, 1) := by decide +kernel
theorem dX2_bringUpToDate_57 : decode cX2_bringUpToDate 57 = .ok (.iload 4, 2) := by decide +kernel
theorem dX2_bringUpToDate_59 : decode cX2_bringUpToDate 59 = .ok (.invokevirtual 42, 3) := by decide +kernel
theorem dX2_bringUpToDate_62 : decode cX2_bringUpToDate 62 = .ok (.lastore, 1) := by decide +kernel
theorem dX2_bringUpToDate_63 : decode cX2_bringUpToDate 63 = .ok (.iinc 4 (-1), 3) := by decide +kernel
theorem dX2_bringUpToDate_66 : decode cX2_bringUpToDate 66 = .ok (.goto (-22), 3) := by decide +kernel
theorem dX2_bringUpToDate_69 : decode cX2_bringUpToDate 69 = .ok (.lload_n 1, 1) := by decide +kernel
theorem dX2_bringUpToDate_70 : decode cX2_bringUpToDate 70 = .ok (.iconst 1, 1) := by decide +kernel
theorem dX2_bringUpToDate_71 : decode cX2_bringUpToDate 71 = .ok (.aload_n 0, 1) := by decide +kernel
theorem dX2_bringUpToDate_72 : decode cX2_bringUpToDate 72 = .ok (.getfield 26, 3) := by decide +kernel
theorem dX2_bringUpToDate_75 : decode cX2_bringUpToDate 75 = .ok (.iload_n 3, 1) := by decide +kernel
theorem dX2_bringUpToDate_76 : decode cX2_bringUpToDate 76 = .ok (.invokevirtual 46, 3) := by decide +kernel
theorem dX2_bringUpToDate_79 : decode cX2_bringUpToDate 79 = .ok (.invokestatic 52, 3) := by decide +kernel
theorem dX2_bringUpToDate_82 : decode cX2_bringUpToDate 82 = .ok (.i2l, 1) := by decide +kernel
theorem dX2_bringUpToDate_83 : decode cX2_bringUpToDate 83 = .ok (.lmul, 1) := by decide +kernel
theorem dX2_bringUpToDate_84 : decode cX2_bringUpToDate 84 = .ok (.lstore_n 1, 1) := by decide +kernel
theorem dX2_bringUpToDate_85 : decode cX2_bringUpToDate 85 = .ok (.iinc 3 (-1), 3) := by decide +kernel
theorem dX2_bringUpToDate_88 : decode cX2_bringUpToDate 88 = .ok (.goto (-60), 3) := by decide +kernel
theorem dX2_bringUpToDate_91 : decode cX2_bringUpToDate 91 = .ok (.aload_n 0, 1) := by decide +kernel
theorem dX2_bringUpToDate_92 : decode cX2_bringUpToDate 92 = .ok (.iconst 1, 1) := by decide +kernel
theorem dX2_bringUpToDate_93 : decode cX2_bringUpToDate 93 = .ok (.putfield 18, 3) := by decide +kernel
theorem dX2_bringUpToDate_96 : decode cX2_bringUpToDate 96 = .ok (.return_, 1) := by decide +kernel
set_option maxRecDepth 20000 in
theorem ggX2_bestFrom_X5_pairCount : GoodIn wsX2_bestFrom wsX5_pairCount := goodIn_r _ [13, 14, 30, 31, 32, 33, 34, 35, 36, 37] (by decide +kernel) (by decide +kernel)
set_option maxRecDepth 20000 in
theorem gX2_bestFrom_X5_pairCount : GoodIn wsX2_bestFrom (wsV RX2 46 RX5 yX5_pairCount wsX5_pairCount) := goodIn_app (goodIn_of _ (by decide +kernel)) ggX2_bestFrom_X5_pairCount
set_option maxRecDepth 20000 in
theorem ggX2_bestFrom_X5_pairTime : GoodIn wsX2_bestFrom wsX5_pairTime := goodIn_r _ [18, 19, 14, 30, 31, 32, 33, 34, 35, 36, 37] (by decide +kernel) (by decide +kernel)
set_option maxRecDepth 20000 in
theorem gX2_bestFrom_X5_pairTime : GoodIn wsX2_bestFrom (wsV RX2 60 RX5 yX5_pairTime wsX5_pairTime) := goodIn_app (goodIn_of _ (by decide +kernel)) ggX2_bestFrom_X5_pairTime
set_option maxRecDepth 20000 in
theorem ggX2_bestFrom_X5_pairPower : GoodIn wsX2_bestFrom wsX5_pairPower := goodIn_r _ [23, 24, 14, 30, 31, 32, 33, 34, 35, 36, 37] (by decide +kernel) (by decide +kernel)
set_option maxRecDepth 20000 in
theorem gX2_bestFrom_X5_pairPower : GoodIn wsX2_bestFrom (wsV RX2 63 RX5 yX5_pairPower wsX5_pairPower) := goodIn_app (goodIn_of _ (by decide +kernel)) ggX2_bestFrom_X5_pairPower
theorem dX2_bestFrom_0 : decode cX2_bestFrom 0 = .ok (.ldc2_w 58, 3) := by decide +kernel
theorem dX2_bestFrom_3 : decode cX2_bestFrom 3 = .ok (.lstore_n 3, 1) := by decide +kernel
theorem dX2_bestFrom_4 : decode cX2_bestFrom 4 = .ok (.aload_n 0, 1) := by decide +kernel
theorem dX2_bestFrom_5 : decode cX2_bestFrom 5 = .ok (.getfield 26, 3) := by decide +kernel
theorem dX2_bestFrom_8 : decode cX2_bestFrom 8 = .ok (.iload_n 1, 1) := by decide +kernel
theorem dX2_bestFrom_9 : decode cX2_bestFrom 9 = .ok (.invokevirtual 46, 3) := by decide +kernel
theorem dX2_bestFrom_12 : decode cX2_bestFrom 12 = .ok (.istore 5, 2) := by decide +kernel
theorem dX2_bestFrom_14 : decode cX2_bestFrom 14 = .ok (.iconst 0, 1) := by decide +kernel
theorem dX2_bestFrom_15 : decode cX2_bestFrom 15 = .ok (.istore 6, 2) := by decide +kernel
theorem dX2_bestFrom_17 : decode cX2_bestFrom 17 = .ok (.iload 6, 2) := by decide +kernel
theorem dX2_bestFrom_19 : decode cX2_bestFrom 19 = .ok (.iload 5, 2) := by decide +kernel
theorem dX2_bestFrom_21 : decode cX2_bestFrom 21 = .ok (.if_icmp .ge 87, 3) := by decide +kernel
theorem dX2_bestFrom_24 : decode cX2_bestFrom 24 = .ok (.iload_n 2, 1) := by decide +kernel
theorem dX2_bestFrom_25 : decode cX2_bestFrom 25 = .ok (.aload_n 0, 1) := by decide +kernel
theorem dX2_bestFrom_26 : decode cX2_bestFrom 26 = .ok (.getfield 26, 3) := by decide +kernel
theorem dX2_bestFrom_29 : decode cX2_bestFrom 29 = .ok (.iload_n 1, 1) := by decide +kernel
theorem dX2_bestFrom_30 : decode cX2_bestFrom 30 = .ok (.iload 6, 2) := by decide +kernel
theorem dX2_bestFrom_32 : decode cX2_bestFrom 32 = .ok (.invokevirtual 60, 3) := by decide +kernel
theorem dX2_bestFrom_35 : decode cX2_bestFrom 35 = .ok (.isub, 1) := by decide +kernel
theorem dX2_bestFrom_36 : decode cX2_bestFrom 36 = .ok (.istore 7, 2) := by decide +kernel
theorem dX2_bestFrom_38 : decode cX2_bestFrom 38 = .ok (.iload 7, 2) := by decide +kernel
theorem dX2_bestFrom_40 : decode cX2_bestFrom 40 = .ok (.ifCond .ge 6, 3) := by decide +kernel
theorem dX2_bestFrom_43 : decode cX2_bestFrom 43 = .ok (.goto 65, 3) := by decide +kernel
theorem dX2_bestFrom_46 : decode cX2_bestFrom 46 = .ok (.aload_n 0, 1) := by decide +kernel
theorem dX2_bestFrom_47 : decode cX2_bestFrom 47 = .ok (.getfield 9, 3) := by decide +kernel
theorem dX2_bestFrom_50 : decode cX2_bestFrom 50 = .ok (.iload 7, 2) := by decide +kernel
theorem dX2_bestFrom_52 : decode cX2_bestFrom 52 = .ok (.laload, 1) := by decide +kernel
theorem dX2_bestFrom_53 : decode cX2_bestFrom 53 = .ok (.ldc2_w 58, 3) := by decide +kernel
theorem dX2_bestFrom_56 : decode cX2_bestFrom 56 = .ok (.lcmp, 1) := by decide +kernel
theorem dX2_bestFrom_57 : decode cX2_bestFrom 57 = .ok (.ifCond .eq 45, 3) := by decide +kernel
theorem dX2_bestFrom_60 : decode cX2_bestFrom 60 = .ok (.aload_n 0, 1) := by decide +kernel
theorem dX2_bestFrom_61 : decode cX2_bestFrom 61 = .ok (.getfield 26, 3) := by decide +kernel
theorem dX2_bestFrom_64 : decode cX2_bestFrom 64 = .ok (.iload_n 1, 1) := by decide +kernel
theorem dX2_bestFrom_65 : decode cX2_bestFrom 65 = .ok (.iload 6, 2) := by decide +kernel
theorem dX2_bestFrom_67 : decode cX2_bestFrom 67 = .ok (.invokevirtual 63, 3) := by decide +kernel
theorem dX2_bestFrom_70 : decode cX2_bestFrom 70 = .ok (.i2l, 1) := by decide +kernel
theorem dX2_bestFrom_71 : decode cX2_bestFrom 71 = .ok (.bipush 48, 2) := by decide +kernel
theorem dX2_bestFrom_73 : decode cX2_bestFrom 73 = .ok (.lshl, 1) := by decide +kernel
theorem dX2_bestFrom_74 : decode cX2_bestFrom 74 = .ok (.iload 6, 2) := by decide +kernel
theorem dX2_bestFrom_76 : decode cX2_bestFrom 76 = .ok (.i2l, 1) := by decide +kernel
theorem dX2_bestFrom_77 : decode cX2_bestFrom 77 = .ok (.aload_n 0, 1) := by decide +kernel
theorem dX2_bestFrom_78 : decode cX2_bestFrom 78 = .ok (.getfield 15, 3) := by decide +kernel
theorem dX2_bestFrom_81 : decode cX2_bestFrom 81 = .ok (.iload_n 1, 1) := by decide +kernel
theorem dX2_bestFrom_82 : decode cX2_bestFrom 82 = .ok (.laload, 1) := by decide +kernel
theorem dX2_bestFrom_83 : decode cX2_bestFrom 83 = .ok (.lmul, 1) := by decide +kernel
theorem dX2_bestFrom_84 : decode cX2_bestFrom 84 = .ok (.ladd, 1) := by decide +kernel
theorem dX2_bestFrom_85 : decode cX2_bestFrom 85 = .ok (.lstore 8, 2) := by decide +kernel
theorem dX2_bestFrom_87 : decode cX2_bestFrom 87 = .ok (.lload_n 3, 1) := by decide +kernel
theorem dX2_bestFrom_88 : decode cX2_bestFrom 88 = .ok (.aload_n 0, 1) := by decide +kernel
theorem dX2_bestFrom_89 : decode cX2_bestFrom 89 = .ok (.getfield 9, 3) := by decide +kernel
theorem dX2_bestFrom_92 : decode cX2_bestFrom 92 = .ok (.iload 7, 2) := by decide +kernel
theorem dX2_bestFrom_94 : decode cX2_bestFrom 94 = .ok (.laload, 1) := by decide +kernel
theorem dX2_bestFrom_95 : decode cX2_bestFrom 95 = .ok (.lload 8, 2) := by decide +kernel
theorem dX2_bestFrom_97 : decode cX2_bestFrom 97 = .ok (.ladd, 1) := by decide +kernel
theorem dX2_bestFrom_98 : decode cX2_bestFrom 98 = .ok (.invokestatic 66, 3) := by decide +kernel
theorem dX2_bestFrom_101 : decode cX2_bestFrom 101 = .ok (.lstore_n 3, 1) := by decide +kernel
theorem dX2_bestFrom_102 : decode cX2_bestFrom 102 = .ok (.iinc 6 1, 3) := by decide +kernel
theorem dX2_bestFrom_105 : decode cX2_bestFrom 105 = .ok (.goto (-88), 3) := by decide +kernel
theorem dX2_bestFrom_108 : decode cX2_bestFrom 108 = .ok (.lload_n 3, 1) := by decide +kernel
theorem dX2_bestFrom_109 : decode cX2_bestFrom 109 = .ok (.lreturn, 1) := by decide +kernel
theorem dX2_isThere_0 : decode cX2_isThere 0 = .ok (.aload_n 0, 1) := by decide +kernel
theorem dX2_isThere_1 : decode cX2_isThere 1 = .ok (.getfield 9, 3) := by decide +kernel
theorem dX2_isThere_4 : decode cX2_isThere 4 = .ok (.iload_n 1, 1) := by decide +kernel
theorem dX2_isThere_5 : decode cX2_isThere 5 = .ok (.laload, 1) := by decide +kernel
theorem dX2_isThere_6 : decode cX2_isThere 6 = .ok (.ldc2_w 58, 3) := by decide +kernel
theorem dX2_isThere_9 : decode cX2_isThere 9 = .ok (.lcmp, 1) := by decide +kernel
theorem dX2_isThere_10 : decode cX2_isThere 10 = .ok (.ifCond .eq 7, 3) := by decide +kernel
theorem dX2_isThere_13 : decode cX2_isThere 13 = .ok (.iconst 1, 1) := by decide +kernel
theorem dX2_isThere_14 : decode cX2_isThere 14 = .ok (.goto 4, 3) := by decide +kernel
theorem dX2_isThere_17 : decode cX2_isThere 17 = .ok (.iconst 0, 1) := by decide +kernel
theorem dX2_isThere_18 : decode cX2_isThere 18 = .ok (.ireturn, 1) := by decide +kernel
theorem dX2_powerTogether_0 : decode cX2_powerTogether 0 = .ok (.aload_n 0, 1) := by decide +kernel
theorem dX2_powerTogether_1 : decode cX2_powerTogether 1 = .ok (.getfield 9, 3) := by decide +kernel
theorem dX2_powerTogether_4 : decode cX2_powerTogether 4 = .ok (.iload_n 1, 1) := by decide +kernel
theorem dX2_powerTogether_5 : decode cX2_powerTogether 5 = .ok (.laload, 1) := by decide +kernel
theorem dX2_powerTogether_6 : decode cX2_powerTogether 6 = .ok (.bipush 48, 2) := by decide +kernel
theorem dX2_powerTogether_8 : decode cX2_powerTogether 8 = .ok (.lshr, 1) := by decide +kernel
theorem dX2_powerTogether_9 : decode cX2_powerTogether 9 = .ok (.l2i, 1) := by decide +kernel
theorem dX2_powerTogether_10 : decode cX2_powerTogether 10 = .ok (.ireturn, 1) := by decide +kernel
set_option maxRecDepth 20000 in
theorem ggX2_legTime_X5_pairCount : GoodIn wsX2_legTime wsX5_pairCount := goodIn_r _ [10, 11, 22, 23, 24, 25, 26, 27, 28, 29] (by decide +kernel) (by decide +kernel)
set_option maxRecDepth 20000 in
theorem gX2_legTime_X5_pairCount : GoodIn wsX2_legTime (wsV RX2 46 RX5 yX5_pairCount wsX5_pairCount) := goodIn_app (goodIn_of _ (by decide +kernel)) ggX2_legTime_X5_pairCount
set_option maxRecDepth 20000 in
theorem ggX2_legTime_X5_pairTime : GoodIn wsX2_legTime wsX5_pairTime := goodIn_r _ [15, 16, 11, 22, 23, 24, 25, 26, 27, 28, 29] (by decide +kernel) (by decide +kernel)
set_option maxRecDepth 20000 in
theorem gX2_legTime_X5_pairTime : GoodIn wsX2_legTime (wsV RX2 60 RX5 yX5_pairTime wsX5_pairTime) := goodIn_app (goodIn_of _ (by decide +kernel)) ggX2_legTime_X5_pairTime
theorem dX2_legTime_0 : decode cX2_legTime 0 = .ok (.aload_n 0, 1) := by decide +kernel
theorem dX2_legTime_1 : decode cX2_legTime 1 = .ok (.getfield 26, 3) := by decide +kernel
theorem dX2_legTime_4 : decode cX2_legTime 4 = .ok (.iload_n 2, 1) := by decide +kernel
theorem dX2_legTime_5 : decode cX2_legTime 5 = .ok (.invokevirtual 46, 3) := by decide +kernel
theorem dX2_legTime_8 : decode cX2_legTime 8 = .ok (.istore_n 3, 1) := by decide +kernel
theorem dX2_legTime_9 : decode cX2_legTime 9 = .ok (.aload_n 0, 1) := by decide +kernel
theorem dX2_legTime_10 : decode cX2_legTime 10 = .ok (.getfield 15, 3) := by decide +kernel
theorem dX2_legTime_13 : decode cX2_legTime 13 = .ok (.iload_n 2, 1) := by decide +kernel
theorem dX2_legTime_14 : decode cX2_legTime 14 = .ok (.laload, 1) := by decide +kernel
theorem dX2_legTime_15 : decode cX2_legTime 15 = .ok (.lstore 4, 2) := by decide +kernel
theorem dX2_legTime_17 : decode cX2_legTime 17 = .ok (.iload_n 3, 1) := by decide +kernel
theorem dX2_legTime_18 : decode cX2_legTime 18 = .ok (.ifCond .le 10, 3) := by decide +kernel
theorem dX2_legTime_21 : decode cX2_legTime 21 = .ok (.lload 4, 2) := by decide +kernel
theorem dX2_legTime_23 : decode cX2_legTime 23 = .ok (.lconst 0, 1) := by decide +kernel
theorem dX2_legTime_24 : decode cX2_legTime 24 = .ok (.lcmp, 1) := by decide +kernel
theorem dX2_legTime_25 : decode cX2_legTime 25 = .ok (.ifCond .gt 6, 3) := by decide +kernel
theorem dX2_legTime_28 : decode cX2_legTime 28 = .ok (.ldc 70, 2) := by decide +kernel
theorem dX2_legTime_30 : decode cX2_legTime 30 = .ok (.ireturn, 1) := by decide +kernel
theorem dX2_legTime_31 : decode cX2_legTime 31 = .ok (.aload_n 0, 1) := by decide +kernel
theorem dX2_legTime_32 : decode cX2_legTime 32 = .ok (.getfield 9, 3) := by decide +kernel
theorem dX2_legTime_35 : decode cX2_legTime 35 = .ok (.iload_n 1, 1) := by decide +kernel
theorem dX2_legTime_36 : decode cX2_legTime 36 = .ok (.laload, 1) := by decide +kernel
theorem dX2_legTime_37 : decode cX2_legTime 37 = .ok (.ldc2_w 71, 3) := by decide +kernel
theorem dX2_legTime_40 : decode cX2_legTime 40 = .ok (.land, 1) := by decide +kernel
theorem dX2_legTime_41 : decode cX2_legTime 41 = .ok (.lstore 6, 2) := by decide +kernel
theorem dX2_legTime_43 : decode cX2_legTime 43 = .ok (.aload_n 0, 1) := by decide +kernel
theorem dX2_legTime_44 : decode cX2_legTime 44 = .ok (.getfield 26, 3) := by decide +kernel
theorem dX2_legTime_47 : decode cX2_legTime 47 = .ok (.iload_n 2, 1) := by decide +kernel
theorem dX2_legTime_48 : decode cX2_legTime 48 = .ok (.lload 6, 2) := by decide +kernel
theorem dX2_legTime_50 : decode cX2_legTime 50 = .ok (.lload 4, 2) := by decide +kernel
theorem dX2_legTime_52 : decode cX2_legTime 52 = .ok (.ldiv, 1) := by decide +kernel
theorem dX2_legTime_53 : decode cX2_legTime 53 = .ok (.iload_n 3, 1) := by decide +kernel
theorem dX2_legTime_54 : decode cX2_legTime 54 = .ok (.i2l, 1) := by decide +kernel
theorem dX2_legTime_55 : decode cX2_legTime 55 = .ok (.lrem, 1) := by decide +kernel
theorem dX2_legTime_56 : decode cX2_legTime 56 = .ok (.l2i, 1) := by decide +kernel
theorem dX2_legTime_57 : decode cX2_legTime 57 = .ok (.invokevirtual 60, 3) := by decide +kernel
theorem dX2_legTime_60 : decode cX2_legTime 60 = .ok (.ireturn, 1) := by decide +kernel
theorem dX3_init_0 : decode cX3_init 0 = .ok (.aload_n 0, 1) := by decide +kernel
theorem dX3_init_1 : decode cX3_init 1 = .ok (.invokespecial 3, 3) := by decide +kernel
theorem dX3_init_4 : decode cX3_init 4 = .ok (.aload_n 0, 1) := by decide +kernel
theorem dX3_init_5 : decode cX3_init 5 = .ok (.aload_n 1, 1) := by decide +kernel
theorem dX3_init_6 : decode cX3_init 6 = .ok (.putfield 9, 3) := by decide +kernel
theorem dX3_init_9 : decode cX3_init 9 = .ok (.aload_n 0, 1) := by decide +kernel
theorem dX3_init_10 : decode cX3_init 10 = .ok (.aload_n 2, 1) := by decide +kernel
theorem dX3_init_11 : decode cX3_init 11 = .ok (.putfield 15, 3) := by decide +kernel
theorem dX3_init_14 : decode cX3_init 14 = .ok (.return_, 1) := by decide +kernel
set_option maxRecDepth 20000 in
theorem ggX3_forceOf_X4_number : GoodIn wsX3_forceOf wsX4_number := goodIn_r _ [7, 8, 17] (by decide +kernel) (by decide +kernel)
set_option maxRecDepth 20000 in
theorem gX3_forceOf_X4_number : GoodIn wsX3_forceOf (wsV RX3 21 RX4 yX4_number wsX4_number) := goodIn_app (goodIn_of _ (by decide +kernel)) ggX3_forceOf_X4_number
set_option maxRecDepth 20000 in
theorem ggX3_forceOf_X0_gradeOf : GoodIn wsX3_forceOf wsX0_gradeOf := goodIn_r _ [13, 14, 18, 19, 20, 21, 22, 23] (by decide +kernel) (by decide +kernel)
set_option maxRecDepth 20000 in
theorem gX3_forceOf_X0_gradeOf : GoodIn wsX3_forceOf (wsV RX3 25 RX0 yX0_gradeOf wsX0_gradeOf) := goodIn_app (goodIn_of _ (by decide +kernel)) ggX3_forceOf_X0_gradeOf
theorem dX3_forceOf_0 : decode cX3_forceOf 0 = .ok (.aload_n 0, 1) := by decide +kernel
theorem dX3_forceOf_1 : decode cX3_forceOf 1 = .ok (.getfield 15, 3) := by decide +kernel
theorem dX3_forceOf_4 : decode cX3_forceOf 4 = .ok (.iconst 0, 1) := by decide +kernel
theorem dX3_forceOf_5 : decode cX3_forceOf 5 = .ok (.invokevirtual 21, 3) := by decide +kernel
theorem dX3_forceOf_8 : decode cX3_forceOf 8 = .ok (.istore 4, 2) := by decide +kernel
theorem dX3_forceOf_10 : decode cX3_forceOf 10 = .ok (.iload 4, 2) := by decide +kernel
theorem dX3_forceOf_12 : decode cX3_forceOf 12 = .ok (.iload_n 3, 1) := by decide +kernel
theorem dX3_forceOf_13 : decode cX3_forceOf 13 = .ok (.iload_n 3, 1) := by decide +kernel
theorem dX3_forceOf_14 : decode cX3_forceOf 14 = .ok (.imul, 1) := by decide +kernel
theorem dX3_forceOf_15 : decode cX3_forceOf 15 = .ok (.iload_n 2, 1) := by decide +kernel
theorem dX3_forceOf_16 : decode cX3_forceOf 16 = .ok (.iload_n 2, 1) := by decide +kernel
theorem dX3_forceOf_17 : decode cX3_forceOf 17 = .ok (.imul, 1) := by decide +kernel
theorem dX3_forceOf_18 : decode cX3_forceOf 18 = .ok (.isub, 1) := by decide +kernel
theorem dX3_forceOf_19 : decode cX3_forceOf 19 = .ok (.imul, 1) := by decide +kernel
theorem dX3_forceOf_20 : decode cX3_forceOf 20 = .ok (.iload 4, 2) := by decide +kernel
theorem dX3_forceOf_22 : decode cX3_forceOf 22 = .ok (.aload_n 0, 1) := by decide +kernel
theorem dX3_forceOf_23 : decode cX3_forceOf 23 = .ok (.getfield 9, 3) := by decide +kernel
theorem dX3_forceOf_26 : decode cX3_forceOf 26 = .ok (.iload_n 1, 1) := by decide +kernel
theorem dX3_forceOf_27 : decode cX3_forceOf 27 = .ok (.invokevirtual 25, 3) := by decide +kernel
theorem dX3_forceOf_30 : decode cX3_forceOf 30 = .ok (.imul, 1) := by decide +kernel
theorem dX3_forceOf_31 : decode cX3_forceOf 31 = .ok (.iadd, 1) := by decide +kernel
theorem dX3_forceOf_32 : decode cX3_forceOf 32 = .ok (.aload_n 0, 1) := by decide +kernel
theorem dX3_forceOf_33 : decode cX3_forceOf 33 = .ok (.getfield 15, 3) := by decide +kernel
theorem dX3_forceOf_36 : decode cX3_forceOf 36 = .ok (.iconst 1, 1) := by decide +kernel
theorem dX3_forceOf_37 : decode cX3_forceOf 37 = .ok (.invokevirtual 21, 3) := by decide +kernel
theorem dX3_forceOf_40 : decode cX3_forceOf 40 = .ok (.iload_n 2, 1) := by decide +kernel
theorem dX3_forceOf_41 : decode cX3_forceOf 41 = .ok (.iload_n 3, 1) := by decide +kernel
theorem dX3_forceOf_42 : decode cX3_forceOf 42 = .ok (.iadd, 1) := by decide +kernel
theorem dX3_forceOf_43 : decode cX3_forceOf 43 = .ok (.imul, 1) := by decide +kernel
theorem dX3_forceOf_44 : decode cX3_forceOf 44 = .ok (.iadd, 1) := by decide +kernel
theorem dX3_forceOf_45 : decode cX3_forceOf 45 = .ok (.ireturn, 1) := by decide +kernel
set_option maxRecDepth 20000 in
theorem ggX3_faultOf_X0_limitOf : GoodIn wsX3_faultOf wsX0_limitOf := goodIn_r _ [14, 15, 34, 35, 36, 37, 38, 39] (by decide +kernel) (by decide +kernel)
set_option maxRecDepth 20000 in
theorem gX3_faultOf_X0_limitOf : GoodIn wsX3_faultOf (wsV RX3 36 RX0 yX0_limitOf wsX0_limitOf) := goodIn_app (goodIn_of _ (by decide +kernel)) ggX3_faultOf_X0_limitOf
set_option maxRecDepth 20000 in
theorem ggX3_faultOf_X3_forceOf : GoodIn wsX3_faultOf wsX3_forceOf := goodIn_r _ [20, 9, 5, 21, 22, 23, 24, 25, 26, 27, 28, 29, 13, 30, 31, 32, 33, 40, 34, 35, 36, 37, 38, 39] (by decide +kernel) (by decide +kernel)
set_option maxRecDepth 20000 in
theorem gX3_faultOf_X3_forceOf : GoodIn wsX3_faultOf (wsV RX3 42 RX3 yX3_forceOf wsX3_forceOf) := goodIn_app (goodIn_of _ (by decide +kernel)) ggX3_faultOf_X3_forceOf
set_option maxRecDepth 20000 in
theorem ggX3_faultOf_X4_number : GoodIn wsX3_faultOf wsX4_number := goodIn_r _ [25, 26, 40] (by decide +kernel) (by decide +kernel)
set_option maxRecDepth 20000 in
theorem gX3_faultOf_X4_number : GoodIn wsX3_faultOf (wsV RX3 21 RX4 yX4_number wsX4_number) := goodIn_app (goodIn_of _ (by decide +kernel)) ggX3_faultOf_X4_number
theorem dX3_faultOf_0 : decode cX3_faultOf 0 = .ok (.iload_n 2, 1) := by decide +kernel
theorem dX3_faultOf_1 : decode cX3_faultOf 1 = .ok (.iload_n 3, 1) := by decide +kernel
theorem dX3_faultOf_2 : decode cX3_faultOf 2 = .ok (.invokestatic 30, 3) := by decide +kernel
theorem dX3_faultOf_5 : decode cX3_faultOf 5 = .ok (.aload_n 0, 1) := by decide +kernel
theorem dX3_faultOf_6 : decode cX3_faultOf 6 = .ok (.getfield 9, 3) := by decide +kernel
theorem dX3_faultOf_9 : decode cX3_faultOf 9 = .ok (.iload_n 1, 1) := by decide +kernel
theorem dX3_faultOf_10 : decode cX3_faultOf 10 = .ok (.invokevirtual 36, 3) := by decide +kernel
theorem dX3_faultOf_13 : decode cX3_faultOf 13 = .ok (.if_icmp .le 5, 3) := by decide +kernel
theorem dX3_faultOf_16 : decode cX3_faultOf 16 = .ok (.iconst 1, 1) := by decide +kernel
theorem dX3_faultOf_17 : decode cX3_faultOf 17 = .ok (.ireturn, 1) := by decide +kernel
theorem dX3_faultOf_18 : decode cX3_faultOf 18 = .ok (.iload_n 2, 1) := by decide +kernel
theorem dX3_faultOf_19 : decode cX3_faultOf 19 = .ok (.ifCond .ne 9, 3) := by decide +kernel
theorem dX3_faultOf_22 : decode cX3_faultOf 22 = .ok (.iload_n 3, 1) := by decide +kernel
theorem dX3_faultOf_23 : decode cX3_faultOf 23 = .ok (.ifCond .ne 5, 3) := by decide +kernel
theorem dX3_faultOf_26 : decode cX3_faultOf 26 = .ok (.iconst 2, 1) := by decide +kernel
theorem dX3_faultOf_27 : decode cX3_faultOf 27 = .ok (.ireturn, 1) := by decide +kernel
theorem dX3_faultOf_28 : decode cX3_faultOf 28 = .ok (.iload_n 2, 1) := by decide +kernel
theorem dX3_faultOf_29 : decode cX3_faultOf 29 = .ok (.iload_n 3, 1) := by decide +kernel
theorem dX3_faultOf_30 : decode cX3_faultOf 30 = .ok (.isub, 1) := by decide +kernel
theorem dX3_faultOf_31 : decode cX3_faultOf 31 = .ok (.invokestatic 39, 3) := by decide +kernel
theorem dX3_faultOf_34 : decode cX3_faultOf 34 = .ok (.iconst 2, 1) := by decide +kernel
theorem dX3_faultOf_35 : decode cX3_faultOf 35 = .ok (.if_icmp .le 5, 3) := by decide +kernel
theorem dX3_faultOf_38 : decode cX3_faultOf 38 = .ok (.iconst 3, 1) := by decide +kernel
theorem dX3_faultOf_39 : decode cX3_faultOf 39 = .ok (.ireturn, 1) := by decide +kernel
theorem dX3_faultOf_40 : decode cX3_faultOf 40 = .ok (.aload_n 0, 1) := by decide +kernel
theorem dX3_faultOf_41 : decode cX3_faultOf 41 = .ok (.iload_n 1, 1) := by decide +kernel
theorem dX3_faultOf_42 : decode cX3_faultOf 42 = .ok (.iload_n 2, 1) := by decide +kernel
theorem dX3_faultOf_43 : decode cX3_faultOf 43 = .ok (.iload_n 3, 1) := by decide +kernel
theorem dX3_faultOf_44 : decode cX3_faultOf 44 = .ok (.invokevirtual 42, 3) := by decide +kernel
theorem dX3_faultOf_47 : decode cX3_faultOf 47 = .ok (.istore 4, 2) := by decide +kernel
theorem dX3_faultOf_49 : decode cX3_faultOf 49 = .ok (.iload 4, 2) := by decide +kernel
theorem dX3_faultOf_51 : decode cX3_faultOf 51 = .ok (.aload_n 0, 1) := by decide +kernel
theorem dX3_faultOf_52 : decode cX3_faultOf 52 = .ok (.getfield 15, 3) := by decide +kernel
theorem dX3_faultOf_55 : decode cX3_faultOf 55 = .ok (.iconst 2, 1) := by decide +kernel
theorem dX3_faultOf_56 : decode cX3_faultOf 56 = .ok (.invokevirtual 21, 3) := by decide +kernel
theorem dX3_faultOf_59 : decode cX3_faultOf 59 = .ok (.if_icmp .le 5, 3) := by decide +kernel
theorem dX3_faultOf_62 : decode cX3_faultOf 62 = .ok (.iconst 4, 1) := by decide +kernel
theorem dX3_faultOf_63 : decode cX3_faultOf 63 = .ok (.ireturn, 1) := by decide +kernel
theorem dX3_faultOf_64 : decode cX3_faultOf 64 = .ok (.iload 4, 2) := by decide +kernel
theorem dX3_faultOf_66 : decode cX3_faultOf 66 = .ok (.aload_n 0, 1) := by decide +kernel
theorem dX3_faultOf_67 : decode cX3_faultOf 67 = .ok (.getfield 15, 3) := by decide +kernel
theorem dX3_faultOf_70 : decode cX3_faultOf 70 = .ok (.iconst 3, 1) := by decide +kernel
theorem dX3_faultOf_71 : decode cX3_faultOf 71 = .ok (.invokevirtual 21, 3) := by decide +kernel
theorem dX3_faultOf_74 : decode cX3_faultOf 74 = .ok (.ineg, 1) := by decide +kernel
theorem dX3_faultOf_75 : decode cX3_faultOf 75 = .ok (.if_icmp .ge 7, 3) := by decide +kernel
theorem dX3_faultOf_78 : decode cX3_faultOf 78 = .ok (.iconst 5, 1) := by decide +kernel
theorem dX3_faultOf_79 : decode cX3_faultOf 79 = .ok (.goto 4, 3) := by decide +kernel
theorem dX3_faultOf_82 : decode cX3_faultOf 82 = .ok (.iconst 0, 1) := by decide +kernel
theorem dX3_faultOf_83 : decode cX3_faultOf 83 = .ok (.ireturn, 1) := by decide +kernel
theorem dX3_timeOf_0 : decode cX3_timeOf 0 = .ok (.iload_n 1, 1) := by decide +kernel
theorem dX3_timeOf_1 : decode cX3_timeOf 1 = .ok (.iload_n 2, 1) := by decide +kernel
theorem dX3_timeOf_2 : decode cX3_timeOf 2 = .ok (.iadd, 1) := by decide +kernel
theorem dX3_timeOf_3 : decode cX3_timeOf 3 = .ok (.istore_n 3, 1) := by decide +kernel
theorem dX3_timeOf_4 : decode cX3_timeOf 4 = .ok (.iload_n 3, 1) := by decide +kernel
theorem dX3_timeOf_5 : decode cX3_timeOf 5 = .ok (.ifCond .le 10, 3) := by decide +kernel
theorem dX3_timeOf_8 : decode cX3_timeOf 8 = .ok (.bipush 60, 2) := by decide +kernel
theorem dX3_timeOf_10 : decode cX3_timeOf 10 = .ok (.iload_n 3, 1) := by decide +kernel
theorem dX3_timeOf_11 : decode cX3_timeOf 11 = .ok (.idiv, 1) := by decide +kernel
theorem dX3_timeOf_12 : decode cX3_timeOf 12 = .ok (.goto 4, 3) := by decide +kernel
theorem dX3_timeOf_15 : decode cX3_timeOf 15 = .ok (.iconst 0, 1) := by decide +kernel
theorem dX3_timeOf_16 : decode cX3_timeOf 16 = .ok (.ireturn, 1) := by decide +kernel
set_option maxRecDepth 20000 in
theorem ggX3_powerOf_X3_forceOf : GoodIn wsX3_powerOf wsX3_forceOf := goodIn_r _ [6, 1, 7, 8, 9, 10, 11, 12, 13, 14, 15, 16, 17, 18, 19, 20, 21, 22, 23, 24, 25, 26, 27, 28] (by decide +kernel) (by decide +kernel)
set_option maxRecDepth 20000 in
theorem gX3_powerOf_X3_forceOf : GoodIn wsX3_powerOf (wsV RX3 42 RX3 yX3_forceOf wsX3_forceOf) := goodIn_app (goodIn_of _ (by decide +kernel)) ggX3_powerOf_X3_forceOf
set_option maxRecDepth 20000 in
theorem ggX3_powerOf_X4_number : GoodIn wsX3_powerOf wsX4_number := goodIn_r _ [12, 13, 22] (by decide +kernel) (by decide +kernel)
set_option maxRecDepth 20000 in
theorem gX3_powerOf_X4_number : GoodIn wsX3_powerOf (wsV RX3 21 RX4 yX4_number wsX4_number) := goodIn_app (goodIn_of _ (by decide +kernel)) ggX3_powerOf_X4_number
theorem dX3_powerOf_0 : decode cX3_powerOf 0 = .ok (.aload_n 0, 1) := by decide +kernel
theorem dX3_powerOf_1 : decode cX3_powerOf 1 = .ok (.iload_n 1, 1) := by decide +kernel
theorem dX3_powerOf_2 : decode cX3_powerOf 2 = .ok (.iload_n 2, 1) := by decide +kernel
theorem dX3_powerOf_3 : decode cX3_powerOf 3 = .ok (.iload_n 3, 1) := by decide +kernel
theorem dX3_powerOf_4 : decode cX3_powerOf 4 = .ok (.invokevirtual 42, 3) := by decide +kernel
theorem dX3_powerOf_7 : decode cX3_powerOf 7 = .ok (.istore 4, 2) := by decide +kernel
theorem dX3_powerOf_9 : decode cX3_powerOf 9 = .ok (.iload 4, 2) := by decide +kernel
theorem dX3_powerOf_11 : decode cX3_powerOf 11 = .ok (.ifCond .le 8, 3) := by decide +kernel
theorem dX3_powerOf_14 : decode cX3_powerOf 14 = .ok (.iload 4, 2) := by decide +kernel
theorem dX3_powerOf_16 : decode cX3_powerOf 16 = .ok (.goto 19, 3) := by decide +kernel
theorem dX3_powerOf_19 : decode cX3_powerOf 19 = .ok (.aload_n 0, 1) := by decide +kernel
theorem dX3_powerOf_20 : decode cX3_powerOf 20 = .ok (.getfield 15, 3) := by decide +kernel
theorem dX3_powerOf_23 : decode cX3_powerOf 23 = .ok (.iconst 4, 1) := by decide +kernel
theorem dX3_powerOf_24 : decode cX3_powerOf 24 = .ok (.invokevirtual 21, 3) := by decide +kernel
theorem dX3_powerOf_27 : decode cX3_powerOf 27 = .ok (.iload 4, 2) := by decide +kernel
theorem dX3_powerOf_29 : decode cX3_powerOf 29 = .ok (.ineg, 1) := by decide +kernel
theorem dX3_powerOf_30 : decode cX3_powerOf 30 = .ok (.imul, 1) := by decide +kernel
theorem dX3_powerOf_31 : decode cX3_powerOf 31 = .ok (.bipush 10, 2) := by decide +kernel
theorem dX3_powerOf_33 : decode cX3_powerOf 33 = .ok (.idiv, 1) := by decide +kernel
theorem dX3_powerOf_34 : decode cX3_powerOf 34 = .ok (.ineg, 1) := by decide +kernel
theorem dX3_powerOf_35 : decode cX3_powerOf 35 = .ok (.ireturn, 1) := by decide +kernel
theorem dX4_init_0 : decode cX4_init 0 = .ok (.aload_n 0, 1) := by decide +kernel
theorem dX4_init_1 : decode cX4_init 1 = .ok (.invokespecial 1, 3) := by decide +kernel
theorem dX4_init_4 : decode cX4_init 4 = .ok (.aload_n 0, 1) := by decide +kernel
theorem dX4_init_5 : decode cX4_init 5 = .ok (.getstatic 7, 3) := by decide +kernel
theorem dX4_init_8 : decode cX4_init 8 = .ok (.invokevirtual 13, 3) := by decide +kernel
theorem dX4_init_11 : decode cX4_init 11 = .ok (.checkcast 14, 3) := by decide +kernel
theorem dX4_init_14 : decode cX4_init 14 = .ok (.putfield 18, 3) := by decide +kernel
theorem dX4_init_17 : decode cX4_init 17 = .ok (.return_, 1) := by decide +kernel
theorem dX4_knows_0 : decode cX4_knows 0 = .ok (.iload_n 1, 1) := by decide +kernel
theorem dX4_knows_1 : decode cX4_knows 1 = .ok (.ifCond .lt 16, 3) := by decide +kernel
theorem dX4_knows_4 : decode cX4_knows 4 = .ok (.iload_n 1, 1) := by decide +kernel
theorem dX4_knows_5 : decode cX4_knows 5 = .ok (.aload_n 0, 1) := by decide +kernel
theorem dX4_knows_6 : decode cX4_knows 6 = .ok (.getfield 18, 3) := by decide +kernel
theorem dX4_knows_9 : decode cX4_knows 9 = .ok (.arraylength, 1) := by decide +kernel
theorem dX4_knows_10 : decode cX4_knows 10 = .ok (.if_icmp .ge 7, 3) := by decide +kernel
theorem dX4_knows_13 : decode cX4_knows 13 = .ok (.iconst 1, 1) := by decide +kernel
theorem dX4_knows_14 : decode cX4_knows 14 = .ok (.goto 4, 3) := by decide +kernel
theorem dX4_knows_17 : decode cX4_knows 17 = .ok (.iconst 0, 1) := by decide +kernel
theorem dX4_knows_18 : decode cX4_knows 18 = .ok (.ireturn, 1) := by decide +kernel
theorem dX4_mayBe_0 : decode cX4_mayBe 0 = .ok (.iload_n 2, 1) := by decide +kernel
theorem dX4_mayBe_1 : decode cX4_mayBe 1 = .ok (.getstatic 21, 3) := by decide +kernel
theorem dX4_mayBe_4 : decode cX4_mayBe 4 = .ok (.iload_n 1, 1) := by decide +kernel
theorem dX4_mayBe_5 : decode cX4_mayBe 5 = .ok (.iaload, 1) := by decide +kernel
theorem dX4_mayBe_6 : decode cX4_mayBe 6 = .ok (.if_icmp .lt 16, 3) := by decide +kernel
theorem dX4_mayBe_9 : decode cX4_mayBe 9 = .ok (.iload_n 2, 1) := by decide +kernel
theorem dX4_mayBe_10 : decode cX4_mayBe 10 = .ok (.getstatic 24, 3) := by decide +kernel
theorem dX4_mayBe_13 : decode cX4_mayBe 13 = .ok (.iload_n 1, 1) := by decide +kernel
theorem dX4_mayBe_14 : decode cX4_mayBe 14 = .ok (.iaload, 1) := by decide +kernel
theorem dX4_mayBe_15 : decode cX4_mayBe 15 = .ok (.if_icmp .gt 7, 3) := by decide +kernel
theorem dX4_mayBe_18 : decode cX4_mayBe 18 = .ok (.iconst 1, 1) := by decide +kernel
theorem dX4_mayBe_19 : decode cX4_mayBe 19 = .ok (.goto 4, 3) := by decide +kernel
theorem dX4_mayBe_22 : decode cX4_mayBe 22 = .ok (.iconst 0, 1) := by decide +kernel
theorem dX4_mayBe_23 : decode cX4_mayBe 23 = .ok (.ireturn, 1) := by decide +kernel
theorem dX4_number_0 : decode cX4_number 0 = .ok (.aload_n 0, 1) := by decide +kernel
theorem dX4_number_1 : decode cX4_number 1 = .ok (.getfield 18, 3) := by decide +kernel
theorem dX4_number_4 : decode cX4_number 4 = .ok (.iload_n 1, 1) := by decide +kernel
theorem dX4_number_5 : decode cX4_number 5 = .ok (.iaload, 1) := by decide +kernel
theorem dX4_number_6 : decode cX4_number 6 = .ok (.ireturn, 1) := by decide +kernel
theorem dX4_put_0 : decode cX4_put 0 = .ok (.aload_n 0, 1) := by decide +kernel
theorem dX4_put_1 : decode cX4_put 1 = .ok (.getfield 18, 3) := by decide +kernel
theorem dX4_put_4 : decode cX4_put 4 = .ok (.iload_n 1, 1) := by decide +kernel
theorem dX4_put_5 : decode cX4_put 5 = .ok (.iload_n 2, 1) := by decide +kernel
theorem dX4_put_6 : decode cX4_put 6 = .ok (.iastore, 1) := by decide +kernel
theorem dX4_put_7 : decode cX4_put 7 = .ok (.return_, 1) := by decide +kernel
theorem dX5_init_0 : decode cX5_init 0 = .ok (.aload_n 0, 1) := by decide +kernel
theorem dX5_init_1 : decode cX5_init 1 = .ok (.invokespecial 5, 3) := by decide +kernel
theorem dX5_init_4 : decode cX5_init 4 = .ok (.aload_n 0, 1) := by decide +kernel
theorem dX5_init_5 : decode cX5_init 5 = .ok (.sipush 3787, 3) := by decide +kernel
theorem dX5_init_8 : decode cX5_init 8 = .ok (.newarray .long, 2) := by decide +kernel
theorem dX5_init_10 : decode cX5_init 10 = .ok (.putfield 11, 3) := by decide +kernel
theorem dX5_init_13 : decode cX5_init 13 = .ok (.aload_n 0, 1) := by decide +kernel
theorem dX5_init_14 : decode cX5_init 14 = .ok (.sipush 3787, 3) := by decide +kernel
theorem dX5_init_17 : decode cX5_init 17 = .ok (.newarray .long, 2) := by decide +kernel
theorem dX5_init_19 : decode cX5_init 19 = .ok (.putfield 15, 3) := by decide +kernel
theorem dX5_init_22 : decode cX5_init 22 = .ok (.aload_n 0, 1) := by decide +kernel
theorem dX5_init_23 : decode cX5_init 23 = .ok (.bipush 17, 2) := by decide +kernel
theorem dX5_init_25 : decode cX5_init 25 = .ok (.newarray .int, 2) := by decide +kernel
theorem dX5_init_27 : decode cX5_init 27 = .ok (.putfield 18, 3) := by decide +kernel
theorem dX5_init_30 : decode cX5_init 30 = .ok (.aload_n 0, 1) := by decide +kernel
theorem dX5_init_31 : decode cX5_init 31 = .ok (.sipush 968, 3) := by decide +kernel
theorem dX5_init_34 : decode cX5_init 34 = .ok (.newarray .int, 2) := by decide +kernel
theorem dX5_init_36 : decode cX5_init 36 = .ok (.putfield 22, 3) := by decide +kernel
theorem dX5_init_39 : decode cX5_init 39 = .ok (.aload_n 0, 1) := by decide +kernel
theorem dX5_init_40 : decode cX5_init 40 = .ok (.sipush 968, 3) := by decide +kernel
theorem dX5_init_43 : decode cX5_init 43 = .ok (.newarray .long, 2) := by decide +kernel
theorem dX5_init_45 : decode cX5_init 45 = .ok (.putfield 25, 3) := by decide +kernel
theorem dX5_init_48 : decode cX5_init 48 = .ok (.aload_n 0, 1) := by decide +kernel
theorem dX5_init_49 : decode cX5_init 49 = .ok (.iconst 0, 1) := by decide +kernel
theorem dX5_init_50 : decode cX5_init 50 = .ok (.putfield 28, 3) := by decide +kernel
theorem dX5_init_53 : decode cX5_init 53 = .ok (.aload_n 0, 1) := by decide +kernel
theorem dX5_init_54 : decode cX5_init 54 = .ok (.aload_n 1, 1) := by decide +kernel
theorem dX5_init_55 : decode cX5_init 55 = .ok (.putfield 32, 3) := by decide +kernel
theorem dX5_init_58 : decode cX5_init 58 = .ok (.aload_n 0, 1) := by decide +kernel
theorem dX5_init_59 : decode cX5_init 59 = .ok (.aload_n 2, 1) := by decide +kernel
theorem dX5_init_60 : decode cX5_init 60 = .ok (.putfield 36, 3) := by decide +kernel
theorem dX5_init_63 : decode cX5_init 63 = .ok (.return_, 1) := by decide +kernel
theorem dX5_forget_0 : decode cX5_forget 0 = .ok (.aload_n 0, 1) := by decide +kernel
theorem dX5_forget_1 : decode cX5_forget 1 = .ok (.iconst 0, 1) := by decide +kernel
theorem dX5_forget_2 : decode cX5_forget 2 = .ok (.putfield 28, 3) := by decide +kernel
theorem dX5_forget_5 : decode cX5_forget 5 = .ok (.return_, 1) := by decide +kernel
set_option maxRecDepth 20000 in
theorem ggX5_bringUpToDate_X0_legCount : GoodIn wsX5_bringUpToDate wsX0_legCount := goodIn_r _ [8, 9, 102, 103, 104, 105, 106, 107] (by decide +kernel) (by decide +kernel)
set_option maxRecDepth 20000 in
theorem gX5_bringUpToDate_X0_legCount : GoodIn wsX5_bringUpToDate (wsV RX5 40 RX0 yX0_legCount wsX0_legCount) := goodIn_app (goodIn_of _ (by decide +kernel)) ggX5_bringUpToDate_X0_legCount
set_option maxRecDepth 20000 in
theorem ggX5_bringUpToDate_X5_driveOver : GoodIn wsX5_bringUpToDate wsX5_driveOver := goodIn_r _ [14, 2, 15, 16, 17, 18, 19, 20, 7, 21, 22, 23, 24, 25, 26, 27, 28, 29, 30, 31, 32, 33, 13, 34, 35, 36, 37, 38, 39, 40, 41, 42, 43, 44, 45, 46, 47, 48, 49, 50, 51, 52, 53, 54, 55, 56, 57, 58, 59, 60, 61, 62, 63, 64, 65, 66, 67, 68, 69, 70, 71, 72, 73, 74, 75, 76, 77, 78, 79, 80, 81, 82, 83, 84, 85, 86, 94, 95, 96, 97, 98, 99, 100, 101, 102, 103, 104, 105, 106, 107, 108, 109, 110] (by decide +kernel) (by decide +kernel)
set_option maxRecDepth 20000 in
theorem gX5_bringUpToDate_X5_driveOver : GoodIn wsX5_bringUpToDate (wsV RX5 46 RX5 yX5_driveOver wsX5_driveOver) := goodIn_app (goodIn_of _ (by decide +kernel)) ggX5_bringUpToDate_X5_driveOver
set_option maxRecDepth 20000 in
theorem ggX5_bringUpToDate_X5_gatherPairs : GoodIn wsX5_bringUpToDate wsX5_gatherPairs := goodIn_r _ [90, 91, 92, 93, 94, 95, 96, 97, 98, 99, 100, 101] (by decide +kernel) (by decide +kernel)
set_option maxRecDepth 20000 in
theorem gX5_bringUpToDate_X5_gatherPairs : GoodIn wsX5_bringUpToDate (wsV RX5 50 RX5 yX5_gatherPairs wsX5_gatherPairs) := goodIn_app (goodIn_of _ (by decide +kernel)) ggX5_bringUpToDate_X5_gatherPairs
theorem dX5_bringUpToDate_0 : decode cX5_bringUpToDate 0 = .ok (.aload_n 0, 1) := by decide +kernel
theorem dX5_bringUpToDate_1 : decode cX5_bringUpToDate 1 = .ok (.getfield 28, 3) := by decide +kernel
theorem dX5_bringUpToDate_4 : decode cX5_bringUpToDate 4 = .ok (.ifCond .eq 4, 3) := by decide +kernel
theorem dX5_bringUpToDate_7 : decode cX5_bringUpToDate 7 = .ok (.return_, 1) := by decide +kernel
theorem dX5_bringUpToDate_8 : decode cX5_bringUpToDate 8 = .ok (.iconst 0, 1) := by decide +kernel
theorem dX5_bringUpToDate_9 : decode cX5_bringUpToDate 9 = .ok (.istore_n 1, 1) := by decide +kernel
theorem dX5_bringUpToDate_10 : decode cX5_bringUpToDate 10 = .ok (.iconst 0, 1) := by decide +kernel
theorem dX5_bringUpToDate_11 : decode cX5_bringUpToDate 11 = .ok (.istore_n 2, 1) := by decide +kernel
theorem dX5_bringUpToDate_12 : decode cX5_bringUpToDate 12 = .ok (.iload_n 2, 1) := by decide +kernel
theorem dX5_bringUpToDate_13 : decode cX5_bringUpToDate 13 = .ok (.aload_n 0, 1) := by decide +kernel
theorem dX5_bringUpToDate_14 : decode cX5_bringUpToDate 14 = .ok (.getfield 32, 3) := by decide +kernel
theorem dX5_bringUpToDate_17 : decode cX5_bringUpToDate 17 = .ok (.invokevirtual 40, 3) := by decide +kernel
theorem dX5_bringUpToDate_20 : decode cX5_bringUpToDate 20 = .ok (.if_icmp .ge 27, 3) := by decide +kernel
theorem dX5_bringUpToDate_23 : decode cX5_bringUpToDate 23 = .ok (.aload_n 0, 1) := by decide +kernel
theorem dX5_bringUpToDate_24 : decode cX5_bringUpToDate 24 = .ok (.getfield 18, 3) := by decide +kernel
theorem dX5_bringUpToDate_27 : decode cX5_bringUpToDate 27 = .ok (.iload_n 2, 1) := by decide +kernel
theorem dX5_bringUpToDate_28 : decode cX5_bringUpToDate 28 = .ok (.iload_n 1, 1) := by decide +kernel
theorem dX5_bringUpToDate_29 : decode cX5_bringUpToDate 29 = .ok (.iastore, 1) := by decide +kernel
theorem dX5_bringUpToDate_30 : decode cX5_bringUpToDate 30 = .ok (.aload_n 0, 1) := by decide +kernel
theorem dX5_bringUpToDate_31 : decode cX5_bringUpToDate 31 = .ok (.aload_n 0, 1) := by decide +kernel
theorem dX5_bringUpToDate_32 : decode cX5_bringUpToDate 32 = .ok (.iload_n 2, 1) := by decide +kernel
theorem dX5_bringUpToDate_33 : decode cX5_bringUpToDate 33 = .ok (.invokevirtual 46, 3) := by decide +kernel
theorem dX5_bringUpToDate_36 : decode cX5_bringUpToDate 36 = .ok (.iload_n 1, 1) := by decide +kernel
theorem dX5_bringUpToDate_37 : decode cX5_bringUpToDate 37 = .ok (.invokevirtual 50, 3) := by decide +kernel
theorem dX5_bringUpToDate_40 : decode cX5_bringUpToDate 40 = .ok (.istore_n 1, 1) := by decide +kernel
theorem dX5_bringUpToDate_41 : decode cX5_bringUpToDate 41 = .ok (.iinc 2 1, 3) := by decide +kernel
theorem dX5_bringUpToDate_44 : decode cX5_bringUpToDate 44 = .ok (.goto (-32), 3) := by decide +kernel
theorem dX5_bringUpToDate_47 : decode cX5_bringUpToDate 47 = .ok (.aload_n 0, 1) := by decide +kernel
theorem dX5_bringUpToDate_48 : decode cX5_bringUpToDate 48 = .ok (.getfield 18, 3) := by decide +kernel
theorem dX5_bringUpToDate_51 : decode cX5_bringUpToDate 51 = .ok (.aload_n 0, 1) := by decide +kernel
theorem dX5_bringUpToDate_52 : decode cX5_bringUpToDate 52 = .ok (.getfield 32, 3) := by decide +kernel
theorem dX5_bringUpToDate_55 : decode cX5_bringUpToDate 55 = .ok (.invokevirtual 40, 3) := by decide +kernel
theorem dX5_bringUpToDate_58 : decode cX5_bringUpToDate 58 = .ok (.iload_n 1, 1) := by decide +kernel
theorem dX5_bringUpToDate_59 : decode cX5_bringUpToDate 59 = .ok (.iastore, 1) := by decide +kernel
theorem dX5_bringUpToDate_60 : decode cX5_bringUpToDate 60 = .ok (.aload_n 0, 1) := by decide +kernel
theorem dX5_bringUpToDate_61 : decode cX5_bringUpToDate 61 = .ok (.iconst 1, 1) := by decide +kernel
theorem dX5_bringUpToDate_62 : decode cX5_bringUpToDate 62 = .ok (.putfield 28, 3) := by decide +kernel
theorem dX5_bringUpToDate_65 : decode cX5_bringUpToDate 65 = .ok (.return_, 1) := by decide +kernel
set_option maxRecDepth 20000 in
theorem ggX5_driveOver_X0_firstPost : GoodIn wsX5_driveOver wsX0_firstPost := goodIn_r _ [9, 10, 84, 85, 86, 87, 88, 89] (by decide +kernel) (by decide +kernel)
set_option maxRecDepth 20000 in
theorem gX5_driveOver_X0_firstPost : GoodIn wsX5_driveOver (wsV RX5 54 RX0 yX0_firstPost wsX0_firstPost) := goodIn_app (goodIn_of _ (by decide +kernel)) ggX5_driveOver_X0_firstPost
set_option maxRecDepth 20000 in
theorem ggX5_driveOver_X0_lastPost : GoodIn wsX5_driveOver wsX0_lastPost := goodIn_r _ [14, 10, 84, 85, 86, 87, 88, 89] (by decide +kernel) (by decide +kernel)
set_option maxRecDepth 20000 in
theorem gX5_driveOver_X0_lastPost : GoodIn wsX5_driveOver (wsV RX5 58 RX0 yX0_lastPost wsX0_lastPost) := goodIn_app (goodIn_of _ (by decide +kernel)) ggX5_driveOver_X0_lastPost
set_option maxRecDepth 20000 in
theorem ggX5_driveOver_J7_fill_d0a16 : GoodIn wsX5_driveOver wsJ7_fill_d0a16 := goodIn_r _ [18] (by decide +kernel) (by decide +kernel)
set_option maxRecDepth 20000 in
theorem gX5_driveOver_J7_fill_d0a16 : GoodIn wsX5_driveOver (va_wsS RX5 63 yJ7_fill_d0a16 wsJ7_fill_d0a16) := goodIn_app (goodIn_of _ (by decide +kernel)) ggX5_driveOver_J7_fill_d0a16
set_option maxRecDepth 20000 in
theorem ggX5_driveOver_X5_driveThrough : GoodIn wsX5_driveOver wsX5_driveThrough := goodIn_r _ [23, 24, 25, 26, 27, 28, 29, 30, 31, 32, 33, 34, 35, 36, 37, 38, 39, 40, 41, 8, 42, 43, 44, 45, 46, 47, 48, 49, 50, 51, 52, 53, 54, 55, 56, 57, 58, 59, 60, 61, 62, 63, 64, 22, 65, 66, 67, 68, 69, 70, 71, 72, 4, 73, 74, 75, 76, 77, 78, 79, 80, 81, 82, 83, 90, 91, 84, 85, 86, 87, 88, 89, 92] (by decide +kernel) (by decide +kernel)
set_option maxRecDepth 20000 in
theorem gX5_driveOver_X5_driveThrough : GoodIn wsX5_driveOver (wsV RX5 69 RX5 yX5_driveThrough wsX5_driveThrough) := goodIn_app (goodIn_of _ (by decide +kernel)) ggX5_driveOver_X5_driveThrough
theorem dX5_driveOver_0 : decode cX5_driveOver 0 = .ok (.aload_n 0, 1) := by decide +kernel
theorem dX5_driveOver_1 : decode cX5_driveOver 1 = .ok (.getfield 32, 3) := by decide +kernel
theorem dX5_driveOver_4 : decode cX5_driveOver 4 = .ok (.iload_n 1, 1) := by decide +kernel
theorem dX5_driveOver_5 : decode cX5_driveOver 5 = .ok (.invokevirtual 54, 3) := by decide +kernel
theorem dX5_driveOver_8 : decode cX5_driveOver 8 = .ok (.istore_n 2, 1) := by decide +kernel
theorem dX5_driveOver_9 : decode cX5_driveOver 9 = .ok (.aload_n 0, 1) := by decide +kernel
theorem dX5_driveOver_10 : decode cX5_driveOver 10 = .ok (.getfield 32, 3) := by decide +kernel
theorem dX5_driveOver_13 : decode cX5_driveOver 13 = .ok (.iload_n 1, 1) := by decide +kernel
theorem dX5_driveOver_14 : decode cX5_driveOver 14 = .ok (.invokevirtual 58, 3) := by decide +kernel
theorem dX5_driveOver_17 : decode cX5_driveOver 17 = .ok (.istore_n 3, 1) := by decide +kernel
theorem dX5_driveOver_18 : decode cX5_driveOver 18 = .ok (.aload_n 0, 1) := by decide +kernel
theorem dX5_driveOver_19 : decode cX5_driveOver 19 = .ok (.getfield 11, 3) := by decide +kernel
theorem dX5_driveOver_22 : decode cX5_driveOver 22 = .ok (.astore 4, 2) := by decide +kernel
theorem dX5_driveOver_24 : decode cX5_driveOver 24 = .ok (.aload_n 0, 1) := by decide +kernel
theorem dX5_driveOver_25 : decode cX5_driveOver 25 = .ok (.getfield 15, 3) := by decide +kernel
theorem dX5_driveOver_28 : decode cX5_driveOver 28 = .ok (.astore 5, 2) := by decide +kernel
theorem dX5_driveOver_30 : decode cX5_driveOver 30 = .ok (.aload 4, 2) := by decide +kernel
theorem dX5_driveOver_32 : decode cX5_driveOver 32 = .ok (.ldc2_w 61, 3) := by decide +kernel
theorem dX5_driveOver_35 : decode cX5_driveOver 35 = .ok (.invokestatic 63, 3) := by decide +kernel
theorem dX5_driveOver_38 : decode cX5_driveOver 38 = .ok (.aload 4, 2) := by decide +kernel
theorem dX5_driveOver_40 : decode cX5_driveOver 40 = .ok (.iconst 0, 1) := by decide +kernel
theorem dX5_driveOver_41 : decode cX5_driveOver 41 = .ok (.lconst 0, 1) := by decide +kernel
theorem dX5_driveOver_42 : decode cX5_driveOver 42 = .ok (.lastore, 1) := by decide +kernel
theorem dX5_driveOver_43 : decode cX5_driveOver 43 = .ok (.iload_n 2, 1) := by decide +kernel
theorem dX5_driveOver_44 : decode cX5_driveOver 44 = .ok (.istore 6, 2) := by decide +kernel
theorem dX5_driveOver_46 : decode cX5_driveOver 46 = .ok (.iload 6, 2) := by decide +kernel
theorem dX5_driveOver_48 : decode cX5_driveOver 48 = .ok (.iload_n 3, 1) := by decide +kernel
theorem dX5_driveOver_49 : decode cX5_driveOver 49 = .ok (.if_icmp .ge 56, 3) := by decide +kernel
theorem dX5_driveOver_52 : decode cX5_driveOver 52 = .ok (.aload 5, 2) := by decide +kernel
theorem dX5_driveOver_54 : decode cX5_driveOver 54 = .ok (.ldc2_w 61, 3) := by decide +kernel
theorem dX5_driveOver_57 : decode cX5_driveOver 57 = .ok (.invokestatic 63, 3) := by decide +kernel
theorem dX5_driveOver_60 : decode cX5_driveOver 60 = .ok (.aload_n 0, 1) := by decide +kernel
theorem dX5_driveOver_61 : decode cX5_driveOver 61 = .ok (.iload 6, 2) := by decide +kernel
theorem dX5_driveOver_63 : decode cX5_driveOver 63 = .ok (.iload 6, 2) := by decide +kernel
theorem dX5_driveOver_65 : decode cX5_driveOver 65 = .ok (.iload_n 2, 1) := by decide +kernel
theorem dX5_driveOver_66 : decode cX5_driveOver 66 = .ok (.isub, 1) := by decide +kernel
theorem dX5_driveOver_67 : decode cX5_driveOver 67 = .ok (.iload 6, 2) := by decide +kernel
theorem dX5_driveOver_69 : decode cX5_driveOver 69 = .ok (.iconst 1, 1) := by decide +kernel
theorem dX5_driveOver_70 : decode cX5_driveOver 70 = .ok (.iadd, 1) := by decide +kernel
theorem dX5_driveOver_71 : decode cX5_driveOver 71 = .ok (.iload_n 3, 1) := by decide +kernel
theorem dX5_driveOver_72 : decode cX5_driveOver 72 = .ok (.if_icmp .ne 7, 3) := by decide +kernel
theorem dX5_driveOver_75 : decode cX5_driveOver 75 = .ok (.iconst 1, 1) := by decide +kernel
theorem dX5_driveOver_76 : decode cX5_driveOver 76 = .ok (.goto 4, 3) := by decide +kernel
theorem dX5_driveOver_79 : decode cX5_driveOver 79 = .ok (.iconst 0, 1) := by decide +kernel
theorem dX5_driveOver_80 : decode cX5_driveOver 80 = .ok (.aload 4, 2) := by decide +kernel
theorem dX5_driveOver_82 : decode cX5_driveOver 82 = .ok (.aload 5, 2) := by decide +kernel
theorem dX5_driveOver_84 : decode cX5_driveOver 84 = .ok (.invokevirtual 69, 3) := by decide +kernel
theorem dX5_driveOver_87 : decode cX5_driveOver 87 = .ok (.aload 4, 2) := by decide +kernel
theorem dX5_driveOver_89 : decode cX5_driveOver 89 = .ok (.astore 7, 2) := by decide +kernel
theorem dX5_driveOver_91 : decode cX5_driveOver 91 = .ok (.aload 5, 2) := by decide +kernel
theorem dX5_driveOver_93 : decode cX5_driveOver 93 = .ok (.astore 4, 2) := by decide +kernel
theorem dX5_driveOver_95 : decode cX5_driveOver 95 = .ok (.aload 7, 2) := by decide +kernel
theorem dX5_driveOver_97 : decode cX5_driveOver 97 = .ok (.astore 5, 2) := by decide +kernel
theorem dX5_driveOver_99 : decode cX5_driveOver 99 = .ok (.iinc 6 1, 3) := by decide +kernel
theorem dX5_driveOver_102 : decode cX5_driveOver 102 = .ok (.goto (-56), 3) := by decide +kernel
theorem dX5_driveOver_105 : decode cX5_driveOver 105 = .ok (.aload 4, 2) := by decide +kernel
theorem dX5_driveOver_107 : decode cX5_driveOver 107 = .ok (.areturn, 1) := by decide +kernel
set_option maxRecDepth 20000 in
theorem ggX5_driveThrough_X3_faultOf : GoodIn wsX5_driveThrough wsX3_faultOf := goodIn_r _ [6, 7, 8, 9, 10, 11, 12, 13, 14, 15, 16, 17, 18, 19, 20, 21, 22, 23, 24, 5, 25, 26, 27, 28, 29, 30, 31, 32, 33, 34, 35, 36, 64, 65, 66, 67, 68, 69, 70, 71, 72] (by decide +kernel) (by decide +kernel)
set_option maxRecDepth 20000 in
theorem gX5_driveThrough_X3_faultOf : GoodIn wsX5_driveThrough (wsV RX5 73 RX3 yX3_faultOf wsX3_faultOf) := goodIn_app (goodIn_of _ (by decide +kernel)) ggX5_driveThrough_X3_faultOf
set_option maxRecDepth 20000 in
theorem ggX5_driveThrough_X3_powerOf : GoodIn wsX5_driveThrough wsX3_powerOf := goodIn_r _ [40, 15, 22, 23, 24, 5, 25, 11, 26, 27, 28, 29, 30, 31, 32, 33, 34, 19, 35, 36, 64, 65, 72, 66, 67, 68, 69, 70, 71] (by decide +kernel) (by decide +kernel)
set_option maxRecDepth 20000 in
theorem gX5_driveThrough_X3_powerOf : GoodIn wsX5_driveThrough (wsV RX5 79 RX3 yX3_powerOf wsX3_powerOf) := goodIn_app (goodIn_of _ (by decide +kernel)) ggX5_driveThrough_X3_powerOf
set_option maxRecDepth 20000 in
theorem ggX5_driveThrough_X5_speedPlace : GoodIn wsX5_driveThrough wsX5_speedPlace := goodIn_r _ [44] (by decide +kernel) (by decide +kernel)
set_option maxRecDepth 20000 in
theorem gX5_driveThrough_X5_speedPlace : GoodIn wsX5_driveThrough (va_wsS RX5 82 yX5_speedPlace wsX5_speedPlace) := goodIn_app (goodIn_of _ (by decide +kernel)) ggX5_driveThrough_X5_speedPlace
set_option maxRecDepth 20000 in
theorem ggX5_driveThrough_X3_timeOf : GoodIn wsX5_driveThrough wsX3_timeOf := goodIn_r _ [48] (by decide +kernel) (by decide +kernel)
set_option maxRecDepth 20000 in
theorem gX5_driveThrough_X3_timeOf : GoodIn wsX5_driveThrough (wsV RX5 85 RX3 yX3_timeOf wsX3_timeOf) := goodIn_app (goodIn_of _ (by decide +kernel)) ggX5_driveThrough_X3_timeOf
set_option maxRecDepth 20000 in
theorem ggX5_driveThrough_X5_spread : GoodIn wsX5_driveThrough wsX5_spread := goodIn_r _ [51, 52, 53, 54, 9, 55] (by decide +kernel) (by decide +kernel)
set_option maxRecDepth 20000 in
theorem gX5_driveThrough_X5_spread : GoodIn wsX5_driveThrough (va_wsS RX5 89 yX5_spread wsX5_spread) := goodIn_app (goodIn_of _ (by decide +kernel)) ggX5_driveThrough_X5_spread
theorem dX5_driveThrough_0 : decode cX5_driveThrough 0 = .ok (.iload_n 3, 1) := by decide +kernel
theorem dX5_driveThrough_1 : decode cX5_driveThrough 1 = .ok (.ifCond .eq 7, 3) := by decide +kernel
theorem dX5_driveThrough_4 : decode cX5_driveThrough 4 = .ok (.iconst 0, 1) := by decide +kernel
theorem dX5_driveThrough_5 : decode cX5_driveThrough 5 = .ok (.goto 4, 3) := by decide +kernel
theorem dX5_driveThrough_8 : decode cX5_driveThrough 8 = .ok (.iconst 1, 1) := by decide +kernel
theorem dX5_driveThrough_9 : decode cX5_driveThrough 9 = .ok (.istore 6, 2) := by decide +kernel
theorem dX5_driveThrough_11 : decode cX5_driveThrough 11 = .ok (.iload_n 3, 1) := by decide +kernel
theorem dX5_driveThrough_12 : decode cX5_driveThrough 12 = .ok (.ifCond .eq 7, 3) := by decide +kernel
theorem dX5_driveThrough_15 : decode cX5_driveThrough 15 = .ok (.iconst 0, 1) := by decide +kernel
theorem dX5_driveThrough_16 : decode cX5_driveThrough 16 = .ok (.goto 5, 3) := by decide +kernel
theorem dX5_driveThrough_19 : decode cX5_driveThrough 19 = .ok (.bipush 6, 2) := by decide +kernel
theorem dX5_driveThrough_21 : decode cX5_driveThrough 21 = .ok (.istore 7, 2) := by decide +kernel
theorem dX5_driveThrough_23 : decode cX5_driveThrough 23 = .ok (.bipush 30, 2) := by decide +kernel
theorem dX5_driveThrough_25 : decode cX5_driveThrough 25 = .ok (.iload_n 2, 1) := by decide +kernel
theorem dX5_driveThrough_26 : decode cX5_driveThrough 26 = .ok (.iconst 1, 1) := by decide +kernel
theorem dX5_driveThrough_27 : decode cX5_driveThrough 27 = .ok (.iadd, 1) := by decide +kernel
theorem dX5_driveThrough_28 : decode cX5_driveThrough 28 = .ok (.imul, 1) := by decide +kernel
theorem dX5_driveThrough_29 : decode cX5_driveThrough 29 = .ok (.istore 8, 2) := by decide +kernel
theorem dX5_driveThrough_31 : decode cX5_driveThrough 31 = .ok (.iconst 0, 1) := by decide +kernel
theorem dX5_driveThrough_32 : decode cX5_driveThrough 32 = .ok (.istore 9, 2) := by decide +kernel
theorem dX5_driveThrough_34 : decode cX5_driveThrough 34 = .ok (.iload 9, 2) := by decide +kernel
theorem dX5_driveThrough_36 : decode cX5_driveThrough 36 = .ok (.bipush 6, 2) := by decide +kernel
theorem dX5_driveThrough_38 : decode cX5_driveThrough 38 = .ok (.if_icmp .gt 105, 3) := by decide +kernel
theorem dX5_driveThrough_41 : decode cX5_driveThrough 41 = .ok (.iload 6, 2) := by decide +kernel
theorem dX5_driveThrough_43 : decode cX5_driveThrough 43 = .ok (.istore 10, 2) := by decide +kernel
theorem dX5_driveThrough_45 : decode cX5_driveThrough 45 = .ok (.iload 10, 2) := by decide +kernel
theorem dX5_driveThrough_47 : decode cX5_driveThrough 47 = .ok (.iload 7, 2) := by decide +kernel
theorem dX5_driveThrough_49 : decode cX5_driveThrough 49 = .ok (.if_icmp .gt 88, 3) := by decide +kernel
theorem dX5_driveThrough_52 : decode cX5_driveThrough 52 = .ok (.aload_n 0, 1) := by decide +kernel
theorem dX5_driveThrough_53 : decode cX5_driveThrough 53 = .ok (.getfield 36, 3) := by decide +kernel
theorem dX5_driveThrough_56 : decode cX5_driveThrough 56 = .ok (.iload_n 1, 1) := by decide +kernel
theorem dX5_driveThrough_57 : decode cX5_driveThrough 57 = .ok (.iload 9, 2) := by decide +kernel
theorem dX5_driveThrough_59 : decode cX5_driveThrough 59 = .ok (.iload 10, 2) := by decide +kernel
theorem dX5_driveThrough_61 : decode cX5_driveThrough 61 = .ok (.invokevirtual 73, 3) := by decide +kernel
theorem dX5_driveThrough_64 : decode cX5_driveThrough 64 = .ok (.ifCond .ne 67, 3) := by decide +kernel
theorem dX5_driveThrough_67 : decode cX5_driveThrough 67 = .ok (.aload_n 0, 1) := by decide +kernel
theorem dX5_driveThrough_68 : decode cX5_driveThrough 68 = .ok (.getfield 36, 3) := by decide +kernel
theorem dX5_driveThrough_71 : decode cX5_driveThrough 71 = .ok (.iload_n 1, 1) := by decide +kernel
theorem dX5_driveThrough_72 : decode cX5_driveThrough 72 = .ok (.iload 9, 2) := by decide +kernel
theorem dX5_driveThrough_74 : decode cX5_driveThrough 74 = .ok (.iload 10, 2) := by decide +kernel
theorem dX5_driveThrough_76 : decode cX5_driveThrough 76 = .ok (.invokevirtual 79, 3) := by decide +kernel
theorem dX5_driveThrough_79 : decode cX5_driveThrough 79 = .ok (.i2l, 1) := by decide +kernel
theorem dX5_driveThrough_80 : decode cX5_driveThrough 80 = .ok (.bipush 48, 2) := by decide +kernel
theorem dX5_driveThrough_82 : decode cX5_driveThrough 82 = .ok (.lshl, 1) := by decide +kernel
theorem dX5_driveThrough_83 : decode cX5_driveThrough 83 = .ok (.iload 10, 2) := by decide +kernel
theorem dX5_driveThrough_85 : decode cX5_driveThrough 85 = .ok (.i2l, 1) := by decide +kernel
theorem dX5_driveThrough_86 : decode cX5_driveThrough 86 = .ok (.iload_n 2, 1) := by decide +kernel
theorem dX5_driveThrough_87 : decode cX5_driveThrough 87 = .ok (.iconst 1, 1) := by decide +kernel
theorem dX5_driveThrough_88 : decode cX5_driveThrough 88 = .ok (.iadd, 1) := by decide +kernel
theorem dX5_driveThrough_89 : decode cX5_driveThrough 89 = .ok (.invokestatic 82, 3) := by decide +kernel
theorem dX5_driveThrough_92 : decode cX5_driveThrough 92 = .ok (.lshl, 1) := by decide +kernel
theorem dX5_driveThrough_93 : decode cX5_driveThrough 93 = .ok (.ladd, 1) := by decide +kernel
theorem dX5_driveThrough_94 : decode cX5_driveThrough 94 = .ok (.lstore 11, 2) := by decide +kernel
theorem dX5_driveThrough_96 : decode cX5_driveThrough 96 = .ok (.aload 4, 2) := by decide +kernel
theorem dX5_driveThrough_98 : decode cX5_driveThrough 98 = .ok (.iload 9, 2) := by decide +kernel
theorem dX5_driveThrough_100 : decode cX5_driveThrough 100 = .ok (.sipush 541, 3) := by decide +kernel
theorem dX5_driveThrough_103 : decode cX5_driveThrough 103 = .ok (.imul, 1) := by decide +kernel
theorem dX5_driveThrough_104 : decode cX5_driveThrough 104 = .ok (.aload 5, 2) := by decide +kernel
theorem dX5_driveThrough_106 : decode cX5_driveThrough 106 = .ok (.iload 10, 2) := by decide +kernel
theorem dX5_driveThrough_108 : decode cX5_driveThrough 108 = .ok (.sipush 541, 3) := by decide +kernel
theorem dX5_driveThrough_111 : decode cX5_driveThrough 111 = .ok (.imul, 1) := by decide +kernel
theorem dX5_driveThrough_112 : decode cX5_driveThrough 112 = .ok (.aload_n 0, 1) := by decide +kernel
theorem dX5_driveThrough_113 : decode cX5_driveThrough 113 = .ok (.getfield 36, 3) := by decide +kernel
theorem dX5_driveThrough_116 : decode cX5_driveThrough 116 = .ok (.iload 9, 2) := by decide +kernel
theorem dX5_driveThrough_118 : decode cX5_driveThrough 118 = .ok (.iload 10, 2) := by decide +kernel
theorem dX5_driveThrough_120 : decode cX5_driveThrough 120 = .ok (.invokevirtual 85, 3) := by decide +kernel
theorem dX5_driveThrough_123 : decode cX5_driveThrough 123 = .ok (.iadd, 1) := by decide +kernel
theorem dX5_driveThrough_124 : decode cX5_driveThrough 124 = .ok (.iload 8, 2) := by decide +kernel
theorem dX5_driveThrough_126 : decode cX5_driveThrough 126 = .ok (.lload 11, 2) := by decide +kernel
theorem dX5_driveThrough_128 : decode cX5_driveThrough 128 = .ok (.invokestatic 89, 3) := by decide +kernel
theorem dX5_driveThrough_131 : decode cX5_driveThrough 131 = .ok (.iinc 10 1, 3) := by decide +kernel
theorem dX5_driveThrough_134 : decode cX5_driveThrough 134 = .ok (.goto (-89), 3) := by decide +kernel
theorem dX5_driveThrough_137 : decode cX5_driveThrough 137 = .ok (.iinc 9 1, 3) := by decide +kernel
theorem dX5_driveThrough_140 : decode cX5_driveThrough 140 = .ok (.goto (-106), 3) := by decide +kernel
theorem dX5_driveThrough_143 : decode cX5_driveThrough 143 = .ok (.return_, 1) := by decide +kernel
theorem dX5_spread_0 : decode cX5_spread 0 = .ok (.iconst 0, 1) := by decide +kernel
theorem dX5_spread_1 : decode cX5_spread 1 = .ok (.istore 7, 2) := by decide +kernel
theorem dX5_spread_3 : decode cX5_spread 3 = .ok (.iload 7, 2) := by decide +kernel
theorem dX5_spread_5 : decode cX5_spread 5 = .ok (.iload 4, 2) := by decide +kernel
theorem dX5_spread_7 : decode cX5_spread 7 = .ok (.if_icmp .gt 46, 3) := by decide +kernel
theorem dX5_spread_10 : decode cX5_spread 10 = .ok (.aload_n 0, 1) := by decide +kernel
theorem dX5_spread_11 : decode cX5_spread 11 = .ok (.iload_n 1, 1) := by decide +kernel
theorem dX5_spread_12 : decode cX5_spread 12 = .ok (.iload 7, 2) := by decide +kernel
theorem dX5_spread_14 : decode cX5_spread 14 = .ok (.iadd, 1) := by decide +kernel
theorem dX5_spread_15 : decode cX5_spread 15 = .ok (.laload, 1) := by decide +kernel
theorem dX5_spread_16 : decode cX5_spread 16 = .ok (.lstore 8, 2) := by decide +kernel
theorem dX5_spread_18 : decode cX5_spread 18 = .ok (.lload 8, 2) := by decide +kernel
theorem dX5_spread_20 : decode cX5_spread 20 = .ok (.ldc2_w 61, 3) := by decide +kernel
theorem dX5_spread_23 : decode cX5_spread 23 = .ok (.lcmp, 1) := by decide +kernel
theorem dX5_spread_24 : decode cX5_spread 24 = .ok (.ifCond .eq 23, 3) := by decide +kernel
theorem dX5_spread_27 : decode cX5_spread 27 = .ok (.aload_n 2, 1) := by decide +kernel
theorem dX5_spread_28 : decode cX5_spread 28 = .ok (.iload_n 3, 1) := by decide +kernel
theorem dX5_spread_29 : decode cX5_spread 29 = .ok (.iload 7, 2) := by decide +kernel
theorem dX5_spread_31 : decode cX5_spread 31 = .ok (.iadd, 1) := by decide +kernel
theorem dX5_spread_32 : decode cX5_spread 32 = .ok (.aload_n 2, 1) := by decide +kernel
theorem dX5_spread_33 : decode cX5_spread 33 = .ok (.iload_n 3, 1) := by decide +kernel
theorem dX5_spread_34 : decode cX5_spread 34 = .ok (.iload 7, 2) := by decide +kernel
theorem dX5_spread_36 : decode cX5_spread 36 = .ok (.iadd, 1) := by decide +kernel
theorem dX5_spread_37 : decode cX5_spread 37 = .ok (.laload, 1) := by decide +kernel
theorem dX5_spread_38 : decode cX5_spread 38 = .ok (.lload 8, 2) := by decide +kernel
theorem dX5_spread_40 : decode cX5_spread 40 = .ok (.lload 5, 2) := by decide +kernel
theorem dX5_spread_42 : decode cX5_spread 42 = .ok (.ladd, 1) := by decide +kernel
theorem dX5_spread_43 : decode cX5_spread 43 = .ok (.invokestatic 93, 3) := by decide +kernel
theorem dX5_spread_46 : decode cX5_spread 46 = .ok (.lastore, 1) := by decide +kernel
theorem dX5_spread_47 : decode cX5_spread 47 = .ok (.iinc 7 1, 3) := by decide +kernel
theorem dX5_spread_50 : decode cX5_spread 50 = .ok (.goto (-47), 3) := by decide +kernel
theorem dX5_spread_53 : decode cX5_spread 53 = .ok (.return_, 1) := by decide +kernel
theorem dX5_gatherPairs_0 : decode cX5_gatherPairs 0 = .ok (.iload_n 2, 1) := by decide +kernel
theorem dX5_gatherPairs_1 : decode cX5_gatherPairs 1 = .ok (.istore_n 3, 1) := by decide +kernel
theorem dX5_gatherPairs_2 : decode cX5_gatherPairs 2 = .ok (.ldc2_w 99, 3) := by decide +kernel
theorem dX5_gatherPairs_5 : decode cX5_gatherPairs 5 = .ok (.lstore 4, 2) := by decide +kernel
theorem dX5_gatherPairs_7 : decode cX5_gatherPairs 7 = .ok (.iconst 0, 1) := by decide +kernel
theorem dX5_gatherPairs_8 : decode cX5_gatherPairs 8 = .ok (.istore 6, 2) := by decide +kernel
theorem dX5_gatherPairs_10 : decode cX5_gatherPairs 10 = .ok (.iload 6, 2) := by decide +kernel
theorem dX5_gatherPairs_12 : decode cX5_gatherPairs 12 = .ok (.sipush 541, 3) := by decide +kernel
theorem dX5_gatherPairs_15 : decode cX5_gatherPairs 15 = .ok (.if_icmp .ge 58, 3) := by decide +kernel
theorem dX5_gatherPairs_18 : decode cX5_gatherPairs 18 = .ok (.iload_n 3, 1) := by decide +kernel
theorem dX5_gatherPairs_19 : decode cX5_gatherPairs 19 = .ok (.sipush 968, 3) := by decide +kernel
theorem dX5_gatherPairs_22 : decode cX5_gatherPairs 22 = .ok (.if_icmp .ge 51, 3) := by decide +kernel
theorem dX5_gatherPairs_25 : decode cX5_gatherPairs 25 = .ok (.aload_n 1, 1) := by decide +kernel
theorem dX5_gatherPairs_26 : decode cX5_gatherPairs 26 = .ok (.iload 6, 2) := by decide +kernel
theorem dX5_gatherPairs_28 : decode cX5_gatherPairs 28 = .ok (.laload, 1) := by decide +kernel
theorem dX5_gatherPairs_29 : decode cX5_gatherPairs 29 = .ok (.bipush 48, 2) := by decide +kernel
theorem dX5_gatherPairs_31 : decode cX5_gatherPairs 31 = .ok (.lshr, 1) := by decide +kernel
theorem dX5_gatherPairs_32 : decode cX5_gatherPairs 32 = .ok (.lstore 7, 2) := by decide +kernel
theorem dX5_gatherPairs_34 : decode cX5_gatherPairs 34 = .ok (.lload 7, 2) := by decide +kernel
theorem dX5_gatherPairs_36 : decode cX5_gatherPairs 36 = .ok (.lload 4, 2) := by decide +kernel
theorem dX5_gatherPairs_38 : decode cX5_gatherPairs 38 = .ok (.lcmp, 1) := by decide +kernel
theorem dX5_gatherPairs_39 : decode cX5_gatherPairs 39 = .ok (.ifCond .ge 28, 3) := by decide +kernel
theorem dX5_gatherPairs_42 : decode cX5_gatherPairs 42 = .ok (.lload 7, 2) := by decide +kernel
theorem dX5_gatherPairs_44 : decode cX5_gatherPairs 44 = .ok (.lstore 4, 2) := by decide +kernel
theorem dX5_gatherPairs_46 : decode cX5_gatherPairs 46 = .ok (.aload_n 0, 1) := by decide +kernel
theorem dX5_gatherPairs_47 : decode cX5_gatherPairs 47 = .ok (.getfield 22, 3) := by decide +kernel
theorem dX5_gatherPairs_50 : decode cX5_gatherPairs 50 = .ok (.iload_n 3, 1) := by decide +kernel
theorem dX5_gatherPairs_51 : decode cX5_gatherPairs 51 = .ok (.iload 6, 2) := by decide +kernel
theorem dX5_gatherPairs_53 : decode cX5_gatherPairs 53 = .ok (.iastore, 1) := by decide +kernel
theorem dX5_gatherPairs_54 : decode cX5_gatherPairs 54 = .ok (.aload_n 0, 1) := by decide +kernel
theorem dX5_gatherPairs_55 : decode cX5_gatherPairs 55 = .ok (.getfield 25, 3) := by decide +kernel
theorem dX5_gatherPairs_58 : decode cX5_gatherPairs 58 = .ok (.iload_n 3, 1) := by decide +kernel
theorem dX5_gatherPairs_59 : decode cX5_gatherPairs 59 = .ok (.aload_n 1, 1) := by decide +kernel
theorem dX5_gatherPairs_60 : decode cX5_gatherPairs 60 = .ok (.iload 6, 2) := by decide +kernel
theorem dX5_gatherPairs_62 : decode cX5_gatherPairs 62 = .ok (.laload, 1) := by decide +kernel
theorem dX5_gatherPairs_63 : decode cX5_gatherPairs 63 = .ok (.lastore, 1) := by decide +kernel
theorem dX5_gatherPairs_64 : decode cX5_gatherPairs 64 = .ok (.iinc 3 1, 3) := by decide +kernel
theorem dX5_gatherPairs_67 : decode cX5_gatherPairs 67 = .ok (.iinc 6 1, 3) := by decide +kernel
theorem dX5_gatherPairs_70 : decode cX5_gatherPairs 70 = .ok (.goto (-60), 3) := by decide +kernel
theorem dX5_gatherPairs_73 : decode cX5_gatherPairs 73 = .ok (.iload_n 3, 1) := by decide +kernel
theorem dX5_gatherPairs_74 : decode cX5_gatherPairs 74 = .ok (.ireturn, 1) := by decide +kernel
theorem dX5_speedPlace_0 : decode cX5_speedPlace 0 = .ok (.iconst 3, 1) := by decide +kernel
theorem dX5_speedPlace_1 : decode cX5_speedPlace 1 = .ok (.bipush 16, 2) := by decide +kernel
theorem dX5_speedPlace_3 : decode cX5_speedPlace 3 = .ok (.iload_n 0, 1) := by decide +kernel
theorem dX5_speedPlace_4 : decode cX5_speedPlace 4 = .ok (.isub, 1) := by decide +kernel
theorem dX5_speedPlace_5 : decode cX5_speedPlace 5 = .ok (.imul, 1) := by decide +kernel
theorem dX5_speedPlace_6 : decode cX5_speedPlace 6 = .ok (.ireturn, 1) := by decide +kernel
theorem dX5_pairCount_0 : decode cX5_pairCount 0 = .ok (.aload_n 0, 1) := by decide +kernel
theorem dX5_pairCount_1 : decode cX5_pairCount 1 = .ok (.getfield 18, 3) := by decide +kernel
theorem dX5_pairCount_4 : decode cX5_pairCount 4 = .ok (.iload_n 1, 1) := by decide +kernel
theorem dX5_pairCount_5 : decode cX5_pairCount 5 = .ok (.iconst 1, 1) := by decide +kernel
theorem dX5_pairCount_6 : decode cX5_pairCount 6 = .ok (.iadd, 1) := by decide +kernel
theorem dX5_pairCount_7 : decode cX5_pairCount 7 = .ok (.iaload, 1) := by decide +kernel
theorem dX5_pairCount_8 : decode cX5_pairCount 8 = .ok (.aload_n 0, 1) := by decide +kernel
theorem dX5_pairCount_9 : decode cX5_pairCount 9 = .ok (.getfield 18, 3) := by decide +kernel
theorem dX5_pairCount_12 : decode cX5_pairCount 12 = .ok (.iload_n 1, 1) := by decide +kernel
theorem dX5_pairCount_13 : decode cX5_pairCount 13 = .ok (.iaload, 1) := by decide +kernel
theorem dX5_pairCount_14 : decode cX5_pairCount 14 = .ok (.isub, 1) := by decide +kernel
theorem dX5_pairCount_15 : decode cX5_pairCount 15 = .ok (.ireturn, 1) := by decide +kernel
theorem dX5_pairTime_0 : decode cX5_pairTime 0 = .ok (.aload_n 0, 1) := by decide +kernel
theorem dX5_pairTime_1 : decode cX5_pairTime 1 = .ok (.getfield 22, 3) := by decide +kernel
theorem dX5_pairTime_4 : decode cX5_pairTime 4 = .ok (.aload_n 0, 1) := by decide +kernel
theorem dX5_pairTime_5 : decode cX5_pairTime 5 = .ok (.getfield 18, 3) := by decide +kernel
theorem dX5_pairTime_8 : decode cX5_pairTime 8 = .ok (.iload_n 1, 1) := by decide +kernel
theorem dX5_pairTime_9 : decode cX5_pairTime 9 = .ok (.iaload, 1) := by decide +kernel
theorem dX5_pairTime_10 : decode cX5_pairTime 10 = .ok (.iload_n 2, 1) := by decide +kernel
theorem dX5_pairTime_11 : decode cX5_pairTime 11 = .ok (.iadd, 1) := by decide +kernel
theorem dX5_pairTime_12 : decode cX5_pairTime 12 = .ok (.iaload, 1) := by decide +kernel
theorem dX5_pairTime_13 : decode cX5_pairTime 13 = .ok (.ireturn, 1) := by decide +kernel
theorem dX5_pairPower_0 : decode cX5_pairPower 0 = .ok (.aload_n 0, 1) := by decide +kernel
theorem dX5_pairPower_1 : decode cX5_pairPower 1 = .ok (.getfield 25, 3) := by decide +kernel
theorem dX5_pairPower_4 : decode cX5_pairPower 4 = .ok (.aload_n 0, 1) := by decide +kernel
theorem dX5_pairPower_5 : decode cX5_pairPower 5 = .ok (.getfield 18, 3) := by decide +kernel
theorem dX5_pairPower_8 : decode cX5_pairPower 8 = .ok (.iload_n 1, 1) := by decide +kernel
theorem dX5_pairPower_9 : decode cX5_pairPower 9 = .ok (.iaload, 1) := by decide +kernel
theorem dX5_pairPower_10 : decode cX5_pairPower 10 = .ok (.iload_n 2, 1) := by decide +kernel
theorem dX5_pairPower_11 : decode cX5_pairPower 11 = .ok (.iadd, 1) := by decide +kernel
theorem dX5_pairPower_12 : decode cX5_pairPower 12 = .ok (.laload, 1) := by decide +kernel
theorem dX5_pairPower_13 : decode cX5_pairPower 13 = .ok (.bipush 48, 2) := by decide +kernel
theorem dX5_pairPower_15 : decode cX5_pairPower 15 = .ok (.lshr, 1) := by decide +kernel
theorem dX5_pairPower_16 : decode cX5_pairPower 16 = .ok (.l2i, 1) := by decide +kernel
theorem dX5_pairPower_17 : decode cX5_pairPower 17 = .ok (.ireturn, 1) := by decide +kernel
set_option maxRecDepth 20000 in
theorem ggX5_pairSpeed_X0_firstPost : GoodIn wsX5_pairSpeed wsX0_firstPost := goodIn_r _ [8, 9, 22, 23, 24, 25, 26, 27] (by decide +kernel) (by decide +kernel)
set_option maxRecDepth 20000 in
theorem gX5_pairSpeed_X0_firstPost : GoodIn wsX5_pairSpeed (wsV RX5 54 RX0 yX0_firstPost wsX0_firstPost) := goodIn_app (goodIn_of _ (by decide +kernel)) ggX5_pairSpeed_X0_firstPost
set_option maxRecDepth 20000 in
theorem ggX5_pairSpeed_X5_speedPlace : GoodIn wsX5_pairSpeed wsX5_speedPlace := goodIn_r _ [13] (by decide +kernel) (by decide +kernel)
set_option maxRecDepth 20000 in
theorem gX5_pairSpeed_X5_speedPlace : GoodIn wsX5_pairSpeed (va_wsS RX5 82 yX5_speedPlace wsX5_speedPlace) := goodIn_app (goodIn_of _ (by decide +kernel)) ggX5_pairSpeed_X5_speedPlace
theorem dX5_pairSpeed_0 : decode cX5_pairSpeed 0 = .ok (.iload_n 3, 1) := by decide +kernel
theorem dX5_pairSpeed_1 : decode cX5_pairSpeed 1 = .ok (.aload_n 0, 1) := by decide +kernel
theorem dX5_pairSpeed_2 : decode cX5_pairSpeed 2 = .ok (.getfield 32, 3) := by decide +kernel
theorem dX5_pairSpeed_5 : decode cX5_pairSpeed 5 = .ok (.iload_n 1, 1) := by decide +kernel
theorem dX5_pairSpeed_6 : decode cX5_pairSpeed 6 = .ok (.invokevirtual 54, 3) := by decide +kernel
theorem dX5_pairSpeed_9 : decode cX5_pairSpeed 9 = .ok (.isub, 1) := by decide +kernel
theorem dX5_pairSpeed_10 : decode cX5_pairSpeed 10 = .ok (.istore 4, 2) := by decide +kernel
theorem dX5_pairSpeed_12 : decode cX5_pairSpeed 12 = .ok (.iload 4, 2) := by decide +kernel
theorem dX5_pairSpeed_14 : decode cX5_pairSpeed 14 = .ok (.ifCond .ne 5, 3) := by decide +kernel
theorem dX5_pairSpeed_17 : decode cX5_pairSpeed 17 = .ok (.iconst 0, 1) := by decide +kernel
theorem dX5_pairSpeed_18 : decode cX5_pairSpeed 18 = .ok (.ireturn, 1) := by decide +kernel
theorem dX5_pairSpeed_19 : decode cX5_pairSpeed 19 = .ok (.aload_n 0, 1) := by decide +kernel
theorem dX5_pairSpeed_20 : decode cX5_pairSpeed 20 = .ok (.getfield 25, 3) := by decide +kernel
theorem dX5_pairSpeed_23 : decode cX5_pairSpeed 23 = .ok (.aload_n 0, 1) := by decide +kernel
theorem dX5_pairSpeed_24 : decode cX5_pairSpeed 24 = .ok (.getfield 18, 3) := by decide +kernel
theorem dX5_pairSpeed_27 : decode cX5_pairSpeed 27 = .ok (.iload_n 1, 1) := by decide +kernel
theorem dX5_pairSpeed_28 : decode cX5_pairSpeed 28 = .ok (.iaload, 1) := by decide +kernel
theorem dX5_pairSpeed_29 : decode cX5_pairSpeed 29 = .ok (.iload_n 2, 1) := by decide +kernel
theorem dX5_pairSpeed_30 : decode cX5_pairSpeed 30 = .ok (.iadd, 1) := by decide +kernel
theorem dX5_pairSpeed_31 : decode cX5_pairSpeed 31 = .ok (.laload, 1) := by decide +kernel
theorem dX5_pairSpeed_32 : decode cX5_pairSpeed 32 = .ok (.iload 4, 2) := by decide +kernel
theorem dX5_pairSpeed_34 : decode cX5_pairSpeed 34 = .ok (.invokestatic 82, 3) := by decide +kernel
theorem dX5_pairSpeed_37 : decode cX5_pairSpeed 37 = .ok (.lshr, 1) := by decide +kernel
theorem dX5_pairSpeed_38 : decode cX5_pairSpeed 38 = .ok (.l2i, 1) := by decide +kernel
theorem dX5_pairSpeed_39 : decode cX5_pairSpeed 39 = .ok (.bipush 7, 2) := by decide +kernel
theorem dX5_pairSpeed_41 : decode cX5_pairSpeed 41 = .ok (.iand, 1) := by decide +kernel
theorem dX5_pairSpeed_42 : decode cX5_pairSpeed 42 = .ok (.ireturn, 1) := by decide +kernel
set_option maxRecDepth 20000 in
theorem ggX5_pairWithin_X5_pairCount : GoodIn wsX5_pairWithin wsX5_pairCount := goodIn_r _ [5, 6, 12, 13, 14, 15, 16, 17, 18, 19] (by decide +kernel) (by decide +kernel)
set_option maxRecDepth 20000 in
theorem gX5_pairWithin_X5_pairCount : GoodIn wsX5_pairWithin (wsV RX5 101 RX5 yX5_pairCount wsX5_pairCount) := goodIn_app (goodIn_of _ (by decide +kernel)) ggX5_pairWithin_X5_pairCount
set_option maxRecDepth 20000 in
theorem ggX5_pairWithin_X5_pairTime : GoodIn wsX5_pairWithin wsX5_pairTime := goodIn_r _ [10, 11, 6, 12, 13, 14, 15, 16, 17, 18, 19] (by decide +kernel) (by decide +kernel)
set_option maxRecDepth 20000 in
theorem gX5_pairWithin_X5_pairTime : GoodIn wsX5_pairWithin (wsV RX5 104 RX5 yX5_pairTime wsX5_pairTime) := goodIn_app (goodIn_of _ (by decide +kernel)) ggX5_pairWithin_X5_pairTime
theorem dX5_pairWithin_0 : decode cX5_pairWithin 0 = .ok (.aload_n 0, 1) := by decide +kernel
theorem dX5_pairWithin_1 : decode cX5_pairWithin 1 = .ok (.iload_n 1, 1) := by decide +kernel
theorem dX5_pairWithin_2 : decode cX5_pairWithin 2 = .ok (.invokevirtual 101, 3) := by decide +kernel
theorem dX5_pairWithin_5 : decode cX5_pairWithin 5 = .ok (.iconst 1, 1) := by decide +kernel
theorem dX5_pairWithin_6 : decode cX5_pairWithin 6 = .ok (.isub, 1) := by decide +kernel
theorem dX5_pairWithin_7 : decode cX5_pairWithin 7 = .ok (.istore_n 3, 1) := by decide +kernel
theorem dX5_pairWithin_8 : decode cX5_pairWithin 8 = .ok (.iload_n 3, 1) := by decide +kernel
theorem dX5_pairWithin_9 : decode cX5_pairWithin 9 = .ok (.ifCond .lt 19, 3) := by decide +kernel
theorem dX5_pairWithin_12 : decode cX5_pairWithin 12 = .ok (.aload_n 0, 1) := by decide +kernel
theorem dX5_pairWithin_13 : decode cX5_pairWithin 13 = .ok (.iload_n 1, 1) := by decide +kernel
theorem dX5_pairWithin_14 : decode cX5_pairWithin 14 = .ok (.iload_n 3, 1) := by decide +kernel
theorem dX5_pairWithin_15 : decode cX5_pairWithin 15 = .ok (.invokevirtual 104, 3) := by decide +kernel
theorem dX5_pairWithin_18 : decode cX5_pairWithin 18 = .ok (.iload_n 2, 1) := by decide +kernel
theorem dX5_pairWithin_19 : decode cX5_pairWithin 19 = .ok (.if_icmp .le 9, 3) := by decide +kernel
theorem dX5_pairWithin_22 : decode cX5_pairWithin 22 = .ok (.iinc 3 (-1), 3) := by decide +kernel
theorem dX5_pairWithin_25 : decode cX5_pairWithin 25 = .ok (.goto (-17), 3) := by decide +kernel
theorem dX5_pairWithin_28 : decode cX5_pairWithin 28 = .ok (.iload_n 3, 1) := by decide +kernel
theorem dX5_pairWithin_29 : decode cX5_pairWithin 29 = .ok (.ireturn, 1) := by decide +kernel
