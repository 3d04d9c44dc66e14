theorem dX7_sizeOf_19 : decode cX7_sizeOf 19 = .ok (.iconst 1, 1) := by decide +kernel
theorem dX7_sizeOf_20 : decode cX7_sizeOf 20 = .ok (.goto 4, 3) := by decide +kernel
theorem dX7_sizeOf_23 : decode cX7_sizeOf 23 = .ok (.iconst 0, 1) := by decide +kernel
theorem dX7_sizeOf_24 : decode cX7_sizeOf 24 = .ok (.iadd, 1) := by decide +kernel
theorem dX7_sizeOf_25 : decode cX7_sizeOf 25 = .ok (.istore_n 2, 1) := by decide +kernel
theorem dX7_sizeOf_26 : decode cX7_sizeOf 26 = .ok (.iinc 3 1, 3) := by decide +kernel
theorem dX7_sizeOf_29 : decode cX7_sizeOf 29 = .ok (.goto (-25), 3) := by decide +kernel
theorem dX7_sizeOf_32 : decode cX7_sizeOf 32 = .ok (.iload_n 2, 1) := by decide +kernel
theorem dX7_sizeOf_33 : decode cX7_sizeOf 33 = .ok (.ireturn, 1) := by decide +kernel
set_option maxRecDepth 20000 in
theorem ggX7_lay_X7_sizeOf : GoodIn wsX7_lay wsX7_sizeOf := goodIn_r _ [10, 11, 12, 9, 13] (by decide +kernel) (by decide +kernel)
set_option maxRecDepth 20000 in
theorem gX7_lay_X7_sizeOf : GoodIn wsX7_lay (va_wsS RX7 98 yX7_sizeOf wsX7_sizeOf) := goodIn_app (goodIn_of _ (by decide +kernel)) ggX7_lay_X7_sizeOf
set_option maxRecDepth 20000 in
theorem ggX7_lay_X7_in : GoodIn wsX7_lay wsX7_in := goodIn_r _ [16] (by decide +kernel) (by decide +kernel)
set_option maxRecDepth 20000 in
theorem gX7_lay_X7_in : GoodIn wsX7_lay (va_wsS RX7 45 yX7_in wsX7_in) := goodIn_app (goodIn_of _ (by decide +kernel)) ggX7_lay_X7_in
set_option maxRecDepth 20000 in
theorem ggX7_lay_X7_goesWell : GoodIn wsX7_lay wsX7_goesWell := goodIn_r _ [20, 21, 35, 36, 37, 38, 39, 40, 41, 42, 43, 44, 45, 46, 47, 48, 49] (by decide +kernel) (by decide +kernel)
set_option maxRecDepth 20000 in
theorem gX7_lay_X7_goesWell : GoodIn wsX7_lay (wsV RX7 80 RX7 yX7_goesWell wsX7_goesWell) := goodIn_app (goodIn_of _ (by decide +kernel)) ggX7_lay_X7_goesWell
set_option maxRecDepth 20000 in
theorem ggX7_lay_X7_judge : GoodIn wsX7_lay wsX7_judge := goodIn_r _ [24, 25, 26, 27, 9, 28, 29, 30, 31, 32, 33, 34, 11, 12, 13] (by decide +kernel) (by decide +kernel)
set_option maxRecDepth 20000 in
theorem gX7_lay_X7_judge : GoodIn wsX7_lay (va_wsS RX7 94 yX7_judge wsX7_judge) := goodIn_app (goodIn_of _ (by decide +kernel)) ggX7_lay_X7_judge
theorem dX7_lay_0 : decode cX7_lay 0 = .ok (.lload_n 1, 1) := by decide +kernel
theorem dX7_lay_1 : decode cX7_lay 1 = .ok (.invokestatic 98, 3) := by decide +kernel
theorem dX7_lay_4 : decode cX7_lay 4 = .ok (.lload_n 3, 1) := by decide +kernel
theorem dX7_lay_5 : decode cX7_lay 5 = .ok (.invokestatic 98, 3) := by decide +kernel
theorem dX7_lay_8 : decode cX7_lay 8 = .ok (.isub, 1) := by decide +kernel
theorem dX7_lay_9 : decode cX7_lay 9 = .ok (.istore 5, 2) := by decide +kernel
theorem dX7_lay_11 : decode cX7_lay 11 = .ok (.lload_n 1, 1) := by decide +kernel
theorem dX7_lay_12 : decode cX7_lay 12 = .ok (.lload_n 3, 1) := by decide +kernel
theorem dX7_lay_13 : decode cX7_lay 13 = .ok (.lor, 1) := by decide +kernel
theorem dX7_lay_14 : decode cX7_lay 14 = .ok (.ldc2_w 102, 3) := by decide +kernel
theorem dX7_lay_17 : decode cX7_lay 17 = .ok (.land, 1) := by decide +kernel
theorem dX7_lay_18 : decode cX7_lay 18 = .ok (.lconst 0, 1) := by decide +kernel
theorem dX7_lay_19 : decode cX7_lay 19 = .ok (.lcmp, 1) := by decide +kernel
theorem dX7_lay_20 : decode cX7_lay 20 = .ok (.ifCond .ne 25, 3) := by decide +kernel
theorem dX7_lay_23 : decode cX7_lay 23 = .ok (.lload_n 1, 1) := by decide +kernel
theorem dX7_lay_24 : decode cX7_lay 24 = .ok (.lload_n 3, 1) := by decide +kernel
theorem dX7_lay_25 : decode cX7_lay 25 = .ok (.land, 1) := by decide +kernel
theorem dX7_lay_26 : decode cX7_lay 26 = .ok (.lconst 0, 1) := by decide +kernel
theorem dX7_lay_27 : decode cX7_lay 27 = .ok (.lcmp, 1) := by decide +kernel
theorem dX7_lay_28 : decode cX7_lay 28 = .ok (.ifCond .ne 17, 3) := by decide +kernel
theorem dX7_lay_31 : decode cX7_lay 31 = .ok (.iload 5, 2) := by decide +kernel
theorem dX7_lay_33 : decode cX7_lay 33 = .ok (.iconst 0, 1) := by decide +kernel
theorem dX7_lay_34 : decode cX7_lay 34 = .ok (.iconst 1, 1) := by decide +kernel
theorem dX7_lay_35 : decode cX7_lay 35 = .ok (.invokestatic 45, 3) := by decide +kernel
theorem dX7_lay_38 : decode cX7_lay 38 = .ok (.ifCond .eq 7, 3) := by decide +kernel
theorem dX7_lay_41 : decode cX7_lay 41 = .ok (.iconst 1, 1) := by decide +kernel
theorem dX7_lay_42 : decode cX7_lay 42 = .ok (.goto 4, 3) := by decide +kernel
theorem dX7_lay_45 : decode cX7_lay 45 = .ok (.iconst 0, 1) := by decide +kernel
theorem dX7_lay_46 : decode cX7_lay 46 = .ok (.istore 6, 2) := by decide +kernel
theorem dX7_lay_48 : decode cX7_lay 48 = .ok (.aload_n 0, 1) := by decide +kernel
theorem dX7_lay_49 : decode cX7_lay 49 = .ok (.iload 6, 2) := by decide +kernel
theorem dX7_lay_51 : decode cX7_lay 51 = .ok (.ifCond .eq 7, 3) := by decide +kernel
theorem dX7_lay_54 : decode cX7_lay 54 = .ok (.iconst 0, 1) := by decide +kernel
theorem dX7_lay_55 : decode cX7_lay 55 = .ok (.goto 4, 3) := by decide +kernel
theorem dX7_lay_58 : decode cX7_lay 58 = .ok (.iconst 1, 1) := by decide +kernel
theorem dX7_lay_59 : decode cX7_lay 59 = .ok (.invokevirtual 80, 3) := by decide +kernel
theorem dX7_lay_62 : decode cX7_lay 62 = .ok (.ifCond .ne 5, 3) := by decide +kernel
theorem dX7_lay_65 : decode cX7_lay 65 = .ok (.iconst 0, 1) := by decide +kernel
theorem dX7_lay_66 : decode cX7_lay 66 = .ok (.ireturn, 1) := by decide +kernel
theorem dX7_lay_67 : decode cX7_lay 67 = .ok (.aload_n 0, 1) := by decide +kernel
theorem dX7_lay_68 : decode cX7_lay 68 = .ok (.getfield 7, 3) := by decide +kernel
theorem dX7_lay_71 : decode cX7_lay 71 = .ok (.iconst 1, 1) := by decide +kernel
theorem dX7_lay_72 : decode cX7_lay 72 = .ok (.lload_n 1, 1) := by decide +kernel
theorem dX7_lay_73 : decode cX7_lay 73 = .ok (.lastore, 1) := by decide +kernel
theorem dX7_lay_74 : decode cX7_lay 74 = .ok (.aload_n 0, 1) := by decide +kernel
theorem dX7_lay_75 : decode cX7_lay 75 = .ok (.getfield 7, 3) := by decide +kernel
theorem dX7_lay_78 : decode cX7_lay 78 = .ok (.iconst 2, 1) := by decide +kernel
theorem dX7_lay_79 : decode cX7_lay 79 = .ok (.lload_n 3, 1) := by decide +kernel
theorem dX7_lay_80 : decode cX7_lay 80 = .ok (.lastore, 1) := by decide +kernel
theorem dX7_lay_81 : decode cX7_lay 81 = .ok (.aload_n 0, 1) := by decide +kernel
theorem dX7_lay_82 : decode cX7_lay 82 = .ok (.iload 5, 2) := by decide +kernel
theorem dX7_lay_84 : decode cX7_lay 84 = .ok (.ifCond .ne 7, 3) := by decide +kernel
theorem dX7_lay_87 : decode cX7_lay 87 = .ok (.iconst 1, 1) := by decide +kernel
theorem dX7_lay_88 : decode cX7_lay 88 = .ok (.goto 4, 3) := by decide +kernel
theorem dX7_lay_91 : decode cX7_lay 91 = .ok (.iconst 2, 1) := by decide +kernel
theorem dX7_lay_92 : decode cX7_lay 92 = .ok (.putfield 13, 3) := by decide +kernel
theorem dX7_lay_95 : decode cX7_lay 95 = .ok (.aload_n 0, 1) := by decide +kernel
theorem dX7_lay_96 : decode cX7_lay 96 = .ok (.iconst 0, 1) := by decide +kernel
theorem dX7_lay_97 : decode cX7_lay 97 = .ok (.putfield 76, 3) := by decide +kernel
theorem dX7_lay_100 : decode cX7_lay 100 = .ok (.aload_n 0, 1) := by decide +kernel
theorem dX7_lay_101 : decode cX7_lay 101 = .ok (.iconst 0, 1) := by decide +kernel
theorem dX7_lay_102 : decode cX7_lay 102 = .ok (.putfield 83, 3) := by decide +kernel
theorem dX7_lay_105 : decode cX7_lay 105 = .ok (.aload_n 0, 1) := by decide +kernel
theorem dX7_lay_106 : decode cX7_lay 106 = .ok (.lload_n 1, 1) := by decide +kernel
theorem dX7_lay_107 : decode cX7_lay 107 = .ok (.lload_n 3, 1) := by decide +kernel
theorem dX7_lay_108 : decode cX7_lay 108 = .ok (.invokestatic 94, 3) := by decide +kernel
theorem dX7_lay_111 : decode cX7_lay 111 = .ok (.putfield 73, 3) := by decide +kernel
theorem dX7_lay_114 : decode cX7_lay 114 = .ok (.aload_n 0, 1) := by decide +kernel
theorem dX7_lay_115 : decode cX7_lay 115 = .ok (.getfield 73, 3) := by decide +kernel
theorem dX7_lay_118 : decode cX7_lay 118 = .ok (.ireturn, 1) := by decide +kernel
theorem dX7_result_0 : decode cX7_result 0 = .ok (.aload_n 0, 1) := by decide +kernel
theorem dX7_result_1 : decode cX7_result 1 = .ok (.iconst 0, 1) := by decide +kernel
theorem dX7_result_2 : decode cX7_result 2 = .ok (.putfield 42, 3) := by decide +kernel
theorem dX7_result_5 : decode cX7_result 5 = .ok (.aload_n 0, 1) := by decide +kernel
theorem dX7_result_6 : decode cX7_result 6 = .ok (.getfield 73, 3) := by decide +kernel
theorem dX7_result_9 : decode cX7_result 9 = .ok (.ireturn, 1) := by decide +kernel
theorem dX7_mover_0 : decode cX7_mover 0 = .ok (.aload_n 0, 1) := by decide +kernel
theorem dX7_mover_1 : decode cX7_mover 1 = .ok (.iconst 0, 1) := by decide +kernel
theorem dX7_mover_2 : decode cX7_mover 2 = .ok (.putfield 42, 3) := by decide +kernel
theorem dX7_mover_5 : decode cX7_mover 5 = .ok (.aload_n 0, 1) := by decide +kernel
theorem dX7_mover_6 : decode cX7_mover 6 = .ok (.getfield 73, 3) := by decide +kernel
theorem dX7_mover_9 : decode cX7_mover 9 = .ok (.ifCond .ne 10, 3) := by decide +kernel
theorem dX7_mover_12 : decode cX7_mover 12 = .ok (.aload_n 0, 1) := by decide +kernel
theorem dX7_mover_13 : decode cX7_mover 13 = .ok (.getfield 13, 3) := by decide +kernel
theorem dX7_mover_16 : decode cX7_mover 16 = .ok (.goto 4, 3) := by decide +kernel
theorem dX7_mover_19 : decode cX7_mover 19 = .ok (.iconst 0, 1) := by decide +kernel
theorem dX7_mover_20 : decode cX7_mover 20 = .ok (.ireturn, 1) := by decide +kernel
theorem dX7_mustTurn_0 : decode cX7_mustTurn 0 = .ok (.aload_n 0, 1) := by decide +kernel
theorem dX7_mustTurn_1 : decode cX7_mustTurn 1 = .ok (.iconst 0, 1) := by decide +kernel
theorem dX7_mustTurn_2 : decode cX7_mustTurn 2 = .ok (.putfield 42, 3) := by decide +kernel
theorem dX7_mustTurn_5 : decode cX7_mustTurn 5 = .ok (.aload_n 0, 1) := by decide +kernel
theorem dX7_mustTurn_6 : decode cX7_mustTurn 6 = .ok (.getfield 76, 3) := by decide +kernel
theorem dX7_mustTurn_9 : decode cX7_mustTurn 9 = .ok (.ireturn, 1) := by decide +kernel
set_option maxRecDepth 20000 in
theorem ggX7_at_X7_isCell : GoodIn wsX7_at wsX7_isCell := goodIn_r _ [5, 6, 7, 4, 8] (by decide +kernel) (by decide +kernel)
set_option maxRecDepth 20000 in
theorem gX7_at_X7_isCell : GoodIn wsX7_at (va_wsS RX7 69 yX7_isCell wsX7_isCell) := goodIn_app (goodIn_of _ (by decide +kernel)) ggX7_at_X7_isCell
set_option maxRecDepth 20000 in
theorem ggX7_at_X7_goesWell : GoodIn wsX7_at wsX7_goesWell := goodIn_r _ [12, 13, 17, 18, 19, 20, 21, 22, 23, 24, 25, 26, 27, 28, 29, 30, 31] (by decide +kernel) (by decide +kernel)
set_option maxRecDepth 20000 in
theorem gX7_at_X7_goesWell : GoodIn wsX7_at (wsV RX7 80 RX7 yX7_goesWell wsX7_goesWell) := goodIn_app (goodIn_of _ (by decide +kernel)) ggX7_at_X7_goesWell
set_option maxRecDepth 20000 in
theorem ggX7_at_X7_has : GoodIn wsX7_at wsX7_has := goodIn_r _ [16] (by decide +kernel) (by decide +kernel)
set_option maxRecDepth 20000 in
theorem gX7_at_X7_has : GoodIn wsX7_at (va_wsS RX7 53 yX7_has wsX7_has) := goodIn_app (goodIn_of _ (by decide +kernel)) ggX7_at_X7_has
theorem dX7_at_0 : decode cX7_at 0 = .ok (.aload_n 0, 1) := by decide +kernel
theorem dX7_at_1 : decode cX7_at 1 = .ok (.iload_n 1, 1) := by decide +kernel
theorem dX7_at_2 : decode cX7_at 2 = .ok (.invokestatic 69, 3) := by decide +kernel
theorem dX7_at_5 : decode cX7_at 5 = .ok (.ifCond .eq 7, 3) := by decide +kernel
theorem dX7_at_8 : decode cX7_at 8 = .ok (.iconst 0, 1) := by decide +kernel
theorem dX7_at_9 : decode cX7_at 9 = .ok (.goto 4, 3) := by decide +kernel
theorem dX7_at_12 : decode cX7_at 12 = .ok (.iconst 1, 1) := by decide +kernel
theorem dX7_at_13 : decode cX7_at 13 = .ok (.invokevirtual 80, 3) := by decide +kernel
theorem dX7_at_16 : decode cX7_at 16 = .ok (.ifCond .eq 41, 3) := by decide +kernel
theorem dX7_at_19 : decode cX7_at 19 = .ok (.aload_n 0, 1) := by decide +kernel
theorem dX7_at_20 : decode cX7_at 20 = .ok (.getfield 7, 3) := by decide +kernel
theorem dX7_at_23 : decode cX7_at 23 = .ok (.iconst 1, 1) := by decide +kernel
theorem dX7_at_24 : decode cX7_at 24 = .ok (.laload, 1) := by decide +kernel
theorem dX7_at_25 : decode cX7_at 25 = .ok (.iload_n 1, 1) := by decide +kernel
theorem dX7_at_26 : decode cX7_at 26 = .ok (.invokestatic 53, 3) := by decide +kernel
theorem dX7_at_29 : decode cX7_at 29 = .ok (.ifCond .eq 7, 3) := by decide +kernel
theorem dX7_at_32 : decode cX7_at 32 = .ok (.iconst 1, 1) := by decide +kernel
theorem dX7_at_33 : decode cX7_at 33 = .ok (.goto 25, 3) := by decide +kernel
theorem dX7_at_36 : decode cX7_at 36 = .ok (.aload_n 0, 1) := by decide +kernel
theorem dX7_at_37 : decode cX7_at 37 = .ok (.getfield 7, 3) := by decide +kernel
theorem dX7_at_40 : decode cX7_at 40 = .ok (.iconst 2, 1) := by decide +kernel
theorem dX7_at_41 : decode cX7_at 41 = .ok (.laload, 1) := by decide +kernel
theorem dX7_at_42 : decode cX7_at 42 = .ok (.iload_n 1, 1) := by decide +kernel
theorem dX7_at_43 : decode cX7_at 43 = .ok (.invokestatic 53, 3) := by decide +kernel
theorem dX7_at_46 : decode cX7_at 46 = .ok (.ifCond .eq 7, 3) := by decide +kernel
theorem dX7_at_49 : decode cX7_at 49 = .ok (.iconst 2, 1) := by decide +kernel
theorem dX7_at_50 : decode cX7_at 50 = .ok (.goto 8, 3) := by decide +kernel
theorem dX7_at_53 : decode cX7_at 53 = .ok (.iconst 0, 1) := by decide +kernel
theorem dX7_at_54 : decode cX7_at 54 = .ok (.goto 4, 3) := by decide +kernel
theorem dX7_at_57 : decode cX7_at 57 = .ok (.iconst 0, 1) := by decide +kernel
theorem dX7_at_58 : decode cX7_at 58 = .ok (.ireturn, 1) := by decide +kernel
set_option maxRecDepth 20000 in
theorem ggX7_marbles_X7_sizeOf : GoodIn wsX7_marbles wsX7_sizeOf := goodIn_r _ [6, 7, 8, 5, 9] (by decide +kernel) (by decide +kernel)
set_option maxRecDepth 20000 in
theorem gX7_marbles_X7_sizeOf : GoodIn wsX7_marbles (va_wsS RX7 98 yX7_sizeOf wsX7_sizeOf) := goodIn_app (goodIn_of _ (by decide +kernel)) ggX7_marbles_X7_sizeOf
theorem dX7_marbles_0 : decode cX7_marbles 0 = .ok (.aload_n 0, 1) := by decide +kernel
theorem dX7_marbles_1 : decode cX7_marbles 1 = .ok (.iconst 0, 1) := by decide +kernel
theorem dX7_marbles_2 : decode cX7_marbles 2 = .ok (.putfield 42, 3) := by decide +kernel
theorem dX7_marbles_5 : decode cX7_marbles 5 = .ok (.aload_n 0, 1) := by decide +kernel
theorem dX7_marbles_6 : decode cX7_marbles 6 = .ok (.getfield 7, 3) := by decide +kernel
theorem dX7_marbles_9 : decode cX7_marbles 9 = .ok (.iconst 1, 1) := by decide +kernel
theorem dX7_marbles_10 : decode cX7_marbles 10 = .ok (.laload, 1) := by decide +kernel
theorem dX7_marbles_11 : decode cX7_marbles 11 = .ok (.aload_n 0, 1) := by decide +kernel
theorem dX7_marbles_12 : decode cX7_marbles 12 = .ok (.getfield 7, 3) := by decide +kernel
theorem dX7_marbles_15 : decode cX7_marbles 15 = .ok (.iconst 2, 1) := by decide +kernel
theorem dX7_marbles_16 : decode cX7_marbles 16 = .ok (.laload, 1) := by decide +kernel
theorem dX7_marbles_17 : decode cX7_marbles 17 = .ok (.lor, 1) := by decide +kernel
theorem dX7_marbles_18 : decode cX7_marbles 18 = .ok (.invokestatic 98, 3) := by decide +kernel
theorem dX7_marbles_21 : decode cX7_marbles 21 = .ok (.ireturn, 1) := by decide +kernel
set_option maxRecDepth 20000 in
theorem ggX7_share_X7_sizeOf : GoodIn wsX7_share wsX7_sizeOf := goodIn_r _ [7, 8, 9, 6, 10] (by decide +kernel) (by decide +kernel)
set_option maxRecDepth 20000 in
theorem gX7_share_X7_sizeOf : GoodIn wsX7_share (va_wsS RX7 98 yX7_sizeOf wsX7_sizeOf) := goodIn_app (goodIn_of _ (by decide +kernel)) ggX7_share_X7_sizeOf
theorem dX7_share_0 : decode cX7_share 0 = .ok (.aload_n 0, 1) := by decide +kernel
theorem dX7_share_1 : decode cX7_share 1 = .ok (.iconst 0, 1) := by decide +kernel
theorem dX7_share_2 : decode cX7_share 2 = .ok (.putfield 42, 3) := by decide +kernel
theorem dX7_share_5 : decode cX7_share 5 = .ok (.aload_n 0, 1) := by decide +kernel
theorem dX7_share_6 : decode cX7_share 6 = .ok (.getfield 7, 3) := by decide +kernel
theorem dX7_share_9 : decode cX7_share 9 = .ok (.iconst 1, 1) := by decide +kernel
theorem dX7_share_10 : decode cX7_share 10 = .ok (.laload, 1) := by decide +kernel
theorem dX7_share_11 : decode cX7_share 11 = .ok (.aload_n 0, 1) := by decide +kernel
theorem dX7_share_12 : decode cX7_share 12 = .ok (.getfield 7, 3) := by decide +kernel
theorem dX7_share_15 : decode cX7_share 15 = .ok (.iconst 2, 1) := by decide +kernel
theorem dX7_share_16 : decode cX7_share 16 = .ok (.laload, 1) := by decide +kernel
theorem dX7_share_17 : decode cX7_share 17 = .ok (.lor, 1) := by decide +kernel
theorem dX7_share_18 : decode cX7_share 18 = .ok (.invokestatic 98, 3) := by decide +kernel
theorem dX7_share_21 : decode cX7_share 21 = .ok (.i2f, 1) := by decide +kernel
theorem dX7_share_22 : decode cX7_share 22 = .ok (.ldc 104, 2) := by decide +kernel
theorem dX7_share_24 : decode cX7_share 24 = .ok (.fdiv, 1) := by decide +kernel
theorem dX7_share_25 : decode cX7_share 25 = .ok (.freturn, 1) := by decide +kernel
theorem dX7_moves_0 : decode cX7_moves 0 = .ok (.aload_n 0, 1) := by decide +kernel
theorem dX7_moves_1 : decode cX7_moves 1 = .ok (.iconst 0, 1) := by decide +kernel
theorem dX7_moves_2 : decode cX7_moves 2 = .ok (.putfield 42, 3) := by decide +kernel
theorem dX7_moves_5 : decode cX7_moves 5 = .ok (.aload_n 0, 1) := by decide +kernel
theorem dX7_moves_6 : decode cX7_moves 6 = .ok (.getfield 83, 3) := by decide +kernel
theorem dX7_moves_9 : decode cX7_moves 9 = .ok (.ireturn, 1) := by decide +kernel
theorem dX7_lengthOf_0 : decode cX7_lengthOf 0 = .ok (.aload_n 0, 1) := by decide +kernel
theorem dX7_lengthOf_1 : decode cX7_lengthOf 1 = .ok (.getfield 21, 3) := by decide +kernel
theorem dX7_lengthOf_4 : decode cX7_lengthOf 4 = .ok (.iload_n 1, 1) := by decide +kernel
theorem dX7_lengthOf_5 : decode cX7_lengthOf 5 = .ok (.iaload, 1) := by decide +kernel
theorem dX7_lengthOf_6 : decode cX7_lengthOf 6 = .ok (.iconst (-1), 1) := by decide +kernel
theorem dX7_lengthOf_7 : decode cX7_lengthOf 7 = .ok (.if_icmp .ne 7, 3) := by decide +kernel
theorem dX7_lengthOf_10 : decode cX7_lengthOf 10 = .ok (.iconst 2, 1) := by decide +kernel
theorem dX7_lengthOf_11 : decode cX7_lengthOf 11 = .ok (.goto 4, 3) := by decide +kernel
theorem dX7_lengthOf_14 : decode cX7_lengthOf 14 = .ok (.iconst 4, 1) := by decide +kernel
theorem dX7_lengthOf_15 : decode cX7_lengthOf 15 = .ok (.ireturn, 1) := by decide +kernel
set_option maxRecDepth 20000 in
theorem ggX7_textLength_X7_in : GoodIn wsX7_textLength wsX7_in := goodIn_r _ [5] (by decide +kernel) (by decide +kernel)
set_option maxRecDepth 20000 in
theorem gX7_textLength_X7_in : GoodIn wsX7_textLength (va_wsS RX7 45 yX7_in wsX7_in) := goodIn_app (goodIn_of _ (by decide +kernel)) ggX7_textLength_X7_in
set_option maxRecDepth 20000 in
theorem ggX7_textLength_X7_goesWell : GoodIn wsX7_textLength wsX7_goesWell := goodIn_r _ [9, 10, 16, 17, 18, 19, 20, 21, 22, 23, 24, 25, 26, 27, 28, 29, 30] (by decide +kernel) (by decide +kernel)
set_option maxRecDepth 20000 in
theorem gX7_textLength_X7_goesWell : GoodIn wsX7_textLength (wsV RX7 80 RX7 yX7_goesWell wsX7_goesWell) := goodIn_app (goodIn_of _ (by decide +kernel)) ggX7_textLength_X7_goesWell
set_option maxRecDepth 20000 in
theorem ggX7_textLength_X7_lengthOf : GoodIn wsX7_textLength wsX7_lengthOf := goodIn_r _ [14, 15, 16, 17, 18, 19, 20, 21, 22, 23, 24, 25, 26, 27, 28, 29, 30] (by decide +kernel) (by decide +kernel)
set_option maxRecDepth 20000 in
theorem gX7_textLength_X7_lengthOf : GoodIn wsX7_textLength (wsV RX7 105 RX7 yX7_lengthOf wsX7_lengthOf) := goodIn_app (goodIn_of _ (by decide +kernel)) ggX7_textLength_X7_lengthOf
theorem dX7_textLength_0 : decode cX7_textLength 0 = .ok (.aload_n 0, 1) := by decide +kernel
theorem dX7_textLength_1 : decode cX7_textLength 1 = .ok (.iload_n 1, 1) := by decide +kernel
theorem dX7_textLength_2 : decode cX7_textLength 2 = .ok (.iconst 0, 1) := by decide +kernel
theorem dX7_textLength_3 : decode cX7_textLength 3 = .ok (.aload_n 0, 1) := by decide +kernel
theorem dX7_textLength_4 : decode cX7_textLength 4 = .ok (.getfield 83, 3) := by decide +kernel
theorem dX7_textLength_7 : decode cX7_textLength 7 = .ok (.iconst 1, 1) := by decide +kernel
theorem dX7_textLength_8 : decode cX7_textLength 8 = .ok (.isub, 1) := by decide +kernel
theorem dX7_textLength_9 : decode cX7_textLength 9 = .ok (.invokestatic 45, 3) := by decide +kernel
theorem dX7_textLength_12 : decode cX7_textLength 12 = .ok (.ifCond .eq 7, 3) := by decide +kernel
theorem dX7_textLength_15 : decode cX7_textLength 15 = .ok (.iconst 0, 1) := by decide +kernel
theorem dX7_textLength_16 : decode cX7_textLength 16 = .ok (.goto 4, 3) := by decide +kernel
theorem dX7_textLength_19 : decode cX7_textLength 19 = .ok (.iconst 1, 1) := by decide +kernel
theorem dX7_textLength_20 : decode cX7_textLength 20 = .ok (.invokevirtual 80, 3) := by decide +kernel
theorem dX7_textLength_23 : decode cX7_textLength 23 = .ok (.ifCond .eq 11, 3) := by decide +kernel
theorem dX7_textLength_26 : decode cX7_textLength 26 = .ok (.aload_n 0, 1) := by decide +kernel
theorem dX7_textLength_27 : decode cX7_textLength 27 = .ok (.iload_n 1, 1) := by decide +kernel
theorem dX7_textLength_28 : decode cX7_textLength 28 = .ok (.invokevirtual 105, 3) := by decide +kernel
theorem dX7_textLength_31 : decode cX7_textLength 31 = .ok (.goto 4, 3) := by decide +kernel
theorem dX7_textLength_34 : decode cX7_textLength 34 = .ok (.iconst 0, 1) := by decide +kernel
theorem dX7_textLength_35 : decode cX7_textLength 35 = .ok (.ireturn, 1) := by decide +kernel
set_option maxRecDepth 20000 in
theorem ggX7_textAt_X7_in : GoodIn wsX7_textAt wsX7_in := goodIn_r _ [7] (by decide +kernel) (by decide +kernel)
set_option maxRecDepth 20000 in
theorem gX7_textAt_X7_in : GoodIn wsX7_textAt (va_wsS RX7 45 yX7_in wsX7_in) := goodIn_app (goodIn_of _ (by decide +kernel)) ggX7_textAt_X7_in
set_option maxRecDepth 20000 in
theorem ggX7_textAt_X7_lengthOf : GoodIn wsX7_textAt wsX7_lengthOf := goodIn_r _ [11, 3, 17, 18, 19, 20, 21, 22, 23, 24, 25, 26, 27, 28, 29, 30, 31] (by decide +kernel) (by decide +kernel)
set_option maxRecDepth 20000 in
theorem gX7_textAt_X7_lengthOf : GoodIn wsX7_textAt (wsV RX7 105 RX7 yX7_lengthOf wsX7_lengthOf) := goodIn_app (goodIn_of _ (by decide +kernel)) ggX7_textAt_X7_lengthOf
set_option maxRecDepth 20000 in
theorem ggX7_textAt_X7_goesWell : GoodIn wsX7_textAt wsX7_goesWell := goodIn_r _ [15, 16, 17, 18, 19, 20, 21, 22, 23, 24, 25, 26, 27, 28, 29, 30, 31] (by decide +kernel) (by decide +kernel)
set_option maxRecDepth 20000 in
theorem gX7_textAt_X7_goesWell : GoodIn wsX7_textAt (wsV RX7 80 RX7 yX7_goesWell wsX7_goesWell) := goodIn_app (goodIn_of _ (by decide +kernel)) ggX7_textAt_X7_goesWell
theorem dX7_textAt_0 : decode cX7_textAt 0 = .ok (.iload_n 1, 1) := by decide +kernel
theorem dX7_textAt_1 : decode cX7_textAt 1 = .ok (.iconst 0, 1) := by decide +kernel
theorem dX7_textAt_2 : decode cX7_textAt 2 = .ok (.aload_n 0, 1) := by decide +kernel
theorem dX7_textAt_3 : decode cX7_textAt 3 = .ok (.getfield 83, 3) := by decide +kernel
theorem dX7_textAt_6 : decode cX7_textAt 6 = .ok (.iconst 1, 1) := by decide +kernel
theorem dX7_textAt_7 : decode cX7_textAt 7 = .ok (.isub, 1) := by decide +kernel
theorem dX7_textAt_8 : decode cX7_textAt 8 = .ok (.invokestatic 45, 3) := by decide +kernel
theorem dX7_textAt_11 : decode cX7_textAt 11 = .ok (.ifCond .eq 22, 3) := by decide +kernel
theorem dX7_textAt_14 : decode cX7_textAt 14 = .ok (.iload_n 2, 1) := by decide +kernel
theorem dX7_textAt_15 : decode cX7_textAt 15 = .ok (.iconst 0, 1) := by decide +kernel
theorem dX7_textAt_16 : decode cX7_textAt 16 = .ok (.aload_n 0, 1) := by decide +kernel
theorem dX7_textAt_17 : decode cX7_textAt 17 = .ok (.iload_n 1, 1) := by decide +kernel
theorem dX7_textAt_18 : decode cX7_textAt 18 = .ok (.invokevirtual 105, 3) := by decide +kernel
theorem dX7_textAt_21 : decode cX7_textAt 21 = .ok (.iconst 1, 1) := by decide +kernel
theorem dX7_textAt_22 : decode cX7_textAt 22 = .ok (.isub, 1) := by decide +kernel
theorem dX7_textAt_23 : decode cX7_textAt 23 = .ok (.invokestatic 45, 3) := by decide +kernel
theorem dX7_textAt_26 : decode cX7_textAt 26 = .ok (.ifCond .eq 7, 3) := by decide +kernel
theorem dX7_textAt_29 : decode cX7_textAt 29 = .ok (.iconst 1, 1) := by decide +kernel
theorem dX7_textAt_30 : decode cX7_textAt 30 = .ok (.goto 4, 3) := by decide +kernel
theorem dX7_textAt_33 : decode cX7_textAt 33 = .ok (.iconst 0, 1) := by decide +kernel
theorem dX7_textAt_34 : decode cX7_textAt 34 = .ok (.istore_n 3, 1) := by decide +kernel
theorem dX7_textAt_35 : decode cX7_textAt 35 = .ok (.aload_n 0, 1) := by decide +kernel
theorem dX7_textAt_36 : decode cX7_textAt 36 = .ok (.iload_n 3, 1) := by decide +kernel
theorem dX7_textAt_37 : decode cX7_textAt 37 = .ok (.ifCond .eq 7, 3) := by decide +kernel
theorem dX7_textAt_40 : decode cX7_textAt 40 = .ok (.iconst 0, 1) := by decide +kernel
theorem dX7_textAt_41 : decode cX7_textAt 41 = .ok (.goto 4, 3) := by decide +kernel
theorem dX7_textAt_44 : decode cX7_textAt 44 = .ok (.iconst 1, 1) := by decide +kernel
theorem dX7_textAt_45 : decode cX7_textAt 45 = .ok (.invokevirtual 80, 3) := by decide +kernel
theorem dX7_textAt_48 : decode cX7_textAt 48 = .ok (.ifCond .ne 6, 3) := by decide +kernel
theorem dX7_textAt_51 : decode cX7_textAt 51 = .ok (.bipush 32, 2) := by decide +kernel
theorem dX7_textAt_53 : decode cX7_textAt 53 = .ok (.ireturn, 1) := by decide +kernel
theorem dX7_textAt_54 : decode cX7_textAt 54 = .ok (.iload_n 2, 1) := by decide +kernel
theorem dX7_textAt_55 : decode cX7_textAt 55 = .ok (.iconst 2, 1) := by decide +kernel
theorem dX7_textAt_56 : decode cX7_textAt 56 = .ok (.if_icmp .ge 36, 3) := by decide +kernel
theorem dX7_textAt_59 : decode cX7_textAt 59 = .ok (.iload_n 2, 1) := by decide +kernel
theorem dX7_textAt_60 : decode cX7_textAt 60 = .ok (.ifCond .ne 18, 3) := by decide +kernel
theorem dX7_textAt_63 : decode cX7_textAt 63 = .ok (.bipush 97, 2) := by decide +kernel
theorem dX7_textAt_65 : decode cX7_textAt 65 = .ok (.aload_n 0, 1) := by decide +kernel
theorem dX7_textAt_66 : decode cX7_textAt 66 = .ok (.getfield 17, 3) := by decide +kernel
theorem dX7_textAt_69 : decode cX7_textAt 69 = .ok (.iload_n 1, 1) := by decide +kernel
theorem dX7_textAt_70 : decode cX7_textAt 70 = .ok (.iaload, 1) := by decide +kernel
theorem dX7_textAt_71 : decode cX7_textAt 71 = .ok (.bipush 6, 2) := by decide +kernel
theorem dX7_textAt_73 : decode cX7_textAt 73 = .ok (.irem, 1) := by decide +kernel
theorem dX7_textAt_74 : decode cX7_textAt 74 = .ok (.iadd, 1) := by decide +kernel
theorem dX7_textAt_75 : decode cX7_textAt 75 = .ok (.goto 15, 3) := by decide +kernel
theorem dX7_textAt_78 : decode cX7_textAt 78 = .ok (.bipush 49, 2) := by decide +kernel
theorem dX7_textAt_80 : decode cX7_textAt 80 = .ok (.aload_n 0, 1) := by decide +kernel
theorem dX7_textAt_81 : decode cX7_textAt 81 = .ok (.getfield 17, 3) := by decide +kernel
theorem dX7_textAt_84 : decode cX7_textAt 84 = .ok (.iload_n 1, 1) := by decide +kernel
theorem dX7_textAt_85 : decode cX7_textAt 85 = .ok (.iaload, 1) := by decide +kernel
theorem dX7_textAt_86 : decode cX7_textAt 86 = .ok (.bipush 6, 2) := by decide +kernel
theorem dX7_textAt_88 : decode cX7_textAt 88 = .ok (.idiv, 1) := by decide +kernel
theorem dX7_textAt_89 : decode cX7_textAt 89 = .ok (.iadd, 1) := by decide +kernel
theorem dX7_textAt_90 : decode cX7_textAt 90 = .ok (.i2c, 1) := by decide +kernel
theorem dX7_textAt_91 : decode cX7_textAt 91 = .ok (.ireturn, 1) := by decide +kernel
theorem dX7_textAt_92 : decode cX7_textAt 92 = .ok (.iload_n 2, 1) := by decide +kernel
theorem dX7_textAt_93 : decode cX7_textAt 93 = .ok (.iconst 2, 1) := by decide +kernel
theorem dX7_textAt_94 : decode cX7_textAt 94 = .ok (.if_icmp .ne 18, 3) := by decide +kernel
theorem dX7_textAt_97 : decode cX7_textAt 97 = .ok (.bipush 48, 2) := by decide +kernel
theorem dX7_textAt_99 : decode cX7_textAt 99 = .ok (.aload_n 0, 1) := by decide +kernel
theorem dX7_textAt_100 : decode cX7_textAt 100 = .ok (.getfield 21, 3) := by decide +kernel
theorem dX7_textAt_103 : decode cX7_textAt 103 = .ok (.iload_n 1, 1) := by decide +kernel
theorem dX7_textAt_104 : decode cX7_textAt 104 = .ok (.iaload, 1) := by decide +kernel
theorem dX7_textAt_105 : decode cX7_textAt 105 = .ok (.iconst 2, 1) := by decide +kernel
theorem dX7_textAt_106 : decode cX7_textAt 106 = .ok (.idiv, 1) := by decide +kernel
theorem dX7_textAt_107 : decode cX7_textAt 107 = .ok (.iadd, 1) := by decide +kernel
theorem dX7_textAt_108 : decode cX7_textAt 108 = .ok (.i2c, 1) := by decide +kernel
theorem dX7_textAt_109 : decode cX7_textAt 109 = .ok (.goto 21, 3) := by decide +kernel
theorem dX7_textAt_112 : decode cX7_textAt 112 = .ok (.aload_n 0, 1) := by decide +kernel
theorem dX7_textAt_113 : decode cX7_textAt 113 = .ok (.getfield 21, 3) := by decide +kernel
theorem dX7_textAt_116 : decode cX7_textAt 116 = .ok (.iload_n 1, 1) := by decide +kernel
theorem dX7_textAt_117 : decode cX7_textAt 117 = .ok (.iaload, 1) := by decide +kernel
theorem dX7_textAt_118 : decode cX7_textAt 118 = .ok (.iconst 2, 1) := by decide +kernel
theorem dX7_textAt_119 : decode cX7_textAt 119 = .ok (.irem, 1) := by decide +kernel
theorem dX7_textAt_120 : decode cX7_textAt 120 = .ok (.ifCond .ne 8, 3) := by decide +kernel
theorem dX7_textAt_123 : decode cX7_textAt 123 = .ok (.bipush 82, 2) := by decide +kernel
theorem dX7_textAt_125 : decode cX7_textAt 125 = .ok (.goto 5, 3) := by decide +kernel
theorem dX7_textAt_128 : decode cX7_textAt 128 = .ok (.bipush 76, 2) := by decide +kernel
theorem dX7_textAt_130 : decode cX7_textAt 130 = .ok (.ireturn, 1) := by decide +kernel
set_option maxRecDepth 20000 in
theorem ggX7_lines_X7_isSide : GoodIn wsX7_lines wsX7_isSide := goodIn_r _ [5, 6, 7, 4, 8] (by decide +kernel) (by decide +kernel)
set_option maxRecDepth 20000 in
theorem gX7_lines_X7_isSide : GoodIn wsX7_lines (va_wsS RX7 109 yX7_isSide wsX7_isSide) := goodIn_app (goodIn_of _ (by decide +kernel)) ggX7_lines_X7_isSide
set_option maxRecDepth 20000 in
theorem ggX7_lines_X7_goesWell : GoodIn wsX7_lines wsX7_goesWell := goodIn_r _ [12, 13, 23, 24, 25, 26, 27, 28, 29, 30, 31, 32, 33, 34, 35, 36, 37] (by decide +kernel) (by decide +kernel)
set_option maxRecDepth 20000 in
theorem gX7_lines_X7_goesWell : GoodIn wsX7_lines (wsV RX7 80 RX7 yX7_goesWell wsX7_goesWell) := goodIn_app (goodIn_of _ (by decide +kernel)) ggX7_lines_X7_goesWell
set_option maxRecDepth 20000 in
theorem ggX7_lines_X7_count : GoodIn wsX7_lines wsX7_count := goodIn_r _ [16, 17, 18, 4, 19, 20, 21, 22] (by decide +kernel) (by decide +kernel)
set_option maxRecDepth 20000 in
theorem gX7_lines_X7_count : GoodIn wsX7_lines (va_wsS RX7 57 yX7_count wsX7_count) := goodIn_app (goodIn_of _ (by decide +kernel)) ggX7_lines_X7_count
theorem dX7_lines_0 : decode cX7_lines 0 = .ok (.aload_n 0, 1) := by decide +kernel
theorem dX7_lines_1 : decode cX7_lines 1 = .ok (.iload_n 1, 1) := by decide +kernel
theorem dX7_lines_2 : decode cX7_lines 2 = .ok (.invokestatic 109, 3) := by decide +kernel
theorem dX7_lines_5 : decode cX7_lines 5 = .ok (.ifCond .eq 7, 3) := by decide +kernel
theorem dX7_lines_8 : decode cX7_lines 8 = .ok (.iconst 0, 1) := by decide +kernel
theorem dX7_lines_9 : decode cX7_lines 9 = .ok (.goto 4, 3) := by decide +kernel
theorem dX7_lines_12 : decode cX7_lines 12 = .ok (.iconst 1, 1) := by decide +kernel
theorem dX7_lines_13 : decode cX7_lines 13 = .ok (.invokevirtual 80, 3) := by decide +kernel
theorem dX7_lines_16 : decode cX7_lines 16 = .ok (.ifCond .eq 24, 3) := by decide +kernel
theorem dX7_lines_19 : decode cX7_lines 19 = .ok (.aload_n 0, 1) := by decide +kernel
theorem dX7_lines_20 : decode cX7_lines 20 = .ok (.getfield 7, 3) := by decide +kernel
theorem dX7_lines_23 : decode cX7_lines 23 = .ok (.iload_n 1, 1) := by decide +kernel
theorem dX7_lines_24 : decode cX7_lines 24 = .ok (.laload, 1) := by decide +kernel
theorem dX7_lines_25 : decode cX7_lines 25 = .ok (.aload_n 0, 1) := by decide +kernel
theorem dX7_lines_26 : decode cX7_lines 26 = .ok (.getfield 7, 3) := by decide +kernel
theorem dX7_lines_29 : decode cX7_lines 29 = .ok (.iconst 3, 1) := by decide +kernel
theorem dX7_lines_30 : decode cX7_lines 30 = .ok (.iload_n 1, 1) := by decide +kernel
theorem dX7_lines_31 : decode cX7_lines 31 = .ok (.isub, 1) := by decide +kernel
theorem dX7_lines_32 : decode cX7_lines 32 = .ok (.laload, 1) := by decide +kernel
theorem dX7_lines_33 : decode cX7_lines 33 = .ok (.iconst 5, 1) := by decide +kernel
theorem dX7_lines_34 : decode cX7_lines 34 = .ok (.invokestatic 57, 3) := by decide +kernel
theorem dX7_lines_37 : decode cX7_lines 37 = .ok (.goto 4, 3) := by decide +kernel
theorem dX7_lines_40 : decode cX7_lines 40 = .ok (.iconst 0, 1) := by decide +kernel
theorem dX7_lines_41 : decode cX7_lines 41 = .ok (.ireturn, 1) := by decide +kernel
set_option maxRecDepth 20000 in
theorem ggX7_fours_X7_isSide : GoodIn wsX7_fours wsX7_isSide := goodIn_r _ [5, 6, 7, 4, 8] (by decide +kernel) (by decide +kernel)
set_option maxRecDepth 20000 in
theorem gX7_fours_X7_isSide : GoodIn wsX7_fours (va_wsS RX7 109 yX7_isSide wsX7_isSide) := goodIn_app (goodIn_of _ (by decide +kernel)) ggX7_fours_X7_isSide
set_option maxRecDepth 20000 in
theorem ggX7_fours_X7_goesWell : GoodIn wsX7_fours wsX7_goesWell := goodIn_r _ [12, 13, 23, 24, 25, 26, 27, 28, 29, 30, 31, 32, 33, 34, 35, 36, 37] (by decide +kernel) (by decide +kernel)
set_option maxRecDepth 20000 in
theorem gX7_fours_X7_goesWell : GoodIn wsX7_fours (wsV RX7 80 RX7 yX7_goesWell wsX7_goesWell) := goodIn_app (goodIn_of _ (by decide +kernel)) ggX7_fours_X7_goesWell
set_option maxRecDepth 20000 in
theorem ggX7_fours_X7_count : GoodIn wsX7_fours wsX7_count := goodIn_r _ [16, 17, 18, 4, 19, 20, 21, 22] (by decide +kernel) (by decide +kernel)
set_option maxRecDepth 20000 in
theorem gX7_fours_X7_count : GoodIn wsX7_fours (va_wsS RX7 57 yX7_count wsX7_count) := goodIn_app (goodIn_of _ (by decide +kernel)) ggX7_fours_X7_count
theorem dX7_fours_0 : decode cX7_fours 0 = .ok (.aload_n 0, 1) := by decide +kernel
theorem dX7_fours_1 : decode cX7_fours 1 = .ok (.iload_n 1, 1) := by decide +kernel
theorem dX7_fours_2 : decode cX7_fours 2 = .ok (.invokestatic 109, 3) := by decide +kernel
theorem dX7_fours_5 : decode cX7_fours 5 = .ok (.ifCond .eq 7, 3) := by decide +kernel
theorem dX7_fours_8 : decode cX7_fours 8 = .ok (.iconst 0, 1) := by decide +kernel
theorem dX7_fours_9 : decode cX7_fours 9 = .ok (.goto 4, 3) := by decide +kernel
theorem dX7_fours_12 : decode cX7_fours 12 = .ok (.iconst 1, 1) := by decide +kernel
theorem dX7_fours_13 : decode cX7_fours 13 = .ok (.invokevirtual 80, 3) := by decide +kernel
theorem dX7_fours_16 : decode cX7_fours 16 = .ok (.ifCond .eq 24, 3) := by decide +kernel
theorem dX7_fours_19 : decode cX7_fours 19 = .ok (.aload_n 0, 1) := by decide +kernel
theorem dX7_fours_20 : decode cX7_fours 20 = .ok (.getfield 7, 3) := by decide +kernel
theorem dX7_fours_23 : decode cX7_fours 23 = .ok (.iload_n 1, 1) := by decide +kernel
theorem dX7_fours_24 : decode cX7_fours 24 = .ok (.laload, 1) := by decide +kernel
theorem dX7_fours_25 : decode cX7_fours 25 = .ok (.aload_n 0, 1) := by decide +kernel
theorem dX7_fours_26 : decode cX7_fours 26 = .ok (.getfield 7, 3) := by decide +kernel
theorem dX7_fours_29 : decode cX7_fours 29 = .ok (.iconst 3, 1) := by decide +kernel
theorem dX7_fours_30 : decode cX7_fours 30 = .ok (.iload_n 1, 1) := by decide +kernel
theorem dX7_fours_31 : decode cX7_fours 31 = .ok (.isub, 1) := by decide +kernel
theorem dX7_fours_32 : decode cX7_fours 32 = .ok (.laload, 1) := by decide +kernel
theorem dX7_fours_33 : decode cX7_fours 33 = .ok (.iconst 4, 1) := by decide +kernel
theorem dX7_fours_34 : decode cX7_fours 34 = .ok (.invokestatic 57, 3) := by decide +kernel
theorem dX7_fours_37 : decode cX7_fours 37 = .ok (.goto 4, 3) := by decide +kernel
theorem dX7_fours_40 : decode cX7_fours 40 = .ok (.iconst 0, 1) := by decide +kernel
theorem dX7_fours_41 : decode cX7_fours 41 = .ok (.ireturn, 1) := by decide +kernel
set_option maxRecDepth 20000 in
theorem ggX7_foursBehind_X7_isSide : GoodIn wsX7_foursBehind wsX7_isSide := goodIn_r _ [5, 6, 7, 4, 8] (by decide +kernel) (by decide +kernel)
set_option maxRecDepth 20000 in
theorem gX7_foursBehind_X7_isSide : GoodIn wsX7_foursBehind (va_wsS RX7 109 yX7_isSide wsX7_isSide) := goodIn_app (goodIn_of _ (by decide +kernel)) ggX7_foursBehind_X7_isSide
set_option maxRecDepth 20000 in
theorem ggX7_foursBehind_X7_in : GoodIn wsX7_foursBehind wsX7_in := goodIn_r _ [8] (by decide +kernel) (by decide +kernel)
set_option maxRecDepth 20000 in
theorem gX7_foursBehind_X7_in : GoodIn wsX7_foursBehind (va_wsS RX7 45 yX7_in wsX7_in) := goodIn_app (goodIn_of _ (by decide +kernel)) ggX7_foursBehind_X7_in
set_option maxRecDepth 20000 in
theorem ggX7_foursBehind_X7_goesWell : GoodIn wsX7_foursBehind wsX7_goesWell := goodIn_r _ [12, 13, 27, 28, 29, 30, 31, 32, 33, 34, 35, 36, 37, 38, 39, 40, 41] (by decide +kernel) (by decide +kernel)
set_option maxRecDepth 20000 in
theorem gX7_foursBehind_X7_goesWell : GoodIn wsX7_foursBehind (wsV RX7 80 RX7 yX7_goesWell wsX7_goesWell) := goodIn_app (goodIn_of _ (by decide +kernel)) ggX7_foursBehind_X7_goesWell
set_option maxRecDepth 20000 in
theorem ggX7_foursBehind_X7_turned : GoodIn wsX7_foursBehind wsX7_turned := goodIn_r _ [16, 17, 18, 19, 4, 20] (by decide +kernel) (by decide +kernel)
set_option maxRecDepth 20000 in
theorem gX7_foursBehind_X7_turned : GoodIn wsX7_foursBehind (va_wsS RX7 86 yX7_turned wsX7_turned) := goodIn_app (goodIn_of _ (by decide +kernel)) ggX7_foursBehind_X7_turned
set_option maxRecDepth 20000 in
theorem ggX7_foursBehind_X7_count : GoodIn wsX7_foursBehind wsX7_count := goodIn_r _ [23, 24, 25, 4, 26, 18, 19, 20] (by decide +kernel) (by decide +kernel)
set_option maxRecDepth 20000 in
theorem gX7_foursBehind_X7_count : GoodIn wsX7_foursBehind (va_wsS RX7 57 yX7_count wsX7_count) := goodIn_app (goodIn_of _ (by decide +kernel)) ggX7_foursBehind_X7_count
theorem dX7_foursBehind_0 : decode cX7_foursBehind 0 = .ok (.iload_n 1, 1) := by decide +kernel
theorem dX7_foursBehind_1 : decode cX7_foursBehind 1 = .ok (.invokestatic 109, 3) := by decide +kernel
theorem dX7_foursBehind_4 : decode cX7_foursBehind 4 = .ok (.ifCond .eq 16, 3) := by decide +kernel
theorem dX7_foursBehind_7 : decode cX7_foursBehind 7 = .ok (.iload_n 2, 1) := by decide +kernel
theorem dX7_foursBehind_8 : decode cX7_foursBehind 8 = .ok (.iconst 0, 1) := by decide +kernel
theorem dX7_foursBehind_9 : decode cX7_foursBehind 9 = .ok (.iconst 3, 1) := by decide +kernel
theorem dX7_foursBehind_10 : decode cX7_foursBehind 10 = .ok (.invokestatic 45, 3) := by decide +kernel
theorem dX7_foursBehind_13 : decode cX7_foursBehind 13 = .ok (.ifCond .eq 7, 3) := by decide +kernel
theorem dX7_foursBehind_16 : decode cX7_foursBehind 16 = .ok (.iconst 1, 1) := by decide +kernel
theorem dX7_foursBehind_17 : decode cX7_foursBehind 17 = .ok (.goto 4, 3) := by decide +kernel
theorem dX7_foursBehind_20 : decode cX7_foursBehind 20 = .ok (.iconst 0, 1) := by decide +kernel
theorem dX7_foursBehind_21 : decode cX7_foursBehind 21 = .ok (.istore 4, 2) := by decide +kernel
theorem dX7_foursBehind_23 : decode cX7_foursBehind 23 = .ok (.aload_n 0, 1) := by decide +kernel
theorem dX7_foursBehind_24 : decode cX7_foursBehind 24 = .ok (.iload 4, 2) := by decide +kernel
theorem dX7_foursBehind_26 : decode cX7_foursBehind 26 = .ok (.ifCond .ne 7, 3) := by decide +kernel
theorem dX7_foursBehind_29 : decode cX7_foursBehind 29 = .ok (.iconst 1, 1) := by decide +kernel
theorem dX7_foursBehind_30 : decode cX7_foursBehind 30 = .ok (.goto 17, 3) := by decide +kernel
theorem dX7_foursBehind_33 : decode cX7_foursBehind 33 = .ok (.iload_n 3, 1) := by decide +kernel
theorem dX7_foursBehind_34 : decode cX7_foursBehind 34 = .ok (.iconst 0, 1) := by decide +kernel
theorem dX7_foursBehind_35 : decode cX7_foursBehind 35 = .ok (.iconst 1, 1) := by decide +kernel
theorem dX7_foursBehind_36 : decode cX7_foursBehind 36 = .ok (.invokestatic 45, 3) := by decide +kernel
theorem dX7_foursBehind_39 : decode cX7_foursBehind 39 = .ok (.ifCond .eq 7, 3) := by decide +kernel
theorem dX7_foursBehind_42 : decode cX7_foursBehind 42 = .ok (.iconst 0, 1) := by decide +kernel
theorem dX7_foursBehind_43 : decode cX7_foursBehind 43 = .ok (.goto 4, 3) := by decide +kernel
theorem dX7_foursBehind_46 : decode cX7_foursBehind 46 = .ok (.iconst 2, 1) := by decide +kernel
theorem dX7_foursBehind_47 : decode cX7_foursBehind 47 = .ok (.invokevirtual 80, 3) := by decide +kernel
theorem dX7_foursBehind_50 : decode cX7_foursBehind 50 = .ok (.ifCond .ne 5, 3) := by decide +kernel
theorem dX7_foursBehind_53 : decode cX7_foursBehind 53 = .ok (.iconst 0, 1) := by decide +kernel
theorem dX7_foursBehind_54 : decode cX7_foursBehind 54 = .ok (.ireturn, 1) := by decide +kernel
theorem dX7_foursBehind_55 : decode cX7_foursBehind 55 = .ok (.aload_n 0, 1) := by decide +kernel
theorem dX7_foursBehind_56 : decode cX7_foursBehind 56 = .ok (.getfield 7, 3) := by decide +kernel
theorem dX7_foursBehind_59 : decode cX7_foursBehind 59 = .ok (.iload_n 1, 1) := by decide +kernel
theorem dX7_foursBehind_60 : decode cX7_foursBehind 60 = .ok (.laload, 1) := by decide +kernel
theorem dX7_foursBehind_61 : decode cX7_foursBehind 61 = .ok (.iload_n 2, 1) := by decide +kernel
theorem dX7_foursBehind_62 : decode cX7_foursBehind 62 = .ok (.iload_n 3, 1) := by decide +kernel
theorem dX7_foursBehind_63 : decode cX7_foursBehind 63 = .ok (.invokestatic 86, 3) := by decide +kernel
theorem dX7_foursBehind_66 : decode cX7_foursBehind 66 = .ok (.aload_n 0, 1) := by decide +kernel
theorem dX7_foursBehind_67 : decode cX7_foursBehind 67 = .ok (.getfield 7, 3) := by decide +kernel
theorem dX7_foursBehind_70 : decode cX7_foursBehind 70 = .ok (.iconst 3, 1) := by decide +kernel
theorem dX7_foursBehind_71 : decode cX7_foursBehind 71 = .ok (.iload_n 1, 1) := by decide +kernel
theorem dX7_foursBehind_72 : decode cX7_foursBehind 72 = .ok (.isub, 1) := by decide +kernel
theorem dX7_foursBehind_73 : decode cX7_foursBehind 73 = .ok (.laload, 1) := by decide +kernel
theorem dX7_foursBehind_74 : decode cX7_foursBehind 74 = .ok (.iload_n 2, 1) := by decide +kernel
theorem dX7_foursBehind_75 : decode cX7_foursBehind 75 = .ok (.iload_n 3, 1) := by decide +kernel
theorem dX7_foursBehind_76 : decode cX7_foursBehind 76 = .ok (.invokestatic 86, 3) := by decide +kernel
theorem dX7_foursBehind_79 : decode cX7_foursBehind 79 = .ok (.iconst 4, 1) := by decide +kernel
theorem dX7_foursBehind_80 : decode cX7_foursBehind 80 = .ok (.invokestatic 57, 3) := by decide +kernel
theorem dX7_foursBehind_83 : decode cX7_foursBehind 83 = .ok (.ireturn, 1) := by decide +kernel
set_option maxRecDepth 20000 in
theorem ggX7_codeOf_X7_has : GoodIn wsX7_codeOf wsX7_has := goodIn_r _ [7] (by decide +kernel) (by decide +kernel)
set_option maxRecDepth 20000 in
theorem gX7_codeOf_X7_has : GoodIn wsX7_codeOf (va_wsS RX7 53 yX7_has wsX7_has) := goodIn_app (goodIn_of _ (by decide +kernel)) ggX7_codeOf_X7_has
theorem dX7_codeOf_0 : decode cX7_codeOf 0 = .ok (.lconst 0, 1) := by decide +kernel
theorem dX7_codeOf_1 : decode cX7_codeOf 1 = .ok (.lstore_n 2, 1) := by decide +kernel
theorem dX7_codeOf_2 : decode cX7_codeOf 2 = .ok (.bipush 35, 2) := by decide +kernel
theorem dX7_codeOf_4 : decode cX7_codeOf 4 = .ok (.istore 4, 2) := by decide +kernel
theorem dX7_codeOf_6 : decode cX7_codeOf 6 = .ok (.iload 4, 2) := by decide +kernel
theorem dX7_codeOf_8 : decode cX7_codeOf 8 = .ok (.ifCond .lt 130, 3) := by decide +kernel
theorem dX7_codeOf_11 : decode cX7_codeOf 11 = .ok (.iload 4, 2) := by decide +kernel
theorem dX7_codeOf_13 : decode cX7_codeOf 13 = .ok (.bipush 6, 2) := by decide +kernel
theorem dX7_codeOf_15 : decode cX7_codeOf 15 = .ok (.idiv, 1) := by decide +kernel
theorem dX7_codeOf_16 : decode cX7_codeOf 16 = .ok (.istore 5, 2) := by decide +kernel
theorem dX7_codeOf_18 : decode cX7_codeOf 18 = .ok (.iload 4, 2) := by decide +kernel
theorem dX7_codeOf_20 : decode cX7_codeOf 20 = .ok (.bipush 6, 2) := by decide +kernel
theorem dX7_codeOf_22 : decode cX7_codeOf 22 = .ok (.irem, 1) := by decide +kernel
theorem dX7_codeOf_23 : decode cX7_codeOf 23 = .ok (.istore 6, 2) := by decide +kernel
theorem dX7_codeOf_25 : decode cX7_codeOf 25 = .ok (.iload_n 1, 1) := by decide +kernel
theorem dX7_codeOf_26 : decode cX7_codeOf 26 = .ok (.iconst 1, 1) := by decide +kernel
theorem dX7_codeOf_27 : decode cX7_codeOf 27 = .ok (.iand, 1) := by decide +kernel
theorem dX7_codeOf_28 : decode cX7_codeOf 28 = .ok (.ifCond .ne 8, 3) := by decide +kernel
theorem dX7_codeOf_31 : decode cX7_codeOf 31 = .ok (.iload 5, 2) := by decide +kernel
theorem dX7_codeOf_33 : decode cX7_codeOf 33 = .ok (.goto 7, 3) := by decide +kernel
theorem dX7_codeOf_36 : decode cX7_codeOf 36 = .ok (.iconst 5, 1) := by decide +kernel
theorem dX7_codeOf_37 : decode cX7_codeOf 37 = .ok (.iload 5, 2) := by decide +kernel
theorem dX7_codeOf_39 : decode cX7_codeOf 39 = .ok (.isub, 1) := by decide +kernel
theorem dX7_codeOf_40 : decode cX7_codeOf 40 = .ok (.istore 7, 2) := by decide +kernel
theorem dX7_codeOf_42 : decode cX7_codeOf 42 = .ok (.iload_n 1, 1) := by decide +kernel
theorem dX7_codeOf_43 : decode cX7_codeOf 43 = .ok (.iconst 2, 1) := by decide +kernel
theorem dX7_codeOf_44 : decode cX7_codeOf 44 = .ok (.iand, 1) := by decide +kernel
theorem dX7_codeOf_45 : decode cX7_codeOf 45 = .ok (.ifCond .ne 8, 3) := by decide +kernel
theorem dX7_codeOf_48 : decode cX7_codeOf 48 = .ok (.iload 6, 2) := by decide +kernel
theorem dX7_codeOf_50 : decode cX7_codeOf 50 = .ok (.goto 7, 3) := by decide +kernel
theorem dX7_codeOf_53 : decode cX7_codeOf 53 = .ok (.iconst 5, 1) := by decide +kernel
theorem dX7_codeOf_54 : decode cX7_codeOf 54 = .ok (.iload 6, 2) := by decide +kernel
theorem dX7_codeOf_56 : decode cX7_codeOf 56 = .ok (.isub, 1) := by decide +kernel
theorem dX7_codeOf_57 : decode cX7_codeOf 57 = .ok (.istore 8, 2) := by decide +kernel
theorem dX7_codeOf_59 : decode cX7_codeOf 59 = .ok (.iload_n 1, 1) := by decide +kernel
theorem dX7_codeOf_60 : decode cX7_codeOf 60 = .ok (.iconst 4, 1) := by decide +kernel
theorem dX7_codeOf_61 : decode cX7_codeOf 61 = .ok (.iand, 1) := by decide +kernel
theorem dX7_codeOf_62 : decode cX7_codeOf 62 = .ok (.ifCond .ne 14, 3) := by decide +kernel
theorem dX7_codeOf_65 : decode cX7_codeOf 65 = .ok (.bipush 6, 2) := by decide +kernel
theorem dX7_codeOf_67 : decode cX7_codeOf 67 = .ok (.iload 7, 2) := by decide +kernel
theorem dX7_codeOf_69 : decode cX7_codeOf 69 = .ok (.imul, 1) := by decide +kernel
theorem dX7_codeOf_70 : decode cX7_codeOf 70 = .ok (.iload 8, 2) := by decide +kernel
theorem dX7_codeOf_72 : decode cX7_codeOf 72 = .ok (.iadd, 1) := by decide +kernel
theorem dX7_codeOf_73 : decode cX7_codeOf 73 = .ok (.goto 11, 3) := by decide +kernel
theorem dX7_codeOf_76 : decode cX7_codeOf 76 = .ok (.bipush 6, 2) := by decide +kernel
theorem dX7_codeOf_78 : decode cX7_codeOf 78 = .ok (.iload 8, 2) := by decide +kernel
theorem dX7_codeOf_80 : decode cX7_codeOf 80 = .ok (.imul, 1) := by decide +kernel
theorem dX7_codeOf_81 : decode cX7_codeOf 81 = .ok (.iload 7, 2) := by decide +kernel
theorem dX7_codeOf_83 : decode cX7_codeOf 83 = .ok (.iadd, 1) := by decide +kernel
theorem dX7_codeOf_84 : decode cX7_codeOf 84 = .ok (.istore 9, 2) := by decide +kernel
theorem dX7_codeOf_86 : decode cX7_codeOf 86 = .ok (.ldc2_w 112, 3) := by decide +kernel
theorem dX7_codeOf_89 : decode cX7_codeOf 89 = .ok (.lload_n 2, 1) := by decide +kernel
theorem dX7_codeOf_90 : decode cX7_codeOf 90 = .ok (.lmul, 1) := by decide +kernel
theorem dX7_codeOf_91 : decode cX7_codeOf 91 = .ok (.aload_n 0, 1) := by decide +kernel
theorem dX7_codeOf_92 : decode cX7_codeOf 92 = .ok (.getfield 7, 3) := by decide +kernel
theorem dX7_codeOf_95 : decode cX7_codeOf 95 = .ok (.iconst 1, 1) := by decide +kernel
theorem dX7_codeOf_96 : decode cX7_codeOf 96 = .ok (.laload, 1) := by decide +kernel
theorem dX7_codeOf_97 : decode cX7_codeOf 97 = .ok (.iload 9, 2) := by decide +kernel
theorem dX7_codeOf_99 : decode cX7_codeOf 99 = .ok (.invokestatic 53, 3) := by decide +kernel
theorem dX7_codeOf_102 : decode cX7_codeOf 102 = .ok (.ifCond .eq 7, 3) := by decide +kernel
theorem dX7_codeOf_105 : decode cX7_codeOf 105 = .ok (.lconst 1, 1) := by decide +kernel
theorem dX7_codeOf_106 : decode cX7_codeOf 106 = .ok (.goto 24, 3) := by decide +kernel
theorem dX7_codeOf_109 : decode cX7_codeOf 109 = .ok (.aload_n 0, 1) := by decide +kernel
theorem dX7_codeOf_110 : decode cX7_codeOf 110 = .ok (.getfield 7, 3) := by decide +kernel
theorem dX7_codeOf_113 : decode cX7_codeOf 113 = .ok (.iconst 2, 1) := by decide +kernel
theorem dX7_codeOf_114 : decode cX7_codeOf 114 = .ok (.laload, 1) := by decide +kernel
theorem dX7_codeOf_115 : decode cX7_codeOf 115 = .ok (.iload 9, 2) := by decide +kernel
theorem dX7_codeOf_117 : decode cX7_codeOf 117 = .ok (.invokestatic 53, 3) := by decide +kernel
theorem dX7_codeOf_120 : decode cX7_codeOf 120 = .ok (.ifCond .eq 9, 3) := by decide +kernel
theorem dX7_codeOf_123 : decode cX7_codeOf 123 = .ok (.ldc2_w 114, 3) := by decide +kernel
theorem dX7_codeOf_126 : decode cX7_codeOf 126 = .ok (.goto 4, 3) := by decide +kernel
theorem dX7_codeOf_129 : decode cX7_codeOf 129 = .ok (.lconst 0, 1) := by decide +kernel
theorem dX7_codeOf_130 : decode cX7_codeOf 130 = .ok (.ladd, 1) := by decide +kernel
theorem dX7_codeOf_131 : decode cX7_codeOf 131 = .ok (.lstore_n 2, 1) := by decide +kernel
theorem dX7_codeOf_132 : decode cX7_codeOf 132 = .ok (.iinc 4 (-1), 3) := by decide +kernel
theorem dX7_codeOf_135 : decode cX7_codeOf 135 = .ok (.goto (-129), 3) := by decide +kernel
theorem dX7_codeOf_138 : decode cX7_codeOf 138 = .ok (.lload_n 2, 1) := by decide +kernel
theorem dX7_codeOf_139 : decode cX7_codeOf 139 = .ok (.lreturn, 1) := by decide +kernel
set_option maxRecDepth 20000 in
theorem ggX7_form_X7_codeOf : GoodIn wsX7_form wsX7_codeOf := goodIn_r _ [6, 7, 8, 9, 10, 11, 5, 12, 13, 14, 15, 16, 17, 18, 19, 20, 21, 22, 23, 24, 25, 26, 27] (by decide +kernel) (by decide +kernel)
set_option maxRecDepth 20000 in
theorem gX7_form_X7_codeOf : GoodIn wsX7_form (wsV RX7 116 RX7 yX7_codeOf wsX7_codeOf) := goodIn_app (goodIn_of _ (by decide +kernel)) ggX7_form_X7_codeOf
theorem dX7_form_0 : decode cX7_form 0 = .ok (.aload_n 0, 1) := by decide +kernel
theorem dX7_form_1 : decode cX7_form 1 = .ok (.iconst 0, 1) := by decide +kernel
theorem dX7_form_2 : decode cX7_form 2 = .ok (.putfield 42, 3) := by decide +kernel
theorem dX7_form_5 : decode cX7_form 5 = .ok (.aload_n 0, 1) := by decide +kernel
theorem dX7_form_6 : decode cX7_form 6 = .ok (.iconst 0, 1) := by decide +kernel
theorem dX7_form_7 : decode cX7_form 7 = .ok (.invokevirtual 116, 3) := by decide +kernel
theorem dX7_form_10 : decode cX7_form 10 = .ok (.lstore_n 1, 1) := by decide +kernel
theorem dX7_form_11 : decode cX7_form 11 = .ok (.iconst 1, 1) := by decide +kernel
theorem dX7_form_12 : decode cX7_form 12 = .ok (.istore_n 3, 1) := by decide +kernel
theorem dX7_form_13 : decode cX7_form 13 = .ok (.iload_n 3, 1) := by decide +kernel
theorem dX7_form_14 : decode cX7_form 14 = .ok (.bipush 8, 2) := by decide +kernel
theorem dX7_form_16 : decode cX7_form 16 = .ok (.if_icmp .ge 30, 3) := by decide +kernel
theorem dX7_form_19 : decode cX7_form 19 = .ok (.aload_n 0, 1) := by decide +kernel
theorem dX7_form_20 : decode cX7_form 20 = .ok (.iload_n 3, 1) := by decide +kernel
theorem dX7_form_21 : decode cX7_form 21 = .ok (.invokevirtual 116, 3) := by decide +kernel
theorem dX7_form_24 : decode cX7_form 24 = .ok (.lstore 4, 2) := by decide +kernel
theorem dX7_form_26 : decode cX7_form 26 = .ok (.lload 4, 2) := by decide +kernel
theorem dX7_form_28 : decode cX7_form 28 = .ok (.lload_n 1, 1) := by decide +kernel
theorem dX7_form_29 : decode cX7_form 29 = .ok (.lcmp, 1) := by decide +kernel
theorem dX7_form_30 : decode cX7_form 30 = .ok (.ifCond .ge 8, 3) := by decide +kernel
theorem dX7_form_33 : decode cX7_form 33 = .ok (.lload 4, 2) := by decide +kernel
theorem dX7_form_35 : decode cX7_form 35 = .ok (.goto 4, 3) := by decide +kernel
theorem dX7_form_38 : decode cX7_form 38 = .ok (.lload_n 1, 1) := by decide +kernel
theorem dX7_form_39 : decode cX7_form 39 = .ok (.lstore_n 1, 1) := by decide +kernel
theorem dX7_form_40 : decode cX7_form 40 = .ok (.iinc 3 1, 3) := by decide +kernel
