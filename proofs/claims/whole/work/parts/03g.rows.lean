theorem dX7_form_43 : decode cX7_form 43 = .ok (.goto (-30), 3) := by decide +kernel
theorem dX7_form_46 : decode cX7_form 46 = .ok (.lload_n 1, 1) := by decide +kernel
theorem dX7_form_47 : decode cX7_form 47 = .ok (.lreturn, 1) := by decide +kernel
set_option maxRecDepth 20000 in
theorem ggX7_symmetries_X7_codeOf : GoodIn wsX7_symmetries wsX7_codeOf := goodIn_r _ [6, 7, 8, 9, 10, 11, 5, 12, 13, 14, 15, 16, 17, 18, 19, 20, 21, 22, 23, 24, 25, 26, 27] (by decide +kernel) (by decide +kernel)
set_option maxRecDepth 20000 in
theorem gX7_symmetries_X7_codeOf : GoodIn wsX7_symmetries (wsV RX7 116 RX7 yX7_codeOf wsX7_codeOf) := goodIn_app (goodIn_of _ (by decide +kernel)) ggX7_symmetries_X7_codeOf
theorem dX7_symmetries_0 : decode cX7_symmetries 0 = .ok (.aload_n 0, 1) := by decide +kernel
theorem dX7_symmetries_1 : decode cX7_symmetries 1 = .ok (.iconst 0, 1) := by decide +kernel
theorem dX7_symmetries_2 : decode cX7_symmetries 2 = .ok (.putfield 42, 3) := by decide +kernel
theorem dX7_symmetries_5 : decode cX7_symmetries 5 = .ok (.iconst 0, 1) := by decide +kernel
theorem dX7_symmetries_6 : decode cX7_symmetries 6 = .ok (.istore_n 1, 1) := by decide +kernel
theorem dX7_symmetries_7 : decode cX7_symmetries 7 = .ok (.iconst 0, 1) := by decide +kernel
theorem dX7_symmetries_8 : decode cX7_symmetries 8 = .ok (.istore_n 2, 1) := by decide +kernel
theorem dX7_symmetries_9 : decode cX7_symmetries 9 = .ok (.iload_n 2, 1) := by decide +kernel
theorem dX7_symmetries_10 : decode cX7_symmetries 10 = .ok (.bipush 8, 2) := by decide +kernel
theorem dX7_symmetries_12 : decode cX7_symmetries 12 = .ok (.if_icmp .ge 31, 3) := by decide +kernel
theorem dX7_symmetries_15 : decode cX7_symmetries 15 = .ok (.iload_n 1, 1) := by decide +kernel
theorem dX7_symmetries_16 : decode cX7_symmetries 16 = .ok (.aload_n 0, 1) := by decide +kernel
theorem dX7_symmetries_17 : decode cX7_symmetries 17 = .ok (.iload_n 2, 1) := by decide +kernel
theorem dX7_symmetries_18 : decode cX7_symmetries 18 = .ok (.invokevirtual 116, 3) := by decide +kernel
theorem dX7_symmetries_21 : decode cX7_symmetries 21 = .ok (.aload_n 0, 1) := by decide +kernel
theorem dX7_symmetries_22 : decode cX7_symmetries 22 = .ok (.iconst 0, 1) := by decide +kernel
theorem dX7_symmetries_23 : decode cX7_symmetries 23 = .ok (.invokevirtual 116, 3) := by decide +kernel
theorem dX7_symmetries_26 : decode cX7_symmetries 26 = .ok (.lcmp, 1) := by decide +kernel
theorem dX7_symmetries_27 : decode cX7_symmetries 27 = .ok (.ifCond .ne 7, 3) := by decide +kernel
theorem dX7_symmetries_30 : decode cX7_symmetries 30 = .ok (.iconst 1, 1) := by decide +kernel
theorem dX7_symmetries_31 : decode cX7_symmetries 31 = .ok (.goto 4, 3) := by decide +kernel
theorem dX7_symmetries_34 : decode cX7_symmetries 34 = .ok (.iconst 0, 1) := by decide +kernel
theorem dX7_symmetries_35 : decode cX7_symmetries 35 = .ok (.iadd, 1) := by decide +kernel
theorem dX7_symmetries_36 : decode cX7_symmetries 36 = .ok (.istore_n 1, 1) := by decide +kernel
theorem dX7_symmetries_37 : decode cX7_symmetries 37 = .ok (.iinc 2 1, 3) := by decide +kernel
theorem dX7_symmetries_40 : decode cX7_symmetries 40 = .ok (.goto (-31), 3) := by decide +kernel
theorem dX7_symmetries_43 : decode cX7_symmetries 43 = .ok (.iload_n 1, 1) := by decide +kernel
theorem dX7_symmetries_44 : decode cX7_symmetries 44 = .ok (.ireturn, 1) := by decide +kernel
set_option maxRecDepth 20000 in
theorem ggX7_winsBy_X7_hasLine : GoodIn wsX7_winsBy wsX7_hasLine := goodIn_r _ [6, 7, 8, 5, 9, 10, 11, 12, 13, 14, 15] (by decide +kernel) (by decide +kernel)
set_option maxRecDepth 20000 in
theorem gX7_winsBy_X7_hasLine : GoodIn wsX7_winsBy (va_wsS RX7 63 yX7_hasLine wsX7_hasLine) := goodIn_app (goodIn_of _ (by decide +kernel)) ggX7_winsBy_X7_hasLine
theorem dX7_winsBy_0 : decode cX7_winsBy 0 = .ok (.aload_n 0, 1) := by decide +kernel
theorem dX7_winsBy_1 : decode cX7_winsBy 1 = .ok (.getfield 7, 3) := by decide +kernel
theorem dX7_winsBy_4 : decode cX7_winsBy 4 = .ok (.aload_n 0, 1) := by decide +kernel
theorem dX7_winsBy_5 : decode cX7_winsBy 5 = .ok (.getfield 13, 3) := by decide +kernel
theorem dX7_winsBy_8 : decode cX7_winsBy 8 = .ok (.laload, 1) := by decide +kernel
theorem dX7_winsBy_9 : decode cX7_winsBy 9 = .ok (.lconst 1, 1) := by decide +kernel
theorem dX7_winsBy_10 : decode cX7_winsBy 10 = .ok (.iload_n 1, 1) := by decide +kernel
theorem dX7_winsBy_11 : decode cX7_winsBy 11 = .ok (.lshl, 1) := by decide +kernel
theorem dX7_winsBy_12 : decode cX7_winsBy 12 = .ok (.lor, 1) := by decide +kernel
theorem dX7_winsBy_13 : decode cX7_winsBy 13 = .ok (.invokestatic 63, 3) := by decide +kernel
theorem dX7_winsBy_16 : decode cX7_winsBy 16 = .ok (.ireturn, 1) := by decide +kernel
set_option maxRecDepth 20000 in
theorem ggX7_winningCells_X7_goesWell : GoodIn wsX7_winningCells wsX7_goesWell := goodIn_r _ [8, 9, 27, 28, 29, 30, 31, 32, 33, 34, 35, 36, 37, 38, 39, 40, 41] (by decide +kernel) (by decide +kernel)
set_option maxRecDepth 20000 in
theorem gX7_winningCells_X7_goesWell : GoodIn wsX7_winningCells (wsV RX7 80 RX7 yX7_goesWell wsX7_goesWell) := goodIn_app (goodIn_of _ (by decide +kernel)) ggX7_winningCells_X7_goesWell
set_option maxRecDepth 20000 in
theorem ggX7_winningCells_X7_has : GoodIn wsX7_winningCells wsX7_has := goodIn_r _ [12] (by decide +kernel) (by decide +kernel)
set_option maxRecDepth 20000 in
theorem gX7_winningCells_X7_has : GoodIn wsX7_winningCells (va_wsS RX7 53 yX7_has wsX7_has) := goodIn_app (goodIn_of _ (by decide +kernel)) ggX7_winningCells_X7_has
set_option maxRecDepth 20000 in
theorem ggX7_winningCells_X7_winsBy : GoodIn wsX7_winningCells wsX7_winsBy := goodIn_r _ [16, 3, 17, 18, 19, 7, 20, 21, 22, 23, 24, 25, 26, 10, 11, 12, 27, 28, 29, 30, 31, 32, 33, 34, 35, 36, 37, 38, 39, 40, 41] (by decide +kernel) (by decide +kernel)
set_option maxRecDepth 20000 in
theorem gX7_winningCells_X7_winsBy : GoodIn wsX7_winningCells (wsV RX7 120 RX7 yX7_winsBy wsX7_winsBy) := goodIn_app (goodIn_of _ (by decide +kernel)) ggX7_winningCells_X7_winsBy
theorem dX7_winningCells_0 : decode cX7_winningCells 0 = .ok (.aload_n 0, 1) := by decide +kernel
theorem dX7_winningCells_1 : decode cX7_winningCells 1 = .ok (.aload_n 0, 1) := by decide +kernel
theorem dX7_winningCells_2 : decode cX7_winningCells 2 = .ok (.getfield 73, 3) := by decide +kernel
theorem dX7_winningCells_5 : decode cX7_winningCells 5 = .ok (.ifCond .ne 10, 3) := by decide +kernel
theorem dX7_winningCells_8 : decode cX7_winningCells 8 = .ok (.aload_n 0, 1) := by decide +kernel
theorem dX7_winningCells_9 : decode cX7_winningCells 9 = .ok (.getfield 76, 3) := by decide +kernel
theorem dX7_winningCells_12 : decode cX7_winningCells 12 = .ok (.ifCond .eq 7, 3) := by decide +kernel
theorem dX7_winningCells_15 : decode cX7_winningCells 15 = .ok (.iconst 1, 1) := by decide +kernel
theorem dX7_winningCells_16 : decode cX7_winningCells 16 = .ok (.goto 4, 3) := by decide +kernel
theorem dX7_winningCells_19 : decode cX7_winningCells 19 = .ok (.iconst 0, 1) := by decide +kernel
theorem dX7_winningCells_20 : decode cX7_winningCells 20 = .ok (.invokevirtual 80, 3) := by decide +kernel
theorem dX7_winningCells_23 : decode cX7_winningCells 23 = .ok (.ifCond .ne 5, 3) := by decide +kernel
theorem dX7_winningCells_26 : decode cX7_winningCells 26 = .ok (.iconst 0, 1) := by decide +kernel
theorem dX7_winningCells_27 : decode cX7_winningCells 27 = .ok (.ireturn, 1) := by decide +kernel
theorem dX7_winningCells_28 : decode cX7_winningCells 28 = .ok (.iconst 0, 1) := by decide +kernel
theorem dX7_winningCells_29 : decode cX7_winningCells 29 = .ok (.istore_n 1, 1) := by decide +kernel
theorem dX7_winningCells_30 : decode cX7_winningCells 30 = .ok (.iconst 0, 1) := by decide +kernel
theorem dX7_winningCells_31 : decode cX7_winningCells 31 = .ok (.istore_n 2, 1) := by decide +kernel
theorem dX7_winningCells_32 : decode cX7_winningCells 32 = .ok (.iload_n 2, 1) := by decide +kernel
theorem dX7_winningCells_33 : decode cX7_winningCells 33 = .ok (.bipush 36, 2) := by decide +kernel
theorem dX7_winningCells_35 : decode cX7_winningCells 35 = .ok (.if_icmp .ge 45, 3) := by decide +kernel
theorem dX7_winningCells_38 : decode cX7_winningCells 38 = .ok (.iload_n 1, 1) := by decide +kernel
theorem dX7_winningCells_39 : decode cX7_winningCells 39 = .ok (.aload_n 0, 1) := by decide +kernel
theorem dX7_winningCells_40 : decode cX7_winningCells 40 = .ok (.getfield 7, 3) := by decide +kernel
theorem dX7_winningCells_43 : decode cX7_winningCells 43 = .ok (.iconst 1, 1) := by decide +kernel
theorem dX7_winningCells_44 : decode cX7_winningCells 44 = .ok (.laload, 1) := by decide +kernel
theorem dX7_winningCells_45 : decode cX7_winningCells 45 = .ok (.aload_n 0, 1) := by decide +kernel
theorem dX7_winningCells_46 : decode cX7_winningCells 46 = .ok (.getfield 7, 3) := by decide +kernel
theorem dX7_winningCells_49 : decode cX7_winningCells 49 = .ok (.iconst 2, 1) := by decide +kernel
theorem dX7_winningCells_50 : decode cX7_winningCells 50 = .ok (.laload, 1) := by decide +kernel
theorem dX7_winningCells_51 : decode cX7_winningCells 51 = .ok (.lor, 1) := by decide +kernel
theorem dX7_winningCells_52 : decode cX7_winningCells 52 = .ok (.iload_n 2, 1) := by decide +kernel
theorem dX7_winningCells_53 : decode cX7_winningCells 53 = .ok (.invokestatic 53, 3) := by decide +kernel
theorem dX7_winningCells_56 : decode cX7_winningCells 56 = .ok (.ifCond .ne 15, 3) := by decide +kernel
theorem dX7_winningCells_59 : decode cX7_winningCells 59 = .ok (.aload_n 0, 1) := by decide +kernel
theorem dX7_winningCells_60 : decode cX7_winningCells 60 = .ok (.iload_n 2, 1) := by decide +kernel
theorem dX7_winningCells_61 : decode cX7_winningCells 61 = .ok (.invokevirtual 120, 3) := by decide +kernel
theorem dX7_winningCells_64 : decode cX7_winningCells 64 = .ok (.ifCond .eq 7, 3) := by decide +kernel
theorem dX7_winningCells_67 : decode cX7_winningCells 67 = .ok (.iconst 1, 1) := by decide +kernel
theorem dX7_winningCells_68 : decode cX7_winningCells 68 = .ok (.goto 4, 3) := by decide +kernel
theorem dX7_winningCells_71 : decode cX7_winningCells 71 = .ok (.iconst 0, 1) := by decide +kernel
theorem dX7_winningCells_72 : decode cX7_winningCells 72 = .ok (.iadd, 1) := by decide +kernel
theorem dX7_winningCells_73 : decode cX7_winningCells 73 = .ok (.istore_n 1, 1) := by decide +kernel
theorem dX7_winningCells_74 : decode cX7_winningCells 74 = .ok (.iinc 2 1, 3) := by decide +kernel
theorem dX7_winningCells_77 : decode cX7_winningCells 77 = .ok (.goto (-45), 3) := by decide +kernel
theorem dX7_winningCells_80 : decode cX7_winningCells 80 = .ok (.iload_n 1, 1) := by decide +kernel
theorem dX7_winningCells_81 : decode cX7_winningCells 81 = .ok (.ireturn, 1) := by decide +kernel
set_option maxRecDepth 20000 in
theorem ggX7_winningTurns_X7_isCell : GoodIn wsX7_winningTurns wsX7_isCell := goodIn_r _ [9, 10, 11, 8, 12] (by decide +kernel) (by decide +kernel)
set_option maxRecDepth 20000 in
theorem gX7_winningTurns_X7_isCell : GoodIn wsX7_winningTurns (va_wsS RX7 69 yX7_isCell wsX7_isCell) := goodIn_app (goodIn_of _ (by decide +kernel)) ggX7_winningTurns_X7_isCell
set_option maxRecDepth 20000 in
theorem ggX7_winningTurns_X7_has : GoodIn wsX7_winningTurns wsX7_has := goodIn_r _ [15] (by decide +kernel) (by decide +kernel)
set_option maxRecDepth 20000 in
theorem gX7_winningTurns_X7_has : GoodIn wsX7_winningTurns (va_wsS RX7 53 yX7_has wsX7_has) := goodIn_app (goodIn_of _ (by decide +kernel)) ggX7_winningTurns_X7_has
set_option maxRecDepth 20000 in
theorem ggX7_winningTurns_X7_goesWell : GoodIn wsX7_winningTurns wsX7_goesWell := goodIn_r _ [19, 20, 42, 43, 44, 45, 46, 47, 48, 49, 50, 51, 52, 53, 54, 55, 56] (by decide +kernel) (by decide +kernel)
set_option maxRecDepth 20000 in
theorem gX7_winningTurns_X7_goesWell : GoodIn wsX7_winningTurns (wsV RX7 80 RX7 yX7_goesWell wsX7_goesWell) := goodIn_app (goodIn_of _ (by decide +kernel)) ggX7_winningTurns_X7_goesWell
set_option maxRecDepth 20000 in
theorem ggX7_winningTurns_X7_winsBy : GoodIn wsX7_winningTurns wsX7_winsBy := goodIn_r _ [24, 3, 5, 25, 26, 8, 27, 28, 29, 30, 31, 32, 33, 13, 14, 15, 42, 43, 44, 45, 46, 47, 48, 49, 50, 51, 52, 53, 54, 55, 56] (by decide +kernel) (by decide +kernel)
set_option maxRecDepth 20000 in
theorem gX7_winningTurns_X7_winsBy : GoodIn wsX7_winningTurns (wsV RX7 120 RX7 yX7_winsBy wsX7_winsBy) := goodIn_app (goodIn_of _ (by decide +kernel)) ggX7_winningTurns_X7_winsBy
set_option maxRecDepth 20000 in
theorem ggX7_winningTurns_X7_turned : GoodIn wsX7_winningTurns wsX7_turned := goodIn_r _ [36, 37, 13, 14, 8, 15] (by decide +kernel) (by decide +kernel)
set_option maxRecDepth 20000 in
theorem gX7_winningTurns_X7_turned : GoodIn wsX7_winningTurns (va_wsS RX7 86 yX7_turned wsX7_turned) := goodIn_app (goodIn_of _ (by decide +kernel)) ggX7_winningTurns_X7_turned
set_option maxRecDepth 20000 in
theorem ggX7_winningTurns_X7_judge : GoodIn wsX7_winningTurns wsX7_judge := goodIn_r _ [40, 41, 25, 26, 8, 27, 28, 29, 30, 31, 32, 33, 13, 14, 15] (by decide +kernel) (by decide +kernel)
set_option maxRecDepth 20000 in
theorem gX7_winningTurns_X7_judge : GoodIn wsX7_winningTurns (va_wsS RX7 94 yX7_judge wsX7_judge) := goodIn_app (goodIn_of _ (by decide +kernel)) ggX7_winningTurns_X7_judge
theorem dX7_winningTurns_0 : decode cX7_winningTurns 0 = .ok (.iload_n 1, 1) := by decide +kernel
theorem dX7_winningTurns_1 : decode cX7_winningTurns 1 = .ok (.invokestatic 69, 3) := by decide +kernel
theorem dX7_winningTurns_4 : decode cX7_winningTurns 4 = .ok (.ifCond .eq 41, 3) := by decide +kernel
theorem dX7_winningTurns_7 : decode cX7_winningTurns 7 = .ok (.aload_n 0, 1) := by decide +kernel
theorem dX7_winningTurns_8 : decode cX7_winningTurns 8 = .ok (.getfield 73, 3) := by decide +kernel
theorem dX7_winningTurns_11 : decode cX7_winningTurns 11 = .ok (.ifCond .ne 30, 3) := by decide +kernel
theorem dX7_winningTurns_14 : decode cX7_winningTurns 14 = .ok (.aload_n 0, 1) := by decide +kernel
theorem dX7_winningTurns_15 : decode cX7_winningTurns 15 = .ok (.getfield 76, 3) := by decide +kernel
theorem dX7_winningTurns_18 : decode cX7_winningTurns 18 = .ok (.ifCond .ne 23, 3) := by decide +kernel
theorem dX7_winningTurns_21 : decode cX7_winningTurns 21 = .ok (.aload_n 0, 1) := by decide +kernel
theorem dX7_winningTurns_22 : decode cX7_winningTurns 22 = .ok (.getfield 7, 3) := by decide +kernel
theorem dX7_winningTurns_25 : decode cX7_winningTurns 25 = .ok (.iconst 1, 1) := by decide +kernel
theorem dX7_winningTurns_26 : decode cX7_winningTurns 26 = .ok (.laload, 1) := by decide +kernel
theorem dX7_winningTurns_27 : decode cX7_winningTurns 27 = .ok (.aload_n 0, 1) := by decide +kernel
theorem dX7_winningTurns_28 : decode cX7_winningTurns 28 = .ok (.getfield 7, 3) := by decide +kernel
theorem dX7_winningTurns_31 : decode cX7_winningTurns 31 = .ok (.iconst 2, 1) := by decide +kernel
theorem dX7_winningTurns_32 : decode cX7_winningTurns 32 = .ok (.laload, 1) := by decide +kernel
theorem dX7_winningTurns_33 : decode cX7_winningTurns 33 = .ok (.lor, 1) := by decide +kernel
theorem dX7_winningTurns_34 : decode cX7_winningTurns 34 = .ok (.iload_n 1, 1) := by decide +kernel
theorem dX7_winningTurns_35 : decode cX7_winningTurns 35 = .ok (.invokestatic 53, 3) := by decide +kernel
theorem dX7_winningTurns_38 : decode cX7_winningTurns 38 = .ok (.ifCond .eq 7, 3) := by decide +kernel
theorem dX7_winningTurns_41 : decode cX7_winningTurns 41 = .ok (.iconst 1, 1) := by decide +kernel
theorem dX7_winningTurns_42 : decode cX7_winningTurns 42 = .ok (.goto 4, 3) := by decide +kernel
theorem dX7_winningTurns_45 : decode cX7_winningTurns 45 = .ok (.iconst 0, 1) := by decide +kernel
theorem dX7_winningTurns_46 : decode cX7_winningTurns 46 = .ok (.istore_n 2, 1) := by decide +kernel
theorem dX7_winningTurns_47 : decode cX7_winningTurns 47 = .ok (.aload_n 0, 1) := by decide +kernel
theorem dX7_winningTurns_48 : decode cX7_winningTurns 48 = .ok (.iload_n 1, 1) := by decide +kernel
theorem dX7_winningTurns_49 : decode cX7_winningTurns 49 = .ok (.invokestatic 69, 3) := by decide +kernel
theorem dX7_winningTurns_52 : decode cX7_winningTurns 52 = .ok (.ifCond .ne 7, 3) := by decide +kernel
theorem dX7_winningTurns_55 : decode cX7_winningTurns 55 = .ok (.iconst 1, 1) := by decide +kernel
theorem dX7_winningTurns_56 : decode cX7_winningTurns 56 = .ok (.goto 12, 3) := by decide +kernel
theorem dX7_winningTurns_59 : decode cX7_winningTurns 59 = .ok (.iload_n 2, 1) := by decide +kernel
theorem dX7_winningTurns_60 : decode cX7_winningTurns 60 = .ok (.ifCond .eq 7, 3) := by decide +kernel
theorem dX7_winningTurns_63 : decode cX7_winningTurns 63 = .ok (.iconst 2, 1) := by decide +kernel
theorem dX7_winningTurns_64 : decode cX7_winningTurns 64 = .ok (.goto 4, 3) := by decide +kernel
theorem dX7_winningTurns_67 : decode cX7_winningTurns 67 = .ok (.iconst 0, 1) := by decide +kernel
theorem dX7_winningTurns_68 : decode cX7_winningTurns 68 = .ok (.invokevirtual 80, 3) := by decide +kernel
theorem dX7_winningTurns_71 : decode cX7_winningTurns 71 = .ok (.ifCond .ne 5, 3) := by decide +kernel
theorem dX7_winningTurns_74 : decode cX7_winningTurns 74 = .ok (.iconst 0, 1) := by decide +kernel
theorem dX7_winningTurns_75 : decode cX7_winningTurns 75 = .ok (.ireturn, 1) := by decide +kernel
theorem dX7_winningTurns_76 : decode cX7_winningTurns 76 = .ok (.aload_n 0, 1) := by decide +kernel
theorem dX7_winningTurns_77 : decode cX7_winningTurns 77 = .ok (.iload_n 1, 1) := by decide +kernel
theorem dX7_winningTurns_78 : decode cX7_winningTurns 78 = .ok (.invokevirtual 120, 3) := by decide +kernel
theorem dX7_winningTurns_81 : decode cX7_winningTurns 81 = .ok (.ifCond .eq 6, 3) := by decide +kernel
theorem dX7_winningTurns_84 : decode cX7_winningTurns 84 = .ok (.bipush 8, 2) := by decide +kernel
theorem dX7_winningTurns_86 : decode cX7_winningTurns 86 = .ok (.ireturn, 1) := by decide +kernel
theorem dX7_winningTurns_87 : decode cX7_winningTurns 87 = .ok (.iconst 0, 1) := by decide +kernel
theorem dX7_winningTurns_88 : decode cX7_winningTurns 88 = .ok (.istore_n 3, 1) := by decide +kernel
theorem dX7_winningTurns_89 : decode cX7_winningTurns 89 = .ok (.iconst 0, 1) := by decide +kernel
theorem dX7_winningTurns_90 : decode cX7_winningTurns 90 = .ok (.istore 4, 2) := by decide +kernel
theorem dX7_winningTurns_92 : decode cX7_winningTurns 92 = .ok (.iload 4, 2) := by decide +kernel
theorem dX7_winningTurns_94 : decode cX7_winningTurns 94 = .ok (.bipush 8, 2) := by decide +kernel
theorem dX7_winningTurns_96 : decode cX7_winningTurns 96 = .ok (.if_icmp .ge 105, 3) := by decide +kernel
theorem dX7_winningTurns_99 : decode cX7_winningTurns 99 = .ok (.aload_n 0, 1) := by decide +kernel
theorem dX7_winningTurns_100 : decode cX7_winningTurns 100 = .ok (.getfield 24, 3) := by decide +kernel
theorem dX7_winningTurns_103 : decode cX7_winningTurns 103 = .ok (.aload_n 0, 1) := by decide +kernel
theorem dX7_winningTurns_104 : decode cX7_winningTurns 104 = .ok (.getfield 13, 3) := by decide +kernel
theorem dX7_winningTurns_107 : decode cX7_winningTurns 107 = .ok (.aload_n 0, 1) := by decide +kernel
theorem dX7_winningTurns_108 : decode cX7_winningTurns 108 = .ok (.getfield 7, 3) := by decide +kernel
theorem dX7_winningTurns_111 : decode cX7_winningTurns 111 = .ok (.aload_n 0, 1) := by decide +kernel
theorem dX7_winningTurns_112 : decode cX7_winningTurns 112 = .ok (.getfield 13, 3) := by decide +kernel
theorem dX7_winningTurns_115 : decode cX7_winningTurns 115 = .ok (.laload, 1) := by decide +kernel
theorem dX7_winningTurns_116 : decode cX7_winningTurns 116 = .ok (.lconst 1, 1) := by decide +kernel
theorem dX7_winningTurns_117 : decode cX7_winningTurns 117 = .ok (.iload_n 1, 1) := by decide +kernel
theorem dX7_winningTurns_118 : decode cX7_winningTurns 118 = .ok (.lshl, 1) := by decide +kernel
theorem dX7_winningTurns_119 : decode cX7_winningTurns 119 = .ok (.lor, 1) := by decide +kernel
theorem dX7_winningTurns_120 : decode cX7_winningTurns 120 = .ok (.iload 4, 2) := by decide +kernel
theorem dX7_winningTurns_122 : decode cX7_winningTurns 122 = .ok (.iconst 2, 1) := by decide +kernel
theorem dX7_winningTurns_123 : decode cX7_winningTurns 123 = .ok (.idiv, 1) := by decide +kernel
theorem dX7_winningTurns_124 : decode cX7_winningTurns 124 = .ok (.iload 4, 2) := by decide +kernel
theorem dX7_winningTurns_126 : decode cX7_winningTurns 126 = .ok (.iconst 2, 1) := by decide +kernel
theorem dX7_winningTurns_127 : decode cX7_winningTurns 127 = .ok (.irem, 1) := by decide +kernel
theorem dX7_winningTurns_128 : decode cX7_winningTurns 128 = .ok (.invokestatic 86, 3) := by decide +kernel
theorem dX7_winningTurns_131 : decode cX7_winningTurns 131 = .ok (.lastore, 1) := by decide +kernel
theorem dX7_winningTurns_132 : decode cX7_winningTurns 132 = .ok (.aload_n 0, 1) := by decide +kernel
theorem dX7_winningTurns_133 : decode cX7_winningTurns 133 = .ok (.getfield 24, 3) := by decide +kernel
theorem dX7_winningTurns_136 : decode cX7_winningTurns 136 = .ok (.iconst 3, 1) := by decide +kernel
theorem dX7_winningTurns_137 : decode cX7_winningTurns 137 = .ok (.aload_n 0, 1) := by decide +kernel
theorem dX7_winningTurns_138 : decode cX7_winningTurns 138 = .ok (.getfield 13, 3) := by decide +kernel
theorem dX7_winningTurns_141 : decode cX7_winningTurns 141 = .ok (.isub, 1) := by decide +kernel
theorem dX7_winningTurns_142 : decode cX7_winningTurns 142 = .ok (.aload_n 0, 1) := by decide +kernel
theorem dX7_winningTurns_143 : decode cX7_winningTurns 143 = .ok (.getfield 7, 3) := by decide +kernel
theorem dX7_winningTurns_146 : decode cX7_winningTurns 146 = .ok (.iconst 3, 1) := by decide +kernel
theorem dX7_winningTurns_147 : decode cX7_winningTurns 147 = .ok (.aload_n 0, 1) := by decide +kernel
theorem dX7_winningTurns_148 : decode cX7_winningTurns 148 = .ok (.getfield 13, 3) := by decide +kernel
theorem dX7_winningTurns_151 : decode cX7_winningTurns 151 = .ok (.isub, 1) := by decide +kernel
theorem dX7_winningTurns_152 : decode cX7_winningTurns 152 = .ok (.laload, 1) := by decide +kernel
theorem dX7_winningTurns_153 : decode cX7_winningTurns 153 = .ok (.iload 4, 2) := by decide +kernel
theorem dX7_winningTurns_155 : decode cX7_winningTurns 155 = .ok (.iconst 2, 1) := by decide +kernel
theorem dX7_winningTurns_156 : decode cX7_winningTurns 156 = .ok (.idiv, 1) := by decide +kernel
theorem dX7_winningTurns_157 : decode cX7_winningTurns 157 = .ok (.iload 4, 2) := by decide +kernel
theorem dX7_winningTurns_159 : decode cX7_winningTurns 159 = .ok (.iconst 2, 1) := by decide +kernel
theorem dX7_winningTurns_160 : decode cX7_winningTurns 160 = .ok (.irem, 1) := by decide +kernel
theorem dX7_winningTurns_161 : decode cX7_winningTurns 161 = .ok (.invokestatic 86, 3) := by decide +kernel
theorem dX7_winningTurns_164 : decode cX7_winningTurns 164 = .ok (.lastore, 1) := by decide +kernel
theorem dX7_winningTurns_165 : decode cX7_winningTurns 165 = .ok (.iload_n 3, 1) := by decide +kernel
theorem dX7_winningTurns_166 : decode cX7_winningTurns 166 = .ok (.aload_n 0, 1) := by decide +kernel
theorem dX7_winningTurns_167 : decode cX7_winningTurns 167 = .ok (.getfield 24, 3) := by decide +kernel
theorem dX7_winningTurns_170 : decode cX7_winningTurns 170 = .ok (.iconst 1, 1) := by decide +kernel
theorem dX7_winningTurns_171 : decode cX7_winningTurns 171 = .ok (.laload, 1) := by decide +kernel
theorem dX7_winningTurns_172 : decode cX7_winningTurns 172 = .ok (.aload_n 0, 1) := by decide +kernel
theorem dX7_winningTurns_173 : decode cX7_winningTurns 173 = .ok (.getfield 24, 3) := by decide +kernel
theorem dX7_winningTurns_176 : decode cX7_winningTurns 176 = .ok (.iconst 2, 1) := by decide +kernel
theorem dX7_winningTurns_177 : decode cX7_winningTurns 177 = .ok (.laload, 1) := by decide +kernel
theorem dX7_winningTurns_178 : decode cX7_winningTurns 178 = .ok (.invokestatic 94, 3) := by decide +kernel
theorem dX7_winningTurns_181 : decode cX7_winningTurns 181 = .ok (.aload_n 0, 1) := by decide +kernel
theorem dX7_winningTurns_182 : decode cX7_winningTurns 182 = .ok (.getfield 13, 3) := by decide +kernel
theorem dX7_winningTurns_185 : decode cX7_winningTurns 185 = .ok (.if_icmp .ne 7, 3) := by decide +kernel
theorem dX7_winningTurns_188 : decode cX7_winningTurns 188 = .ok (.iconst 1, 1) := by decide +kernel
theorem dX7_winningTurns_189 : decode cX7_winningTurns 189 = .ok (.goto 4, 3) := by decide +kernel
theorem dX7_winningTurns_192 : decode cX7_winningTurns 192 = .ok (.iconst 0, 1) := by decide +kernel
theorem dX7_winningTurns_193 : decode cX7_winningTurns 193 = .ok (.iadd, 1) := by decide +kernel
theorem dX7_winningTurns_194 : decode cX7_winningTurns 194 = .ok (.istore_n 3, 1) := by decide +kernel
theorem dX7_winningTurns_195 : decode cX7_winningTurns 195 = .ok (.iinc 4 1, 3) := by decide +kernel
theorem dX7_winningTurns_198 : decode cX7_winningTurns 198 = .ok (.goto (-106), 3) := by decide +kernel
theorem dX7_winningTurns_201 : decode cX7_winningTurns 201 = .ok (.iload_n 3, 1) := by decide +kernel
theorem dX7_winningTurns_202 : decode cX7_winningTurns 202 = .ok (.ireturn, 1) := by decide +kernel
set_option maxRecDepth 20000 in
theorem ggX7_tryMove_X7_has : GoodIn wsX7_tryMove wsX7_has := goodIn_r _ [8] (by decide +kernel) (by decide +kernel)
set_option maxRecDepth 20000 in
theorem gX7_tryMove_X7_has : GoodIn wsX7_tryMove (va_wsS RX7 53 yX7_has wsX7_has) := goodIn_app (goodIn_of _ (by decide +kernel)) ggX7_tryMove_X7_has
set_option maxRecDepth 20000 in
theorem ggX7_tryMove_X7_hasLine : GoodIn wsX7_tryMove wsX7_hasLine := goodIn_r _ [11, 12, 13, 7, 14, 15, 16, 17, 5, 6, 8] (by decide +kernel) (by decide +kernel)
set_option maxRecDepth 20000 in
theorem gX7_tryMove_X7_hasLine : GoodIn wsX7_tryMove (va_wsS RX7 63 yX7_hasLine wsX7_hasLine) := goodIn_app (goodIn_of _ (by decide +kernel)) ggX7_tryMove_X7_hasLine
set_option maxRecDepth 20000 in
theorem ggX7_tryMove_X7_turned : GoodIn wsX7_tryMove wsX7_turned := goodIn_r _ [20, 21, 5, 6, 7, 8] (by decide +kernel) (by decide +kernel)
set_option maxRecDepth 20000 in
theorem gX7_tryMove_X7_turned : GoodIn wsX7_tryMove (va_wsS RX7 86 yX7_turned wsX7_turned) := goodIn_app (goodIn_of _ (by decide +kernel)) ggX7_tryMove_X7_turned
set_option maxRecDepth 20000 in
theorem ggX7_tryMove_X7_judge : GoodIn wsX7_tryMove wsX7_judge := goodIn_r _ [24, 25, 9, 10, 7, 11, 12, 13, 14, 15, 16, 17, 5, 6, 8] (by decide +kernel) (by decide +kernel)
set_option maxRecDepth 20000 in
theorem gX7_tryMove_X7_judge : GoodIn wsX7_tryMove (va_wsS RX7 94 yX7_judge wsX7_judge) := goodIn_app (goodIn_of _ (by decide +kernel)) ggX7_tryMove_X7_judge
theorem dX7_tryMove_0 : decode cX7_tryMove 0 = .ok (.aload_n 0, 1) := by decide +kernel
theorem dX7_tryMove_1 : decode cX7_tryMove 1 = .ok (.getfield 33, 3) := by decide +kernel
theorem dX7_tryMove_4 : decode cX7_tryMove 4 = .ok (.iload_n 1, 1) := by decide +kernel
theorem dX7_tryMove_5 : decode cX7_tryMove 5 = .ok (.iaload, 1) := by decide +kernel
theorem dX7_tryMove_6 : decode cX7_tryMove 6 = .ok (.istore 4, 2) := by decide +kernel
theorem dX7_tryMove_8 : decode cX7_tryMove 8 = .ok (.aload_n 0, 1) := by decide +kernel
theorem dX7_tryMove_9 : decode cX7_tryMove 9 = .ok (.getfield 24, 3) := by decide +kernel
theorem dX7_tryMove_12 : decode cX7_tryMove 12 = .ok (.iconst 1, 1) := by decide +kernel
theorem dX7_tryMove_13 : decode cX7_tryMove 13 = .ok (.aload_n 0, 1) := by decide +kernel
theorem dX7_tryMove_14 : decode cX7_tryMove 14 = .ok (.getfield 27, 3) := by decide +kernel
theorem dX7_tryMove_17 : decode cX7_tryMove 17 = .ok (.iload_n 1, 1) := by decide +kernel
theorem dX7_tryMove_18 : decode cX7_tryMove 18 = .ok (.laload, 1) := by decide +kernel
theorem dX7_tryMove_19 : decode cX7_tryMove 19 = .ok (.lastore, 1) := by decide +kernel
theorem dX7_tryMove_20 : decode cX7_tryMove 20 = .ok (.aload_n 0, 1) := by decide +kernel
theorem dX7_tryMove_21 : decode cX7_tryMove 21 = .ok (.getfield 24, 3) := by decide +kernel
theorem dX7_tryMove_24 : decode cX7_tryMove 24 = .ok (.iconst 2, 1) := by decide +kernel
theorem dX7_tryMove_25 : decode cX7_tryMove 25 = .ok (.aload_n 0, 1) := by decide +kernel
theorem dX7_tryMove_26 : decode cX7_tryMove 26 = .ok (.getfield 30, 3) := by decide +kernel
theorem dX7_tryMove_29 : decode cX7_tryMove 29 = .ok (.iload_n 1, 1) := by decide +kernel
theorem dX7_tryMove_30 : decode cX7_tryMove 30 = .ok (.laload, 1) := by decide +kernel
theorem dX7_tryMove_31 : decode cX7_tryMove 31 = .ok (.lastore, 1) := by decide +kernel
theorem dX7_tryMove_32 : decode cX7_tryMove 32 = .ok (.iload_n 3, 1) := by decide +kernel
theorem dX7_tryMove_33 : decode cX7_tryMove 33 = .ok (.ifCond .ne 60, 3) := by decide +kernel
theorem dX7_tryMove_36 : decode cX7_tryMove 36 = .ok (.aload_n 0, 1) := by decide +kernel
theorem dX7_tryMove_37 : decode cX7_tryMove 37 = .ok (.getfield 24, 3) := by decide +kernel
theorem dX7_tryMove_40 : decode cX7_tryMove 40 = .ok (.iconst 1, 1) := by decide +kernel
theorem dX7_tryMove_41 : decode cX7_tryMove 41 = .ok (.laload, 1) := by decide +kernel
theorem dX7_tryMove_42 : decode cX7_tryMove 42 = .ok (.aload_n 0, 1) := by decide +kernel
theorem dX7_tryMove_43 : decode cX7_tryMove 43 = .ok (.getfield 24, 3) := by decide +kernel
theorem dX7_tryMove_46 : decode cX7_tryMove 46 = .ok (.iconst 2, 1) := by decide +kernel
theorem dX7_tryMove_47 : decode cX7_tryMove 47 = .ok (.laload, 1) := by decide +kernel
theorem dX7_tryMove_48 : decode cX7_tryMove 48 = .ok (.lor, 1) := by decide +kernel
theorem dX7_tryMove_49 : decode cX7_tryMove 49 = .ok (.iload_n 2, 1) := by decide +kernel
theorem dX7_tryMove_50 : decode cX7_tryMove 50 = .ok (.bipush 8, 2) := by decide +kernel
theorem dX7_tryMove_52 : decode cX7_tryMove 52 = .ok (.idiv, 1) := by decide +kernel
theorem dX7_tryMove_53 : decode cX7_tryMove 53 = .ok (.invokestatic 53, 3) := by decide +kernel
theorem dX7_tryMove_56 : decode cX7_tryMove 56 = .ok (.ifCond .eq 5, 3) := by decide +kernel
theorem dX7_tryMove_59 : decode cX7_tryMove 59 = .ok (.iconst (-1), 1) := by decide +kernel
theorem dX7_tryMove_60 : decode cX7_tryMove 60 = .ok (.ireturn, 1) := by decide +kernel
theorem dX7_tryMove_61 : decode cX7_tryMove 61 = .ok (.aload_n 0, 1) := by decide +kernel
theorem dX7_tryMove_62 : decode cX7_tryMove 62 = .ok (.getfield 24, 3) := by decide +kernel
theorem dX7_tryMove_65 : decode cX7_tryMove 65 = .ok (.iload 4, 2) := by decide +kernel
theorem dX7_tryMove_67 : decode cX7_tryMove 67 = .ok (.dup2, 1) := by decide +kernel
theorem dX7_tryMove_68 : decode cX7_tryMove 68 = .ok (.laload, 1) := by decide +kernel
theorem dX7_tryMove_69 : decode cX7_tryMove 69 = .ok (.lconst 1, 1) := by decide +kernel
theorem dX7_tryMove_70 : decode cX7_tryMove 70 = .ok (.iload_n 2, 1) := by decide +kernel
theorem dX7_tryMove_71 : decode cX7_tryMove 71 = .ok (.bipush 8, 2) := by decide +kernel
theorem dX7_tryMove_73 : decode cX7_tryMove 73 = .ok (.idiv, 1) := by decide +kernel
theorem dX7_tryMove_74 : decode cX7_tryMove 74 = .ok (.lshl, 1) := by decide +kernel
theorem dX7_tryMove_75 : decode cX7_tryMove 75 = .ok (.lor, 1) := by decide +kernel
theorem dX7_tryMove_76 : decode cX7_tryMove 76 = .ok (.lastore, 1) := by decide +kernel
theorem dX7_tryMove_77 : decode cX7_tryMove 77 = .ok (.aload_n 0, 1) := by decide +kernel
theorem dX7_tryMove_78 : decode cX7_tryMove 78 = .ok (.getfield 24, 3) := by decide +kernel
theorem dX7_tryMove_81 : decode cX7_tryMove 81 = .ok (.iload 4, 2) := by decide +kernel
theorem dX7_tryMove_83 : decode cX7_tryMove 83 = .ok (.laload, 1) := by decide +kernel
theorem dX7_tryMove_84 : decode cX7_tryMove 84 = .ok (.invokestatic 63, 3) := by decide +kernel
theorem dX7_tryMove_87 : decode cX7_tryMove 87 = .ok (.ifCond .eq 6, 3) := by decide +kernel
theorem dX7_tryMove_90 : decode cX7_tryMove 90 = .ok (.iload 4, 2) := by decide +kernel
theorem dX7_tryMove_92 : decode cX7_tryMove 92 = .ok (.ireturn, 1) := by decide +kernel
theorem dX7_tryMove_93 : decode cX7_tryMove 93 = .ok (.aload_n 0, 1) := by decide +kernel
theorem dX7_tryMove_94 : decode cX7_tryMove 94 = .ok (.getfield 24, 3) := by decide +kernel
theorem dX7_tryMove_97 : decode cX7_tryMove 97 = .ok (.iconst 1, 1) := by decide +kernel
theorem dX7_tryMove_98 : decode cX7_tryMove 98 = .ok (.aload_n 0, 1) := by decide +kernel
theorem dX7_tryMove_99 : decode cX7_tryMove 99 = .ok (.getfield 24, 3) := by decide +kernel
theorem dX7_tryMove_102 : decode cX7_tryMove 102 = .ok (.iconst 1, 1) := by decide +kernel
theorem dX7_tryMove_103 : decode cX7_tryMove 103 = .ok (.laload, 1) := by decide +kernel
theorem dX7_tryMove_104 : decode cX7_tryMove 104 = .ok (.iload_n 2, 1) := by decide +kernel
theorem dX7_tryMove_105 : decode cX7_tryMove 105 = .ok (.bipush 8, 2) := by decide +kernel
theorem dX7_tryMove_107 : decode cX7_tryMove 107 = .ok (.irem, 1) := by decide +kernel
theorem dX7_tryMove_108 : decode cX7_tryMove 108 = .ok (.iconst 2, 1) := by decide +kernel
theorem dX7_tryMove_109 : decode cX7_tryMove 109 = .ok (.idiv, 1) := by decide +kernel
theorem dX7_tryMove_110 : decode cX7_tryMove 110 = .ok (.iload_n 2, 1) := by decide +kernel
theorem dX7_tryMove_111 : decode cX7_tryMove 111 = .ok (.iconst 2, 1) := by decide +kernel
theorem dX7_tryMove_112 : decode cX7_tryMove 112 = .ok (.irem, 1) := by decide +kernel
theorem dX7_tryMove_113 : decode cX7_tryMove 113 = .ok (.invokestatic 86, 3) := by decide +kernel
theorem dX7_tryMove_116 : decode cX7_tryMove 116 = .ok (.lastore, 1) := by decide +kernel
theorem dX7_tryMove_117 : decode cX7_tryMove 117 = .ok (.aload_n 0, 1) := by decide +kernel
theorem dX7_tryMove_118 : decode cX7_tryMove 118 = .ok (.getfield 24, 3) := by decide +kernel
theorem dX7_tryMove_121 : decode cX7_tryMove 121 = .ok (.iconst 2, 1) := by decide +kernel
theorem dX7_tryMove_122 : decode cX7_tryMove 122 = .ok (.aload_n 0, 1) := by decide +kernel
theorem dX7_tryMove_123 : decode cX7_tryMove 123 = .ok (.getfield 24, 3) := by decide +kernel
theorem dX7_tryMove_126 : decode cX7_tryMove 126 = .ok (.iconst 2, 1) := by decide +kernel
theorem dX7_tryMove_127 : decode cX7_tryMove 127 = .ok (.laload, 1) := by decide +kernel
theorem dX7_tryMove_128 : decode cX7_tryMove 128 = .ok (.iload_n 2, 1) := by decide +kernel
theorem dX7_tryMove_129 : decode cX7_tryMove 129 = .ok (.bipush 8, 2) := by decide +kernel
theorem dX7_tryMove_131 : decode cX7_tryMove 131 = .ok (.irem, 1) := by decide +kernel
theorem dX7_tryMove_132 : decode cX7_tryMove 132 = .ok (.iconst 2, 1) := by decide +kernel
theorem dX7_tryMove_133 : decode cX7_tryMove 133 = .ok (.idiv, 1) := by decide +kernel
theorem dX7_tryMove_134 : decode cX7_tryMove 134 = .ok (.iload_n 2, 1) := by decide +kernel
theorem dX7_tryMove_135 : decode cX7_tryMove 135 = .ok (.iconst 2, 1) := by decide +kernel
theorem dX7_tryMove_136 : decode cX7_tryMove 136 = .ok (.irem, 1) := by decide +kernel
theorem dX7_tryMove_137 : decode cX7_tryMove 137 = .ok (.invokestatic 86, 3) := by decide +kernel
theorem dX7_tryMove_140 : decode cX7_tryMove 140 = .ok (.lastore, 1) := by decide +kernel
theorem dX7_tryMove_141 : decode cX7_tryMove 141 = .ok (.aload_n 0, 1) := by decide +kernel
theorem dX7_tryMove_142 : decode cX7_tryMove 142 = .ok (.getfield 24, 3) := by decide +kernel
theorem dX7_tryMove_145 : decode cX7_tryMove 145 = .ok (.iconst 1, 1) := by decide +kernel
theorem dX7_tryMove_146 : decode cX7_tryMove 146 = .ok (.laload, 1) := by decide +kernel
theorem dX7_tryMove_147 : decode cX7_tryMove 147 = .ok (.aload_n 0, 1) := by decide +kernel
theorem dX7_tryMove_148 : decode cX7_tryMove 148 = .ok (.getfield 24, 3) := by decide +kernel
theorem dX7_tryMove_151 : decode cX7_tryMove 151 = .ok (.iconst 2, 1) := by decide +kernel
theorem dX7_tryMove_152 : decode cX7_tryMove 152 = .ok (.laload, 1) := by decide +kernel
theorem dX7_tryMove_153 : decode cX7_tryMove 153 = .ok (.invokestatic 94, 3) := by decide +kernel
theorem dX7_tryMove_156 : decode cX7_tryMove 156 = .ok (.ireturn, 1) := by decide +kernel
theorem dX7_open_0 : decode cX7_open 0 = .ok (.aload_n 0, 1) := by decide +kernel
theorem dX7_open_1 : decode cX7_open 1 = .ok (.getfield 27, 3) := by decide +kernel
theorem dX7_open_4 : decode cX7_open 4 = .ok (.iload_n 1, 1) := by decide +kernel
theorem dX7_open_5 : decode cX7_open 5 = .ok (.iload_n 1, 1) := by decide +kernel
theorem dX7_open_6 : decode cX7_open 6 = .ok (.ifCond .ne 12, 3) := by decide +kernel
theorem dX7_open_9 : decode cX7_open 9 = .ok (.aload_n 0, 1) := by decide +kernel
theorem dX7_open_10 : decode cX7_open 10 = .ok (.getfield 7, 3) := by decide +kernel
theorem dX7_open_13 : decode cX7_open 13 = .ok (.iconst 1, 1) := by decide +kernel
theorem dX7_open_14 : decode cX7_open 14 = .ok (.laload, 1) := by decide +kernel
theorem dX7_open_15 : decode cX7_open 15 = .ok (.goto 9, 3) := by decide +kernel
theorem dX7_open_18 : decode cX7_open 18 = .ok (.aload_n 0, 1) := by decide +kernel
theorem dX7_open_19 : decode cX7_open 19 = .ok (.getfield 24, 3) := by decide +kernel
theorem dX7_open_22 : decode cX7_open 22 = .ok (.iconst 1, 1) := by decide +kernel
theorem dX7_open_23 : decode cX7_open 23 = .ok (.laload, 1) := by decide +kernel
theorem dX7_open_24 : decode cX7_open 24 = .ok (.lastore, 1) := by decide +kernel
theorem dX7_open_25 : decode cX7_open 25 = .ok (.aload_n 0, 1) := by decide +kernel
theorem dX7_open_26 : decode cX7_open 26 = .ok (.getfield 30, 3) := by decide +kernel
theorem dX7_open_29 : decode cX7_open 29 = .ok (.iload_n 1, 1) := by decide +kernel
theorem dX7_open_30 : decode cX7_open 30 = .ok (.iload_n 1, 1) := by decide +kernel
theorem dX7_open_31 : decode cX7_open 31 = .ok (.ifCond .ne 12, 3) := by decide +kernel
theorem dX7_open_34 : decode cX7_open 34 = .ok (.aload_n 0, 1) := by decide +kernel
theorem dX7_open_35 : decode cX7_open 35 = .ok (.getfield 7, 3) := by decide +kernel
theorem dX7_open_38 : decode cX7_open 38 = .ok (.iconst 2, 1) := by decide +kernel
theorem dX7_open_39 : decode cX7_open 39 = .ok (.laload, 1) := by decide +kernel
theorem dX7_open_40 : decode cX7_open 40 = .ok (.goto 9, 3) := by decide +kernel
theorem dX7_open_43 : decode cX7_open 43 = .ok (.aload_n 0, 1) := by decide +kernel
theorem dX7_open_44 : decode cX7_open 44 = .ok (.getfield 24, 3) := by decide +kernel
theorem dX7_open_47 : decode cX7_open 47 = .ok (.iconst 2, 1) := by decide +kernel
theorem dX7_open_48 : decode cX7_open 48 = .ok (.laload, 1) := by decide +kernel
theorem dX7_open_49 : decode cX7_open 49 = .ok (.lastore, 1) := by decide +kernel
theorem dX7_open_50 : decode cX7_open 50 = .ok (.aload_n 0, 1) := by decide +kernel
theorem dX7_open_51 : decode cX7_open 51 = .ok (.getfield 33, 3) := by decide +kernel
theorem dX7_open_54 : decode cX7_open 54 = .ok (.iload_n 1, 1) := by decide +kernel
theorem dX7_open_55 : decode cX7_open 55 = .ok (.iload_n 2, 1) := by decide +kernel
theorem dX7_open_56 : decode cX7_open 56 = .ok (.iastore, 1) := by decide +kernel
theorem dX7_open_57 : decode cX7_open 57 = .ok (.aload_n 0, 1) := by decide +kernel
theorem dX7_open_58 : decode cX7_open 58 = .ok (.getfield 36, 3) := by decide +kernel
theorem dX7_open_61 : decode cX7_open 61 = .ok (.iload_n 1, 1) := by decide +kernel
theorem dX7_open_62 : decode cX7_open 62 = .ok (.iconst 0, 1) := by decide +kernel
theorem dX7_open_63 : decode cX7_open 63 = .ok (.iastore, 1) := by decide +kernel
theorem dX7_open_64 : decode cX7_open 64 = .ok (.aload_n 0, 1) := by decide +kernel
theorem dX7_open_65 : decode cX7_open 65 = .ok (.getfield 39, 3) := by decide +kernel
theorem dX7_open_68 : decode cX7_open 68 = .ok (.iload_n 1, 1) := by decide +kernel
theorem dX7_open_69 : decode cX7_open 69 = .ok (.bipush (-2), 2) := by decide +kernel
theorem dX7_open_71 : decode cX7_open 71 = .ok (.iastore, 1) := by decide +kernel
theorem dX7_open_72 : decode cX7_open 72 = .ok (.return_, 1) := by decide +kernel
theorem dX7_take_0 : decode cX7_take 0 = .ok (.iload_n 2, 1) := by decide +kernel
theorem dX7_take_1 : decode cX7_take 1 = .ok (.aload_n 0, 1) := by decide +kernel
theorem dX7_take_2 : decode cX7_take 2 = .ok (.getfield 39, 3) := by decide +kernel
theorem dX7_take_5 : decode cX7_take 5 = .ok (.iload_n 1, 1) := by decide +kernel
theorem dX7_take_6 : decode cX7_take 6 = .ok (.iaload, 1) := by decide +kernel
theorem dX7_take_7 : decode cX7_take 7 = .ok (.if_icmp .le 26, 3) := by decide +kernel
theorem dX7_take_10 : decode cX7_take 10 = .ok (.aload_n 0, 1) := by decide +kernel
theorem dX7_take_11 : decode cX7_take 11 = .ok (.getfield 39, 3) := by decide +kernel
theorem dX7_take_14 : decode cX7_take 14 = .ok (.iload_n 1, 1) := by decide +kernel
theorem dX7_take_15 : decode cX7_take 15 = .ok (.iload_n 2, 1) := by decide +kernel
theorem dX7_take_16 : decode cX7_take 16 = .ok (.iastore, 1) := by decide +kernel
theorem dX7_take_17 : decode cX7_take 17 = .ok (.aload_n 0, 1) := by decide +kernel
theorem dX7_take_18 : decode cX7_take 18 = .ok (.iload_n 1, 1) := by decide +kernel
theorem dX7_take_19 : decode cX7_take 19 = .ok (.ifCond .ne 7, 3) := by decide +kernel
theorem dX7_take_22 : decode cX7_take 22 = .ok (.iload_n 3, 1) := by decide +kernel
theorem dX7_take_23 : decode cX7_take 23 = .ok (.goto 7, 3) := by decide +kernel
theorem dX7_take_26 : decode cX7_take 26 = .ok (.aload_n 0, 1) := by decide +kernel
theorem dX7_take_27 : decode cX7_take 27 = .ok (.getfield 123, 3) := by decide +kernel
theorem dX7_take_30 : decode cX7_take 30 = .ok (.putfield 123, 3) := by decide +kernel
theorem dX7_take_33 : decode cX7_take 33 = .ok (.return_, 1) := by decide +kernel
set_option maxRecDepth 20000 in
theorem ggX7_solve_X7_open : GoodIn wsX7_solve wsX7_open := goodIn_r _ [10, 11, 12, 13, 14, 5, 3, 4, 44, 45, 46, 47, 48, 49, 50, 51, 52, 53, 54, 55, 56, 57, 58] (by decide +kernel) (by decide +kernel)
set_option maxRecDepth 20000 in
theorem gX7_solve_X7_open : GoodIn wsX7_solve (wsV RX7 126 RX7 yX7_open wsX7_open) := goodIn_app (goodIn_of _ (by decide +kernel)) ggX7_solve_X7_open
set_option maxRecDepth 20000 in
theorem ggX7_solve_X7_tryMove : GoodIn wsX7_solve wsX7_tryMove := goodIn_r _ [18, 5, 13, 11, 14, 19, 20, 9, 21, 22, 23, 24, 25, 26, 27, 28, 29, 30, 31, 32, 33, 34, 35, 36, 37, 38, 44, 45, 46, 47, 48, 49, 50, 51, 52, 53, 54, 55, 56, 57, 58] (by decide +kernel) (by decide +kernel)
set_option maxRecDepth 20000 in
theorem gX7_solve_X7_tryMove : GoodIn wsX7_solve (wsV RX7 129 RX7 yX7_tryMove wsX7_tryMove) := goodIn_app (goodIn_of _ (by decide +kernel)) ggX7_solve_X7_tryMove
set_option maxRecDepth 20000 in
theorem ggX7_solve_X7_take : GoodIn wsX7_solve wsX7_take := goodIn_r _ [42, 4, 43, 44, 45, 46, 47, 48, 49, 50, 51, 52, 53, 54, 55, 56, 57, 58] (by decide +kernel) (by decide +kernel)
set_option maxRecDepth 20000 in
theorem gX7_solve_X7_take : GoodIn wsX7_solve (wsV RX7 133 RX7 yX7_take wsX7_take) := goodIn_app (goodIn_of _ (by decide +kernel)) ggX7_solve_X7_take
theorem dX7_solve_0 : decode cX7_solve 0 = .ok (.iconst 0, 1) := by decide +kernel
theorem dX7_solve_1 : decode cX7_solve 1 = .ok (.istore_n 1, 1) := by decide +kernel
theorem dX7_solve_2 : decode cX7_solve 2 = .ok (.aload_n 0, 1) := by decide +kernel
theorem dX7_solve_3 : decode cX7_solve 3 = .ok (.iconst 0, 1) := by decide +kernel
theorem dX7_solve_4 : decode cX7_solve 4 = .ok (.aload_n 0, 1) := by decide +kernel
theorem dX7_solve_5 : decode cX7_solve 5 = .ok (.getfield 13, 3) := by decide +kernel
theorem dX7_solve_8 : decode cX7_solve 8 = .ok (.invokevirtual 126, 3) := by decide +kernel
theorem dX7_solve_11 : decode cX7_solve 11 = .ok (.iload_n 1, 1) := by decide +kernel
theorem dX7_solve_12 : decode cX7_solve 12 = .ok (.ifCond .ne 15, 3) := by decide +kernel
theorem dX7_solve_15 : decode cX7_solve 15 = .ok (.aload_n 0, 1) := by decide +kernel
theorem dX7_solve_16 : decode cX7_solve 16 = .ok (.getfield 76, 3) := by decide +kernel
theorem dX7_solve_19 : decode cX7_solve 19 = .ok (.ifCond .eq 8, 3) := by decide +kernel
theorem dX7_solve_22 : decode cX7_solve 22 = .ok (.bipush 8, 2) := by decide +kernel
theorem dX7_solve_24 : decode cX7_solve 24 = .ok (.goto 6, 3) := by decide +kernel
theorem dX7_solve_27 : decode cX7_solve 27 = .ok (.sipush 288, 3) := by decide +kernel
theorem dX7_solve_30 : decode cX7_solve 30 = .ok (.istore_n 2, 1) := by decide +kernel
theorem dX7_solve_31 : decode cX7_solve 31 = .ok (.aload_n 0, 1) := by decide +kernel
theorem dX7_solve_32 : decode cX7_solve 32 = .ok (.getfield 36, 3) := by decide +kernel
theorem dX7_solve_35 : decode cX7_solve 35 = .ok (.iload_n 1, 1) := by decide +kernel
theorem dX7_solve_36 : decode cX7_solve 36 = .ok (.iaload, 1) := by decide +kernel
theorem dX7_solve_37 : decode cX7_solve 37 = .ok (.iload_n 2, 1) := by decide +kernel
theorem dX7_solve_38 : decode cX7_solve 38 = .ok (.if_icmp .ge 121, 3) := by decide +kernel
theorem dX7_solve_41 : decode cX7_solve 41 = .ok (.aload_n 0, 1) := by decide +kernel
theorem dX7_solve_42 : decode cX7_solve 42 = .ok (.getfield 39, 3) := by decide +kernel
theorem dX7_solve_45 : decode cX7_solve 45 = .ok (.iload_n 1, 1) := by decide +kernel
theorem dX7_solve_46 : decode cX7_solve 46 = .ok (.iaload, 1) := by decide +kernel
theorem dX7_solve_47 : decode cX7_solve 47 = .ok (.iconst 1, 1) := by decide +kernel
theorem dX7_solve_48 : decode cX7_solve 48 = .ok (.if_icmp .ge 111, 3) := by decide +kernel
theorem dX7_solve_51 : decode cX7_solve 51 = .ok (.aload_n 0, 1) := by decide +kernel
theorem dX7_solve_52 : decode cX7_solve 52 = .ok (.getfield 36, 3) := by decide +kernel
theorem dX7_solve_55 : decode cX7_solve 55 = .ok (.iload_n 1, 1) := by decide +kernel
theorem dX7_solve_56 : decode cX7_solve 56 = .ok (.iaload, 1) := by decide +kernel
theorem dX7_solve_57 : decode cX7_solve 57 = .ok (.istore_n 3, 1) := by decide +kernel
theorem dX7_solve_58 : decode cX7_solve 58 = .ok (.aload_n 0, 1) := by decide +kernel
theorem dX7_solve_59 : decode cX7_solve 59 = .ok (.getfield 36, 3) := by decide +kernel
theorem dX7_solve_62 : decode cX7_solve 62 = .ok (.iload_n 1, 1) := by decide +kernel
theorem dX7_solve_63 : decode cX7_solve 63 = .ok (.dup2, 1) := by decide +kernel
theorem dX7_solve_64 : decode cX7_solve 64 = .ok (.iaload, 1) := by decide +kernel
theorem dX7_solve_65 : decode cX7_solve 65 = .ok (.iconst 1, 1) := by decide +kernel
theorem dX7_solve_66 : decode cX7_solve 66 = .ok (.iadd, 1) := by decide +kernel
theorem dX7_solve_67 : decode cX7_solve 67 = .ok (.iastore, 1) := by decide +kernel
theorem dX7_solve_68 : decode cX7_solve 68 = .ok (.aload_n 0, 1) := by decide +kernel
theorem dX7_solve_69 : decode cX7_solve 69 = .ok (.iload_n 1, 1) := by decide +kernel
theorem dX7_solve_70 : decode cX7_solve 70 = .ok (.iload_n 3, 1) := by decide +kernel
theorem dX7_solve_71 : decode cX7_solve 71 = .ok (.iload_n 1, 1) := by decide +kernel
theorem dX7_solve_72 : decode cX7_solve 72 = .ok (.ifCond .ne 14, 3) := by decide +kernel
theorem dX7_solve_75 : decode cX7_solve 75 = .ok (.aload_n 0, 1) := by decide +kernel
theorem dX7_solve_76 : decode cX7_solve 76 = .ok (.getfield 76, 3) := by decide +kernel
theorem dX7_solve_79 : decode cX7_solve 79 = .ok (.ifCond .eq 7, 3) := by decide +kernel
theorem dX7_solve_82 : decode cX7_solve 82 = .ok (.iconst 1, 1) := by decide +kernel
theorem dX7_solve_83 : decode cX7_solve 83 = .ok (.goto 4, 3) := by decide +kernel
theorem dX7_solve_86 : decode cX7_solve 86 = .ok (.iconst 0, 1) := by decide +kernel
theorem dX7_solve_87 : decode cX7_solve 87 = .ok (.invokevirtual 129, 3) := by decide +kernel
theorem dX7_solve_90 : decode cX7_solve 90 = .ok (.istore 4, 2) := by decide +kernel
theorem dX7_solve_92 : decode cX7_solve 92 = .ok (.iload 4, 2) := by decide +kernel
theorem dX7_solve_94 : decode cX7_solve 94 = .ok (.ifCond .ne 24, 3) := by decide +kernel
theorem dX7_solve_97 : decode cX7_solve 97 = .ok (.aload_n 0, 1) := by decide +kernel
theorem dX7_solve_98 : decode cX7_solve 98 = .ok (.iload_n 1, 1) := by decide +kernel
theorem dX7_solve_99 : decode cX7_solve 99 = .ok (.iconst 1, 1) := by decide +kernel
theorem dX7_solve_100 : decode cX7_solve 100 = .ok (.iadd, 1) := by decide +kernel
theorem dX7_solve_101 : decode cX7_solve 101 = .ok (.iconst 3, 1) := by decide +kernel
theorem dX7_solve_102 : decode cX7_solve 102 = .ok (.aload_n 0, 1) := by decide +kernel
theorem dX7_solve_103 : decode cX7_solve 103 = .ok (.getfield 33, 3) := by decide +kernel
theorem dX7_solve_106 : decode cX7_solve 106 = .ok (.iload_n 1, 1) := by decide +kernel
theorem dX7_solve_107 : decode cX7_solve 107 = .ok (.iaload, 1) := by decide +kernel
theorem dX7_solve_108 : decode cX7_solve 108 = .ok (.isub, 1) := by decide +kernel
theorem dX7_solve_109 : decode cX7_solve 109 = .ok (.invokevirtual 126, 3) := by decide +kernel
theorem dX7_solve_112 : decode cX7_solve 112 = .ok (.iinc 1 1, 3) := by decide +kernel
theorem dX7_solve_115 : decode cX7_solve 115 = .ok (.goto 41, 3) := by decide +kernel
theorem dX7_solve_118 : decode cX7_solve 118 = .ok (.iload 4, 2) := by decide +kernel
theorem dX7_solve_120 : decode cX7_solve 120 = .ok (.iconst (-1), 1) := by decide +kernel
theorem dX7_solve_121 : decode cX7_solve 121 = .ok (.if_icmp .eq 35, 3) := by decide +kernel
theorem dX7_solve_124 : decode cX7_solve 124 = .ok (.aload_n 0, 1) := by decide +kernel
theorem dX7_solve_125 : decode cX7_solve 125 = .ok (.iload_n 1, 1) := by decide +kernel
theorem dX7_solve_126 : decode cX7_solve 126 = .ok (.iload 4, 2) := by decide +kernel
theorem dX7_solve_128 : decode cX7_solve 128 = .ok (.iconst 3, 1) := by decide +kernel
theorem dX7_solve_129 : decode cX7_solve 129 = .ok (.if_icmp .ne 7, 3) := by decide +kernel
theorem dX7_solve_132 : decode cX7_solve 132 = .ok (.iconst 0, 1) := by decide +kernel
theorem dX7_solve_133 : decode cX7_solve 133 = .ok (.goto 19, 3) := by decide +kernel
theorem dX7_solve_136 : decode cX7_solve 136 = .ok (.iload 4, 2) := by decide +kernel
theorem dX7_solve_138 : decode cX7_solve 138 = .ok (.aload_n 0, 1) := by decide +kernel
theorem dX7_solve_139 : decode cX7_solve 139 = .ok (.getfield 33, 3) := by decide +kernel
theorem dX7_solve_142 : decode cX7_solve 142 = .ok (.iload_n 1, 1) := by decide +kernel
theorem dX7_solve_143 : decode cX7_solve 143 = .ok (.iaload, 1) := by decide +kernel
theorem dX7_solve_144 : decode cX7_solve 144 = .ok (.if_icmp .ne 7, 3) := by decide +kernel
theorem dX7_solve_147 : decode cX7_solve 147 = .ok (.iconst 1, 1) := by decide +kernel
theorem dX7_solve_148 : decode cX7_solve 148 = .ok (.goto 4, 3) := by decide +kernel
theorem dX7_solve_151 : decode cX7_solve 151 = .ok (.iconst (-1), 1) := by decide +kernel
theorem dX7_solve_152 : decode cX7_solve 152 = .ok (.iload_n 3, 1) := by decide +kernel
theorem dX7_solve_153 : decode cX7_solve 153 = .ok (.invokevirtual 133, 3) := by decide +kernel
theorem dX7_solve_156 : decode cX7_solve 156 = .ok (.goto 39, 3) := by decide +kernel
theorem dX7_solve_159 : decode cX7_solve 159 = .ok (.iload_n 1, 1) := by decide +kernel
theorem dX7_solve_160 : decode cX7_solve 160 = .ok (.ifCond .ne 10, 3) := by decide +kernel
theorem dX7_solve_163 : decode cX7_solve 163 = .ok (.aload_n 0, 1) := by decide +kernel
theorem dX7_solve_164 : decode cX7_solve 164 = .ok (.getfield 39, 3) := by decide +kernel
theorem dX7_solve_167 : decode cX7_solve 167 = .ok (.iconst 0, 1) := by decide +kernel
theorem dX7_solve_168 : decode cX7_solve 168 = .ok (.iaload, 1) := by decide +kernel
theorem dX7_solve_169 : decode cX7_solve 169 = .ok (.ireturn, 1) := by decide +kernel
theorem dX7_solve_170 : decode cX7_solve 170 = .ok (.iinc 1 (-1), 3) := by decide +kernel
theorem dX7_solve_173 : decode cX7_solve 173 = .ok (.aload_n 0, 1) := by decide +kernel
theorem dX7_solve_174 : decode cX7_solve 174 = .ok (.iload_n 1, 1) := by decide +kernel
theorem dX7_solve_175 : decode cX7_solve 175 = .ok (.aload_n 0, 1) := by decide +kernel
theorem dX7_solve_176 : decode cX7_solve 176 = .ok (.getfield 39, 3) := by decide +kernel
theorem dX7_solve_179 : decode cX7_solve 179 = .ok (.iload_n 1, 1) := by decide +kernel
theorem dX7_solve_180 : decode cX7_solve 180 = .ok (.iconst 1, 1) := by decide +kernel
theorem dX7_solve_181 : decode cX7_solve 181 = .ok (.iadd, 1) := by decide +kernel
theorem dX7_solve_182 : decode cX7_solve 182 = .ok (.iaload, 1) := by decide +kernel
theorem dX7_solve_183 : decode cX7_solve 183 = .ok (.ineg, 1) := by decide +kernel
theorem dX7_solve_184 : decode cX7_solve 184 = .ok (.aload_n 0, 1) := by decide +kernel
theorem dX7_solve_185 : decode cX7_solve 185 = .ok (.getfield 36, 3) := by decide +kernel
theorem dX7_solve_188 : decode cX7_solve 188 = .ok (.iload_n 1, 1) := by decide +kernel
theorem dX7_solve_189 : decode cX7_solve 189 = .ok (.iaload, 1) := by decide +kernel
theorem dX7_solve_190 : decode cX7_solve 190 = .ok (.iconst 1, 1) := by decide +kernel
theorem dX7_solve_191 : decode cX7_solve 191 = .ok (.isub, 1) := by decide +kernel
theorem dX7_solve_192 : decode cX7_solve 192 = .ok (.invokevirtual 133, 3) := by decide +kernel
theorem dX7_solve_195 : decode cX7_solve 195 = .ok (.goto (-184), 3) := by decide +kernel
set_option maxRecDepth 20000 in
theorem ggX7_isEnding_X7_sizeOf : GoodIn wsX7_isEnding wsX7_sizeOf := goodIn_r _ [6, 7, 8, 5, 9] (by decide +kernel) (by decide +kernel)
set_option maxRecDepth 20000 in
theorem gX7_isEnding_X7_sizeOf : GoodIn wsX7_isEnding (va_wsS RX7 98 yX7_sizeOf wsX7_sizeOf) := goodIn_app (goodIn_of _ (by decide +kernel)) ggX7_isEnding_X7_sizeOf
theorem dX7_isEnding_0 : decode cX7_isEnding 0 = .ok (.aload_n 0, 1) := by decide +kernel
theorem dX7_isEnding_1 : decode cX7_isEnding 1 = .ok (.getfield 73, 3) := by decide +kernel
theorem dX7_isEnding_4 : decode cX7_isEnding 4 = .ok (.ifCond .ne 30, 3) := by decide +kernel
theorem dX7_isEnding_7 : decode cX7_isEnding 7 = .ok (.bipush 36, 2) := by decide +kernel
theorem dX7_isEnding_9 : decode cX7_isEnding 9 = .ok (.aload_n 0, 1) := by decide +kernel
theorem dX7_isEnding_10 : decode cX7_isEnding 10 = .ok (.getfield 7, 3) := by decide +kernel
theorem dX7_isEnding_13 : decode cX7_isEnding 13 = .ok (.iconst 1, 1) := by decide +kernel
theorem dX7_isEnding_14 : decode cX7_isEnding 14 = .ok (.laload, 1) := by decide +kernel
theorem dX7_isEnding_15 : decode cX7_isEnding 15 = .ok (.aload_n 0, 1) := by decide +kernel
theorem dX7_isEnding_16 : decode cX7_isEnding 16 = .ok (.getfield 7, 3) := by decide +kernel
theorem dX7_isEnding_19 : decode cX7_isEnding 19 = .ok (.iconst 2, 1) := by decide +kernel
theorem dX7_isEnding_20 : decode cX7_isEnding 20 = .ok (.laload, 1) := by decide +kernel
theorem dX7_isEnding_21 : decode cX7_isEnding 21 = .ok (.lor, 1) := by decide +kernel
theorem dX7_isEnding_22 : decode cX7_isEnding 22 = .ok (.invokestatic 98, 3) := by decide +kernel
theorem dX7_isEnding_25 : decode cX7_isEnding 25 = .ok (.isub, 1) := by decide +kernel
theorem dX7_isEnding_26 : decode cX7_isEnding 26 = .ok (.iconst 3, 1) := by decide +kernel
theorem dX7_isEnding_27 : decode cX7_isEnding 27 = .ok (.if_icmp .gt 7, 3) := by decide +kernel
theorem dX7_isEnding_30 : decode cX7_isEnding 30 = .ok (.iconst 1, 1) := by decide +kernel
theorem dX7_isEnding_31 : decode cX7_isEnding 31 = .ok (.goto 4, 3) := by decide +kernel
theorem dX7_isEnding_34 : decode cX7_isEnding 34 = .ok (.iconst 0, 1) := by decide +kernel
theorem dX7_isEnding_35 : decode cX7_isEnding 35 = .ok (.ireturn, 1) := by decide +kernel
set_option maxRecDepth 20000 in
theorem ggX7_value_X7_valueOnBoards : GoodIn wsX7_value wsX7_valueOnBoards := goodIn_r _ [5, 6, 7, 8, 4, 9, 10, 11, 12, 13, 14, 15, 16, 17, 18, 19, 20, 21, 22, 23, 24, 25, 26, 27, 28, 29, 30, 31, 32, 33, 34, 35, 36, 37, 38, 39, 40, 41, 42, 43, 44, 45, 46, 47, 48, 49, 50, 51, 52, 53, 54, 55, 56, 57, 58, 59, 60, 61, 62, 63, 64, 65, 66, 67, 68, 69, 70, 71, 72, 73, 74, 75, 76, 77, 78, 79] (by decide +kernel) (by decide +kernel)
set_option maxRecDepth 20000 in
theorem gX7_value_X7_valueOnBoards : GoodIn wsX7_value (wsV RX7 137 RX7 yX7_valueOnBoards wsX7_valueOnBoards) := goodIn_app (goodIn_of _ (by decide +kernel)) ggX7_value_X7_valueOnBoards
