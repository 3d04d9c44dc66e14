theorem dX3_lowestBestTurn_5 : decode cX3_lowestBestTurn 5 = .ok (.istore 7, 2) := by decide +kernel
theorem dX3_lowestBestTurn_7 : decode cX3_lowestBestTurn 7 = .ok (.iconst 0, 1) := by decide +kernel
theorem dX3_lowestBestTurn_8 : decode cX3_lowestBestTurn 8 = .ok (.istore 8, 2) := by decide +kernel
theorem dX3_lowestBestTurn_10 : decode cX3_lowestBestTurn 10 = .ok (.iload 8, 2) := by decide +kernel
theorem dX3_lowestBestTurn_12 : decode cX3_lowestBestTurn 12 = .ok (.bipush 8, 2) := by decide +kernel
theorem dX3_lowestBestTurn_14 : decode cX3_lowestBestTurn 14 = .ok (.if_icmp .ge 42, 3) := by decide +kernel
theorem dX3_lowestBestTurn_17 : decode cX3_lowestBestTurn 17 = .ok (.iload 6, 2) := by decide +kernel
theorem dX3_lowestBestTurn_19 : decode cX3_lowestBestTurn 19 = .ok (.iconst 1, 1) := by decide +kernel
theorem dX3_lowestBestTurn_20 : decode cX3_lowestBestTurn 20 = .ok (.if_icmp .ge 36, 3) := by decide +kernel
theorem dX3_lowestBestTurn_23 : decode cX3_lowestBestTurn 23 = .ok (.aload_n 0, 1) := by decide +kernel
theorem dX3_lowestBestTurn_24 : decode cX3_lowestBestTurn 24 = .ok (.lload_n 1, 1) := by decide +kernel
theorem dX3_lowestBestTurn_25 : decode cX3_lowestBestTurn 25 = .ok (.lload_n 3, 1) := by decide +kernel
theorem dX3_lowestBestTurn_26 : decode cX3_lowestBestTurn 26 = .ok (.iload 8, 2) := by decide +kernel
theorem dX3_lowestBestTurn_28 : decode cX3_lowestBestTurn 28 = .ok (.iload 5, 2) := by decide +kernel
theorem dX3_lowestBestTurn_30 : decode cX3_lowestBestTurn 30 = .ok (.invokevirtual 44, 3) := by decide +kernel
theorem dX3_lowestBestTurn_33 : decode cX3_lowestBestTurn 33 = .ok (.istore 9, 2) := by decide +kernel
theorem dX3_lowestBestTurn_35 : decode cX3_lowestBestTurn 35 = .ok (.iload 9, 2) := by decide +kernel
theorem dX3_lowestBestTurn_37 : decode cX3_lowestBestTurn 37 = .ok (.iload 6, 2) := by decide +kernel
theorem dX3_lowestBestTurn_39 : decode cX3_lowestBestTurn 39 = .ok (.if_icmp .le 11, 3) := by decide +kernel
theorem dX3_lowestBestTurn_42 : decode cX3_lowestBestTurn 42 = .ok (.iload 9, 2) := by decide +kernel
theorem dX3_lowestBestTurn_44 : decode cX3_lowestBestTurn 44 = .ok (.istore 6, 2) := by decide +kernel
theorem dX3_lowestBestTurn_46 : decode cX3_lowestBestTurn 46 = .ok (.iload 8, 2) := by decide +kernel
theorem dX3_lowestBestTurn_48 : decode cX3_lowestBestTurn 48 = .ok (.istore 7, 2) := by decide +kernel
theorem dX3_lowestBestTurn_50 : decode cX3_lowestBestTurn 50 = .ok (.iinc 8 1, 3) := by decide +kernel
theorem dX3_lowestBestTurn_53 : decode cX3_lowestBestTurn 53 = .ok (.goto (-43), 3) := by decide +kernel
theorem dX3_lowestBestTurn_56 : decode cX3_lowestBestTurn 56 = .ok (.iload 7, 2) := by decide +kernel
theorem dX3_lowestBestTurn_58 : decode cX3_lowestBestTurn 58 = .ok (.ireturn, 1) := by decide +kernel
set_option maxRecDepth 20000 in
theorem ggX3_lowestBestMove_X6_bitOf : GoodIn wsX3_lowestBestMove wsX6_bitOf := goodIn_r _ [3] (by decide +kernel) (by decide +kernel)
set_option maxRecDepth 20000 in
theorem gX3_lowestBestMove_X6_bitOf_n54 : GoodIn wsX3_lowestBestMove (wsX6_bitOf) := ggX3_lowestBestMove_X6_bitOf
set_option maxRecDepth 20000 in
theorem ggX3_lowestBestMove_X1_hasLine : GoodIn wsX3_lowestBestMove wsX1_hasLine := goodIn_r _ [7, 8, 9, 10, 11, 12, 13, 6, 14] (by decide +kernel) (by decide +kernel)
set_option maxRecDepth 20000 in
theorem gX3_lowestBestMove_X1_hasLine : GoodIn wsX3_lowestBestMove (va_wsS RX3 58 yX1_hasLine wsX1_hasLine) := goodIn_app (goodIn_of _ (by decide +kernel)) ggX3_lowestBestMove_X1_hasLine
set_option maxRecDepth 20000 in
theorem ggX3_lowestBestMove_X3_valueBehindTurn : GoodIn wsX3_lowestBestMove wsX3_valueBehindTurn := goodIn_r _ [19, 20, 21, 22, 23, 24, 25, 26, 27, 28, 29, 30, 31, 32, 33, 34, 35, 36, 37, 38, 39, 40, 41, 42, 43, 44, 45, 4, 5, 6, 7, 8, 9, 10, 11, 12, 13, 14, 46, 47, 48, 18, 49, 50, 51, 52, 53, 1, 2, 3, 54, 55, 56, 57, 58, 59, 60, 61, 62, 63, 64, 65, 66, 67, 68, 69, 70, 71, 72, 73, 74, 75, 76, 77, 78, 79, 80, 81, 82, 83, 84, 85, 86, 87, 88, 89, 90, 91, 92, 93, 94, 95, 96, 97, 98, 99, 100, 15, 16, 17, 101, 102, 103] (by decide +kernel) (by decide +kernel)
set_option maxRecDepth 20000 in
theorem gX3_lowestBestMove_X3_valueBehindTurn : GoodIn wsX3_lowestBestMove (wsV RX3 44 RX3 yX3_valueBehindTurn wsX3_valueBehindTurn) := goodIn_app (goodIn_of _ (by decide +kernel)) ggX3_lowestBestMove_X3_valueBehindTurn
theorem dX3_lowestBestMove_0 : decode cX3_lowestBestMove 0 = .ok (.bipush (-2), 2) := by decide +kernel
theorem dX3_lowestBestMove_2 : decode cX3_lowestBestMove 2 = .ok (.istore 6, 2) := by decide +kernel
theorem dX3_lowestBestMove_4 : decode cX3_lowestBestMove 4 = .ok (.iconst 0, 1) := by decide +kernel
theorem dX3_lowestBestMove_5 : decode cX3_lowestBestMove 5 = .ok (.istore 7, 2) := by decide +kernel
theorem dX3_lowestBestMove_7 : decode cX3_lowestBestMove 7 = .ok (.iconst 0, 1) := by decide +kernel
theorem dX3_lowestBestMove_8 : decode cX3_lowestBestMove 8 = .ok (.istore 8, 2) := by decide +kernel
theorem dX3_lowestBestMove_10 : decode cX3_lowestBestMove 10 = .ok (.iload 8, 2) := by decide +kernel
theorem dX3_lowestBestMove_12 : decode cX3_lowestBestMove 12 = .ok (.sipush 288, 3) := by decide +kernel
theorem dX3_lowestBestMove_15 : decode cX3_lowestBestMove 15 = .ok (.if_icmp .ge 85, 3) := by decide +kernel
theorem dX3_lowestBestMove_18 : decode cX3_lowestBestMove 18 = .ok (.iload 6, 2) := by decide +kernel
theorem dX3_lowestBestMove_20 : decode cX3_lowestBestMove 20 = .ok (.iconst 1, 1) := by decide +kernel
theorem dX3_lowestBestMove_21 : decode cX3_lowestBestMove 21 = .ok (.if_icmp .ge 79, 3) := by decide +kernel
theorem dX3_lowestBestMove_24 : decode cX3_lowestBestMove 24 = .ok (.iload 8, 2) := by decide +kernel
theorem dX3_lowestBestMove_26 : decode cX3_lowestBestMove 26 = .ok (.bipush 8, 2) := by decide +kernel
theorem dX3_lowestBestMove_28 : decode cX3_lowestBestMove 28 = .ok (.idiv, 1) := by decide +kernel
theorem dX3_lowestBestMove_29 : decode cX3_lowestBestMove 29 = .ok (.invokestatic 54, 3) := by decide +kernel
theorem dX3_lowestBestMove_32 : decode cX3_lowestBestMove 32 = .ok (.lstore 9, 2) := by decide +kernel
theorem dX3_lowestBestMove_34 : decode cX3_lowestBestMove 34 = .ok (.lload_n 1, 1) := by decide +kernel
theorem dX3_lowestBestMove_35 : decode cX3_lowestBestMove 35 = .ok (.lload_n 3, 1) := by decide +kernel
theorem dX3_lowestBestMove_36 : decode cX3_lowestBestMove 36 = .ok (.lor, 1) := by decide +kernel
theorem dX3_lowestBestMove_37 : decode cX3_lowestBestMove 37 = .ok (.lload 9, 2) := by decide +kernel
theorem dX3_lowestBestMove_39 : decode cX3_lowestBestMove 39 = .ok (.land, 1) := by decide +kernel
theorem dX3_lowestBestMove_40 : decode cX3_lowestBestMove 40 = .ok (.lconst 0, 1) := by decide +kernel
theorem dX3_lowestBestMove_41 : decode cX3_lowestBestMove 41 = .ok (.lcmp, 1) := by decide +kernel
theorem dX3_lowestBestMove_42 : decode cX3_lowestBestMove 42 = .ok (.ifCond .ne 52, 3) := by decide +kernel
theorem dX3_lowestBestMove_45 : decode cX3_lowestBestMove 45 = .ok (.lload_n 1, 1) := by decide +kernel
theorem dX3_lowestBestMove_46 : decode cX3_lowestBestMove 46 = .ok (.lload 9, 2) := by decide +kernel
theorem dX3_lowestBestMove_48 : decode cX3_lowestBestMove 48 = .ok (.lor, 1) := by decide +kernel
theorem dX3_lowestBestMove_49 : decode cX3_lowestBestMove 49 = .ok (.invokestatic 58, 3) := by decide +kernel
theorem dX3_lowestBestMove_52 : decode cX3_lowestBestMove 52 = .ok (.ifCond .eq 7, 3) := by decide +kernel
theorem dX3_lowestBestMove_55 : decode cX3_lowestBestMove 55 = .ok (.iconst 1, 1) := by decide +kernel
theorem dX3_lowestBestMove_56 : decode cX3_lowestBestMove 56 = .ok (.goto 21, 3) := by decide +kernel
theorem dX3_lowestBestMove_59 : decode cX3_lowestBestMove 59 = .ok (.aload_n 0, 1) := by decide +kernel
theorem dX3_lowestBestMove_60 : decode cX3_lowestBestMove 60 = .ok (.lload_n 1, 1) := by decide +kernel
theorem dX3_lowestBestMove_61 : decode cX3_lowestBestMove 61 = .ok (.lload 9, 2) := by decide +kernel
theorem dX3_lowestBestMove_63 : decode cX3_lowestBestMove 63 = .ok (.lor, 1) := by decide +kernel
theorem dX3_lowestBestMove_64 : decode cX3_lowestBestMove 64 = .ok (.lload_n 3, 1) := by decide +kernel
theorem dX3_lowestBestMove_65 : decode cX3_lowestBestMove 65 = .ok (.iload 8, 2) := by decide +kernel
theorem dX3_lowestBestMove_67 : decode cX3_lowestBestMove 67 = .ok (.bipush 8, 2) := by decide +kernel
theorem dX3_lowestBestMove_69 : decode cX3_lowestBestMove 69 = .ok (.irem, 1) := by decide +kernel
theorem dX3_lowestBestMove_70 : decode cX3_lowestBestMove 70 = .ok (.iload 5, 2) := by decide +kernel
theorem dX3_lowestBestMove_72 : decode cX3_lowestBestMove 72 = .ok (.iconst 1, 1) := by decide +kernel
theorem dX3_lowestBestMove_73 : decode cX3_lowestBestMove 73 = .ok (.isub, 1) := by decide +kernel
theorem dX3_lowestBestMove_74 : decode cX3_lowestBestMove 74 = .ok (.invokevirtual 44, 3) := by decide +kernel
theorem dX3_lowestBestMove_77 : decode cX3_lowestBestMove 77 = .ok (.istore 11, 2) := by decide +kernel
theorem dX3_lowestBestMove_79 : decode cX3_lowestBestMove 79 = .ok (.iload 11, 2) := by decide +kernel
theorem dX3_lowestBestMove_81 : decode cX3_lowestBestMove 81 = .ok (.iload 6, 2) := by decide +kernel
theorem dX3_lowestBestMove_83 : decode cX3_lowestBestMove 83 = .ok (.if_icmp .le 11, 3) := by decide +kernel
theorem dX3_lowestBestMove_86 : decode cX3_lowestBestMove 86 = .ok (.iload 11, 2) := by decide +kernel
theorem dX3_lowestBestMove_88 : decode cX3_lowestBestMove 88 = .ok (.istore 6, 2) := by decide +kernel
theorem dX3_lowestBestMove_90 : decode cX3_lowestBestMove 90 = .ok (.iload 8, 2) := by decide +kernel
theorem dX3_lowestBestMove_92 : decode cX3_lowestBestMove 92 = .ok (.istore 7, 2) := by decide +kernel
theorem dX3_lowestBestMove_94 : decode cX3_lowestBestMove 94 = .ok (.iinc 8 1, 3) := by decide +kernel
theorem dX3_lowestBestMove_97 : decode cX3_lowestBestMove 97 = .ok (.goto (-87), 3) := by decide +kernel
theorem dX3_lowestBestMove_100 : decode cX3_lowestBestMove 100 = .ok (.iload 7, 2) := by decide +kernel
theorem dX3_lowestBestMove_102 : decode cX3_lowestBestMove 102 = .ok (.ireturn, 1) := by decide +kernel
set_option maxRecDepth 20000 in
theorem ggX3_playMarbles_X6_bitOf : GoodIn wsX3_playMarbles wsX6_bitOf := goodIn_r _ [7] (by decide +kernel) (by decide +kernel)
set_option maxRecDepth 20000 in
theorem gX3_playMarbles_X6_bitOf_n54 : GoodIn wsX3_playMarbles (wsX6_bitOf) := ggX3_playMarbles_X6_bitOf
set_option maxRecDepth 20000 in
theorem ggX3_playMarbles_X1_hasLine : GoodIn wsX3_playMarbles wsX1_hasLine := goodIn_r _ [11, 12, 13, 14, 15, 16, 17, 10, 18] (by decide +kernel) (by decide +kernel)
set_option maxRecDepth 20000 in
theorem gX3_playMarbles_X1_hasLine : GoodIn wsX3_playMarbles (va_wsS RX3 58 yX1_hasLine wsX1_hasLine) := goodIn_app (goodIn_of _ (by decide +kernel)) ggX3_playMarbles_X1_hasLine
set_option maxRecDepth 20000 in
theorem ggX3_playMarbles_X3_valueToTurn : GoodIn wsX3_playMarbles wsX3_valueToTurn := goodIn_r _ [96, 1, 2, 3, 4, 97, 98, 99, 22, 0, 5, 6, 7, 8, 9, 10, 11, 12, 13, 14, 15, 16, 17, 18, 19, 20, 21, 23, 24, 25, 26, 27, 28, 29, 30, 31, 32, 33, 34, 35, 36, 37, 38, 39, 40, 41, 42, 43, 44, 45, 46, 47, 48, 49, 50, 51, 52, 53, 54, 55, 56, 57, 58, 59, 60, 61, 62, 63, 64, 65, 66, 67, 68, 69, 70, 71, 72, 73, 74, 75, 76, 77, 78, 79, 80, 81, 82, 83, 84, 85, 86, 87, 88, 89, 90, 91, 92, 93, 94, 95, 100, 101, 102] (by decide +kernel) (by decide +kernel)
set_option maxRecDepth 20000 in
theorem gX3_playMarbles_X3_valueToTurn : GoodIn wsX3_playMarbles (wsV RX3 63 RX3 yX3_valueToTurn wsX3_valueToTurn) := goodIn_app (goodIn_of _ (by decide +kernel)) ggX3_playMarbles_X3_valueToTurn
theorem dX3_playMarbles_0 : decode cX3_playMarbles 0 = .ok (.iconst (-1), 1) := by decide +kernel
theorem dX3_playMarbles_1 : decode cX3_playMarbles 1 = .ok (.istore 6, 2) := by decide +kernel
theorem dX3_playMarbles_3 : decode cX3_playMarbles 3 = .ok (.iconst 0, 1) := by decide +kernel
theorem dX3_playMarbles_4 : decode cX3_playMarbles 4 = .ok (.istore 7, 2) := by decide +kernel
theorem dX3_playMarbles_6 : decode cX3_playMarbles 6 = .ok (.iload 7, 2) := by decide +kernel
theorem dX3_playMarbles_8 : decode cX3_playMarbles 8 = .ok (.bipush 36, 2) := by decide +kernel
theorem dX3_playMarbles_10 : decode cX3_playMarbles 10 = .ok (.if_icmp .ge 71, 3) := by decide +kernel
theorem dX3_playMarbles_13 : decode cX3_playMarbles 13 = .ok (.iload 6, 2) := by decide +kernel
theorem dX3_playMarbles_15 : decode cX3_playMarbles 15 = .ok (.iconst 1, 1) := by decide +kernel
theorem dX3_playMarbles_16 : decode cX3_playMarbles 16 = .ok (.if_icmp .ge 65, 3) := by decide +kernel
theorem dX3_playMarbles_19 : decode cX3_playMarbles 19 = .ok (.iload 7, 2) := by decide +kernel
theorem dX3_playMarbles_21 : decode cX3_playMarbles 21 = .ok (.invokestatic 54, 3) := by decide +kernel
theorem dX3_playMarbles_24 : decode cX3_playMarbles 24 = .ok (.lstore 8, 2) := by decide +kernel
theorem dX3_playMarbles_26 : decode cX3_playMarbles 26 = .ok (.lload_n 1, 1) := by decide +kernel
theorem dX3_playMarbles_27 : decode cX3_playMarbles 27 = .ok (.lload_n 3, 1) := by decide +kernel
theorem dX3_playMarbles_28 : decode cX3_playMarbles 28 = .ok (.lor, 1) := by decide +kernel
theorem dX3_playMarbles_29 : decode cX3_playMarbles 29 = .ok (.lload 8, 2) := by decide +kernel
theorem dX3_playMarbles_31 : decode cX3_playMarbles 31 = .ok (.land, 1) := by decide +kernel
theorem dX3_playMarbles_32 : decode cX3_playMarbles 32 = .ok (.lconst 0, 1) := by decide +kernel
theorem dX3_playMarbles_33 : decode cX3_playMarbles 33 = .ok (.lcmp, 1) := by decide +kernel
theorem dX3_playMarbles_34 : decode cX3_playMarbles 34 = .ok (.ifCond .ne 41, 3) := by decide +kernel
theorem dX3_playMarbles_37 : decode cX3_playMarbles 37 = .ok (.lload_n 1, 1) := by decide +kernel
theorem dX3_playMarbles_38 : decode cX3_playMarbles 38 = .ok (.lload 8, 2) := by decide +kernel
theorem dX3_playMarbles_40 : decode cX3_playMarbles 40 = .ok (.lor, 1) := by decide +kernel
theorem dX3_playMarbles_41 : decode cX3_playMarbles 41 = .ok (.invokestatic 58, 3) := by decide +kernel
theorem dX3_playMarbles_44 : decode cX3_playMarbles 44 = .ok (.ifCond .eq 7, 3) := by decide +kernel
theorem dX3_playMarbles_47 : decode cX3_playMarbles 47 = .ok (.iconst 1, 1) := by decide +kernel
theorem dX3_playMarbles_48 : decode cX3_playMarbles 48 = .ok (.goto 16, 3) := by decide +kernel
theorem dX3_playMarbles_51 : decode cX3_playMarbles 51 = .ok (.aload_n 0, 1) := by decide +kernel
theorem dX3_playMarbles_52 : decode cX3_playMarbles 52 = .ok (.lload_n 1, 1) := by decide +kernel
theorem dX3_playMarbles_53 : decode cX3_playMarbles 53 = .ok (.lload 8, 2) := by decide +kernel
theorem dX3_playMarbles_55 : decode cX3_playMarbles 55 = .ok (.lor, 1) := by decide +kernel
theorem dX3_playMarbles_56 : decode cX3_playMarbles 56 = .ok (.lload_n 3, 1) := by decide +kernel
theorem dX3_playMarbles_57 : decode cX3_playMarbles 57 = .ok (.iload 5, 2) := by decide +kernel
theorem dX3_playMarbles_59 : decode cX3_playMarbles 59 = .ok (.iconst 1, 1) := by decide +kernel
theorem dX3_playMarbles_60 : decode cX3_playMarbles 60 = .ok (.isub, 1) := by decide +kernel
theorem dX3_playMarbles_61 : decode cX3_playMarbles 61 = .ok (.invokevirtual 63, 3) := by decide +kernel
theorem dX3_playMarbles_64 : decode cX3_playMarbles 64 = .ok (.istore 10, 2) := by decide +kernel
theorem dX3_playMarbles_66 : decode cX3_playMarbles 66 = .ok (.iload 6, 2) := by decide +kernel
theorem dX3_playMarbles_68 : decode cX3_playMarbles 68 = .ok (.iload 10, 2) := by decide +kernel
theorem dX3_playMarbles_70 : decode cX3_playMarbles 70 = .ok (.invokestatic 48, 3) := by decide +kernel
theorem dX3_playMarbles_73 : decode cX3_playMarbles 73 = .ok (.istore 6, 2) := by decide +kernel
theorem dX3_playMarbles_75 : decode cX3_playMarbles 75 = .ok (.iinc 7 1, 3) := by decide +kernel
theorem dX3_playMarbles_78 : decode cX3_playMarbles 78 = .ok (.goto (-72), 3) := by decide +kernel
theorem dX3_playMarbles_81 : decode cX3_playMarbles 81 = .ok (.iload 6, 2) := by decide +kernel
theorem dX3_playMarbles_83 : decode cX3_playMarbles 83 = .ok (.ireturn, 1) := by decide +kernel
set_option maxRecDepth 20000 in
theorem ggX3_valueBehindTurn_X4_turned : GoodIn wsX3_valueBehindTurn wsX4_turned := goodIn_r _ [4, 5, 6, 7, 8, 3, 9, 10, 11, 12, 13, 14, 15, 16, 17, 18, 19, 20, 21, 22, 23, 24, 25, 26] (by decide +kernel) (by decide +kernel)
set_option maxRecDepth 20000 in
theorem gX3_valueBehindTurn_X4_turned : GoodIn wsX3_valueBehindTurn (va_wsS RX3 66 yX4_turned wsX4_turned) := goodIn_app (goodIn_of _ (by decide +kernel)) ggX3_valueBehindTurn_X4_turned
set_option maxRecDepth 20000 in
theorem ggX3_valueBehindTurn_X1_hasLine : GoodIn wsX3_valueBehindTurn wsX1_hasLine := goodIn_r _ [30, 31, 32, 33, 34, 35, 36, 29, 37] (by decide +kernel) (by decide +kernel)
set_option maxRecDepth 20000 in
theorem gX3_valueBehindTurn_X1_hasLine : GoodIn wsX3_valueBehindTurn (va_wsS RX3 58 yX1_hasLine wsX1_hasLine) := goodIn_app (goodIn_of _ (by decide +kernel)) ggX3_valueBehindTurn_X1_hasLine
set_option maxRecDepth 20000 in
theorem ggX3_valueBehindTurn_X3_valueToPut : GoodIn wsX3_valueBehindTurn wsX3_valueToPut := goodIn_r _ [53, 54, 55, 56, 57, 41, 58, 59, 60, 61, 62, 63, 64, 65, 66, 67, 68, 69, 70, 45, 71, 72, 73, 74, 75, 76, 77, 78, 79, 80, 81, 82, 83, 84, 85, 86, 87, 88, 89, 90, 91, 92, 93, 94, 95, 42, 43, 44, 46, 47, 48, 49, 27, 28, 29, 30, 31, 32, 33, 34, 35, 36, 37, 50, 51, 52, 0, 1, 2, 3, 4, 5, 6, 7, 8, 9, 10, 11, 12, 13, 14, 15, 16, 17, 18, 19, 20, 21, 22, 23, 24, 25, 26, 38, 39, 40, 96, 97, 98, 99, 100, 101, 102] (by decide +kernel) (by decide +kernel)
set_option maxRecDepth 20000 in
theorem gX3_valueBehindTurn_X3_valueToPut : GoodIn wsX3_valueBehindTurn (wsV RX3 72 RX3 yX3_valueToPut wsX3_valueToPut) := goodIn_app (goodIn_of _ (by decide +kernel)) ggX3_valueBehindTurn_X3_valueToPut
theorem dX3_valueBehindTurn_0 : decode cX3_valueBehindTurn 0 = .ok (.lload_n 1, 1) := by decide +kernel
theorem dX3_valueBehindTurn_1 : decode cX3_valueBehindTurn 1 = .ok (.iload 5, 2) := by decide +kernel
theorem dX3_valueBehindTurn_3 : decode cX3_valueBehindTurn 3 = .ok (.invokestatic 66, 3) := by decide +kernel
theorem dX3_valueBehindTurn_6 : decode cX3_valueBehindTurn 6 = .ok (.lstore 7, 2) := by decide +kernel
theorem dX3_valueBehindTurn_8 : decode cX3_valueBehindTurn 8 = .ok (.lload_n 3, 1) := by decide +kernel
theorem dX3_valueBehindTurn_9 : decode cX3_valueBehindTurn 9 = .ok (.iload 5, 2) := by decide +kernel
theorem dX3_valueBehindTurn_11 : decode cX3_valueBehindTurn 11 = .ok (.invokestatic 66, 3) := by decide +kernel
theorem dX3_valueBehindTurn_14 : decode cX3_valueBehindTurn 14 = .ok (.lstore 9, 2) := by decide +kernel
theorem dX3_valueBehindTurn_16 : decode cX3_valueBehindTurn 16 = .ok (.lload 7, 2) := by decide +kernel
theorem dX3_valueBehindTurn_18 : decode cX3_valueBehindTurn 18 = .ok (.invokestatic 58, 3) := by decide +kernel
theorem dX3_valueBehindTurn_21 : decode cX3_valueBehindTurn 21 = .ok (.istore 11, 2) := by decide +kernel
theorem dX3_valueBehindTurn_23 : decode cX3_valueBehindTurn 23 = .ok (.lload 9, 2) := by decide +kernel
theorem dX3_valueBehindTurn_25 : decode cX3_valueBehindTurn 25 = .ok (.invokestatic 58, 3) := by decide +kernel
theorem dX3_valueBehindTurn_28 : decode cX3_valueBehindTurn 28 = .ok (.istore 12, 2) := by decide +kernel
theorem dX3_valueBehindTurn_30 : decode cX3_valueBehindTurn 30 = .ok (.iload 11, 2) := by decide +kernel
theorem dX3_valueBehindTurn_32 : decode cX3_valueBehindTurn 32 = .ok (.iload 12, 2) := by decide +kernel
theorem dX3_valueBehindTurn_34 : decode cX3_valueBehindTurn 34 = .ok (.if_icmp .eq 14, 3) := by decide +kernel
theorem dX3_valueBehindTurn_37 : decode cX3_valueBehindTurn 37 = .ok (.iload 11, 2) := by decide +kernel
theorem dX3_valueBehindTurn_39 : decode cX3_valueBehindTurn 39 = .ok (.ifCond .eq 7, 3) := by decide +kernel
theorem dX3_valueBehindTurn_42 : decode cX3_valueBehindTurn 42 = .ok (.iconst 1, 1) := by decide +kernel
theorem dX3_valueBehindTurn_43 : decode cX3_valueBehindTurn 43 = .ok (.goto 4, 3) := by decide +kernel
theorem dX3_valueBehindTurn_46 : decode cX3_valueBehindTurn 46 = .ok (.iconst (-1), 1) := by decide +kernel
theorem dX3_valueBehindTurn_47 : decode cX3_valueBehindTurn 47 = .ok (.ireturn, 1) := by decide +kernel
theorem dX3_valueBehindTurn_48 : decode cX3_valueBehindTurn 48 = .ok (.iload 11, 2) := by decide +kernel
theorem dX3_valueBehindTurn_50 : decode cX3_valueBehindTurn 50 = .ok (.ifCond .eq 7, 3) := by decide +kernel
theorem dX3_valueBehindTurn_53 : decode cX3_valueBehindTurn 53 = .ok (.iconst 0, 1) := by decide +kernel
theorem dX3_valueBehindTurn_54 : decode cX3_valueBehindTurn 54 = .ok (.goto 14, 3) := by decide +kernel
theorem dX3_valueBehindTurn_57 : decode cX3_valueBehindTurn 57 = .ok (.aload_n 0, 1) := by decide +kernel
theorem dX3_valueBehindTurn_58 : decode cX3_valueBehindTurn 58 = .ok (.lload 9, 2) := by decide +kernel
theorem dX3_valueBehindTurn_60 : decode cX3_valueBehindTurn 60 = .ok (.lload 7, 2) := by decide +kernel
theorem dX3_valueBehindTurn_62 : decode cX3_valueBehindTurn 62 = .ok (.iload 6, 2) := by decide +kernel
theorem dX3_valueBehindTurn_64 : decode cX3_valueBehindTurn 64 = .ok (.invokevirtual 72, 3) := by decide +kernel
theorem dX3_valueBehindTurn_67 : decode cX3_valueBehindTurn 67 = .ok (.ineg, 1) := by decide +kernel
theorem dX3_valueBehindTurn_68 : decode cX3_valueBehindTurn 68 = .ok (.ireturn, 1) := by decide +kernel
theorem dX4_quarterOf_0 : decode cX4_quarterOf 0 = .ok (.iload_n 0, 1) := by decide +kernel
theorem dX4_quarterOf_1 : decode cX4_quarterOf 1 = .ok (.iconst 2, 1) := by decide +kernel
theorem dX4_quarterOf_2 : decode cX4_quarterOf 2 = .ok (.idiv, 1) := by decide +kernel
theorem dX4_quarterOf_3 : decode cX4_quarterOf 3 = .ok (.ireturn, 1) := by decide +kernel
theorem dX4_wayOf_0 : decode cX4_wayOf 0 = .ok (.iload_n 0, 1) := by decide +kernel
theorem dX4_wayOf_1 : decode cX4_wayOf 1 = .ok (.iconst 2, 1) := by decide +kernel
theorem dX4_wayOf_2 : decode cX4_wayOf 2 = .ok (.irem, 1) := by decide +kernel
theorem dX4_wayOf_3 : decode cX4_wayOf 3 = .ok (.ireturn, 1) := by decide +kernel
set_option maxRecDepth 20000 in
theorem ggX4_opposite_X4_quarterOf : GoodIn wsX4_opposite wsX4_quarterOf := goodIn_r _ [4] (by decide +kernel) (by decide +kernel)
set_option maxRecDepth 20000 in
theorem gX4_opposite_X4_quarterOf : GoodIn wsX4_opposite (va_wsS RX4 9 yX4_quarterOf wsX4_quarterOf) := goodIn_app (goodIn_of _ (by decide +kernel)) ggX4_opposite_X4_quarterOf
set_option maxRecDepth 20000 in
theorem ggX4_opposite_X4_wayOf : GoodIn wsX4_opposite wsX4_wayOf := goodIn_r _ [7] (by decide +kernel) (by decide +kernel)
set_option maxRecDepth 20000 in
theorem gX4_opposite_X4_wayOf : GoodIn wsX4_opposite (va_wsS RX4 15 yX4_wayOf wsX4_wayOf) := goodIn_app (goodIn_of _ (by decide +kernel)) ggX4_opposite_X4_wayOf
set_option maxRecDepth 20000 in
theorem ggX4_opposite_X6_turnNumber : GoodIn wsX4_opposite wsX6_turnNumber := goodIn_r _ [10] (by decide +kernel) (by decide +kernel)
set_option maxRecDepth 20000 in
theorem gX4_opposite_X6_turnNumber_n18 : GoodIn wsX4_opposite (wsX6_turnNumber) := ggX4_opposite_X6_turnNumber
theorem dX4_opposite_0 : decode cX4_opposite 0 = .ok (.iload_n 0, 1) := by decide +kernel
theorem dX4_opposite_1 : decode cX4_opposite 1 = .ok (.invokestatic 9, 3) := by decide +kernel
theorem dX4_opposite_4 : decode cX4_opposite 4 = .ok (.iconst 1, 1) := by decide +kernel
theorem dX4_opposite_5 : decode cX4_opposite 5 = .ok (.iload_n 0, 1) := by decide +kernel
theorem dX4_opposite_6 : decode cX4_opposite 6 = .ok (.invokestatic 15, 3) := by decide +kernel
theorem dX4_opposite_9 : decode cX4_opposite 9 = .ok (.isub, 1) := by decide +kernel
theorem dX4_opposite_10 : decode cX4_opposite 10 = .ok (.invokestatic 18, 3) := by decide +kernel
theorem dX4_opposite_13 : decode cX4_opposite 13 = .ok (.ireturn, 1) := by decide +kernel
set_option maxRecDepth 20000 in
theorem ggX4_turned_X4_quarterOf : GoodIn wsX4_turned wsX4_quarterOf := goodIn_r _ [6] (by decide +kernel) (by decide +kernel)
set_option maxRecDepth 20000 in
theorem gX4_turned_X4_quarterOf : GoodIn wsX4_turned (va_wsS RX4 9 yX4_quarterOf wsX4_quarterOf) := goodIn_app (goodIn_of _ (by decide +kernel)) ggX4_turned_X4_quarterOf
set_option maxRecDepth 20000 in
theorem ggX4_turned_X4_wayOf : GoodIn wsX4_turned wsX4_wayOf := goodIn_r _ [9] (by decide +kernel) (by decide +kernel)
set_option maxRecDepth 20000 in
theorem gX4_turned_X4_wayOf : GoodIn wsX4_turned (va_wsS RX4 15 yX4_wayOf wsX4_wayOf) := goodIn_app (goodIn_of _ (by decide +kernel)) ggX4_turned_X4_wayOf
set_option maxRecDepth 20000 in
theorem ggX4_turned_X4_clockwise : GoodIn wsX4_turned wsX4_clockwise := goodIn_r _ [12, 13, 14, 15, 16, 17, 18, 19, 20] (by decide +kernel) (by decide +kernel)
set_option maxRecDepth 20000 in
theorem gX4_turned_X4_clockwise : GoodIn wsX4_turned (va_wsS RX4 24 yX4_clockwise wsX4_clockwise) := goodIn_app (goodIn_of _ (by decide +kernel)) ggX4_turned_X4_clockwise
set_option maxRecDepth 20000 in
theorem ggX4_turned_X4_anticlockwise : GoodIn wsX4_turned wsX4_anticlockwise := goodIn_r _ [23, 15, 14, 13, 16, 19, 18, 17, 20] (by decide +kernel) (by decide +kernel)
set_option maxRecDepth 20000 in
theorem gX4_turned_X4_anticlockwise : GoodIn wsX4_turned (va_wsS RX4 28 yX4_anticlockwise wsX4_anticlockwise) := goodIn_app (goodIn_of _ (by decide +kernel)) ggX4_turned_X4_anticlockwise
theorem dX4_turned_0 : decode cX4_turned 0 = .ok (.iload_n 2, 1) := by decide +kernel
theorem dX4_turned_1 : decode cX4_turned 1 = .ok (.invokestatic 9, 3) := by decide +kernel
theorem dX4_turned_4 : decode cX4_turned 4 = .ok (.istore_n 3, 1) := by decide +kernel
theorem dX4_turned_5 : decode cX4_turned 5 = .ok (.iload_n 3, 1) := by decide +kernel
theorem dX4_turned_6 : decode cX4_turned 6 = .ok (.iconst 2, 1) := by decide +kernel
theorem dX4_turned_7 : decode cX4_turned 7 = .ok (.idiv, 1) := by decide +kernel
theorem dX4_turned_8 : decode cX4_turned 8 = .ok (.bipush 18, 2) := by decide +kernel
theorem dX4_turned_10 : decode cX4_turned 10 = .ok (.imul, 1) := by decide +kernel
theorem dX4_turned_11 : decode cX4_turned 11 = .ok (.iload_n 3, 1) := by decide +kernel
theorem dX4_turned_12 : decode cX4_turned 12 = .ok (.iconst 2, 1) := by decide +kernel
theorem dX4_turned_13 : decode cX4_turned 13 = .ok (.irem, 1) := by decide +kernel
theorem dX4_turned_14 : decode cX4_turned 14 = .ok (.iconst 3, 1) := by decide +kernel
theorem dX4_turned_15 : decode cX4_turned 15 = .ok (.imul, 1) := by decide +kernel
theorem dX4_turned_16 : decode cX4_turned 16 = .ok (.iadd, 1) := by decide +kernel
theorem dX4_turned_17 : decode cX4_turned 17 = .ok (.istore 4, 2) := by decide +kernel
theorem dX4_turned_19 : decode cX4_turned 19 = .ok (.lload_n 0, 1) := by decide +kernel
theorem dX4_turned_20 : decode cX4_turned 20 = .ok (.iload 4, 2) := by decide +kernel
theorem dX4_turned_22 : decode cX4_turned 22 = .ok (.lushr, 1) := by decide +kernel
theorem dX4_turned_23 : decode cX4_turned 23 = .ok (.ldc2_w 22, 3) := by decide +kernel
theorem dX4_turned_26 : decode cX4_turned 26 = .ok (.land, 1) := by decide +kernel
theorem dX4_turned_27 : decode cX4_turned 27 = .ok (.lstore 5, 2) := by decide +kernel
theorem dX4_turned_29 : decode cX4_turned 29 = .ok (.iload_n 2, 1) := by decide +kernel
theorem dX4_turned_30 : decode cX4_turned 30 = .ok (.invokestatic 15, 3) := by decide +kernel
theorem dX4_turned_33 : decode cX4_turned 33 = .ok (.ifCond .ne 11, 3) := by decide +kernel
theorem dX4_turned_36 : decode cX4_turned 36 = .ok (.lload 5, 2) := by decide +kernel
theorem dX4_turned_38 : decode cX4_turned 38 = .ok (.invokestatic 24, 3) := by decide +kernel
theorem dX4_turned_41 : decode cX4_turned 41 = .ok (.goto 8, 3) := by decide +kernel
theorem dX4_turned_44 : decode cX4_turned 44 = .ok (.lload 5, 2) := by decide +kernel
theorem dX4_turned_46 : decode cX4_turned 46 = .ok (.invokestatic 28, 3) := by decide +kernel
theorem dX4_turned_49 : decode cX4_turned 49 = .ok (.lstore 7, 2) := by decide +kernel
theorem dX4_turned_51 : decode cX4_turned 51 = .ok (.lload_n 0, 1) := by decide +kernel
theorem dX4_turned_52 : decode cX4_turned 52 = .ok (.ldc2_w 22, 3) := by decide +kernel
theorem dX4_turned_55 : decode cX4_turned 55 = .ok (.iload 4, 2) := by decide +kernel
theorem dX4_turned_57 : decode cX4_turned 57 = .ok (.lshl, 1) := by decide +kernel
theorem dX4_turned_58 : decode cX4_turned 58 = .ok (.ldc2_w 31, 3) := by decide +kernel
theorem dX4_turned_61 : decode cX4_turned 61 = .ok (.lxor, 1) := by decide +kernel
theorem dX4_turned_62 : decode cX4_turned 62 = .ok (.land, 1) := by decide +kernel
theorem dX4_turned_63 : decode cX4_turned 63 = .ok (.lload 7, 2) := by decide +kernel
theorem dX4_turned_65 : decode cX4_turned 65 = .ok (.iload 4, 2) := by decide +kernel
theorem dX4_turned_67 : decode cX4_turned 67 = .ok (.lshl, 1) := by decide +kernel
theorem dX4_turned_68 : decode cX4_turned 68 = .ok (.lor, 1) := by decide +kernel
theorem dX4_turned_69 : decode cX4_turned 69 = .ok (.lreturn, 1) := by decide +kernel
theorem dX4_clockwise_0 : decode cX4_clockwise 0 = .ok (.lload_n 0, 1) := by decide +kernel
theorem dX4_clockwise_1 : decode cX4_clockwise 1 = .ok (.lconst 1, 1) := by decide +kernel
theorem dX4_clockwise_2 : decode cX4_clockwise 2 = .ok (.land, 1) := by decide +kernel
theorem dX4_clockwise_3 : decode cX4_clockwise 3 = .ok (.iconst 2, 1) := by decide +kernel
theorem dX4_clockwise_4 : decode cX4_clockwise 4 = .ok (.lshl, 1) := by decide +kernel
theorem dX4_clockwise_5 : decode cX4_clockwise 5 = .ok (.lload_n 0, 1) := by decide +kernel
theorem dX4_clockwise_6 : decode cX4_clockwise 6 = .ok (.ldc2_w 33, 3) := by decide +kernel
theorem dX4_clockwise_9 : decode cX4_clockwise 9 = .ok (.land, 1) := by decide +kernel
theorem dX4_clockwise_10 : decode cX4_clockwise 10 = .ok (.bipush 12, 2) := by decide +kernel
theorem dX4_clockwise_12 : decode cX4_clockwise 12 = .ok (.lshl, 1) := by decide +kernel
theorem dX4_clockwise_13 : decode cX4_clockwise 13 = .ok (.lor, 1) := by decide +kernel
theorem dX4_clockwise_14 : decode cX4_clockwise 14 = .ok (.lload_n 0, 1) := by decide +kernel
theorem dX4_clockwise_15 : decode cX4_clockwise 15 = .ok (.ldc2_w 35, 3) := by decide +kernel
theorem dX4_clockwise_18 : decode cX4_clockwise 18 = .ok (.land, 1) := by decide +kernel
theorem dX4_clockwise_19 : decode cX4_clockwise 19 = .ok (.iconst 2, 1) := by decide +kernel
theorem dX4_clockwise_20 : decode cX4_clockwise 20 = .ok (.lushr, 1) := by decide +kernel
theorem dX4_clockwise_21 : decode cX4_clockwise 21 = .ok (.lor, 1) := by decide +kernel
theorem dX4_clockwise_22 : decode cX4_clockwise 22 = .ok (.lload_n 0, 1) := by decide +kernel
theorem dX4_clockwise_23 : decode cX4_clockwise 23 = .ok (.ldc2_w 37, 3) := by decide +kernel
theorem dX4_clockwise_26 : decode cX4_clockwise 26 = .ok (.land, 1) := by decide +kernel
theorem dX4_clockwise_27 : decode cX4_clockwise 27 = .ok (.bipush 12, 2) := by decide +kernel
theorem dX4_clockwise_29 : decode cX4_clockwise 29 = .ok (.lushr, 1) := by decide +kernel
theorem dX4_clockwise_30 : decode cX4_clockwise 30 = .ok (.lor, 1) := by decide +kernel
theorem dX4_clockwise_31 : decode cX4_clockwise 31 = .ok (.lstore_n 2, 1) := by decide +kernel
theorem dX4_clockwise_32 : decode cX4_clockwise 32 = .ok (.lload_n 0, 1) := by decide +kernel
theorem dX4_clockwise_33 : decode cX4_clockwise 33 = .ok (.ldc2_w 39, 3) := by decide +kernel
theorem dX4_clockwise_36 : decode cX4_clockwise 36 = .ok (.land, 1) := by decide +kernel
theorem dX4_clockwise_37 : decode cX4_clockwise 37 = .ok (.bipush 7, 2) := by decide +kernel
theorem dX4_clockwise_39 : decode cX4_clockwise 39 = .ok (.lshl, 1) := by decide +kernel
theorem dX4_clockwise_40 : decode cX4_clockwise 40 = .ok (.lload_n 0, 1) := by decide +kernel
theorem dX4_clockwise_41 : decode cX4_clockwise 41 = .ok (.ldc2_w 41, 3) := by decide +kernel
theorem dX4_clockwise_44 : decode cX4_clockwise 44 = .ok (.land, 1) := by decide +kernel
theorem dX4_clockwise_45 : decode cX4_clockwise 45 = .ok (.iconst 5, 1) := by decide +kernel
theorem dX4_clockwise_46 : decode cX4_clockwise 46 = .ok (.lshl, 1) := by decide +kernel
theorem dX4_clockwise_47 : decode cX4_clockwise 47 = .ok (.lor, 1) := by decide +kernel
theorem dX4_clockwise_48 : decode cX4_clockwise 48 = .ok (.lload_n 0, 1) := by decide +kernel
theorem dX4_clockwise_49 : decode cX4_clockwise 49 = .ok (.ldc2_w 43, 3) := by decide +kernel
theorem dX4_clockwise_52 : decode cX4_clockwise 52 = .ok (.land, 1) := by decide +kernel
theorem dX4_clockwise_53 : decode cX4_clockwise 53 = .ok (.bipush 7, 2) := by decide +kernel
theorem dX4_clockwise_55 : decode cX4_clockwise 55 = .ok (.lushr, 1) := by decide +kernel
theorem dX4_clockwise_56 : decode cX4_clockwise 56 = .ok (.lor, 1) := by decide +kernel
theorem dX4_clockwise_57 : decode cX4_clockwise 57 = .ok (.lload_n 0, 1) := by decide +kernel
theorem dX4_clockwise_58 : decode cX4_clockwise 58 = .ok (.ldc2_w 45, 3) := by decide +kernel
theorem dX4_clockwise_61 : decode cX4_clockwise 61 = .ok (.land, 1) := by decide +kernel
theorem dX4_clockwise_62 : decode cX4_clockwise 62 = .ok (.iconst 5, 1) := by decide +kernel
theorem dX4_clockwise_63 : decode cX4_clockwise 63 = .ok (.lushr, 1) := by decide +kernel
theorem dX4_clockwise_64 : decode cX4_clockwise 64 = .ok (.lor, 1) := by decide +kernel
theorem dX4_clockwise_65 : decode cX4_clockwise 65 = .ok (.lstore 4, 2) := by decide +kernel
theorem dX4_clockwise_67 : decode cX4_clockwise 67 = .ok (.lload_n 2, 1) := by decide +kernel
theorem dX4_clockwise_68 : decode cX4_clockwise 68 = .ok (.lload 4, 2) := by decide +kernel
theorem dX4_clockwise_70 : decode cX4_clockwise 70 = .ok (.lor, 1) := by decide +kernel
theorem dX4_clockwise_71 : decode cX4_clockwise 71 = .ok (.lload_n 0, 1) := by decide +kernel
theorem dX4_clockwise_72 : decode cX4_clockwise 72 = .ok (.ldc2_w 47, 3) := by decide +kernel
theorem dX4_clockwise_75 : decode cX4_clockwise 75 = .ok (.land, 1) := by decide +kernel
theorem dX4_clockwise_76 : decode cX4_clockwise 76 = .ok (.lor, 1) := by decide +kernel
theorem dX4_clockwise_77 : decode cX4_clockwise 77 = .ok (.lreturn, 1) := by decide +kernel
theorem dX4_anticlockwise_0 : decode cX4_anticlockwise 0 = .ok (.lload_n 0, 1) := by decide +kernel
theorem dX4_anticlockwise_1 : decode cX4_anticlockwise 1 = .ok (.lconst 1, 1) := by decide +kernel
theorem dX4_anticlockwise_2 : decode cX4_anticlockwise 2 = .ok (.land, 1) := by decide +kernel
theorem dX4_anticlockwise_3 : decode cX4_anticlockwise 3 = .ok (.bipush 12, 2) := by decide +kernel
theorem dX4_anticlockwise_5 : decode cX4_anticlockwise 5 = .ok (.lshl, 1) := by decide +kernel
theorem dX4_anticlockwise_6 : decode cX4_anticlockwise 6 = .ok (.lload_n 0, 1) := by decide +kernel
theorem dX4_anticlockwise_7 : decode cX4_anticlockwise 7 = .ok (.ldc2_w 37, 3) := by decide +kernel
theorem dX4_anticlockwise_10 : decode cX4_anticlockwise 10 = .ok (.land, 1) := by decide +kernel
theorem dX4_anticlockwise_11 : decode cX4_anticlockwise 11 = .ok (.iconst 2, 1) := by decide +kernel
theorem dX4_anticlockwise_12 : decode cX4_anticlockwise 12 = .ok (.lshl, 1) := by decide +kernel
theorem dX4_anticlockwise_13 : decode cX4_anticlockwise 13 = .ok (.lor, 1) := by decide +kernel
theorem dX4_anticlockwise_14 : decode cX4_anticlockwise 14 = .ok (.lload_n 0, 1) := by decide +kernel
theorem dX4_anticlockwise_15 : decode cX4_anticlockwise 15 = .ok (.ldc2_w 35, 3) := by decide +kernel
theorem dX4_anticlockwise_18 : decode cX4_anticlockwise 18 = .ok (.land, 1) := by decide +kernel
theorem dX4_anticlockwise_19 : decode cX4_anticlockwise 19 = .ok (.bipush 12, 2) := by decide +kernel
theorem dX4_anticlockwise_21 : decode cX4_anticlockwise 21 = .ok (.lushr, 1) := by decide +kernel
theorem dX4_anticlockwise_22 : decode cX4_anticlockwise 22 = .ok (.lor, 1) := by decide +kernel
theorem dX4_anticlockwise_23 : decode cX4_anticlockwise 23 = .ok (.lload_n 0, 1) := by decide +kernel
theorem dX4_anticlockwise_24 : decode cX4_anticlockwise 24 = .ok (.ldc2_w 33, 3) := by decide +kernel
theorem dX4_anticlockwise_27 : decode cX4_anticlockwise 27 = .ok (.land, 1) := by decide +kernel
theorem dX4_anticlockwise_28 : decode cX4_anticlockwise 28 = .ok (.iconst 2, 1) := by decide +kernel
theorem dX4_anticlockwise_29 : decode cX4_anticlockwise 29 = .ok (.lushr, 1) := by decide +kernel
theorem dX4_anticlockwise_30 : decode cX4_anticlockwise 30 = .ok (.lor, 1) := by decide +kernel
theorem dX4_anticlockwise_31 : decode cX4_anticlockwise 31 = .ok (.lstore_n 2, 1) := by decide +kernel
theorem dX4_anticlockwise_32 : decode cX4_anticlockwise 32 = .ok (.lload_n 0, 1) := by decide +kernel
theorem dX4_anticlockwise_33 : decode cX4_anticlockwise 33 = .ok (.ldc2_w 39, 3) := by decide +kernel
theorem dX4_anticlockwise_36 : decode cX4_anticlockwise 36 = .ok (.land, 1) := by decide +kernel
theorem dX4_anticlockwise_37 : decode cX4_anticlockwise 37 = .ok (.iconst 5, 1) := by decide +kernel
theorem dX4_anticlockwise_38 : decode cX4_anticlockwise 38 = .ok (.lshl, 1) := by decide +kernel
theorem dX4_anticlockwise_39 : decode cX4_anticlockwise 39 = .ok (.lload_n 0, 1) := by decide +kernel
theorem dX4_anticlockwise_40 : decode cX4_anticlockwise 40 = .ok (.ldc2_w 45, 3) := by decide +kernel
theorem dX4_anticlockwise_43 : decode cX4_anticlockwise 43 = .ok (.land, 1) := by decide +kernel
theorem dX4_anticlockwise_44 : decode cX4_anticlockwise 44 = .ok (.bipush 7, 2) := by decide +kernel
theorem dX4_anticlockwise_46 : decode cX4_anticlockwise 46 = .ok (.lshl, 1) := by decide +kernel
theorem dX4_anticlockwise_47 : decode cX4_anticlockwise 47 = .ok (.lor, 1) := by decide +kernel
theorem dX4_anticlockwise_48 : decode cX4_anticlockwise 48 = .ok (.lload_n 0, 1) := by decide +kernel
theorem dX4_anticlockwise_49 : decode cX4_anticlockwise 49 = .ok (.ldc2_w 43, 3) := by decide +kernel
theorem dX4_anticlockwise_52 : decode cX4_anticlockwise 52 = .ok (.land, 1) := by decide +kernel
theorem dX4_anticlockwise_53 : decode cX4_anticlockwise 53 = .ok (.iconst 5, 1) := by decide +kernel
theorem dX4_anticlockwise_54 : decode cX4_anticlockwise 54 = .ok (.lushr, 1) := by decide +kernel
theorem dX4_anticlockwise_55 : decode cX4_anticlockwise 55 = .ok (.lor, 1) := by decide +kernel
theorem dX4_anticlockwise_56 : decode cX4_anticlockwise 56 = .ok (.lload_n 0, 1) := by decide +kernel
theorem dX4_anticlockwise_57 : decode cX4_anticlockwise 57 = .ok (.ldc2_w 41, 3) := by decide +kernel
theorem dX4_anticlockwise_60 : decode cX4_anticlockwise 60 = .ok (.land, 1) := by decide +kernel
theorem dX4_anticlockwise_61 : decode cX4_anticlockwise 61 = .ok (.bipush 7, 2) := by decide +kernel
theorem dX4_anticlockwise_63 : decode cX4_anticlockwise 63 = .ok (.lushr, 1) := by decide +kernel
theorem dX4_anticlockwise_64 : decode cX4_anticlockwise 64 = .ok (.lor, 1) := by decide +kernel
theorem dX4_anticlockwise_65 : decode cX4_anticlockwise 65 = .ok (.lstore 4, 2) := by decide +kernel
theorem dX4_anticlockwise_67 : decode cX4_anticlockwise 67 = .ok (.lload_n 2, 1) := by decide +kernel
theorem dX4_anticlockwise_68 : decode cX4_anticlockwise 68 = .ok (.lload 4, 2) := by decide +kernel
theorem dX4_anticlockwise_70 : decode cX4_anticlockwise 70 = .ok (.lor, 1) := by decide +kernel
theorem dX4_anticlockwise_71 : decode cX4_anticlockwise 71 = .ok (.lload_n 0, 1) := by decide +kernel
theorem dX4_anticlockwise_72 : decode cX4_anticlockwise 72 = .ok (.ldc2_w 47, 3) := by decide +kernel
theorem dX4_anticlockwise_75 : decode cX4_anticlockwise 75 = .ok (.land, 1) := by decide +kernel
theorem dX4_anticlockwise_76 : decode cX4_anticlockwise 76 = .ok (.lor, 1) := by decide +kernel
theorem dX4_anticlockwise_77 : decode cX4_anticlockwise 77 = .ok (.lreturn, 1) := by decide +kernel
theorem dX5_init_0 : decode cX5_init 0 = .ok (.aload_n 0, 1) := by decide +kernel
theorem dX5_init_1 : decode cX5_init 1 = .ok (.invokespecial 3, 3) := by decide +kernel
theorem dX5_init_4 : decode cX5_init 4 = .ok (.aload_n 0, 1) := by decide +kernel
theorem dX5_init_5 : decode cX5_init 5 = .ok (.sipush 1024, 3) := by decide +kernel
theorem dX5_init_8 : decode cX5_init 8 = .ok (.newarray .long, 2) := by decide +kernel
theorem dX5_init_10 : decode cX5_init 10 = .ok (.putfield 9, 3) := by decide +kernel
theorem dX5_init_13 : decode cX5_init 13 = .ok (.aload_n 0, 1) := by decide +kernel
theorem dX5_init_14 : decode cX5_init 14 = .ok (.sipush 1024, 3) := by decide +kernel
theorem dX5_init_17 : decode cX5_init 17 = .ok (.newarray .int, 2) := by decide +kernel
theorem dX5_init_19 : decode cX5_init 19 = .ok (.putfield 13, 3) := by decide +kernel
theorem dX5_init_22 : decode cX5_init 22 = .ok (.return_, 1) := by decide +kernel
set_option maxRecDepth 20000 in
theorem ggX5_holds_X5_slotOf : GoodIn wsX5_holds wsX5_slotOf := goodIn_r _ [5, 6] (by decide +kernel) (by decide +kernel)
set_option maxRecDepth 20000 in
theorem gX5_holds_X5_slotOf : GoodIn wsX5_holds (va_wsS RX5 17 yX5_slotOf wsX5_slotOf) := goodIn_app (goodIn_of _ (by decide +kernel)) ggX5_holds_X5_slotOf
theorem dX5_holds_0 : decode cX5_holds 0 = .ok (.aload_n 0, 1) := by decide +kernel
theorem dX5_holds_1 : decode cX5_holds 1 = .ok (.getfield 9, 3) := by decide +kernel
theorem dX5_holds_4 : decode cX5_holds 4 = .ok (.lload_n 1, 1) := by decide +kernel
theorem dX5_holds_5 : decode cX5_holds 5 = .ok (.invokestatic 17, 3) := by decide +kernel
theorem dX5_holds_8 : decode cX5_holds 8 = .ok (.laload, 1) := by decide +kernel
theorem dX5_holds_9 : decode cX5_holds 9 = .ok (.lload_n 1, 1) := by decide +kernel
theorem dX5_holds_10 : decode cX5_holds 10 = .ok (.lcmp, 1) := by decide +kernel
theorem dX5_holds_11 : decode cX5_holds 11 = .ok (.ifCond .ne 7, 3) := by decide +kernel
theorem dX5_holds_14 : decode cX5_holds 14 = .ok (.iconst 1, 1) := by decide +kernel
theorem dX5_holds_15 : decode cX5_holds 15 = .ok (.goto 4, 3) := by decide +kernel
theorem dX5_holds_18 : decode cX5_holds 18 = .ok (.iconst 0, 1) := by decide +kernel
theorem dX5_holds_19 : decode cX5_holds 19 = .ok (.ireturn, 1) := by decide +kernel
set_option maxRecDepth 20000 in
theorem ggX5_valueOf_X5_slotOf : GoodIn wsX5_valueOf wsX5_slotOf := goodIn_r _ [5, 6] (by decide +kernel) (by decide +kernel)
set_option maxRecDepth 20000 in
theorem gX5_valueOf_X5_slotOf : GoodIn wsX5_valueOf (va_wsS RX5 17 yX5_slotOf wsX5_slotOf) := goodIn_app (goodIn_of _ (by decide +kernel)) ggX5_valueOf_X5_slotOf
theorem dX5_valueOf_0 : decode cX5_valueOf 0 = .ok (.aload_n 0, 1) := by decide +kernel
theorem dX5_valueOf_1 : decode cX5_valueOf 1 = .ok (.getfield 13, 3) := by decide +kernel
theorem dX5_valueOf_4 : decode cX5_valueOf 4 = .ok (.lload_n 1, 1) := by decide +kernel
theorem dX5_valueOf_5 : decode cX5_valueOf 5 = .ok (.invokestatic 17, 3) := by decide +kernel
theorem dX5_valueOf_8 : decode cX5_valueOf 8 = .ok (.iaload, 1) := by decide +kernel
theorem dX5_valueOf_9 : decode cX5_valueOf 9 = .ok (.ireturn, 1) := by decide +kernel
set_option maxRecDepth 20000 in
theorem ggX5_keep_X5_slotOf : GoodIn wsX5_keep wsX5_slotOf := goodIn_r _ [6, 7] (by decide +kernel) (by decide +kernel)
set_option maxRecDepth 20000 in
theorem gX5_keep_X5_slotOf : GoodIn wsX5_keep (va_wsS RX5 17 yX5_slotOf wsX5_slotOf) := goodIn_app (goodIn_of _ (by decide +kernel)) ggX5_keep_X5_slotOf
theorem dX5_keep_0 : decode cX5_keep 0 = .ok (.lload_n 1, 1) := by decide +kernel
theorem dX5_keep_1 : decode cX5_keep 1 = .ok (.invokestatic 17, 3) := by decide +kernel
theorem dX5_keep_4 : decode cX5_keep 4 = .ok (.istore 4, 2) := by decide +kernel
theorem dX5_keep_6 : decode cX5_keep 6 = .ok (.aload_n 0, 1) := by decide +kernel
theorem dX5_keep_7 : decode cX5_keep 7 = .ok (.getfield 9, 3) := by decide +kernel
theorem dX5_keep_10 : decode cX5_keep 10 = .ok (.iload 4, 2) := by decide +kernel
theorem dX5_keep_12 : decode cX5_keep 12 = .ok (.lload_n 1, 1) := by decide +kernel
theorem dX5_keep_13 : decode cX5_keep 13 = .ok (.lastore, 1) := by decide +kernel
theorem dX5_keep_14 : decode cX5_keep 14 = .ok (.aload_n 0, 1) := by decide +kernel
theorem dX5_keep_15 : decode cX5_keep 15 = .ok (.getfield 13, 3) := by decide +kernel
theorem dX5_keep_18 : decode cX5_keep 18 = .ok (.iload 4, 2) := by decide +kernel
theorem dX5_keep_20 : decode cX5_keep 20 = .ok (.iload_n 3, 1) := by decide +kernel
theorem dX5_keep_21 : decode cX5_keep 21 = .ok (.iastore, 1) := by decide +kernel
theorem dX5_keep_22 : decode cX5_keep 22 = .ok (.return_, 1) := by decide +kernel
theorem dX5_slotOf_0 : decode cX5_slotOf 0 = .ok (.lload_n 0, 1) := by decide +kernel
theorem dX5_slotOf_1 : decode cX5_slotOf 1 = .ok (.ldc2_w 21, 3) := by decide +kernel
theorem dX5_slotOf_4 : decode cX5_slotOf 4 = .ok (.lmul, 1) := by decide +kernel
theorem dX5_slotOf_5 : decode cX5_slotOf 5 = .ok (.bipush 54, 2) := by decide +kernel
theorem dX5_slotOf_7 : decode cX5_slotOf 7 = .ok (.lushr, 1) := by decide +kernel
theorem dX5_slotOf_8 : decode cX5_slotOf 8 = .ok (.l2i, 1) := by decide +kernel
theorem dX5_slotOf_9 : decode cX5_slotOf 9 = .ok (.istore_n 2, 1) := by decide +kernel
theorem dX5_slotOf_10 : decode cX5_slotOf 10 = .ok (.iload_n 2, 1) := by decide +kernel
theorem dX5_slotOf_11 : decode cX5_slotOf 11 = .ok (.ifCond .lt 14, 3) := by decide +kernel
theorem dX5_slotOf_14 : decode cX5_slotOf 14 = .ok (.iload_n 2, 1) := by decide +kernel
theorem dX5_slotOf_15 : decode cX5_slotOf 15 = .ok (.sipush 1024, 3) := by decide +kernel
theorem dX5_slotOf_18 : decode cX5_slotOf 18 = .ok (.if_icmp .ge 7, 3) := by decide +kernel
theorem dX5_slotOf_21 : decode cX5_slotOf 21 = .ok (.iload_n 2, 1) := by decide +kernel
theorem dX5_slotOf_22 : decode cX5_slotOf 22 = .ok (.goto 4, 3) := by decide +kernel
theorem dX5_slotOf_25 : decode cX5_slotOf 25 = .ok (.iconst 0, 1) := by decide +kernel
theorem dX5_slotOf_26 : decode cX5_slotOf 26 = .ok (.ireturn, 1) := by decide +kernel
set_option maxRecDepth 20000 in
theorem ggX6_init_X2_init : GoodIn wsX6_init wsX2_init := goodIn_r _ [18, 19, 2, 3, 20, 21, 22, 34, 35, 36] (by decide +kernel) (by decide +kernel)
set_option maxRecDepth 20000 in
theorem gX6_init_X2_init_n11 : GoodIn wsX6_init (wsX2_init) := ggX6_init_X2_init
set_option maxRecDepth 20000 in
theorem ggX6_init_X5_init : GoodIn wsX6_init wsX5_init := goodIn_r _ [24, 25, 2, 3, 26, 27, 20, 28, 45, 46] (by decide +kernel) (by decide +kernel)
set_option maxRecDepth 20000 in
theorem gX6_init_X5_init_n20 : GoodIn wsX6_init (wsX5_init) := ggX6_init_X5_init
set_option maxRecDepth 20000 in
theorem ggX6_init_X3_init : GoodIn wsX6_init wsX3_init := goodIn_r _ [31, 32, 2, 3, 33, 44] (by decide +kernel) (by decide +kernel)
set_option maxRecDepth 20000 in
theorem gX6_init_X3_init : GoodIn wsX6_init (wsX3_init) := ggX6_init_X3_init
theorem dX6_init_0 : decode cX6_init 0 = .ok (.aload_n 0, 1) := by decide +kernel
theorem dX6_init_1 : decode cX6_init 1 = .ok (.invokespecial 3, 3) := by decide +kernel
theorem dX6_init_4 : decode cX6_init 4 = .ok (.aload_n 0, 1) := by decide +kernel
theorem dX6_init_5 : decode cX6_init 5 = .ok (.new 9, 3) := by decide +kernel
theorem dX6_init_8 : decode cX6_init 8 = .ok (.dup, 1) := by decide +kernel
theorem dX6_init_9 : decode cX6_init 9 = .ok (.invokespecial 11, 3) := by decide +kernel
theorem dX6_init_12 : decode cX6_init 12 = .ok (.putfield 12, 3) := by decide +kernel
theorem dX6_init_15 : decode cX6_init 15 = .ok (.aload_n 0, 1) := by decide +kernel
theorem dX6_init_16 : decode cX6_init 16 = .ok (.new 16, 3) := by decide +kernel
theorem dX6_init_19 : decode cX6_init 19 = .ok (.dup, 1) := by decide +kernel
theorem dX6_init_20 : decode cX6_init 20 = .ok (.new 18, 3) := by decide +kernel
theorem dX6_init_23 : decode cX6_init 23 = .ok (.dup, 1) := by decide +kernel
theorem dX6_init_24 : decode cX6_init 24 = .ok (.invokespecial 20, 3) := by decide +kernel
theorem dX6_init_27 : decode cX6_init 27 = .ok (.invokespecial 21, 3) := by decide +kernel
theorem dX6_init_30 : decode cX6_init 30 = .ok (.putfield 24, 3) := by decide +kernel
theorem dX6_init_33 : decode cX6_init 33 = .ok (.aload_n 0, 1) := by decide +kernel
theorem dX6_init_34 : decode cX6_init 34 = .ok (.new 16, 3) := by decide +kernel
theorem dX6_init_37 : decode cX6_init 37 = .ok (.dup, 1) := by decide +kernel
theorem dX6_init_38 : decode cX6_init 38 = .ok (.aconst_null, 1) := by decide +kernel
theorem dX6_init_39 : decode cX6_init 39 = .ok (.invokespecial 21, 3) := by decide +kernel
theorem dX6_init_42 : decode cX6_init 42 = .ok (.putfield 28, 3) := by decide +kernel
theorem dX6_init_45 : decode cX6_init 45 = .ok (.aload_n 0, 1) := by decide +kernel
theorem dX6_init_46 : decode cX6_init 46 = .ok (.iconst 0, 1) := by decide +kernel
theorem dX6_init_47 : decode cX6_init 47 = .ok (.putfield 31, 3) := by decide +kernel
theorem dX6_init_50 : decode cX6_init 50 = .ok (.return_, 1) := by decide +kernel
set_option maxRecDepth 20000 in
theorem ggX6_put_X6_requireCell : GoodIn wsX6_put wsX6_requireCell := goodIn_ca (goodIn_r _ [9, 10, 11] (by decide +kernel) (by decide +kernel)) (goodIn_sub (fun _ h => List.mem_cons_of_mem _ (List.mem_append_left _ (List.mem_append_right _ h))) (by decide +kernel))
set_option maxRecDepth 20000 in
theorem gX6_put_X6_requireCell : GoodIn wsX6_put (va_wsS RX6 35 yX6_requireCell wsX6_requireCell) := goodIn_app (goodIn_of _ (by decide +kernel)) ggX6_put_X6_requireCell
set_option maxRecDepth 20000 in
theorem ggX6_put_X6_requireToPut : GoodIn wsX6_put wsX6_requireToPut := goodIn_ca (goodIn_r _ [15, 16, 17, 4, 5, 73, 74, 75, 76, 77, 78, 79] (by decide +kernel) (by decide +kernel)) (goodIn_sub (fun _ h => List.mem_cons_of_mem _ (List.mem_append_right _ h)) (by decide +kernel))
set_option maxRecDepth 20000 in
theorem gX6_put_X6_requireToPut : GoodIn wsX6_put (wsV RX6 39 RX6 yX6_requireToPut wsX6_requireToPut) := goodIn_app (goodIn_of _ (by decide +kernel)) ggX6_put_X6_requireToPut
set_option maxRecDepth 20000 in
theorem ggX6_put_X6_requireEmpty : GoodIn wsX6_put wsX6_requireEmpty := goodIn_ca (goodIn_r _ [21, 16, 17, 22, 23, 24, 8, 25, 26, 27, 28, 29, 30, 1, 2, 31, 32, 33, 34, 73, 74, 75, 76, 77, 78, 79] (by decide +kernel) (by decide +kernel)) (goodIn_sub (fun _ h => List.mem_cons_of_mem _ (List.mem_append_right _ h)) (by decide +kernel))
set_option maxRecDepth 20000 in
theorem gX6_put_X6_requireEmpty : GoodIn wsX6_put (wsV RX6 42 RX6 yX6_requireEmpty wsX6_requireEmpty) := goodIn_app (goodIn_of _ (by decide +kernel)) ggX6_put_X6_requireEmpty
set_option maxRecDepth 20000 in
theorem ggX6_put_X6_sideToAct : GoodIn wsX6_put wsX6_sideToAct := goodIn_r _ [38, 5, 39, 40, 41, 8, 42, 1, 2, 43, 44, 45, 46, 47, 48, 49, 73, 74, 75, 76, 77, 78, 79] (by decide +kernel) (by decide +kernel)
set_option maxRecDepth 20000 in
theorem gX6_put_X6_sideToAct : GoodIn wsX6_put (wsV RX6 45 RX6 yX6_sideToAct wsX6_sideToAct) := goodIn_app (goodIn_of _ (by decide +kernel)) ggX6_put_X6_sideToAct
set_option maxRecDepth 20000 in
theorem ggX6_put_X6_bitOf : GoodIn wsX6_put wsX6_bitOf := goodIn_r _ [34] (by decide +kernel) (by decide +kernel)
set_option maxRecDepth 20000 in
theorem gX6_put_X6_bitOf : GoodIn wsX6_put (va_wsS RX6 53 yX6_bitOf wsX6_bitOf) := goodIn_app (goodIn_of _ (by decide +kernel)) ggX6_put_X6_bitOf
set_option maxRecDepth 20000 in
theorem ggX6_put_X2_addMarble : GoodIn wsX6_put wsX2_addMarble := goodIn_r _ [54, 55, 56, 57, 80, 81, 82] (by decide +kernel) (by decide +kernel)
set_option maxRecDepth 20000 in
theorem gX6_put_X2_addMarble : GoodIn wsX6_put (wsV RX6 60 RX2 yX2_addMarble wsX2_addMarble) := goodIn_app (goodIn_of _ (by decide +kernel)) ggX6_put_X2_addMarble
set_option maxRecDepth 20000 in
theorem ggX6_put_X6_marblesOf : GoodIn wsX6_put wsX6_marblesOf := goodIn_r _ [61, 1, 2, 73, 74, 75, 76, 77, 78, 79] (by decide +kernel) (by decide +kernel)
set_option maxRecDepth 20000 in
theorem gX6_put_X6_marblesOf : GoodIn wsX6_put (wsV RX6 63 RX6 yX6_marblesOf wsX6_marblesOf) := goodIn_app (goodIn_of _ (by decide +kernel)) ggX6_put_X6_marblesOf
set_option maxRecDepth 20000 in
theorem ggX6_put_X1_hasLine : GoodIn wsX6_put wsX1_hasLine := goodIn_r _ [65, 66, 67, 68, 69, 70, 71, 64, 72] (by decide +kernel) (by decide +kernel)
set_option maxRecDepth 20000 in
theorem gX6_put_X1_hasLine : GoodIn wsX6_put (va_wsS RX6 66 yX1_hasLine wsX1_hasLine) := goodIn_app (goodIn_of _ (by decide +kernel)) ggX6_put_X1_hasLine
theorem dX6_put_0 : decode cX6_put 0 = .ok (.iload_n 1, 1) := by decide +kernel
theorem dX6_put_1 : decode cX6_put 1 = .ok (.invokestatic 35, 3) := by decide +kernel
theorem dX6_put_4 : decode cX6_put 4 = .ok (.aload_n 0, 1) := by decide +kernel
theorem dX6_put_5 : decode cX6_put 5 = .ok (.invokevirtual 39, 3) := by decide +kernel
theorem dX6_put_8 : decode cX6_put 8 = .ok (.aload_n 0, 1) := by decide +kernel
theorem dX6_put_9 : decode cX6_put 9 = .ok (.iload_n 1, 1) := by decide +kernel
theorem dX6_put_10 : decode cX6_put 10 = .ok (.invokevirtual 42, 3) := by decide +kernel
theorem dX6_put_13 : decode cX6_put 13 = .ok (.aload_n 0, 1) := by decide +kernel
theorem dX6_put_14 : decode cX6_put 14 = .ok (.invokevirtual 45, 3) := by decide +kernel
theorem dX6_put_17 : decode cX6_put 17 = .ok (.istore_n 2, 1) := by decide +kernel
theorem dX6_put_18 : decode cX6_put 18 = .ok (.iload_n 2, 1) := by decide +kernel
theorem dX6_put_19 : decode cX6_put 19 = .ok (.iconst 1, 1) := by decide +kernel
theorem dX6_put_20 : decode cX6_put 20 = .ok (.if_icmp .ne 19, 3) := by decide +kernel
theorem dX6_put_23 : decode cX6_put 23 = .ok (.aload_n 0, 1) := by decide +kernel
theorem dX6_put_24 : decode cX6_put 24 = .ok (.dup, 1) := by decide +kernel
theorem dX6_put_25 : decode cX6_put 25 = .ok (.getfield 49, 3) := by decide +kernel
theorem dX6_put_28 : decode cX6_put 28 = .ok (.iload_n 1, 1) := by decide +kernel
theorem dX6_put_29 : decode cX6_put 29 = .ok (.invokestatic 53, 3) := by decide +kernel
theorem dX6_put_32 : decode cX6_put 32 = .ok (.lor, 1) := by decide +kernel
theorem dX6_put_33 : decode cX6_put 33 = .ok (.putfield 49, 3) := by decide +kernel
theorem dX6_put_36 : decode cX6_put 36 = .ok (.goto 16, 3) := by decide +kernel
theorem dX6_put_39 : decode cX6_put 39 = .ok (.aload_n 0, 1) := by decide +kernel
theorem dX6_put_40 : decode cX6_put 40 = .ok (.dup, 1) := by decide +kernel
theorem dX6_put_41 : decode cX6_put 41 = .ok (.getfield 57, 3) := by decide +kernel
theorem dX6_put_44 : decode cX6_put 44 = .ok (.iload_n 1, 1) := by decide +kernel
theorem dX6_put_45 : decode cX6_put 45 = .ok (.invokestatic 53, 3) := by decide +kernel
theorem dX6_put_48 : decode cX6_put 48 = .ok (.lor, 1) := by decide +kernel
theorem dX6_put_49 : decode cX6_put 49 = .ok (.putfield 57, 3) := by decide +kernel
theorem dX6_put_52 : decode cX6_put 52 = .ok (.aload_n 0, 1) := by decide +kernel
theorem dX6_put_53 : decode cX6_put 53 = .ok (.getfield 12, 3) := by decide +kernel
theorem dX6_put_56 : decode cX6_put 56 = .ok (.iload_n 1, 1) := by decide +kernel
theorem dX6_put_57 : decode cX6_put 57 = .ok (.invokevirtual 60, 3) := by decide +kernel
theorem dX6_put_60 : decode cX6_put 60 = .ok (.aload_n 0, 1) := by decide +kernel
theorem dX6_put_61 : decode cX6_put 61 = .ok (.iload_n 2, 1) := by decide +kernel
theorem dX6_put_62 : decode cX6_put 62 = .ok (.invokevirtual 63, 3) := by decide +kernel
theorem dX6_put_65 : decode cX6_put 65 = .ok (.invokestatic 66, 3) := by decide +kernel
theorem dX6_put_68 : decode cX6_put 68 = .ok (.ifCond .eq 11, 3) := by decide +kernel
theorem dX6_put_71 : decode cX6_put 71 = .ok (.aload_n 0, 1) := by decide +kernel
theorem dX6_put_72 : decode cX6_put 72 = .ok (.iload_n 2, 1) := by decide +kernel
theorem dX6_put_73 : decode cX6_put 73 = .ok (.putfield 31, 3) := by decide +kernel
theorem dX6_put_76 : decode cX6_put 76 = .ok (.goto 8, 3) := by decide +kernel
theorem dX6_put_79 : decode cX6_put 79 = .ok (.aload_n 0, 1) := by decide +kernel
theorem dX6_put_80 : decode cX6_put 80 = .ok (.iconst 1, 1) := by decide +kernel
theorem dX6_put_81 : decode cX6_put 81 = .ok (.putfield 72, 3) := by decide +kernel
theorem dX6_put_84 : decode cX6_put 84 = .ok (.aload_n 0, 1) := by decide +kernel
theorem dX6_put_85 : decode cX6_put 85 = .ok (.getfield 31, 3) := by decide +kernel
theorem dX6_put_88 : decode cX6_put 88 = .ok (.ireturn, 1) := by decide +kernel
set_option maxRecDepth 20000 in
theorem ggX6_turn_X6_requireQuarter : GoodIn wsX6_turn wsX6_requireQuarter := goodIn_ca (goodIn_r _ [9, 10, 11] (by decide +kernel) (by decide +kernel)) (goodIn_sub (fun _ h => List.mem_cons_of_mem _ (List.mem_append_left _ (List.mem_append_right _ h))) (by decide +kernel))
set_option maxRecDepth 20000 in
theorem gX6_turn_X6_requireQuarter : GoodIn wsX6_turn (va_wsS RX6 76 yX6_requireQuarter wsX6_requireQuarter) := goodIn_app (goodIn_of _ (by decide +kernel)) ggX6_turn_X6_requireQuarter
set_option maxRecDepth 20000 in
theorem ggX6_turn_X6_requireWay : GoodIn wsX6_turn wsX6_requireWay := goodIn_ca (goodIn_r _ [14, 15, 16] (by decide +kernel) (by decide +kernel)) (goodIn_sub (fun _ h => List.mem_cons_of_mem _ (List.mem_append_right _ h)) (by decide +kernel))
set_option maxRecDepth 20000 in
theorem gX6_turn_X6_requireWay : GoodIn wsX6_turn (va_wsS RX6 79 yX6_requireWay wsX6_requireWay) := goodIn_app (goodIn_of _ (by decide +kernel)) ggX6_turn_X6_requireWay
set_option maxRecDepth 20000 in
theorem ggX6_turn_X6_turnNumber : GoodIn wsX6_turn wsX6_turnNumber := goodIn_r _ [19] (by decide +kernel) (by decide +kernel)
set_option maxRecDepth 20000 in
theorem gX6_turn_X6_turnNumber : GoodIn wsX6_turn (va_wsS RX6 89 yX6_turnNumber wsX6_turnNumber) := goodIn_app (goodIn_of _ (by decide +kernel)) ggX6_turn_X6_turnNumber
set_option maxRecDepth 20000 in
theorem ggX6_turn_X6_turnBoard : GoodIn wsX6_turn wsX6_turnBoard := goodIn_r _ [23, 24, 25, 26, 27, 28, 29, 30, 31, 32, 33, 34, 35, 36, 37, 38, 39, 40, 41, 42, 43, 44, 45, 46, 47, 48, 49, 50, 51, 88, 89, 90, 91, 92, 93, 94] (by decide +kernel) (by decide +kernel)
set_option maxRecDepth 20000 in
theorem gX6_turn_X6_turnBoard : GoodIn wsX6_turn (wsV RX6 93 RX6 yX6_turnBoard wsX6_turnBoard) := goodIn_app (goodIn_of _ (by decide +kernel)) ggX6_turn_X6_turnBoard
set_option maxRecDepth 20000 in
theorem ggX6_turn_X2_addTurn : GoodIn wsX6_turn wsX2_addTurn := goodIn_r _ [56, 57, 58, 59, 55, 60, 61, 62, 63, 64, 65, 66, 95, 96, 97] (by decide +kernel) (by decide +kernel)
set_option maxRecDepth 20000 in
theorem gX6_turn_X2_addTurn : GoodIn wsX6_turn (wsV RX6 96 RX2 yX2_addTurn wsX2_addTurn) := goodIn_app (goodIn_of _ (by decide +kernel)) ggX6_turn_X2_addTurn
set_option maxRecDepth 20000 in
theorem ggX6_turn_X6_resultBehindTurn : GoodIn wsX6_turn wsX6_resultBehindTurn := goodIn_r _ [70, 24, 25, 71, 72, 73, 74, 75, 76, 77, 78, 79, 80, 81, 82, 83, 84, 8, 85, 86, 87, 88, 89, 90, 91, 92, 93, 94] (by decide +kernel) (by decide +kernel)
set_option maxRecDepth 20000 in
theorem gX6_turn_X6_resultBehindTurn : GoodIn wsX6_turn (wsV RX6 99 RX6 yX6_resultBehindTurn wsX6_resultBehindTurn) := goodIn_app (goodIn_of _ (by decide +kernel)) ggX6_turn_X6_resultBehindTurn
