theorem dX6_winningTurns_52 : decode cX6_winningTurns 52 = .ok (.iconst 0, 1) := by decide +kernel
theorem dX6_winningTurns_53 : decode cX6_winningTurns 53 = .ok (.istore 8, 2) := by decide +kernel
theorem dX6_winningTurns_55 : decode cX6_winningTurns 55 = .ok (.iload 8, 2) := by decide +kernel
theorem dX6_winningTurns_57 : decode cX6_winningTurns 57 = .ok (.bipush 8, 2) := by decide +kernel
theorem dX6_winningTurns_59 : decode cX6_winningTurns 59 = .ok (.if_icmp .ge 37, 3) := by decide +kernel
theorem dX6_winningTurns_62 : decode cX6_winningTurns 62 = .ok (.lload_n 3, 1) := by decide +kernel
theorem dX6_winningTurns_63 : decode cX6_winningTurns 63 = .ok (.iload 8, 2) := by decide +kernel
theorem dX6_winningTurns_65 : decode cX6_winningTurns 65 = .ok (.invokestatic 179, 3) := by decide +kernel
theorem dX6_winningTurns_68 : decode cX6_winningTurns 68 = .ok (.invokestatic 66, 3) := by decide +kernel
theorem dX6_winningTurns_71 : decode cX6_winningTurns 71 = .ok (.ifCond .eq 19, 3) := by decide +kernel
theorem dX6_winningTurns_74 : decode cX6_winningTurns 74 = .ok (.lload 5, 2) := by decide +kernel
theorem dX6_winningTurns_76 : decode cX6_winningTurns 76 = .ok (.iload 8, 2) := by decide +kernel
theorem dX6_winningTurns_78 : decode cX6_winningTurns 78 = .ok (.invokestatic 179, 3) := by decide +kernel
theorem dX6_winningTurns_81 : decode cX6_winningTurns 81 = .ok (.invokestatic 66, 3) := by decide +kernel
theorem dX6_winningTurns_84 : decode cX6_winningTurns 84 = .ok (.ifCond .ne 6, 3) := by decide +kernel
theorem dX6_winningTurns_87 : decode cX6_winningTurns 87 = .ok (.iinc 7 1, 3) := by decide +kernel
theorem dX6_winningTurns_90 : decode cX6_winningTurns 90 = .ok (.iinc 8 1, 3) := by decide +kernel
theorem dX6_winningTurns_93 : decode cX6_winningTurns 93 = .ok (.goto (-38), 3) := by decide +kernel
theorem dX6_winningTurns_96 : decode cX6_winningTurns 96 = .ok (.iload 7, 2) := by decide +kernel
theorem dX6_winningTurns_98 : decode cX6_winningTurns 98 = .ok (.ireturn, 1) := by decide +kernel
set_option maxRecDepth 20000 in
theorem ggX6_value_X6_requireSolvable : GoodIn wsX6_value wsX6_requireSolvable := goodIn_ca (goodIn_r _ [6, 7, 8, 9, 10, 11, 12, 5, 13, 14, 15, 16, 17, 18, 19, 20, 21, 22, 23, 24, 138, 139, 140, 141, 142, 143, 144] (by decide +kernel) (by decide +kernel)) (goodIn_sub (fun _ h => List.mem_cons_of_mem _ (List.mem_append_right _ h)) (by decide +kernel))
set_option maxRecDepth 20000 in
theorem gX6_value_X6_requireSolvable : GoodIn wsX6_value (wsV RX6 198 RX6 yX6_requireSolvable wsX6_requireSolvable) := goodIn_app (goodIn_of _ (by decide +kernel)) ggX6_value_X6_requireSolvable
set_option maxRecDepth 20000 in
theorem ggX6_value_X6_solveWith : GoodIn wsX6_value wsX6_solveWith := goodIn_r _ [28, 29, 30, 31, 32, 5, 33, 34, 35, 36, 37, 15, 16, 18, 19, 20, 21, 22, 23, 24, 38, 39, 40, 41, 42, 43, 44, 10, 11, 12, 13, 14, 17, 45, 46, 47, 48, 49, 50, 51, 52, 53, 54, 55, 56, 57, 58, 59, 60, 61, 62, 63, 64, 65, 66, 67, 68, 69, 70, 71, 72, 73, 74, 75, 76, 77, 78, 79, 80, 81, 82, 83, 84, 85, 86, 87, 88, 89, 90, 91, 92, 93, 94, 95, 96, 97, 98, 99, 100, 101, 102, 103, 104, 105, 106, 107, 108, 109, 110, 111, 112, 113, 114, 115, 116, 117, 118, 119, 120, 121, 122, 123, 124, 125, 126, 127, 128, 129, 130, 131, 132, 133, 134, 135, 136, 137, 138, 139, 140, 141, 142, 143, 144, 145, 146, 147] (by decide +kernel) (by decide +kernel)
set_option maxRecDepth 20000 in
theorem gX6_value_X6_solveWith : GoodIn wsX6_value (wsV RX6 201 RX6 yX6_solveWith wsX6_solveWith) := goodIn_app (goodIn_of _ (by decide +kernel)) ggX6_value_X6_solveWith
theorem dX6_value_0 : decode cX6_value 0 = .ok (.aload_n 0, 1) := by decide +kernel
theorem dX6_value_1 : decode cX6_value 1 = .ok (.invokevirtual 198, 3) := by decide +kernel
theorem dX6_value_4 : decode cX6_value 4 = .ok (.aload_n 0, 1) := by decide +kernel
theorem dX6_value_5 : decode cX6_value 5 = .ok (.aload_n 0, 1) := by decide +kernel
theorem dX6_value_6 : decode cX6_value 6 = .ok (.getfield 24, 3) := by decide +kernel
theorem dX6_value_9 : decode cX6_value 9 = .ok (.invokevirtual 201, 3) := by decide +kernel
theorem dX6_value_12 : decode cX6_value 12 = .ok (.ireturn, 1) := by decide +kernel
set_option maxRecDepth 20000 in
theorem ggX6_valueOnBoards_X6_requireSolvable : GoodIn wsX6_valueOnBoards wsX6_requireSolvable := goodIn_ca (goodIn_r _ [6, 7, 8, 9, 10, 11, 12, 5, 13, 14, 15, 16, 17, 18, 19, 20, 21, 22, 23, 24, 138, 139, 140, 141, 142, 143, 144] (by decide +kernel) (by decide +kernel)) (goodIn_sub (fun _ h => List.mem_cons_of_mem _ (List.mem_append_right _ h)) (by decide +kernel))
set_option maxRecDepth 20000 in
theorem gX6_valueOnBoards_X6_requireSolvable : GoodIn wsX6_valueOnBoards (wsV RX6 198 RX6 yX6_requireSolvable wsX6_requireSolvable) := goodIn_app (goodIn_of _ (by decide +kernel)) ggX6_valueOnBoards_X6_requireSolvable
set_option maxRecDepth 20000 in
theorem ggX6_valueOnBoards_X6_solveWith : GoodIn wsX6_valueOnBoards wsX6_solveWith := goodIn_r _ [28, 29, 30, 31, 32, 5, 33, 34, 35, 36, 37, 15, 16, 18, 19, 20, 21, 22, 23, 24, 38, 39, 40, 41, 42, 43, 44, 10, 11, 12, 13, 14, 17, 45, 46, 47, 48, 49, 50, 51, 52, 53, 54, 55, 56, 57, 58, 59, 60, 61, 62, 63, 64, 65, 66, 67, 68, 69, 70, 71, 72, 73, 74, 75, 76, 77, 78, 79, 80, 81, 82, 83, 84, 85, 86, 87, 88, 89, 90, 91, 92, 93, 94, 95, 96, 97, 98, 99, 100, 101, 102, 103, 104, 105, 106, 107, 108, 109, 110, 111, 112, 113, 114, 115, 116, 117, 118, 119, 120, 121, 122, 123, 124, 125, 126, 127, 128, 129, 130, 131, 132, 133, 134, 135, 136, 137, 138, 139, 140, 141, 142, 143, 144, 145, 146, 147] (by decide +kernel) (by decide +kernel)
set_option maxRecDepth 20000 in
theorem gX6_valueOnBoards_X6_solveWith : GoodIn wsX6_valueOnBoards (wsV RX6 201 RX6 yX6_solveWith wsX6_solveWith) := goodIn_app (goodIn_of _ (by decide +kernel)) ggX6_valueOnBoards_X6_solveWith
theorem dX6_valueOnBoards_0 : decode cX6_valueOnBoards 0 = .ok (.aload_n 0, 1) := by decide +kernel
theorem dX6_valueOnBoards_1 : decode cX6_valueOnBoards 1 = .ok (.invokevirtual 198, 3) := by decide +kernel
theorem dX6_valueOnBoards_4 : decode cX6_valueOnBoards 4 = .ok (.aload_n 0, 1) := by decide +kernel
theorem dX6_valueOnBoards_5 : decode cX6_valueOnBoards 5 = .ok (.aload_n 0, 1) := by decide +kernel
theorem dX6_valueOnBoards_6 : decode cX6_valueOnBoards 6 = .ok (.getfield 28, 3) := by decide +kernel
theorem dX6_valueOnBoards_9 : decode cX6_valueOnBoards 9 = .ok (.invokevirtual 201, 3) := by decide +kernel
theorem dX6_valueOnBoards_12 : decode cX6_valueOnBoards 12 = .ok (.ireturn, 1) := by decide +kernel
set_option maxRecDepth 20000 in
theorem ggX6_bestMove_X6_requireSolvable : GoodIn wsX6_bestMove wsX6_requireSolvable := goodIn_ca (goodIn_r _ [7, 8, 9, 10, 11, 12, 13, 6, 14, 15, 16, 17, 18, 19, 20, 21, 22, 23, 24, 25, 142, 143, 144, 145, 146, 147, 148] (by decide +kernel) (by decide +kernel)) (goodIn_sub (fun _ h => List.mem_cons_of_mem _ (List.mem_append_right _ h)) (by decide +kernel))
set_option maxRecDepth 20000 in
theorem gX6_bestMove_X6_requireSolvable : GoodIn wsX6_bestMove (wsV RX6 198 RX6 yX6_requireSolvable wsX6_requireSolvable) := goodIn_app (goodIn_of _ (by decide +kernel)) ggX6_bestMove_X6_requireSolvable
set_option maxRecDepth 20000 in
theorem ggX6_bestMove_X6_sideToAct : GoodIn wsX6_bestMove wsX6_sideToAct := goodIn_r _ [29, 1, 30, 31, 32, 6, 33, 16, 17, 19, 20, 21, 22, 23, 24, 25, 142, 143, 144, 145, 146, 147, 148] (by decide +kernel) (by decide +kernel)
set_option maxRecDepth 20000 in
theorem gX6_bestMove_X6_sideToAct : GoodIn wsX6_bestMove (wsV RX6 45 RX6 yX6_sideToAct wsX6_sideToAct) := goodIn_app (goodIn_of _ (by decide +kernel)) ggX6_bestMove_X6_sideToAct
set_option maxRecDepth 20000 in
theorem ggX6_bestMove_X6_marblesOf : GoodIn wsX6_bestMove wsX6_marblesOf := goodIn_r _ [37, 16, 17, 142, 143, 144, 145, 146, 147, 148] (by decide +kernel) (by decide +kernel)
set_option maxRecDepth 20000 in
theorem gX6_bestMove_X6_marblesOf : GoodIn wsX6_bestMove (wsV RX6 63 RX6 yX6_marblesOf wsX6_marblesOf) := goodIn_app (goodIn_of _ (by decide +kernel)) ggX6_bestMove_X6_marblesOf
set_option maxRecDepth 20000 in
theorem ggX6_bestMove_X6_otherSide : GoodIn wsX6_bestMove wsX6_otherSide := goodIn_r _ [40] (by decide +kernel) (by decide +kernel)
set_option maxRecDepth 20000 in
theorem gX6_bestMove_X6_otherSide : GoodIn wsX6_bestMove (va_wsS RX6 195 yX6_otherSide wsX6_otherSide) := goodIn_app (goodIn_of _ (by decide +kernel)) ggX6_bestMove_X6_otherSide
set_option maxRecDepth 20000 in
theorem ggX6_bestMove_X6_emptyCells : GoodIn wsX6_bestMove wsX6_emptyCells := goodIn_r _ [14, 15, 16, 17, 18, 142, 143, 144, 145, 146, 147, 148] (by decide +kernel) (by decide +kernel)
set_option maxRecDepth 20000 in
theorem gX6_bestMove_X6_emptyCells : GoodIn wsX6_bestMove (wsV RX6 171 RX6 yX6_emptyCells wsX6_emptyCells) := goodIn_app (goodIn_of _ (by decide +kernel)) ggX6_bestMove_X6_emptyCells
set_option maxRecDepth 20000 in
theorem ggX6_bestMove_J13_bitCount_95d88 : GoodIn wsX6_bestMove wsJ13_bitCount_95d88 := goodIn_r _ [22, 23, 24, 25] (by decide +kernel) (by decide +kernel)
set_option maxRecDepth 20000 in
theorem gX6_bestMove_J13_bitCount_95d88 : GoodIn wsX6_bestMove (va_wsS RX6 138 yJ13_bitCount_95d88 wsJ13_bitCount_95d88) := goodIn_app (goodIn_of _ (by decide +kernel)) ggX6_bestMove_J13_bitCount_95d88
set_option maxRecDepth 20000 in
theorem ggX6_bestMove_X3_lowestBestTurn : GoodIn wsX6_bestMove wsX3_lowestBestTurn := goodIn_r _ [45, 46, 47, 48, 44, 49, 50, 51, 52, 53, 54, 55, 56, 57, 58, 59, 60, 61, 62, 63, 64, 65, 66, 67, 68, 69, 70, 71, 72, 73, 74, 75, 76, 77, 78, 79, 80, 81, 82, 83, 84, 85, 86, 87, 88, 89, 90, 91, 92, 93, 94, 95, 6, 96, 97, 98, 99, 100, 101, 102, 103, 104, 105, 20, 21, 22, 23, 24, 25, 106, 107, 108, 109, 110, 111, 112, 113, 114, 115, 116, 117, 118, 119, 120, 121, 122, 123, 124, 125, 126, 127, 128, 129, 130, 131, 132, 133, 134, 135, 136, 137, 149, 150, 151] (by decide +kernel) (by decide +kernel)
set_option maxRecDepth 20000 in
theorem gX6_bestMove_X3_lowestBestTurn : GoodIn wsX6_bestMove (wsV RX6 205 RX3 yX3_lowestBestTurn wsX3_lowestBestTurn) := goodIn_app (goodIn_of _ (by decide +kernel)) ggX6_bestMove_X3_lowestBestTurn
set_option maxRecDepth 20000 in
theorem ggX6_bestMove_X3_lowestBestMove : GoodIn wsX6_bestMove wsX3_lowestBestMove := goodIn_r _ [141, 95, 6, 96, 76, 77, 78, 79, 80, 81, 82, 83, 84, 85, 86, 46, 47, 48, 44, 49, 50, 51, 52, 53, 54, 55, 56, 57, 58, 59, 60, 61, 62, 63, 64, 65, 66, 67, 68, 69, 70, 71, 72, 73, 74, 75, 87, 88, 89, 90, 91, 92, 93, 94, 97, 98, 99, 100, 101, 102, 103, 104, 105, 20, 21, 22, 23, 24, 25, 106, 107, 108, 109, 110, 111, 112, 113, 114, 115, 116, 117, 118, 119, 120, 121, 122, 123, 124, 125, 126, 127, 128, 129, 130, 131, 132, 133, 134, 135, 136, 137, 149, 150, 151] (by decide +kernel) (by decide +kernel)
set_option maxRecDepth 20000 in
theorem gX6_bestMove_X3_lowestBestMove : GoodIn wsX6_bestMove (wsV RX6 209 RX3 yX3_lowestBestMove wsX3_lowestBestMove) := goodIn_app (goodIn_of _ (by decide +kernel)) ggX6_bestMove_X3_lowestBestMove
theorem dX6_bestMove_0 : decode cX6_bestMove 0 = .ok (.aload_n 0, 1) := by decide +kernel
theorem dX6_bestMove_1 : decode cX6_bestMove 1 = .ok (.invokevirtual 198, 3) := by decide +kernel
theorem dX6_bestMove_4 : decode cX6_bestMove 4 = .ok (.aload_n 0, 1) := by decide +kernel
theorem dX6_bestMove_5 : decode cX6_bestMove 5 = .ok (.invokevirtual 45, 3) := by decide +kernel
theorem dX6_bestMove_8 : decode cX6_bestMove 8 = .ok (.istore_n 1, 1) := by decide +kernel
theorem dX6_bestMove_9 : decode cX6_bestMove 9 = .ok (.aload_n 0, 1) := by decide +kernel
theorem dX6_bestMove_10 : decode cX6_bestMove 10 = .ok (.iload_n 1, 1) := by decide +kernel
theorem dX6_bestMove_11 : decode cX6_bestMove 11 = .ok (.invokevirtual 63, 3) := by decide +kernel
theorem dX6_bestMove_14 : decode cX6_bestMove 14 = .ok (.lstore_n 2, 1) := by decide +kernel
theorem dX6_bestMove_15 : decode cX6_bestMove 15 = .ok (.aload_n 0, 1) := by decide +kernel
theorem dX6_bestMove_16 : decode cX6_bestMove 16 = .ok (.iload_n 1, 1) := by decide +kernel
theorem dX6_bestMove_17 : decode cX6_bestMove 17 = .ok (.invokestatic 195, 3) := by decide +kernel
theorem dX6_bestMove_20 : decode cX6_bestMove 20 = .ok (.invokevirtual 63, 3) := by decide +kernel
theorem dX6_bestMove_23 : decode cX6_bestMove 23 = .ok (.lstore 4, 2) := by decide +kernel
theorem dX6_bestMove_25 : decode cX6_bestMove 25 = .ok (.aload_n 0, 1) := by decide +kernel
theorem dX6_bestMove_26 : decode cX6_bestMove 26 = .ok (.invokevirtual 171, 3) := by decide +kernel
theorem dX6_bestMove_29 : decode cX6_bestMove 29 = .ok (.invokestatic 138, 3) := by decide +kernel
theorem dX6_bestMove_32 : decode cX6_bestMove 32 = .ok (.istore 6, 2) := by decide +kernel
theorem dX6_bestMove_34 : decode cX6_bestMove 34 = .ok (.aload_n 0, 1) := by decide +kernel
theorem dX6_bestMove_35 : decode cX6_bestMove 35 = .ok (.getfield 72, 3) := by decide +kernel
theorem dX6_bestMove_38 : decode cX6_bestMove 38 = .ok (.ifCond .eq 18, 3) := by decide +kernel
theorem dX6_bestMove_41 : decode cX6_bestMove 41 = .ok (.aload_n 0, 1) := by decide +kernel
theorem dX6_bestMove_42 : decode cX6_bestMove 42 = .ok (.getfield 24, 3) := by decide +kernel
theorem dX6_bestMove_45 : decode cX6_bestMove 45 = .ok (.lload_n 2, 1) := by decide +kernel
theorem dX6_bestMove_46 : decode cX6_bestMove 46 = .ok (.lload 4, 2) := by decide +kernel
theorem dX6_bestMove_48 : decode cX6_bestMove 48 = .ok (.iload 6, 2) := by decide +kernel
theorem dX6_bestMove_50 : decode cX6_bestMove 50 = .ok (.invokevirtual 205, 3) := by decide +kernel
theorem dX6_bestMove_53 : decode cX6_bestMove 53 = .ok (.goto 15, 3) := by decide +kernel
theorem dX6_bestMove_56 : decode cX6_bestMove 56 = .ok (.aload_n 0, 1) := by decide +kernel
theorem dX6_bestMove_57 : decode cX6_bestMove 57 = .ok (.getfield 24, 3) := by decide +kernel
theorem dX6_bestMove_60 : decode cX6_bestMove 60 = .ok (.lload_n 2, 1) := by decide +kernel
theorem dX6_bestMove_61 : decode cX6_bestMove 61 = .ok (.lload 4, 2) := by decide +kernel
theorem dX6_bestMove_63 : decode cX6_bestMove 63 = .ok (.iload 6, 2) := by decide +kernel
theorem dX6_bestMove_65 : decode cX6_bestMove 65 = .ok (.invokevirtual 209, 3) := by decide +kernel
theorem dX6_bestMove_68 : decode cX6_bestMove 68 = .ok (.ireturn, 1) := by decide +kernel
theorem dX6_requireCell_0 : decode cX6_requireCell 0 = .ok (.iload_n 0, 1) := by decide +kernel
theorem dX6_requireCell_1 : decode cX6_requireCell 1 = .ok (.ifCond .lt 9, 3) := by decide +kernel
theorem dX6_requireCell_4 : decode cX6_requireCell 4 = .ok (.iload_n 0, 1) := by decide +kernel
theorem dX6_requireCell_5 : decode cX6_requireCell 5 = .ok (.bipush 36, 2) := by decide +kernel
theorem dX6_requireCell_7 : decode cX6_requireCell 7 = .ok (.if_icmp .lt 13, 3) := by decide +kernel
theorem dX6_requireCell_10 : decode cX6_requireCell 10 = .ok (.new 154, 3) := by decide +kernel
theorem dX6_requireCell_13 : decode cX6_requireCell 13 = .ok (.dup, 1) := by decide +kernel
theorem dX6_requireCell_14 : decode cX6_requireCell 14 = .ok (.ldc 212, 2) := by decide +kernel
theorem dX6_requireCell_16 : decode cX6_requireCell 16 = .ok (.invokespecial 158, 3) := by decide +kernel
theorem dX6_requireCell_19 : decode cX6_requireCell 19 = .ok (.athrow, 1) := by decide +kernel
theorem dX6_requireCell_20 : decode cX6_requireCell 20 = .ok (.return_, 1) := by decide +kernel
theorem dX6_requireSide_0 : decode cX6_requireSide 0 = .ok (.iload_n 0, 1) := by decide +kernel
theorem dX6_requireSide_1 : decode cX6_requireSide 1 = .ok (.iconst 1, 1) := by decide +kernel
theorem dX6_requireSide_2 : decode cX6_requireSide 2 = .ok (.if_icmp .eq 18, 3) := by decide +kernel
theorem dX6_requireSide_5 : decode cX6_requireSide 5 = .ok (.iload_n 0, 1) := by decide +kernel
theorem dX6_requireSide_6 : decode cX6_requireSide 6 = .ok (.iconst 2, 1) := by decide +kernel
theorem dX6_requireSide_7 : decode cX6_requireSide 7 = .ok (.if_icmp .eq 13, 3) := by decide +kernel
theorem dX6_requireSide_10 : decode cX6_requireSide 10 = .ok (.new 154, 3) := by decide +kernel
theorem dX6_requireSide_13 : decode cX6_requireSide 13 = .ok (.dup, 1) := by decide +kernel
theorem dX6_requireSide_14 : decode cX6_requireSide 14 = .ok (.ldc 214, 2) := by decide +kernel
theorem dX6_requireSide_16 : decode cX6_requireSide 16 = .ok (.invokespecial 158, 3) := by decide +kernel
theorem dX6_requireSide_19 : decode cX6_requireSide 19 = .ok (.athrow, 1) := by decide +kernel
theorem dX6_requireSide_20 : decode cX6_requireSide 20 = .ok (.return_, 1) := by decide +kernel
theorem dX6_requireQuarter_0 : decode cX6_requireQuarter 0 = .ok (.iload_n 0, 1) := by decide +kernel
theorem dX6_requireQuarter_1 : decode cX6_requireQuarter 1 = .ok (.ifCond .lt 8, 3) := by decide +kernel
theorem dX6_requireQuarter_4 : decode cX6_requireQuarter 4 = .ok (.iload_n 0, 1) := by decide +kernel
theorem dX6_requireQuarter_5 : decode cX6_requireQuarter 5 = .ok (.iconst 4, 1) := by decide +kernel
theorem dX6_requireQuarter_6 : decode cX6_requireQuarter 6 = .ok (.if_icmp .lt 13, 3) := by decide +kernel
theorem dX6_requireQuarter_9 : decode cX6_requireQuarter 9 = .ok (.new 154, 3) := by decide +kernel
theorem dX6_requireQuarter_12 : decode cX6_requireQuarter 12 = .ok (.dup, 1) := by decide +kernel
theorem dX6_requireQuarter_13 : decode cX6_requireQuarter 13 = .ok (.ldc 216, 2) := by decide +kernel
theorem dX6_requireQuarter_15 : decode cX6_requireQuarter 15 = .ok (.invokespecial 158, 3) := by decide +kernel
theorem dX6_requireQuarter_18 : decode cX6_requireQuarter 18 = .ok (.athrow, 1) := by decide +kernel
theorem dX6_requireQuarter_19 : decode cX6_requireQuarter 19 = .ok (.return_, 1) := by decide +kernel
theorem dX6_requireWay_0 : decode cX6_requireWay 0 = .ok (.iload_n 0, 1) := by decide +kernel
theorem dX6_requireWay_1 : decode cX6_requireWay 1 = .ok (.ifCond .lt 8, 3) := by decide +kernel
theorem dX6_requireWay_4 : decode cX6_requireWay 4 = .ok (.iload_n 0, 1) := by decide +kernel
theorem dX6_requireWay_5 : decode cX6_requireWay 5 = .ok (.iconst 2, 1) := by decide +kernel
theorem dX6_requireWay_6 : decode cX6_requireWay 6 = .ok (.if_icmp .lt 13, 3) := by decide +kernel
theorem dX6_requireWay_9 : decode cX6_requireWay 9 = .ok (.new 218, 3) := by decide +kernel
theorem dX6_requireWay_12 : decode cX6_requireWay 12 = .ok (.dup, 1) := by decide +kernel
theorem dX6_requireWay_13 : decode cX6_requireWay 13 = .ok (.ldc 220, 2) := by decide +kernel
theorem dX6_requireWay_15 : decode cX6_requireWay 15 = .ok (.invokespecial 222, 3) := by decide +kernel
theorem dX6_requireWay_18 : decode cX6_requireWay 18 = .ok (.athrow, 1) := by decide +kernel
theorem dX6_requireWay_19 : decode cX6_requireWay 19 = .ok (.return_, 1) := by decide +kernel
set_option maxRecDepth 20000 in
theorem ggX6_requireBoard_J13_bitCount_95d88 : GoodIn wsX6_requireBoard wsJ13_bitCount_95d88 := goodIn_r _ [7, 8, 9, 10] (by decide +kernel) (by decide +kernel)
set_option maxRecDepth 20000 in
theorem gX6_requireBoard_J13_bitCount_95d88 : GoodIn wsX6_requireBoard (va_wsS RX6 138 yJ13_bitCount_95d88 wsJ13_bitCount_95d88) := goodIn_app (goodIn_of _ (by decide +kernel)) ggX6_requireBoard_J13_bitCount_95d88
theorem dX6_requireBoard_0 : decode cX6_requireBoard 0 = .ok (.lload_n 0, 1) := by decide +kernel
theorem dX6_requireBoard_1 : decode cX6_requireBoard 1 = .ok (.lload_n 2, 1) := by decide +kernel
theorem dX6_requireBoard_2 : decode cX6_requireBoard 2 = .ok (.lor, 1) := by decide +kernel
theorem dX6_requireBoard_3 : decode cX6_requireBoard 3 = .ok (.ldc2_w 223, 3) := by decide +kernel
theorem dX6_requireBoard_6 : decode cX6_requireBoard 6 = .ok (.land, 1) := by decide +kernel
theorem dX6_requireBoard_7 : decode cX6_requireBoard 7 = .ok (.lconst 0, 1) := by decide +kernel
theorem dX6_requireBoard_8 : decode cX6_requireBoard 8 = .ok (.lcmp, 1) := by decide +kernel
theorem dX6_requireBoard_9 : decode cX6_requireBoard 9 = .ok (.ifCond .eq 13, 3) := by decide +kernel
theorem dX6_requireBoard_12 : decode cX6_requireBoard 12 = .ok (.new 218, 3) := by decide +kernel
theorem dX6_requireBoard_15 : decode cX6_requireBoard 15 = .ok (.dup, 1) := by decide +kernel
theorem dX6_requireBoard_16 : decode cX6_requireBoard 16 = .ok (.ldc 225, 2) := by decide +kernel
theorem dX6_requireBoard_18 : decode cX6_requireBoard 18 = .ok (.invokespecial 222, 3) := by decide +kernel
theorem dX6_requireBoard_21 : decode cX6_requireBoard 21 = .ok (.athrow, 1) := by decide +kernel
theorem dX6_requireBoard_22 : decode cX6_requireBoard 22 = .ok (.lload_n 0, 1) := by decide +kernel
theorem dX6_requireBoard_23 : decode cX6_requireBoard 23 = .ok (.lload_n 2, 1) := by decide +kernel
theorem dX6_requireBoard_24 : decode cX6_requireBoard 24 = .ok (.land, 1) := by decide +kernel
theorem dX6_requireBoard_25 : decode cX6_requireBoard 25 = .ok (.lconst 0, 1) := by decide +kernel
theorem dX6_requireBoard_26 : decode cX6_requireBoard 26 = .ok (.lcmp, 1) := by decide +kernel
theorem dX6_requireBoard_27 : decode cX6_requireBoard 27 = .ok (.ifCond .eq 13, 3) := by decide +kernel
theorem dX6_requireBoard_30 : decode cX6_requireBoard 30 = .ok (.new 218, 3) := by decide +kernel
theorem dX6_requireBoard_33 : decode cX6_requireBoard 33 = .ok (.dup, 1) := by decide +kernel
theorem dX6_requireBoard_34 : decode cX6_requireBoard 34 = .ok (.ldc 227, 2) := by decide +kernel
theorem dX6_requireBoard_36 : decode cX6_requireBoard 36 = .ok (.invokespecial 222, 3) := by decide +kernel
theorem dX6_requireBoard_39 : decode cX6_requireBoard 39 = .ok (.athrow, 1) := by decide +kernel
theorem dX6_requireBoard_40 : decode cX6_requireBoard 40 = .ok (.lload_n 0, 1) := by decide +kernel
theorem dX6_requireBoard_41 : decode cX6_requireBoard 41 = .ok (.invokestatic 138, 3) := by decide +kernel
theorem dX6_requireBoard_44 : decode cX6_requireBoard 44 = .ok (.lload_n 2, 1) := by decide +kernel
theorem dX6_requireBoard_45 : decode cX6_requireBoard 45 = .ok (.invokestatic 138, 3) := by decide +kernel
theorem dX6_requireBoard_48 : decode cX6_requireBoard 48 = .ok (.isub, 1) := by decide +kernel
theorem dX6_requireBoard_49 : decode cX6_requireBoard 49 = .ok (.istore 4, 2) := by decide +kernel
theorem dX6_requireBoard_51 : decode cX6_requireBoard 51 = .ok (.iload 4, 2) := by decide +kernel
theorem dX6_requireBoard_53 : decode cX6_requireBoard 53 = .ok (.ifCond .eq 19, 3) := by decide +kernel
theorem dX6_requireBoard_56 : decode cX6_requireBoard 56 = .ok (.iload 4, 2) := by decide +kernel
theorem dX6_requireBoard_58 : decode cX6_requireBoard 58 = .ok (.iconst 1, 1) := by decide +kernel
theorem dX6_requireBoard_59 : decode cX6_requireBoard 59 = .ok (.if_icmp .eq 13, 3) := by decide +kernel
theorem dX6_requireBoard_62 : decode cX6_requireBoard 62 = .ok (.new 218, 3) := by decide +kernel
theorem dX6_requireBoard_65 : decode cX6_requireBoard 65 = .ok (.dup, 1) := by decide +kernel
theorem dX6_requireBoard_66 : decode cX6_requireBoard 66 = .ok (.ldc 229, 2) := by decide +kernel
theorem dX6_requireBoard_68 : decode cX6_requireBoard 68 = .ok (.invokespecial 222, 3) := by decide +kernel
theorem dX6_requireBoard_71 : decode cX6_requireBoard 71 = .ok (.athrow, 1) := by decide +kernel
theorem dX6_requireBoard_72 : decode cX6_requireBoard 72 = .ok (.return_, 1) := by decide +kernel
set_option maxRecDepth 20000 in
theorem ggX6_requireMove_X2_count : GoodIn wsX6_requireMove wsX2_count := goodIn_r _ [8, 9, 17, 18, 19] (by decide +kernel) (by decide +kernel)
set_option maxRecDepth 20000 in
theorem gX6_requireMove_X2_count : GoodIn wsX6_requireMove (wsV RX6 102 RX2 yX2_count wsX2_count) := goodIn_app (goodIn_of _ (by decide +kernel)) ggX6_requireMove_X2_count
theorem dX6_requireMove_0 : decode cX6_requireMove 0 = .ok (.iload_n 1, 1) := by decide +kernel
theorem dX6_requireMove_1 : decode cX6_requireMove 1 = .ok (.ifCond .lt 14, 3) := by decide +kernel
theorem dX6_requireMove_4 : decode cX6_requireMove 4 = .ok (.iload_n 1, 1) := by decide +kernel
theorem dX6_requireMove_5 : decode cX6_requireMove 5 = .ok (.aload_n 0, 1) := by decide +kernel
theorem dX6_requireMove_6 : decode cX6_requireMove 6 = .ok (.getfield 12, 3) := by decide +kernel
theorem dX6_requireMove_9 : decode cX6_requireMove 9 = .ok (.invokevirtual 102, 3) := by decide +kernel
theorem dX6_requireMove_12 : decode cX6_requireMove 12 = .ok (.if_icmp .lt 13, 3) := by decide +kernel
theorem dX6_requireMove_15 : decode cX6_requireMove 15 = .ok (.new 154, 3) := by decide +kernel
theorem dX6_requireMove_18 : decode cX6_requireMove 18 = .ok (.dup, 1) := by decide +kernel
theorem dX6_requireMove_19 : decode cX6_requireMove 19 = .ok (.ldc 231, 2) := by decide +kernel
theorem dX6_requireMove_21 : decode cX6_requireMove 21 = .ok (.invokespecial 158, 3) := by decide +kernel
theorem dX6_requireMove_24 : decode cX6_requireMove 24 = .ok (.athrow, 1) := by decide +kernel
theorem dX6_requireMove_25 : decode cX6_requireMove 25 = .ok (.return_, 1) := by decide +kernel
theorem dX6_requireToPut_0 : decode cX6_requireToPut 0 = .ok (.aload_n 0, 1) := by decide +kernel
theorem dX6_requireToPut_1 : decode cX6_requireToPut 1 = .ok (.getfield 31, 3) := by decide +kernel
theorem dX6_requireToPut_4 : decode cX6_requireToPut 4 = .ok (.ifCond .ne 10, 3) := by decide +kernel
theorem dX6_requireToPut_7 : decode cX6_requireToPut 7 = .ok (.aload_n 0, 1) := by decide +kernel
theorem dX6_requireToPut_8 : decode cX6_requireToPut 8 = .ok (.getfield 72, 3) := by decide +kernel
theorem dX6_requireToPut_11 : decode cX6_requireToPut 11 = .ok (.ifCond .eq 13, 3) := by decide +kernel
theorem dX6_requireToPut_14 : decode cX6_requireToPut 14 = .ok (.new 82, 3) := by decide +kernel
theorem dX6_requireToPut_17 : decode cX6_requireToPut 17 = .ok (.dup, 1) := by decide +kernel
theorem dX6_requireToPut_18 : decode cX6_requireToPut 18 = .ok (.ldc 233, 2) := by decide +kernel
theorem dX6_requireToPut_20 : decode cX6_requireToPut 20 = .ok (.invokespecial 86, 3) := by decide +kernel
theorem dX6_requireToPut_23 : decode cX6_requireToPut 23 = .ok (.athrow, 1) := by decide +kernel
theorem dX6_requireToPut_24 : decode cX6_requireToPut 24 = .ok (.return_, 1) := by decide +kernel
set_option maxRecDepth 20000 in
theorem ggX6_requireEmpty_X6_isEmpty : GoodIn wsX6_requireEmpty wsX6_isEmpty := goodIn_r _ [7, 8, 9, 10, 6, 11, 12, 13, 14, 15, 16, 17, 18, 19, 20, 21, 22, 23, 24, 25] (by decide +kernel) (by decide +kernel)
set_option maxRecDepth 20000 in
theorem gX6_requireEmpty_X6_isEmpty : GoodIn wsX6_requireEmpty (wsV RX6 192 RX6 yX6_isEmpty wsX6_isEmpty) := goodIn_app (goodIn_of _ (by decide +kernel)) ggX6_requireEmpty_X6_isEmpty
theorem dX6_requireEmpty_0 : decode cX6_requireEmpty 0 = .ok (.aload_n 0, 1) := by decide +kernel
theorem dX6_requireEmpty_1 : decode cX6_requireEmpty 1 = .ok (.iload_n 1, 1) := by decide +kernel
theorem dX6_requireEmpty_2 : decode cX6_requireEmpty 2 = .ok (.invokevirtual 192, 3) := by decide +kernel
theorem dX6_requireEmpty_5 : decode cX6_requireEmpty 5 = .ok (.ifCond .ne 13, 3) := by decide +kernel
theorem dX6_requireEmpty_8 : decode cX6_requireEmpty 8 = .ok (.new 82, 3) := by decide +kernel
theorem dX6_requireEmpty_11 : decode cX6_requireEmpty 11 = .ok (.dup, 1) := by decide +kernel
theorem dX6_requireEmpty_12 : decode cX6_requireEmpty 12 = .ok (.ldc 235, 2) := by decide +kernel
theorem dX6_requireEmpty_14 : decode cX6_requireEmpty 14 = .ok (.invokespecial 86, 3) := by decide +kernel
theorem dX6_requireEmpty_17 : decode cX6_requireEmpty 17 = .ok (.athrow, 1) := by decide +kernel
theorem dX6_requireEmpty_18 : decode cX6_requireEmpty 18 = .ok (.return_, 1) := by decide +kernel
set_option maxRecDepth 20000 in
theorem ggX6_requireSolvable_X6_emptyCells : GoodIn wsX6_requireSolvable wsX6_emptyCells := goodIn_r _ [8, 9, 10, 11, 12, 20, 21, 22, 23, 24, 25, 26] (by decide +kernel) (by decide +kernel)
set_option maxRecDepth 20000 in
theorem gX6_requireSolvable_X6_emptyCells : GoodIn wsX6_requireSolvable (wsV RX6 171 RX6 yX6_emptyCells wsX6_emptyCells) := goodIn_app (goodIn_of _ (by decide +kernel)) ggX6_requireSolvable_X6_emptyCells
set_option maxRecDepth 20000 in
theorem ggX6_requireSolvable_J13_bitCount_95d88 : GoodIn wsX6_requireSolvable wsJ13_bitCount_95d88 := goodIn_r _ [16, 17, 18, 19] (by decide +kernel) (by decide +kernel)
set_option maxRecDepth 20000 in
theorem gX6_requireSolvable_J13_bitCount_95d88 : GoodIn wsX6_requireSolvable (va_wsS RX6 138 yJ13_bitCount_95d88 wsJ13_bitCount_95d88) := goodIn_app (goodIn_of _ (by decide +kernel)) ggX6_requireSolvable_J13_bitCount_95d88
theorem dX6_requireSolvable_0 : decode cX6_requireSolvable 0 = .ok (.aload_n 0, 1) := by decide +kernel
theorem dX6_requireSolvable_1 : decode cX6_requireSolvable 1 = .ok (.getfield 31, 3) := by decide +kernel
theorem dX6_requireSolvable_4 : decode cX6_requireSolvable 4 = .ok (.ifCond .ne 14, 3) := by decide +kernel
theorem dX6_requireSolvable_7 : decode cX6_requireSolvable 7 = .ok (.aload_n 0, 1) := by decide +kernel
theorem dX6_requireSolvable_8 : decode cX6_requireSolvable 8 = .ok (.invokevirtual 171, 3) := by decide +kernel
theorem dX6_requireSolvable_11 : decode cX6_requireSolvable 11 = .ok (.invokestatic 138, 3) := by decide +kernel
theorem dX6_requireSolvable_14 : decode cX6_requireSolvable 14 = .ok (.iconst 3, 1) := by decide +kernel
theorem dX6_requireSolvable_15 : decode cX6_requireSolvable 15 = .ok (.if_icmp .le 13, 3) := by decide +kernel
theorem dX6_requireSolvable_18 : decode cX6_requireSolvable 18 = .ok (.new 82, 3) := by decide +kernel
theorem dX6_requireSolvable_21 : decode cX6_requireSolvable 21 = .ok (.dup, 1) := by decide +kernel
theorem dX6_requireSolvable_22 : decode cX6_requireSolvable 22 = .ok (.ldc 237, 2) := by decide +kernel
theorem dX6_requireSolvable_24 : decode cX6_requireSolvable 24 = .ok (.invokespecial 86, 3) := by decide +kernel
theorem dX6_requireSolvable_27 : decode cX6_requireSolvable 27 = .ok (.athrow, 1) := by decide +kernel
theorem dX6_requireSolvable_28 : decode cX6_requireSolvable 28 = .ok (.return_, 1) := by decide +kernel
theorem dX6_bitOf_0 : decode cX6_bitOf 0 = .ok (.lconst 1, 1) := by decide +kernel
theorem dX6_bitOf_1 : decode cX6_bitOf 1 = .ok (.iload_n 0, 1) := by decide +kernel
theorem dX6_bitOf_2 : decode cX6_bitOf 2 = .ok (.lshl, 1) := by decide +kernel
theorem dX6_bitOf_3 : decode cX6_bitOf 3 = .ok (.lreturn, 1) := by decide +kernel
theorem dX6_turnNumber_0 : decode cX6_turnNumber 0 = .ok (.iconst 2, 1) := by decide +kernel
theorem dX6_turnNumber_1 : decode cX6_turnNumber 1 = .ok (.iload_n 0, 1) := by decide +kernel
theorem dX6_turnNumber_2 : decode cX6_turnNumber 2 = .ok (.imul, 1) := by decide +kernel
theorem dX6_turnNumber_3 : decode cX6_turnNumber 3 = .ok (.iload_n 1, 1) := by decide +kernel
theorem dX6_turnNumber_4 : decode cX6_turnNumber 4 = .ok (.iadd, 1) := by decide +kernel
theorem dX6_turnNumber_5 : decode cX6_turnNumber 5 = .ok (.ireturn, 1) := by decide +kernel
theorem dX6_otherSide_0 : decode cX6_otherSide 0 = .ok (.iload_n 0, 1) := by decide +kernel
theorem dX6_otherSide_1 : decode cX6_otherSide 1 = .ok (.iconst 1, 1) := by decide +kernel
theorem dX6_otherSide_2 : decode cX6_otherSide 2 = .ok (.if_icmp .ne 7, 3) := by decide +kernel
theorem dX6_otherSide_5 : decode cX6_otherSide 5 = .ok (.iconst 2, 1) := by decide +kernel
theorem dX6_otherSide_6 : decode cX6_otherSide 6 = .ok (.goto 4, 3) := by decide +kernel
theorem dX6_otherSide_9 : decode cX6_otherSide 9 = .ok (.iconst 1, 1) := by decide +kernel
theorem dX6_otherSide_10 : decode cX6_otherSide 10 = .ok (.ireturn, 1) := by decide +kernel
theorem dX6_marblesOf_0 : decode cX6_marblesOf 0 = .ok (.iload_n 1, 1) := by decide +kernel
theorem dX6_marblesOf_1 : decode cX6_marblesOf 1 = .ok (.iconst 1, 1) := by decide +kernel
theorem dX6_marblesOf_2 : decode cX6_marblesOf 2 = .ok (.if_icmp .ne 10, 3) := by decide +kernel
theorem dX6_marblesOf_5 : decode cX6_marblesOf 5 = .ok (.aload_n 0, 1) := by decide +kernel
theorem dX6_marblesOf_6 : decode cX6_marblesOf 6 = .ok (.getfield 49, 3) := by decide +kernel
theorem dX6_marblesOf_9 : decode cX6_marblesOf 9 = .ok (.goto 7, 3) := by decide +kernel
theorem dX6_marblesOf_12 : decode cX6_marblesOf 12 = .ok (.aload_n 0, 1) := by decide +kernel
theorem dX6_marblesOf_13 : decode cX6_marblesOf 13 = .ok (.getfield 57, 3) := by decide +kernel
theorem dX6_marblesOf_16 : decode cX6_marblesOf 16 = .ok (.lreturn, 1) := by decide +kernel
theorem dX6_emptyCells_0 : decode cX6_emptyCells 0 = .ok (.ldc2_w 239, 3) := by decide +kernel
theorem dX6_emptyCells_3 : decode cX6_emptyCells 3 = .ok (.aload_n 0, 1) := by decide +kernel
theorem dX6_emptyCells_4 : decode cX6_emptyCells 4 = .ok (.getfield 49, 3) := by decide +kernel
theorem dX6_emptyCells_7 : decode cX6_emptyCells 7 = .ok (.aload_n 0, 1) := by decide +kernel
theorem dX6_emptyCells_8 : decode cX6_emptyCells 8 = .ok (.getfield 57, 3) := by decide +kernel
theorem dX6_emptyCells_11 : decode cX6_emptyCells 11 = .ok (.lor, 1) := by decide +kernel
theorem dX6_emptyCells_12 : decode cX6_emptyCells 12 = .ok (.ldc2_w 126, 3) := by decide +kernel
theorem dX6_emptyCells_15 : decode cX6_emptyCells 15 = .ok (.lxor, 1) := by decide +kernel
theorem dX6_emptyCells_16 : decode cX6_emptyCells 16 = .ok (.land, 1) := by decide +kernel
theorem dX6_emptyCells_17 : decode cX6_emptyCells 17 = .ok (.lreturn, 1) := by decide +kernel
set_option maxRecDepth 20000 in
theorem ggX6_isEmpty_X6_emptyCells : GoodIn wsX6_isEmpty wsX6_emptyCells := goodIn_r _ [5, 6, 7, 8, 9, 13, 14, 15, 16, 17, 18, 19] (by decide +kernel) (by decide +kernel)
set_option maxRecDepth 20000 in
theorem gX6_isEmpty_X6_emptyCells : GoodIn wsX6_isEmpty (wsV RX6 171 RX6 yX6_emptyCells wsX6_emptyCells) := goodIn_app (goodIn_of _ (by decide +kernel)) ggX6_isEmpty_X6_emptyCells
set_option maxRecDepth 20000 in
theorem ggX6_isEmpty_X6_bitOf : GoodIn wsX6_isEmpty wsX6_bitOf := goodIn_r _ [12] (by decide +kernel) (by decide +kernel)
set_option maxRecDepth 20000 in
theorem gX6_isEmpty_X6_bitOf : GoodIn wsX6_isEmpty (va_wsS RX6 53 yX6_bitOf wsX6_bitOf) := goodIn_app (goodIn_of _ (by decide +kernel)) ggX6_isEmpty_X6_bitOf
theorem dX6_isEmpty_0 : decode cX6_isEmpty 0 = .ok (.aload_n 0, 1) := by decide +kernel
theorem dX6_isEmpty_1 : decode cX6_isEmpty 1 = .ok (.invokevirtual 171, 3) := by decide +kernel
theorem dX6_isEmpty_4 : decode cX6_isEmpty 4 = .ok (.iload_n 1, 1) := by decide +kernel
theorem dX6_isEmpty_5 : decode cX6_isEmpty 5 = .ok (.invokestatic 53, 3) := by decide +kernel
theorem dX6_isEmpty_8 : decode cX6_isEmpty 8 = .ok (.land, 1) := by decide +kernel
theorem dX6_isEmpty_9 : decode cX6_isEmpty 9 = .ok (.lconst 0, 1) := by decide +kernel
theorem dX6_isEmpty_10 : decode cX6_isEmpty 10 = .ok (.lcmp, 1) := by decide +kernel
theorem dX6_isEmpty_11 : decode cX6_isEmpty 11 = .ok (.ifCond .eq 7, 3) := by decide +kernel
theorem dX6_isEmpty_14 : decode cX6_isEmpty 14 = .ok (.iconst 1, 1) := by decide +kernel
theorem dX6_isEmpty_15 : decode cX6_isEmpty 15 = .ok (.goto 4, 3) := by decide +kernel
theorem dX6_isEmpty_18 : decode cX6_isEmpty 18 = .ok (.iconst 0, 1) := by decide +kernel
theorem dX6_isEmpty_19 : decode cX6_isEmpty 19 = .ok (.ireturn, 1) := by decide +kernel
set_option maxRecDepth 20000 in
theorem ggX6_sideToAct_X6_marbles : GoodIn wsX6_sideToAct wsX6_marbles := goodIn_r _ [6, 7, 8, 9, 10, 11, 12, 13, 14, 15, 16, 17, 18, 19, 20, 21, 22] (by decide +kernel) (by decide +kernel)
set_option maxRecDepth 20000 in
theorem gX6_sideToAct_X6_marbles : GoodIn wsX6_sideToAct (wsV RX6 144 RX6 yX6_marbles wsX6_marbles) := goodIn_app (goodIn_of _ (by decide +kernel)) ggX6_sideToAct_X6_marbles
theorem dX6_sideToAct_0 : decode cX6_sideToAct 0 = .ok (.aload_n 0, 1) := by decide +kernel
theorem dX6_sideToAct_1 : decode cX6_sideToAct 1 = .ok (.getfield 72, 3) := by decide +kernel
theorem dX6_sideToAct_4 : decode cX6_sideToAct 4 = .ok (.ifCond .eq 12, 3) := by decide +kernel
theorem dX6_sideToAct_7 : decode cX6_sideToAct 7 = .ok (.aload_n 0, 1) := by decide +kernel
theorem dX6_sideToAct_8 : decode cX6_sideToAct 8 = .ok (.invokevirtual 144, 3) := by decide +kernel
theorem dX6_sideToAct_11 : decode cX6_sideToAct 11 = .ok (.iconst 1, 1) := by decide +kernel
theorem dX6_sideToAct_12 : decode cX6_sideToAct 12 = .ok (.isub, 1) := by decide +kernel
theorem dX6_sideToAct_13 : decode cX6_sideToAct 13 = .ok (.goto 7, 3) := by decide +kernel
theorem dX6_sideToAct_16 : decode cX6_sideToAct 16 = .ok (.aload_n 0, 1) := by decide +kernel
theorem dX6_sideToAct_17 : decode cX6_sideToAct 17 = .ok (.invokevirtual 144, 3) := by decide +kernel
theorem dX6_sideToAct_20 : decode cX6_sideToAct 20 = .ok (.istore_n 1, 1) := by decide +kernel
theorem dX6_sideToAct_21 : decode cX6_sideToAct 21 = .ok (.iload_n 1, 1) := by decide +kernel
theorem dX6_sideToAct_22 : decode cX6_sideToAct 22 = .ok (.iconst 2, 1) := by decide +kernel
theorem dX6_sideToAct_23 : decode cX6_sideToAct 23 = .ok (.irem, 1) := by decide +kernel
theorem dX6_sideToAct_24 : decode cX6_sideToAct 24 = .ok (.ifCond .ne 7, 3) := by decide +kernel
theorem dX6_sideToAct_27 : decode cX6_sideToAct 27 = .ok (.iconst 1, 1) := by decide +kernel
theorem dX6_sideToAct_28 : decode cX6_sideToAct 28 = .ok (.goto 4, 3) := by decide +kernel
theorem dX6_sideToAct_31 : decode cX6_sideToAct 31 = .ok (.iconst 2, 1) := by decide +kernel
theorem dX6_sideToAct_32 : decode cX6_sideToAct 32 = .ok (.ireturn, 1) := by decide +kernel
set_option maxRecDepth 20000 in
theorem ggX6_turnBoard_X4_turned : GoodIn wsX6_turnBoard wsX4_turned := goodIn_r _ [6, 7, 8, 9, 10, 5, 11, 12, 13, 14, 15, 16, 17, 18, 19, 20, 21, 22, 23, 24, 25, 26, 27, 28] (by decide +kernel) (by decide +kernel)
set_option maxRecDepth 20000 in
theorem gX6_turnBoard_X4_turned : GoodIn wsX6_turnBoard (va_wsS RX6 179 yX4_turned wsX4_turned) := goodIn_app (goodIn_of _ (by decide +kernel)) ggX6_turnBoard_X4_turned
theorem dX6_turnBoard_0 : decode cX6_turnBoard 0 = .ok (.aload_n 0, 1) := by decide +kernel
theorem dX6_turnBoard_1 : decode cX6_turnBoard 1 = .ok (.aload_n 0, 1) := by decide +kernel
theorem dX6_turnBoard_2 : decode cX6_turnBoard 2 = .ok (.getfield 49, 3) := by decide +kernel
theorem dX6_turnBoard_5 : decode cX6_turnBoard 5 = .ok (.iload_n 1, 1) := by decide +kernel
theorem dX6_turnBoard_6 : decode cX6_turnBoard 6 = .ok (.invokestatic 179, 3) := by decide +kernel
theorem dX6_turnBoard_9 : decode cX6_turnBoard 9 = .ok (.putfield 49, 3) := by decide +kernel
theorem dX6_turnBoard_12 : decode cX6_turnBoard 12 = .ok (.aload_n 0, 1) := by decide +kernel
theorem dX6_turnBoard_13 : decode cX6_turnBoard 13 = .ok (.aload_n 0, 1) := by decide +kernel
theorem dX6_turnBoard_14 : decode cX6_turnBoard 14 = .ok (.getfield 57, 3) := by decide +kernel
theorem dX6_turnBoard_17 : decode cX6_turnBoard 17 = .ok (.iload_n 1, 1) := by decide +kernel
theorem dX6_turnBoard_18 : decode cX6_turnBoard 18 = .ok (.invokestatic 179, 3) := by decide +kernel
theorem dX6_turnBoard_21 : decode cX6_turnBoard 21 = .ok (.putfield 57, 3) := by decide +kernel
theorem dX6_turnBoard_24 : decode cX6_turnBoard 24 = .ok (.return_, 1) := by decide +kernel
set_option maxRecDepth 20000 in
theorem ggX6_resultBehindTurn_X1_hasLine : GoodIn wsX6_resultBehindTurn wsX1_hasLine := goodIn_r _ [6, 7, 8, 9, 10, 11, 12, 5, 13] (by decide +kernel) (by decide +kernel)
set_option maxRecDepth 20000 in
theorem gX6_resultBehindTurn_X1_hasLine : GoodIn wsX6_resultBehindTurn (va_wsS RX6 66 yX1_hasLine wsX1_hasLine) := goodIn_app (goodIn_of _ (by decide +kernel)) ggX6_resultBehindTurn_X1_hasLine
set_option maxRecDepth 20000 in
theorem ggX6_resultBehindTurn_X6_emptyCells : GoodIn wsX6_resultBehindTurn wsX6_emptyCells := goodIn_r _ [18, 19, 1, 2, 20, 21, 22, 23, 24, 25, 26, 27] (by decide +kernel) (by decide +kernel)
set_option maxRecDepth 20000 in
theorem gX6_resultBehindTurn_X6_emptyCells : GoodIn wsX6_resultBehindTurn (wsV RX6 171 RX6 yX6_emptyCells wsX6_emptyCells) := goodIn_app (goodIn_of _ (by decide +kernel)) ggX6_resultBehindTurn_X6_emptyCells
theorem dX6_resultBehindTurn_0 : decode cX6_resultBehindTurn 0 = .ok (.aload_n 0, 1) := by decide +kernel
theorem dX6_resultBehindTurn_1 : decode cX6_resultBehindTurn 1 = .ok (.getfield 49, 3) := by decide +kernel
theorem dX6_resultBehindTurn_4 : decode cX6_resultBehindTurn 4 = .ok (.invokestatic 66, 3) := by decide +kernel
theorem dX6_resultBehindTurn_7 : decode cX6_resultBehindTurn 7 = .ok (.istore_n 1, 1) := by decide +kernel
theorem dX6_resultBehindTurn_8 : decode cX6_resultBehindTurn 8 = .ok (.aload_n 0, 1) := by decide +kernel
theorem dX6_resultBehindTurn_9 : decode cX6_resultBehindTurn 9 = .ok (.getfield 57, 3) := by decide +kernel
theorem dX6_resultBehindTurn_12 : decode cX6_resultBehindTurn 12 = .ok (.invokestatic 66, 3) := by decide +kernel
theorem dX6_resultBehindTurn_15 : decode cX6_resultBehindTurn 15 = .ok (.istore_n 2, 1) := by decide +kernel
theorem dX6_resultBehindTurn_16 : decode cX6_resultBehindTurn 16 = .ok (.iload_n 1, 1) := by decide +kernel
theorem dX6_resultBehindTurn_17 : decode cX6_resultBehindTurn 17 = .ok (.iload_n 2, 1) := by decide +kernel
theorem dX6_resultBehindTurn_18 : decode cX6_resultBehindTurn 18 = .ok (.if_icmp .eq 13, 3) := by decide +kernel
theorem dX6_resultBehindTurn_21 : decode cX6_resultBehindTurn 21 = .ok (.iload_n 1, 1) := by decide +kernel
theorem dX6_resultBehindTurn_22 : decode cX6_resultBehindTurn 22 = .ok (.ifCond .eq 7, 3) := by decide +kernel
theorem dX6_resultBehindTurn_25 : decode cX6_resultBehindTurn 25 = .ok (.iconst 1, 1) := by decide +kernel
theorem dX6_resultBehindTurn_26 : decode cX6_resultBehindTurn 26 = .ok (.goto 4, 3) := by decide +kernel
theorem dX6_resultBehindTurn_29 : decode cX6_resultBehindTurn 29 = .ok (.iconst 2, 1) := by decide +kernel
theorem dX6_resultBehindTurn_30 : decode cX6_resultBehindTurn 30 = .ok (.ireturn, 1) := by decide +kernel
theorem dX6_resultBehindTurn_31 : decode cX6_resultBehindTurn 31 = .ok (.iload_n 1, 1) := by decide +kernel
theorem dX6_resultBehindTurn_32 : decode cX6_resultBehindTurn 32 = .ok (.ifCond .ne 12, 3) := by decide +kernel
theorem dX6_resultBehindTurn_35 : decode cX6_resultBehindTurn 35 = .ok (.aload_n 0, 1) := by decide +kernel
theorem dX6_resultBehindTurn_36 : decode cX6_resultBehindTurn 36 = .ok (.invokevirtual 171, 3) := by decide +kernel
theorem dX6_resultBehindTurn_39 : decode cX6_resultBehindTurn 39 = .ok (.lconst 0, 1) := by decide +kernel
theorem dX6_resultBehindTurn_40 : decode cX6_resultBehindTurn 40 = .ok (.lcmp, 1) := by decide +kernel
theorem dX6_resultBehindTurn_41 : decode cX6_resultBehindTurn 41 = .ok (.ifCond .ne 7, 3) := by decide +kernel
theorem dX6_resultBehindTurn_44 : decode cX6_resultBehindTurn 44 = .ok (.iconst 3, 1) := by decide +kernel
theorem dX6_resultBehindTurn_45 : decode cX6_resultBehindTurn 45 = .ok (.goto 4, 3) := by decide +kernel
theorem dX6_resultBehindTurn_48 : decode cX6_resultBehindTurn 48 = .ok (.iconst 0, 1) := by decide +kernel
theorem dX6_resultBehindTurn_49 : decode cX6_resultBehindTurn 49 = .ok (.ireturn, 1) := by decide +kernel
set_option maxRecDepth 20000 in
theorem ggX6_lengthOfText_X2_hasTurn : GoodIn wsX6_lengthOfText wsX2_hasTurn := goodIn_r _ [6, 7, 8, 9, 5, 10, 11, 12, 13, 14, 15, 16, 24, 25, 26] (by decide +kernel) (by decide +kernel)
set_option maxRecDepth 20000 in
theorem gX6_lengthOfText_X2_hasTurn : GoodIn wsX6_lengthOfText (wsV RX6 107 RX2 yX2_hasTurn wsX2_hasTurn) := goodIn_app (goodIn_of _ (by decide +kernel)) ggX6_lengthOfText_X2_hasTurn
theorem dX6_lengthOfText_0 : decode cX6_lengthOfText 0 = .ok (.aload_n 0, 1) := by decide +kernel
theorem dX6_lengthOfText_1 : decode cX6_lengthOfText 1 = .ok (.getfield 12, 3) := by decide +kernel
theorem dX6_lengthOfText_4 : decode cX6_lengthOfText 4 = .ok (.iload_n 1, 1) := by decide +kernel
theorem dX6_lengthOfText_5 : decode cX6_lengthOfText 5 = .ok (.invokevirtual 107, 3) := by decide +kernel
theorem dX6_lengthOfText_8 : decode cX6_lengthOfText 8 = .ok (.ifCond .eq 7, 3) := by decide +kernel
theorem dX6_lengthOfText_11 : decode cX6_lengthOfText 11 = .ok (.iconst 4, 1) := by decide +kernel
theorem dX6_lengthOfText_12 : decode cX6_lengthOfText 12 = .ok (.goto 4, 3) := by decide +kernel
theorem dX6_lengthOfText_15 : decode cX6_lengthOfText 15 = .ok (.iconst 2, 1) := by decide +kernel
theorem dX6_lengthOfText_16 : decode cX6_lengthOfText 16 = .ok (.ireturn, 1) := by decide +kernel
set_option maxRecDepth 20000 in
theorem ggX6_solveWith_X6_sideToAct : GoodIn wsX6_solveWith wsX6_sideToAct := goodIn_r _ [6, 1, 7, 8, 9, 5, 10, 11, 12, 13, 14, 15, 16, 17, 18, 19, 126, 127, 128, 129, 130, 131, 132] (by decide +kernel) (by decide +kernel)
set_option maxRecDepth 20000 in
theorem gX6_solveWith_X6_sideToAct : GoodIn wsX6_solveWith (wsV RX6 45 RX6 yX6_sideToAct wsX6_sideToAct) := goodIn_app (goodIn_of _ (by decide +kernel)) ggX6_solveWith_X6_sideToAct
set_option maxRecDepth 20000 in
theorem ggX6_solveWith_X6_marblesOf : GoodIn wsX6_solveWith wsX6_marblesOf := goodIn_r _ [23, 11, 12, 126, 127, 128, 129, 130, 131, 132] (by decide +kernel) (by decide +kernel)
set_option maxRecDepth 20000 in
theorem gX6_solveWith_X6_marblesOf : GoodIn wsX6_solveWith (wsV RX6 63 RX6 yX6_marblesOf wsX6_marblesOf) := goodIn_app (goodIn_of _ (by decide +kernel)) ggX6_solveWith_X6_marblesOf
set_option maxRecDepth 20000 in
theorem ggX6_solveWith_X6_otherSide : GoodIn wsX6_solveWith wsX6_otherSide := goodIn_r _ [26] (by decide +kernel) (by decide +kernel)
set_option maxRecDepth 20000 in
theorem gX6_solveWith_X6_otherSide : GoodIn wsX6_solveWith (va_wsS RX6 195 yX6_otherSide wsX6_otherSide) := goodIn_app (goodIn_of _ (by decide +kernel)) ggX6_solveWith_X6_otherSide
set_option maxRecDepth 20000 in
theorem ggX6_solveWith_X6_emptyCells : GoodIn wsX6_solveWith wsX6_emptyCells := goodIn_r _ [30, 31, 11, 12, 32, 126, 127, 128, 129, 130, 131, 132] (by decide +kernel) (by decide +kernel)
set_option maxRecDepth 20000 in
theorem gX6_solveWith_X6_emptyCells : GoodIn wsX6_solveWith (wsV RX6 171 RX6 yX6_emptyCells wsX6_emptyCells) := goodIn_app (goodIn_of _ (by decide +kernel)) ggX6_solveWith_X6_emptyCells
set_option maxRecDepth 20000 in
theorem ggX6_solveWith_J13_bitCount_95d88 : GoodIn wsX6_solveWith wsJ13_bitCount_95d88 := goodIn_r _ [16, 17, 18, 19] (by decide +kernel) (by decide +kernel)
set_option maxRecDepth 20000 in
theorem gX6_solveWith_J13_bitCount_95d88 : GoodIn wsX6_solveWith (va_wsS RX6 138 yJ13_bitCount_95d88 wsJ13_bitCount_95d88) := goodIn_app (goodIn_of _ (by decide +kernel)) ggX6_solveWith_J13_bitCount_95d88
set_option maxRecDepth 20000 in
theorem ggX6_solveWith_X3_valueToTurn : GoodIn wsX6_solveWith wsX3_valueToTurn := goodIn_r _ [36, 37, 38, 39, 40, 41, 42, 43, 34, 44, 45, 5, 46, 47, 48, 49, 50, 51, 52, 53, 54, 55, 56, 57, 58, 33, 35, 59, 60, 61, 62, 63, 64, 65, 66, 67, 68, 69, 70, 71, 72, 73, 74, 75, 76, 77, 78, 79, 80, 81, 82, 83, 84, 85, 86, 87, 88, 89, 90, 91, 92, 93, 94, 14, 15, 16, 17, 18, 19, 95, 96, 97, 98, 99, 100, 101, 102, 103, 104, 105, 106, 107, 108, 109, 110, 111, 112, 113, 114, 115, 116, 117, 118, 119, 120, 121, 122, 123, 124, 125, 133, 134, 135] (by decide +kernel) (by decide +kernel)
set_option maxRecDepth 20000 in
theorem gX6_solveWith_X3_valueToTurn_n241 : GoodIn wsX6_solveWith (wsX3_valueToTurn) := ggX6_solveWith_X3_valueToTurn
set_option maxRecDepth 20000 in
theorem ggX6_solveWith_X3_valueToPut : GoodIn wsX6_solveWith wsX3_valueToPut := goodIn_r _ [89, 90, 91, 92, 93, 34, 94, 14, 15, 16, 17, 18, 19, 95, 96, 97, 98, 99, 100, 39, 101, 102, 103, 104, 105, 106, 107, 108, 109, 110, 111, 112, 113, 114, 115, 116, 117, 118, 119, 120, 121, 122, 123, 124, 125, 44, 37, 38, 40, 45, 5, 46, 47, 48, 49, 50, 51, 52, 53, 54, 55, 56, 57, 58, 33, 35, 59, 60, 61, 62, 63, 64, 65, 66, 67, 68, 69, 70, 71, 72, 73, 74, 75, 76, 77, 78, 79, 80, 81, 82, 83, 84, 85, 86, 87, 88, 36, 41, 42, 43, 133, 134, 135] (by decide +kernel) (by decide +kernel)
set_option maxRecDepth 20000 in
theorem gX6_solveWith_X3_valueToPut_n244 : GoodIn wsX6_solveWith (wsX3_valueToPut) := ggX6_solveWith_X3_valueToPut
theorem dX6_solveWith_0 : decode cX6_solveWith 0 = .ok (.aload_n 0, 1) := by decide +kernel
theorem dX6_solveWith_1 : decode cX6_solveWith 1 = .ok (.invokevirtual 45, 3) := by decide +kernel
theorem dX6_solveWith_4 : decode cX6_solveWith 4 = .ok (.istore_n 2, 1) := by decide +kernel
theorem dX6_solveWith_5 : decode cX6_solveWith 5 = .ok (.aload_n 0, 1) := by decide +kernel
theorem dX6_solveWith_6 : decode cX6_solveWith 6 = .ok (.iload_n 2, 1) := by decide +kernel
theorem dX6_solveWith_7 : decode cX6_solveWith 7 = .ok (.invokevirtual 63, 3) := by decide +kernel
theorem dX6_solveWith_10 : decode cX6_solveWith 10 = .ok (.lstore_n 3, 1) := by decide +kernel
theorem dX6_solveWith_11 : decode cX6_solveWith 11 = .ok (.aload_n 0, 1) := by decide +kernel
theorem dX6_solveWith_12 : decode cX6_solveWith 12 = .ok (.iload_n 2, 1) := by decide +kernel
theorem dX6_solveWith_13 : decode cX6_solveWith 13 = .ok (.invokestatic 195, 3) := by decide +kernel
theorem dX6_solveWith_16 : decode cX6_solveWith 16 = .ok (.invokevirtual 63, 3) := by decide +kernel
theorem dX6_solveWith_19 : decode cX6_solveWith 19 = .ok (.lstore 5, 2) := by decide +kernel
theorem dX6_solveWith_21 : decode cX6_solveWith 21 = .ok (.aload_n 0, 1) := by decide +kernel
theorem dX6_solveWith_22 : decode cX6_solveWith 22 = .ok (.invokevirtual 171, 3) := by decide +kernel
theorem dX6_solveWith_25 : decode cX6_solveWith 25 = .ok (.invokestatic 138, 3) := by decide +kernel
theorem dX6_solveWith_28 : decode cX6_solveWith 28 = .ok (.istore 7, 2) := by decide +kernel
theorem dX6_solveWith_30 : decode cX6_solveWith 30 = .ok (.aload_n 0, 1) := by decide +kernel
theorem dX6_solveWith_31 : decode cX6_solveWith 31 = .ok (.getfield 72, 3) := by decide +kernel
theorem dX6_solveWith_34 : decode cX6_solveWith 34 = .ok (.ifCond .eq 15, 3) := by decide +kernel
theorem dX6_solveWith_37 : decode cX6_solveWith 37 = .ok (.aload_n 1, 1) := by decide +kernel
theorem dX6_solveWith_38 : decode cX6_solveWith 38 = .ok (.lload_n 3, 1) := by decide +kernel
theorem dX6_solveWith_39 : decode cX6_solveWith 39 = .ok (.lload 5, 2) := by decide +kernel
theorem dX6_solveWith_41 : decode cX6_solveWith 41 = .ok (.iload 7, 2) := by decide +kernel
theorem dX6_solveWith_43 : decode cX6_solveWith 43 = .ok (.invokevirtual 241, 3) := by decide +kernel
theorem dX6_solveWith_46 : decode cX6_solveWith 46 = .ok (.goto 12, 3) := by decide +kernel
theorem dX6_solveWith_49 : decode cX6_solveWith 49 = .ok (.aload_n 1, 1) := by decide +kernel
theorem dX6_solveWith_50 : decode cX6_solveWith 50 = .ok (.lload_n 3, 1) := by decide +kernel
theorem dX6_solveWith_51 : decode cX6_solveWith 51 = .ok (.lload 5, 2) := by decide +kernel
theorem dX6_solveWith_53 : decode cX6_solveWith 53 = .ok (.iload 7, 2) := by decide +kernel
theorem dX6_solveWith_55 : decode cX6_solveWith 55 = .ok (.invokevirtual 244, 3) := by decide +kernel
theorem dX6_solveWith_58 : decode cX6_solveWith 58 = .ok (.ireturn, 1) := by decide +kernel
theorem dX7_init_0 : decode cX7_init 0 = .ok (.aload_n 0, 1) := by decide +kernel
theorem dX7_init_1 : decode cX7_init 1 = .ok (.invokespecial 1, 3) := by decide +kernel
theorem dX7_init_4 : decode cX7_init 4 = .ok (.aload_n 0, 1) := by decide +kernel
theorem dX7_init_5 : decode cX7_init 5 = .ok (.iconst 3, 1) := by decide +kernel
theorem dX7_init_6 : decode cX7_init 6 = .ok (.newarray .long, 2) := by decide +kernel
theorem dX7_init_8 : decode cX7_init 8 = .ok (.putfield 7, 3) := by decide +kernel
theorem dX7_init_11 : decode cX7_init 11 = .ok (.aload_n 0, 1) := by decide +kernel
theorem dX7_init_12 : decode cX7_init 12 = .ok (.iconst 1, 1) := by decide +kernel
theorem dX7_init_13 : decode cX7_init 13 = .ok (.putfield 13, 3) := by decide +kernel
theorem dX7_init_16 : decode cX7_init 16 = .ok (.aload_n 0, 1) := by decide +kernel
theorem dX7_init_17 : decode cX7_init 17 = .ok (.bipush 36, 2) := by decide +kernel
theorem dX7_init_19 : decode cX7_init 19 = .ok (.newarray .int, 2) := by decide +kernel
theorem dX7_init_21 : decode cX7_init 21 = .ok (.putfield 17, 3) := by decide +kernel
theorem dX7_init_24 : decode cX7_init 24 = .ok (.aload_n 0, 1) := by decide +kernel
theorem dX7_init_25 : decode cX7_init 25 = .ok (.bipush 36, 2) := by decide +kernel
theorem dX7_init_27 : decode cX7_init 27 = .ok (.newarray .int, 2) := by decide +kernel
theorem dX7_init_29 : decode cX7_init 29 = .ok (.putfield 21, 3) := by decide +kernel
theorem dX7_init_32 : decode cX7_init 32 = .ok (.aload_n 0, 1) := by decide +kernel
theorem dX7_init_33 : decode cX7_init 33 = .ok (.iconst 3, 1) := by decide +kernel
theorem dX7_init_34 : decode cX7_init 34 = .ok (.newarray .long, 2) := by decide +kernel
theorem dX7_init_36 : decode cX7_init 36 = .ok (.putfield 24, 3) := by decide +kernel
theorem dX7_init_39 : decode cX7_init 39 = .ok (.aload_n 0, 1) := by decide +kernel
theorem dX7_init_40 : decode cX7_init 40 = .ok (.bipush 6, 2) := by decide +kernel
theorem dX7_init_42 : decode cX7_init 42 = .ok (.newarray .long, 2) := by decide +kernel
theorem dX7_init_44 : decode cX7_init 44 = .ok (.putfield 27, 3) := by decide +kernel
theorem dX7_init_47 : decode cX7_init 47 = .ok (.aload_n 0, 1) := by decide +kernel
theorem dX7_init_48 : decode cX7_init 48 = .ok (.bipush 6, 2) := by decide +kernel
theorem dX7_init_50 : decode cX7_init 50 = .ok (.newarray .long, 2) := by decide +kernel
theorem dX7_init_52 : decode cX7_init 52 = .ok (.putfield 30, 3) := by decide +kernel
theorem dX7_init_55 : decode cX7_init 55 = .ok (.aload_n 0, 1) := by decide +kernel
theorem dX7_init_56 : decode cX7_init 56 = .ok (.bipush 6, 2) := by decide +kernel
theorem dX7_init_58 : decode cX7_init 58 = .ok (.newarray .int, 2) := by decide +kernel
theorem dX7_init_60 : decode cX7_init 60 = .ok (.putfield 33, 3) := by decide +kernel
theorem dX7_init_63 : decode cX7_init 63 = .ok (.aload_n 0, 1) := by decide +kernel
theorem dX7_init_64 : decode cX7_init 64 = .ok (.bipush 6, 2) := by decide +kernel
theorem dX7_init_66 : decode cX7_init 66 = .ok (.newarray .int, 2) := by decide +kernel
theorem dX7_init_68 : decode cX7_init 68 = .ok (.putfield 36, 3) := by decide +kernel
theorem dX7_init_71 : decode cX7_init 71 = .ok (.aload_n 0, 1) := by decide +kernel
theorem dX7_init_72 : decode cX7_init 72 = .ok (.bipush 6, 2) := by decide +kernel
theorem dX7_init_74 : decode cX7_init 74 = .ok (.newarray .int, 2) := by decide +kernel
theorem dX7_init_76 : decode cX7_init 76 = .ok (.putfield 39, 3) := by decide +kernel
theorem dX7_init_79 : decode cX7_init 79 = .ok (.return_, 1) := by decide +kernel
theorem dX7_thrown_0 : decode cX7_thrown 0 = .ok (.aload_n 0, 1) := by decide +kernel
theorem dX7_thrown_1 : decode cX7_thrown 1 = .ok (.getfield 42, 3) := by decide +kernel
theorem dX7_thrown_4 : decode cX7_thrown 4 = .ok (.ireturn, 1) := by decide +kernel
theorem dX7_goesWell_0 : decode cX7_goesWell 0 = .ok (.aload_n 0, 1) := by decide +kernel
theorem dX7_goesWell_1 : decode cX7_goesWell 1 = .ok (.iload_n 1, 1) := by decide +kernel
theorem dX7_goesWell_2 : decode cX7_goesWell 2 = .ok (.putfield 42, 3) := by decide +kernel
theorem dX7_goesWell_5 : decode cX7_goesWell 5 = .ok (.iload_n 1, 1) := by decide +kernel
theorem dX7_goesWell_6 : decode cX7_goesWell 6 = .ok (.ifCond .ne 7, 3) := by decide +kernel
theorem dX7_goesWell_9 : decode cX7_goesWell 9 = .ok (.iconst 1, 1) := by decide +kernel
theorem dX7_goesWell_10 : decode cX7_goesWell 10 = .ok (.goto 4, 3) := by decide +kernel
theorem dX7_goesWell_13 : decode cX7_goesWell 13 = .ok (.iconst 0, 1) := by decide +kernel
theorem dX7_goesWell_14 : decode cX7_goesWell 14 = .ok (.ireturn, 1) := by decide +kernel
theorem dX7_in_0 : decode cX7_in 0 = .ok (.iload_n 0, 1) := by decide +kernel
theorem dX7_in_1 : decode cX7_in 1 = .ok (.iload_n 1, 1) := by decide +kernel
theorem dX7_in_2 : decode cX7_in 2 = .ok (.if_icmp .lt 12, 3) := by decide +kernel
theorem dX7_in_5 : decode cX7_in 5 = .ok (.iload_n 0, 1) := by decide +kernel
theorem dX7_in_6 : decode cX7_in 6 = .ok (.iload_n 2, 1) := by decide +kernel
theorem dX7_in_7 : decode cX7_in 7 = .ok (.if_icmp .gt 7, 3) := by decide +kernel
theorem dX7_in_10 : decode cX7_in 10 = .ok (.iconst 1, 1) := by decide +kernel
theorem dX7_in_11 : decode cX7_in 11 = .ok (.goto 4, 3) := by decide +kernel
theorem dX7_in_14 : decode cX7_in 14 = .ok (.iconst 0, 1) := by decide +kernel
theorem dX7_in_15 : decode cX7_in 15 = .ok (.ireturn, 1) := by decide +kernel
set_option maxRecDepth 20000 in
theorem ggX7_isCell_X7_in : GoodIn wsX7_isCell wsX7_in := goodIn_r _ [4] (by decide +kernel) (by decide +kernel)
set_option maxRecDepth 20000 in
theorem gX7_isCell_X7_in : GoodIn wsX7_isCell (va_wsS RX7 45 yX7_in wsX7_in) := goodIn_app (goodIn_of _ (by decide +kernel)) ggX7_isCell_X7_in
theorem dX7_isCell_0 : decode cX7_isCell 0 = .ok (.iload_n 0, 1) := by decide +kernel
theorem dX7_isCell_1 : decode cX7_isCell 1 = .ok (.iconst 0, 1) := by decide +kernel
theorem dX7_isCell_2 : decode cX7_isCell 2 = .ok (.bipush 35, 2) := by decide +kernel
theorem dX7_isCell_4 : decode cX7_isCell 4 = .ok (.invokestatic 45, 3) := by decide +kernel
theorem dX7_isCell_7 : decode cX7_isCell 7 = .ok (.ireturn, 1) := by decide +kernel
set_option maxRecDepth 20000 in
theorem ggX7_isSide_X7_in : GoodIn wsX7_isSide wsX7_in := goodIn_r _ [4] (by decide +kernel) (by decide +kernel)
set_option maxRecDepth 20000 in
theorem gX7_isSide_X7_in : GoodIn wsX7_isSide (va_wsS RX7 45 yX7_in wsX7_in) := goodIn_app (goodIn_of _ (by decide +kernel)) ggX7_isSide_X7_in
theorem dX7_isSide_0 : decode cX7_isSide 0 = .ok (.iload_n 0, 1) := by decide +kernel
theorem dX7_isSide_1 : decode cX7_isSide 1 = .ok (.iconst 1, 1) := by decide +kernel
theorem dX7_isSide_2 : decode cX7_isSide 2 = .ok (.iconst 2, 1) := by decide +kernel
theorem dX7_isSide_3 : decode cX7_isSide 3 = .ok (.invokestatic 45, 3) := by decide +kernel
theorem dX7_isSide_6 : decode cX7_isSide 6 = .ok (.ireturn, 1) := by decide +kernel
theorem dX7_has_0 : decode cX7_has 0 = .ok (.lload_n 0, 1) := by decide +kernel
theorem dX7_has_1 : decode cX7_has 1 = .ok (.iload_n 2, 1) := by decide +kernel
theorem dX7_has_2 : decode cX7_has 2 = .ok (.lshr, 1) := by decide +kernel
theorem dX7_has_3 : decode cX7_has 3 = .ok (.lconst 1, 1) := by decide +kernel
theorem dX7_has_4 : decode cX7_has 4 = .ok (.land, 1) := by decide +kernel
theorem dX7_has_5 : decode cX7_has 5 = .ok (.lconst 1, 1) := by decide +kernel
theorem dX7_has_6 : decode cX7_has 6 = .ok (.lcmp, 1) := by decide +kernel
theorem dX7_has_7 : decode cX7_has 7 = .ok (.ifCond .ne 7, 3) := by decide +kernel
theorem dX7_has_10 : decode cX7_has 10 = .ok (.iconst 1, 1) := by decide +kernel
theorem dX7_has_11 : decode cX7_has 11 = .ok (.goto 4, 3) := by decide +kernel
theorem dX7_has_14 : decode cX7_has 14 = .ok (.iconst 0, 1) := by decide +kernel
theorem dX7_has_15 : decode cX7_has 15 = .ok (.ireturn, 1) := by decide +kernel
theorem dX7_cellOf_0 : decode cX7_cellOf 0 = .ok (.iload_n 0, 1) := by decide +kernel
theorem dX7_cellOf_1 : decode cX7_cellOf 1 = .ok (.bipush 12, 2) := by decide +kernel
theorem dX7_cellOf_3 : decode cX7_cellOf 3 = .ok (.if_icmp .ge 16, 3) := by decide +kernel
theorem dX7_cellOf_6 : decode cX7_cellOf 6 = .ok (.bipush 6, 2) := by decide +kernel
theorem dX7_cellOf_8 : decode cX7_cellOf 8 = .ok (.iload_n 0, 1) := by decide +kernel
theorem dX7_cellOf_9 : decode cX7_cellOf 9 = .ok (.iconst 2, 1) := by decide +kernel
theorem dX7_cellOf_10 : decode cX7_cellOf 10 = .ok (.idiv, 1) := by decide +kernel
theorem dX7_cellOf_11 : decode cX7_cellOf 11 = .ok (.imul, 1) := by decide +kernel
theorem dX7_cellOf_12 : decode cX7_cellOf 12 = .ok (.iload_n 0, 1) := by decide +kernel
theorem dX7_cellOf_13 : decode cX7_cellOf 13 = .ok (.iconst 2, 1) := by decide +kernel
theorem dX7_cellOf_14 : decode cX7_cellOf 14 = .ok (.irem, 1) := by decide +kernel
theorem dX7_cellOf_15 : decode cX7_cellOf 15 = .ok (.iadd, 1) := by decide +kernel
theorem dX7_cellOf_16 : decode cX7_cellOf 16 = .ok (.iload_n 1, 1) := by decide +kernel
theorem dX7_cellOf_17 : decode cX7_cellOf 17 = .ok (.iadd, 1) := by decide +kernel
theorem dX7_cellOf_18 : decode cX7_cellOf 18 = .ok (.ireturn, 1) := by decide +kernel
theorem dX7_cellOf_19 : decode cX7_cellOf 19 = .ok (.iload_n 0, 1) := by decide +kernel
theorem dX7_cellOf_20 : decode cX7_cellOf 20 = .ok (.bipush 24, 2) := by decide +kernel
theorem dX7_cellOf_22 : decode cX7_cellOf 22 = .ok (.if_icmp .ge 22, 3) := by decide +kernel
theorem dX7_cellOf_25 : decode cX7_cellOf 25 = .ok (.bipush 6, 2) := by decide +kernel
theorem dX7_cellOf_27 : decode cX7_cellOf 27 = .ok (.iload_n 0, 1) := by decide +kernel
