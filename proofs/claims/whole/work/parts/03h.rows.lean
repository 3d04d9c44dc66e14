theorem dX7_value_0 : decode cX7_value 0 = .ok (.aload_n 0, 1) := by decide +kernel
theorem dX7_value_1 : decode cX7_value 1 = .ok (.invokevirtual 137, 3) := by decide +kernel
theorem dX7_value_4 : decode cX7_value 4 = .ok (.ireturn, 1) := by decide +kernel
set_option maxRecDepth 20000 in
theorem ggX7_valueOnBoards_X7_isEnding : GoodIn wsX7_valueOnBoards wsX7_isEnding := goodIn_r _ [5, 6, 7, 8, 9, 4, 10, 11, 12, 13, 61, 62, 63, 64, 65, 66, 67, 68, 69, 70, 71, 72, 73, 74, 75] (by decide +kernel) (by decide +kernel)
set_option maxRecDepth 20000 in
theorem gX7_valueOnBoards_X7_isEnding : GoodIn wsX7_valueOnBoards (wsV RX7 141 RX7 yX7_isEnding wsX7_isEnding) := goodIn_app (goodIn_of _ (by decide +kernel)) ggX7_valueOnBoards_X7_isEnding
set_option maxRecDepth 20000 in
theorem ggX7_valueOnBoards_X7_goesWell : GoodIn wsX7_valueOnBoards wsX7_goesWell := goodIn_r _ [17, 18, 61, 62, 63, 64, 65, 66, 67, 68, 69, 70, 71, 72, 73, 74, 75] (by decide +kernel) (by decide +kernel)
set_option maxRecDepth 20000 in
theorem gX7_valueOnBoards_X7_goesWell : GoodIn wsX7_valueOnBoards (wsV RX7 80 RX7 yX7_goesWell wsX7_goesWell) := goodIn_app (goodIn_of _ (by decide +kernel)) ggX7_valueOnBoards_X7_goesWell
set_option maxRecDepth 20000 in
theorem ggX7_valueOnBoards_X7_solve : GoodIn wsX7_valueOnBoards wsX7_solve := goodIn_r _ [22, 23, 24, 25, 26, 27, 28, 29, 30, 4, 31, 32, 7, 33, 34, 35, 36, 37, 38, 11, 12, 13, 39, 40, 41, 42, 43, 44, 45, 46, 47, 48, 49, 50, 51, 52, 53, 54, 55, 56, 57, 58, 59, 60, 61, 62, 63, 64, 65, 66, 67, 68, 69, 70, 71, 72, 73, 74, 75] (by decide +kernel) (by decide +kernel)
set_option maxRecDepth 20000 in
theorem gX7_valueOnBoards_X7_solve : GoodIn wsX7_valueOnBoards (wsV RX7 145 RX7 yX7_solve wsX7_solve) := goodIn_app (goodIn_of _ (by decide +kernel)) ggX7_valueOnBoards_X7_solve
theorem dX7_valueOnBoards_0 : decode cX7_valueOnBoards 0 = .ok (.aload_n 0, 1) := by decide +kernel
theorem dX7_valueOnBoards_1 : decode cX7_valueOnBoards 1 = .ok (.aload_n 0, 1) := by decide +kernel
theorem dX7_valueOnBoards_2 : decode cX7_valueOnBoards 2 = .ok (.invokevirtual 141, 3) := by decide +kernel
theorem dX7_valueOnBoards_5 : decode cX7_valueOnBoards 5 = .ok (.ifCond .eq 7, 3) := by decide +kernel
theorem dX7_valueOnBoards_8 : decode cX7_valueOnBoards 8 = .ok (.iconst 0, 1) := by decide +kernel
theorem dX7_valueOnBoards_9 : decode cX7_valueOnBoards 9 = .ok (.goto 4, 3) := by decide +kernel
theorem dX7_valueOnBoards_12 : decode cX7_valueOnBoards 12 = .ok (.iconst 1, 1) := by decide +kernel
theorem dX7_valueOnBoards_13 : decode cX7_valueOnBoards 13 = .ok (.invokevirtual 80, 3) := by decide +kernel
theorem dX7_valueOnBoards_16 : decode cX7_valueOnBoards 16 = .ok (.ifCond .eq 10, 3) := by decide +kernel
theorem dX7_valueOnBoards_19 : decode cX7_valueOnBoards 19 = .ok (.aload_n 0, 1) := by decide +kernel
theorem dX7_valueOnBoards_20 : decode cX7_valueOnBoards 20 = .ok (.invokevirtual 145, 3) := by decide +kernel
theorem dX7_valueOnBoards_23 : decode cX7_valueOnBoards 23 = .ok (.goto 4, 3) := by decide +kernel
theorem dX7_valueOnBoards_26 : decode cX7_valueOnBoards 26 = .ok (.iconst 0, 1) := by decide +kernel
theorem dX7_valueOnBoards_27 : decode cX7_valueOnBoards 27 = .ok (.ireturn, 1) := by decide +kernel
set_option maxRecDepth 20000 in
theorem ggX7_bestMove_X7_isEnding : GoodIn wsX7_bestMove wsX7_isEnding := goodIn_r _ [6, 7, 8, 9, 10, 5, 11, 12, 13, 14, 61, 62, 63, 64, 65, 66, 67, 68, 69, 70, 71, 72, 73, 74, 75] (by decide +kernel) (by decide +kernel)
set_option maxRecDepth 20000 in
theorem gX7_bestMove_X7_isEnding : GoodIn wsX7_bestMove (wsV RX7 141 RX7 yX7_isEnding wsX7_isEnding) := goodIn_app (goodIn_of _ (by decide +kernel)) ggX7_bestMove_X7_isEnding
set_option maxRecDepth 20000 in
theorem ggX7_bestMove_X7_goesWell : GoodIn wsX7_bestMove wsX7_goesWell := goodIn_r _ [18, 19, 61, 62, 63, 64, 65, 66, 67, 68, 69, 70, 71, 72, 73, 74, 75] (by decide +kernel) (by decide +kernel)
set_option maxRecDepth 20000 in
theorem gX7_bestMove_X7_goesWell : GoodIn wsX7_bestMove (wsV RX7 80 RX7 yX7_goesWell wsX7_goesWell) := goodIn_app (goodIn_of _ (by decide +kernel)) ggX7_bestMove_X7_goesWell
set_option maxRecDepth 20000 in
theorem ggX7_bestMove_X7_solve : GoodIn wsX7_bestMove wsX7_solve := goodIn_r _ [23, 24, 25, 26, 27, 28, 29, 30, 31, 5, 32, 33, 8, 34, 35, 36, 37, 38, 39, 12, 13, 14, 40, 41, 42, 43, 44, 45, 46, 47, 48, 49, 50, 51, 52, 53, 54, 55, 56, 57, 58, 59, 60, 1, 61, 62, 63, 64, 65, 66, 67, 68, 69, 70, 71, 72, 73, 74, 75] (by decide +kernel) (by decide +kernel)
set_option maxRecDepth 20000 in
theorem gX7_bestMove_X7_solve : GoodIn wsX7_bestMove (wsV RX7 145 RX7 yX7_solve wsX7_solve) := goodIn_app (goodIn_of _ (by decide +kernel)) ggX7_bestMove_X7_solve
theorem dX7_bestMove_0 : decode cX7_bestMove 0 = .ok (.aload_n 0, 1) := by decide +kernel
theorem dX7_bestMove_1 : decode cX7_bestMove 1 = .ok (.aload_n 0, 1) := by decide +kernel
theorem dX7_bestMove_2 : decode cX7_bestMove 2 = .ok (.invokevirtual 141, 3) := by decide +kernel
theorem dX7_bestMove_5 : decode cX7_bestMove 5 = .ok (.ifCond .eq 7, 3) := by decide +kernel
theorem dX7_bestMove_8 : decode cX7_bestMove 8 = .ok (.iconst 0, 1) := by decide +kernel
theorem dX7_bestMove_9 : decode cX7_bestMove 9 = .ok (.goto 4, 3) := by decide +kernel
theorem dX7_bestMove_12 : decode cX7_bestMove 12 = .ok (.iconst 1, 1) := by decide +kernel
theorem dX7_bestMove_13 : decode cX7_bestMove 13 = .ok (.invokevirtual 80, 3) := by decide +kernel
theorem dX7_bestMove_16 : decode cX7_bestMove 16 = .ok (.ifCond .ne 5, 3) := by decide +kernel
theorem dX7_bestMove_19 : decode cX7_bestMove 19 = .ok (.iconst 0, 1) := by decide +kernel
theorem dX7_bestMove_20 : decode cX7_bestMove 20 = .ok (.ireturn, 1) := by decide +kernel
theorem dX7_bestMove_21 : decode cX7_bestMove 21 = .ok (.aload_n 0, 1) := by decide +kernel
theorem dX7_bestMove_22 : decode cX7_bestMove 22 = .ok (.invokevirtual 145, 3) := by decide +kernel
theorem dX7_bestMove_25 : decode cX7_bestMove 25 = .ok (.istore_n 1, 1) := by decide +kernel
theorem dX7_bestMove_26 : decode cX7_bestMove 26 = .ok (.aload_n 0, 1) := by decide +kernel
theorem dX7_bestMove_27 : decode cX7_bestMove 27 = .ok (.getfield 123, 3) := by decide +kernel
theorem dX7_bestMove_30 : decode cX7_bestMove 30 = .ok (.ireturn, 1) := by decide +kernel
theorem dJ13_bitCount_95d88_0 : decode cJ13_bitCount_95d88 0 = .ok (.lload_n 0, 1) := by decide +kernel
theorem dJ13_bitCount_95d88_1 : decode cJ13_bitCount_95d88 1 = .ok (.lload_n 0, 1) := by decide +kernel
theorem dJ13_bitCount_95d88_2 : decode cJ13_bitCount_95d88 2 = .ok (.iconst 1, 1) := by decide +kernel
theorem dJ13_bitCount_95d88_3 : decode cJ13_bitCount_95d88 3 = .ok (.lushr, 1) := by decide +kernel
theorem dJ13_bitCount_95d88_4 : decode cJ13_bitCount_95d88 4 = .ok (.ldc2_w 314, 3) := by decide +kernel
theorem dJ13_bitCount_95d88_7 : decode cJ13_bitCount_95d88 7 = .ok (.land, 1) := by decide +kernel
theorem dJ13_bitCount_95d88_8 : decode cJ13_bitCount_95d88 8 = .ok (.lsub, 1) := by decide +kernel
theorem dJ13_bitCount_95d88_9 : decode cJ13_bitCount_95d88 9 = .ok (.lstore_n 0, 1) := by decide +kernel
theorem dJ13_bitCount_95d88_10 : decode cJ13_bitCount_95d88 10 = .ok (.lload_n 0, 1) := by decide +kernel
theorem dJ13_bitCount_95d88_11 : decode cJ13_bitCount_95d88 11 = .ok (.ldc2_w 316, 3) := by decide +kernel
theorem dJ13_bitCount_95d88_14 : decode cJ13_bitCount_95d88 14 = .ok (.land, 1) := by decide +kernel
theorem dJ13_bitCount_95d88_15 : decode cJ13_bitCount_95d88 15 = .ok (.lload_n 0, 1) := by decide +kernel
theorem dJ13_bitCount_95d88_16 : decode cJ13_bitCount_95d88 16 = .ok (.iconst 2, 1) := by decide +kernel
theorem dJ13_bitCount_95d88_17 : decode cJ13_bitCount_95d88 17 = .ok (.lushr, 1) := by decide +kernel
theorem dJ13_bitCount_95d88_18 : decode cJ13_bitCount_95d88 18 = .ok (.ldc2_w 316, 3) := by decide +kernel
theorem dJ13_bitCount_95d88_21 : decode cJ13_bitCount_95d88 21 = .ok (.land, 1) := by decide +kernel
theorem dJ13_bitCount_95d88_22 : decode cJ13_bitCount_95d88 22 = .ok (.ladd, 1) := by decide +kernel
theorem dJ13_bitCount_95d88_23 : decode cJ13_bitCount_95d88 23 = .ok (.lstore_n 0, 1) := by decide +kernel
theorem dJ13_bitCount_95d88_24 : decode cJ13_bitCount_95d88 24 = .ok (.lload_n 0, 1) := by decide +kernel
theorem dJ13_bitCount_95d88_25 : decode cJ13_bitCount_95d88 25 = .ok (.lload_n 0, 1) := by decide +kernel
theorem dJ13_bitCount_95d88_26 : decode cJ13_bitCount_95d88 26 = .ok (.iconst 4, 1) := by decide +kernel
theorem dJ13_bitCount_95d88_27 : decode cJ13_bitCount_95d88 27 = .ok (.lushr, 1) := by decide +kernel
theorem dJ13_bitCount_95d88_28 : decode cJ13_bitCount_95d88 28 = .ok (.ladd, 1) := by decide +kernel
theorem dJ13_bitCount_95d88_29 : decode cJ13_bitCount_95d88 29 = .ok (.ldc2_w 318, 3) := by decide +kernel
theorem dJ13_bitCount_95d88_32 : decode cJ13_bitCount_95d88 32 = .ok (.land, 1) := by decide +kernel
theorem dJ13_bitCount_95d88_33 : decode cJ13_bitCount_95d88 33 = .ok (.lstore_n 0, 1) := by decide +kernel
theorem dJ13_bitCount_95d88_34 : decode cJ13_bitCount_95d88 34 = .ok (.lload_n 0, 1) := by decide +kernel
theorem dJ13_bitCount_95d88_35 : decode cJ13_bitCount_95d88 35 = .ok (.lload_n 0, 1) := by decide +kernel
theorem dJ13_bitCount_95d88_36 : decode cJ13_bitCount_95d88 36 = .ok (.bipush 8, 2) := by decide +kernel
theorem dJ13_bitCount_95d88_38 : decode cJ13_bitCount_95d88 38 = .ok (.lushr, 1) := by decide +kernel
theorem dJ13_bitCount_95d88_39 : decode cJ13_bitCount_95d88 39 = .ok (.ladd, 1) := by decide +kernel
theorem dJ13_bitCount_95d88_40 : decode cJ13_bitCount_95d88 40 = .ok (.lstore_n 0, 1) := by decide +kernel
theorem dJ13_bitCount_95d88_41 : decode cJ13_bitCount_95d88 41 = .ok (.lload_n 0, 1) := by decide +kernel
theorem dJ13_bitCount_95d88_42 : decode cJ13_bitCount_95d88 42 = .ok (.lload_n 0, 1) := by decide +kernel
theorem dJ13_bitCount_95d88_43 : decode cJ13_bitCount_95d88 43 = .ok (.bipush 16, 2) := by decide +kernel
theorem dJ13_bitCount_95d88_45 : decode cJ13_bitCount_95d88 45 = .ok (.lushr, 1) := by decide +kernel
theorem dJ13_bitCount_95d88_46 : decode cJ13_bitCount_95d88 46 = .ok (.ladd, 1) := by decide +kernel
theorem dJ13_bitCount_95d88_47 : decode cJ13_bitCount_95d88 47 = .ok (.lstore_n 0, 1) := by decide +kernel
theorem dJ13_bitCount_95d88_48 : decode cJ13_bitCount_95d88 48 = .ok (.lload_n 0, 1) := by decide +kernel
theorem dJ13_bitCount_95d88_49 : decode cJ13_bitCount_95d88 49 = .ok (.lload_n 0, 1) := by decide +kernel
theorem dJ13_bitCount_95d88_50 : decode cJ13_bitCount_95d88 50 = .ok (.bipush 32, 2) := by decide +kernel
theorem dJ13_bitCount_95d88_52 : decode cJ13_bitCount_95d88 52 = .ok (.lushr, 1) := by decide +kernel
theorem dJ13_bitCount_95d88_53 : decode cJ13_bitCount_95d88 53 = .ok (.ladd, 1) := by decide +kernel
theorem dJ13_bitCount_95d88_54 : decode cJ13_bitCount_95d88 54 = .ok (.lstore_n 0, 1) := by decide +kernel
theorem dJ13_bitCount_95d88_55 : decode cJ13_bitCount_95d88 55 = .ok (.lload_n 0, 1) := by decide +kernel
theorem dJ13_bitCount_95d88_56 : decode cJ13_bitCount_95d88 56 = .ok (.l2i, 1) := by decide +kernel
theorem dJ13_bitCount_95d88_57 : decode cJ13_bitCount_95d88 57 = .ok (.bipush 127, 2) := by decide +kernel
theorem dJ13_bitCount_95d88_59 : decode cJ13_bitCount_95d88 59 = .ok (.iand, 1) := by decide +kernel
theorem dJ13_bitCount_95d88_60 : decode cJ13_bitCount_95d88 60 = .ok (.ireturn, 1) := by decide +kernel
theorem dJ9_max_7cf53_0 : decode cJ9_max_7cf53 0 = .ok (.iload_n 0, 1) := by decide +kernel
theorem dJ9_max_7cf53_1 : decode cJ9_max_7cf53 1 = .ok (.iload_n 1, 1) := by decide +kernel
theorem dJ9_max_7cf53_2 : decode cJ9_max_7cf53 2 = .ok (.if_icmp .lt 7, 3) := by decide +kernel
theorem dJ9_max_7cf53_5 : decode cJ9_max_7cf53 5 = .ok (.iload_n 0, 1) := by decide +kernel
theorem dJ9_max_7cf53_6 : decode cJ9_max_7cf53 6 = .ok (.goto 4, 3) := by decide +kernel
theorem dJ9_max_7cf53_9 : decode cJ9_max_7cf53 9 = .ok (.iload_n 1, 1) := by decide +kernel
theorem dJ9_max_7cf53_10 : decode cJ9_max_7cf53 10 = .ok (.ireturn, 1) := by decide +kernel
theorem dJ9_min_f86c9_0 : decode cJ9_min_f86c9 0 = .ok (.lload_n 0, 1) := by decide +kernel
theorem dJ9_min_f86c9_1 : decode cJ9_min_f86c9 1 = .ok (.lload_n 2, 1) := by decide +kernel
theorem dJ9_min_f86c9_2 : decode cJ9_min_f86c9 2 = .ok (.lcmp, 1) := by decide +kernel
theorem dJ9_min_f86c9_3 : decode cJ9_min_f86c9 3 = .ok (.ifCond .gt 7, 3) := by decide +kernel
theorem dJ9_min_f86c9_6 : decode cJ9_min_f86c9 6 = .ok (.lload_n 0, 1) := by decide +kernel
theorem dJ9_min_f86c9_7 : decode cJ9_min_f86c9 7 = .ok (.goto 4, 3) := by decide +kernel
theorem dJ9_min_f86c9_10 : decode cJ9_min_f86c9 10 = .ok (.lload_n 2, 1) := by decide +kernel
theorem dJ9_min_f86c9_11 : decode cJ9_min_f86c9 11 = .ok (.lreturn, 1) := by decide +kernel
set_option maxRecDepth 20000 in
theorem ggL_put_X6_put : GoodIn wsL_put wsX6_put := goodIn_ca (goodIn_ca (goodIn_r _ [7, 8, 9, 10, 11, 12, 13, 14, 6, 15, 16, 17, 18, 19, 20, 21, 22, 23, 24, 25, 26, 27, 28, 29, 30, 31, 32, 33, 34, 35, 36, 37, 38, 39, 40, 41, 42, 43, 44, 45, 46, 47, 48, 49, 50, 51, 52, 53, 54, 55, 56, 57, 58, 59, 60, 61, 62, 63, 64, 65, 66, 67, 68, 69, 70, 71, 72, 73, 74, 75, 76, 77, 78, 79, 80, 81, 82, 83, 84, 85, 86, 87, 88] (by decide +kernel) (by decide +kernel)) (goodIn_sub (fun _ h => List.mem_cons_of_mem _ (List.mem_append_left _ (List.mem_append_right _ h))) (by decide +kernel))) (goodIn_sub (fun _ h => List.mem_cons_of_mem _ (List.mem_append_right _ h)) (by decide +kernel))
set_option maxRecDepth 20000 in
theorem gL_put_X6_put : GoodIn wsL_put (wsV RL 7 RX6 yX6_put wsX6_put) := goodIn_app (goodIn_of _ (by decide +kernel)) ggL_put_X6_put
theorem dL_put_0 : decode cL_put 0 = .ok (.aload_n 2, 1) := by decide +kernel
theorem dL_put_1 : decode cL_put 1 = .ok (.iconst 0, 1) := by decide +kernel
theorem dL_put_2 : decode cL_put 2 = .ok (.aload_n 0, 1) := by decide +kernel
theorem dL_put_3 : decode cL_put 3 = .ok (.iload_n 1, 1) := by decide +kernel
theorem dL_put_4 : decode cL_put 4 = .ok (.invokevirtual 7, 3) := by decide +kernel
theorem dL_put_7 : decode cL_put 7 = .ok (.i2l, 1) := by decide +kernel
theorem dL_put_8 : decode cL_put 8 = .ok (.lastore, 1) := by decide +kernel
theorem dL_put_9 : decode cL_put 9 = .ok (.goto 9, 3) := by decide +kernel
theorem dL_put_12 : decode cL_put 12 = .ok (.astore_n 3, 1) := by decide +kernel
theorem dL_put_13 : decode cL_put 13 = .ok (.iconst 1, 1) := by decide +kernel
theorem dL_put_14 : decode cL_put 14 = .ok (.ireturn, 1) := by decide +kernel
theorem dL_put_15 : decode cL_put 15 = .ok (.astore_n 3, 1) := by decide +kernel
theorem dL_put_16 : decode cL_put 16 = .ok (.iconst 2, 1) := by decide +kernel
theorem dL_put_17 : decode cL_put 17 = .ok (.ireturn, 1) := by decide +kernel
theorem dL_put_18 : decode cL_put 18 = .ok (.iconst 0, 1) := by decide +kernel
theorem dL_put_19 : decode cL_put 19 = .ok (.ireturn, 1) := by decide +kernel
set_option maxRecDepth 20000 in
theorem ggL_turn_X6_turn : GoodIn wsL_turn wsX6_turn := goodIn_ca (goodIn_ca (goodIn_ca (goodIn_r _ [8, 9, 10, 11, 12, 13, 14, 15, 7, 16, 17, 18, 19, 20, 21, 22, 23, 24, 25, 26, 27, 28, 29, 30, 31, 32, 33, 34, 35, 36, 37, 38, 39, 40, 41, 42, 43, 44, 45, 46, 47, 48, 49, 50, 51, 52, 53, 54, 55, 56, 57, 58, 59, 60, 61, 62, 63, 64, 65, 66, 67, 68, 69, 70, 71, 72, 73, 74, 75, 76, 77, 78, 79, 80, 81, 82, 83, 84, 85, 86, 87, 88, 89, 90, 91, 92, 93, 94, 95, 96, 97, 98, 99, 100, 101, 102, 103, 104] (by decide +kernel) (by decide +kernel)) (goodIn_sub (fun _ h => List.mem_cons_of_mem _ (List.mem_append_left _ (List.mem_append_left _ (List.mem_append_right _ h)))) (by decide +kernel))) (goodIn_sub (fun _ h => List.mem_cons_of_mem _ (List.mem_append_left _ (List.mem_append_right _ h))) (by decide +kernel))) (goodIn_sub (fun _ h => List.mem_cons_of_mem _ (List.mem_append_right _ h)) (by decide +kernel))
set_option maxRecDepth 20000 in
theorem gL_turn_X6_turn : GoodIn wsL_turn (wsV RL 17 RX6 yX6_turn wsX6_turn) := goodIn_app (goodIn_of _ (by decide +kernel)) ggL_turn_X6_turn
theorem dL_turn_0 : decode cL_turn 0 = .ok (.aload_n 3, 1) := by decide +kernel
theorem dL_turn_1 : decode cL_turn 1 = .ok (.iconst 0, 1) := by decide +kernel
theorem dL_turn_2 : decode cL_turn 2 = .ok (.aload_n 0, 1) := by decide +kernel
theorem dL_turn_3 : decode cL_turn 3 = .ok (.iload_n 1, 1) := by decide +kernel
theorem dL_turn_4 : decode cL_turn 4 = .ok (.iload_n 2, 1) := by decide +kernel
theorem dL_turn_5 : decode cL_turn 5 = .ok (.invokevirtual 17, 3) := by decide +kernel
theorem dL_turn_8 : decode cL_turn 8 = .ok (.i2l, 1) := by decide +kernel
theorem dL_turn_9 : decode cL_turn 9 = .ok (.lastore, 1) := by decide +kernel
theorem dL_turn_10 : decode cL_turn 10 = .ok (.goto 15, 3) := by decide +kernel
theorem dL_turn_13 : decode cL_turn 13 = .ok (.astore 4, 2) := by decide +kernel
theorem dL_turn_15 : decode cL_turn 15 = .ok (.iconst 1, 1) := by decide +kernel
theorem dL_turn_16 : decode cL_turn 16 = .ok (.ireturn, 1) := by decide +kernel
theorem dL_turn_17 : decode cL_turn 17 = .ok (.astore 4, 2) := by decide +kernel
theorem dL_turn_19 : decode cL_turn 19 = .ok (.iconst 2, 1) := by decide +kernel
theorem dL_turn_20 : decode cL_turn 20 = .ok (.ireturn, 1) := by decide +kernel
theorem dL_turn_21 : decode cL_turn 21 = .ok (.astore 4, 2) := by decide +kernel
theorem dL_turn_23 : decode cL_turn 23 = .ok (.iconst 3, 1) := by decide +kernel
theorem dL_turn_24 : decode cL_turn 24 = .ok (.ireturn, 1) := by decide +kernel
theorem dL_turn_25 : decode cL_turn 25 = .ok (.iconst 0, 1) := by decide +kernel
theorem dL_turn_26 : decode cL_turn 26 = .ok (.ireturn, 1) := by decide +kernel
set_option maxRecDepth 20000 in
theorem ggL_undo_X6_undo : GoodIn wsL_undo wsX6_undo := goodIn_ca (goodIn_r _ [6, 7, 8, 9, 10, 11, 12, 13, 14, 15, 16, 17, 18, 19, 20, 21, 22, 23, 24, 25, 26, 27, 28, 29, 30, 31, 32, 33, 34, 35, 36, 37, 38, 39, 40, 41, 42, 43, 44, 45, 5, 46, 47, 48, 49, 50, 51, 52, 53, 54, 55, 56, 57, 58, 59, 60, 61, 62, 63, 64, 65, 66, 67, 68, 69, 70, 71, 72, 73, 74, 75, 76, 77, 78, 79, 80, 81, 82, 83, 84, 85, 86, 87, 88, 89, 90, 91, 92, 93, 94, 95, 96, 97, 98, 99] (by decide +kernel) (by decide +kernel)) (goodIn_sub (fun _ h => List.mem_cons_of_mem _ (List.mem_append_right _ h)) (by decide +kernel))
set_option maxRecDepth 20000 in
theorem gL_undo_X6_undo : GoodIn wsL_undo (wsV RL 23 RX6 yX6_undo wsX6_undo) := goodIn_app (goodIn_of _ (by decide +kernel)) ggL_undo_X6_undo
theorem dL_undo_0 : decode cL_undo 0 = .ok (.aload_n 1, 1) := by decide +kernel
theorem dL_undo_1 : decode cL_undo 1 = .ok (.iconst 0, 1) := by decide +kernel
theorem dL_undo_2 : decode cL_undo 2 = .ok (.aload_n 0, 1) := by decide +kernel
theorem dL_undo_3 : decode cL_undo 3 = .ok (.invokevirtual 23, 3) := by decide +kernel
theorem dL_undo_6 : decode cL_undo 6 = .ok (.ifCond .eq 7, 3) := by decide +kernel
theorem dL_undo_9 : decode cL_undo 9 = .ok (.lconst 1, 1) := by decide +kernel
theorem dL_undo_10 : decode cL_undo 10 = .ok (.goto 4, 3) := by decide +kernel
theorem dL_undo_13 : decode cL_undo 13 = .ok (.lconst 0, 1) := by decide +kernel
theorem dL_undo_14 : decode cL_undo 14 = .ok (.lastore, 1) := by decide +kernel
theorem dL_undo_15 : decode cL_undo 15 = .ok (.goto 6, 3) := by decide +kernel
theorem dL_undo_18 : decode cL_undo 18 = .ok (.astore_n 2, 1) := by decide +kernel
theorem dL_undo_19 : decode cL_undo 19 = .ok (.iconst 1, 1) := by decide +kernel
theorem dL_undo_20 : decode cL_undo 20 = .ok (.ireturn, 1) := by decide +kernel
theorem dL_undo_21 : decode cL_undo 21 = .ok (.iconst 0, 1) := by decide +kernel
theorem dL_undo_22 : decode cL_undo 22 = .ok (.ireturn, 1) := by decide +kernel
set_option maxRecDepth 20000 in
theorem ggL_lay_X6_lay : GoodIn wsL_lay wsX6_lay := goodIn_ca (goodIn_r _ [6, 7, 8, 9, 10, 11, 12, 13, 5, 14, 15, 16, 17, 18, 19, 20, 21, 22, 23, 24, 25, 26, 27, 28, 29, 30, 31, 32, 33, 34, 35, 36, 37, 38, 39, 40, 41, 42, 43, 44, 45, 46, 47, 48, 49, 50, 51, 52, 53, 54, 55, 56, 57, 58, 59, 60, 61] (by decide +kernel) (by decide +kernel)) (goodIn_sub (fun _ h => List.mem_cons_of_mem _ (List.mem_append_right _ h)) (by decide +kernel))
set_option maxRecDepth 20000 in
theorem gL_lay_X6_lay : GoodIn wsL_lay (wsV RL 27 RX6 yX6_lay wsX6_lay) := goodIn_app (goodIn_of _ (by decide +kernel)) ggL_lay_X6_lay
theorem dL_lay_0 : decode cL_lay 0 = .ok (.aload 5, 2) := by decide +kernel
theorem dL_lay_2 : decode cL_lay 2 = .ok (.iconst 0, 1) := by decide +kernel
theorem dL_lay_3 : decode cL_lay 3 = .ok (.aload_n 0, 1) := by decide +kernel
theorem dL_lay_4 : decode cL_lay 4 = .ok (.lload_n 1, 1) := by decide +kernel
theorem dL_lay_5 : decode cL_lay 5 = .ok (.lload_n 3, 1) := by decide +kernel
theorem dL_lay_6 : decode cL_lay 6 = .ok (.invokevirtual 27, 3) := by decide +kernel
theorem dL_lay_9 : decode cL_lay 9 = .ok (.i2l, 1) := by decide +kernel
theorem dL_lay_10 : decode cL_lay 10 = .ok (.lastore, 1) := by decide +kernel
theorem dL_lay_11 : decode cL_lay 11 = .ok (.goto 7, 3) := by decide +kernel
theorem dL_lay_14 : decode cL_lay 14 = .ok (.astore 6, 2) := by decide +kernel
theorem dL_lay_16 : decode cL_lay 16 = .ok (.iconst 1, 1) := by decide +kernel
theorem dL_lay_17 : decode cL_lay 17 = .ok (.ireturn, 1) := by decide +kernel
theorem dL_lay_18 : decode cL_lay 18 = .ok (.iconst 0, 1) := by decide +kernel
theorem dL_lay_19 : decode cL_lay 19 = .ok (.ireturn, 1) := by decide +kernel
set_option maxRecDepth 20000 in
theorem ggL_at_X6_at : GoodIn wsL_at wsX6_at := goodIn_ca (goodIn_r _ [6, 7, 8, 9, 10, 5, 11, 12, 13, 14, 15, 16, 17, 18, 19, 20, 21, 22, 23] (by decide +kernel) (by decide +kernel)) (goodIn_sub (fun _ h => List.mem_cons_of_mem _ (List.mem_append_right _ h)) (by decide +kernel))
set_option maxRecDepth 20000 in
theorem gL_at_X6_at : GoodIn wsL_at (wsV RL 31 RX6 yX6_at wsX6_at) := goodIn_app (goodIn_of _ (by decide +kernel)) ggL_at_X6_at
theorem dL_at_0 : decode cL_at 0 = .ok (.aload_n 2, 1) := by decide +kernel
theorem dL_at_1 : decode cL_at 1 = .ok (.iconst 0, 1) := by decide +kernel
theorem dL_at_2 : decode cL_at 2 = .ok (.aload_n 0, 1) := by decide +kernel
theorem dL_at_3 : decode cL_at 3 = .ok (.iload_n 1, 1) := by decide +kernel
theorem dL_at_4 : decode cL_at 4 = .ok (.invokevirtual 31, 3) := by decide +kernel
theorem dL_at_7 : decode cL_at 7 = .ok (.i2l, 1) := by decide +kernel
theorem dL_at_8 : decode cL_at 8 = .ok (.lastore, 1) := by decide +kernel
theorem dL_at_9 : decode cL_at 9 = .ok (.goto 6, 3) := by decide +kernel
theorem dL_at_12 : decode cL_at 12 = .ok (.astore_n 3, 1) := by decide +kernel
theorem dL_at_13 : decode cL_at 13 = .ok (.iconst 1, 1) := by decide +kernel
theorem dL_at_14 : decode cL_at 14 = .ok (.ireturn, 1) := by decide +kernel
theorem dL_at_15 : decode cL_at 15 = .ok (.iconst 0, 1) := by decide +kernel
theorem dL_at_16 : decode cL_at 16 = .ok (.ireturn, 1) := by decide +kernel
set_option maxRecDepth 20000 in
theorem ggL_textLength_X6_textLength : GoodIn wsL_textLength wsX6_textLength := goodIn_ca (goodIn_r _ [6, 7, 8, 9, 5, 10, 11, 12, 13, 14, 15, 16, 17, 18, 19, 20, 21, 22, 23, 24, 25, 26, 27, 28, 29, 30, 31, 32, 33, 34, 35, 36, 37, 38, 39, 40, 41, 42, 43, 44, 45, 46] (by decide +kernel) (by decide +kernel)) (goodIn_sub (fun _ h => List.mem_cons_of_mem _ (List.mem_append_right _ h)) (by decide +kernel))
set_option maxRecDepth 20000 in
theorem gL_textLength_X6_textLength : GoodIn wsL_textLength (wsV RL 34 RX6 yX6_textLength wsX6_textLength) := goodIn_app (goodIn_of _ (by decide +kernel)) ggL_textLength_X6_textLength
theorem dL_textLength_0 : decode cL_textLength 0 = .ok (.aload_n 2, 1) := by decide +kernel
theorem dL_textLength_1 : decode cL_textLength 1 = .ok (.iconst 0, 1) := by decide +kernel
theorem dL_textLength_2 : decode cL_textLength 2 = .ok (.aload_n 0, 1) := by decide +kernel
theorem dL_textLength_3 : decode cL_textLength 3 = .ok (.iload_n 1, 1) := by decide +kernel
theorem dL_textLength_4 : decode cL_textLength 4 = .ok (.invokevirtual 34, 3) := by decide +kernel
theorem dL_textLength_7 : decode cL_textLength 7 = .ok (.i2l, 1) := by decide +kernel
theorem dL_textLength_8 : decode cL_textLength 8 = .ok (.lastore, 1) := by decide +kernel
theorem dL_textLength_9 : decode cL_textLength 9 = .ok (.goto 6, 3) := by decide +kernel
theorem dL_textLength_12 : decode cL_textLength 12 = .ok (.astore_n 3, 1) := by decide +kernel
theorem dL_textLength_13 : decode cL_textLength 13 = .ok (.iconst 1, 1) := by decide +kernel
theorem dL_textLength_14 : decode cL_textLength 14 = .ok (.ireturn, 1) := by decide +kernel
theorem dL_textLength_15 : decode cL_textLength 15 = .ok (.iconst 0, 1) := by decide +kernel
theorem dL_textLength_16 : decode cL_textLength 16 = .ok (.ireturn, 1) := by decide +kernel
set_option maxRecDepth 20000 in
theorem ggL_textAt_X6_textAt : GoodIn wsL_textAt wsX6_textAt := goodIn_ca (goodIn_r _ [6, 7, 8, 9, 10, 11, 12, 5, 13, 14, 15, 16, 17, 18, 19, 20, 21, 22, 23, 24, 25, 26, 27, 28, 29, 30, 31, 32, 33, 34, 35, 36, 37, 38, 39, 40, 41, 42, 43, 44, 45, 46, 47, 48, 49, 50, 51, 52, 53, 54, 55, 56, 57, 58, 59] (by decide +kernel) (by decide +kernel)) (goodIn_sub (fun _ h => List.mem_cons_of_mem _ (List.mem_append_right _ h)) (by decide +kernel))
set_option maxRecDepth 20000 in
theorem gL_textAt_X6_textAt : GoodIn wsL_textAt (wsV RL 37 RX6 yX6_textAt wsX6_textAt) := goodIn_app (goodIn_of _ (by decide +kernel)) ggL_textAt_X6_textAt
theorem dL_textAt_0 : decode cL_textAt 0 = .ok (.aload_n 3, 1) := by decide +kernel
theorem dL_textAt_1 : decode cL_textAt 1 = .ok (.iconst 0, 1) := by decide +kernel
theorem dL_textAt_2 : decode cL_textAt 2 = .ok (.aload_n 0, 1) := by decide +kernel
theorem dL_textAt_3 : decode cL_textAt 3 = .ok (.iload_n 1, 1) := by decide +kernel
theorem dL_textAt_4 : decode cL_textAt 4 = .ok (.iload_n 2, 1) := by decide +kernel
theorem dL_textAt_5 : decode cL_textAt 5 = .ok (.invokevirtual 37, 3) := by decide +kernel
theorem dL_textAt_8 : decode cL_textAt 8 = .ok (.i2l, 1) := by decide +kernel
theorem dL_textAt_9 : decode cL_textAt 9 = .ok (.lastore, 1) := by decide +kernel
theorem dL_textAt_10 : decode cL_textAt 10 = .ok (.goto 7, 3) := by decide +kernel
theorem dL_textAt_13 : decode cL_textAt 13 = .ok (.astore 4, 2) := by decide +kernel
theorem dL_textAt_15 : decode cL_textAt 15 = .ok (.iconst 1, 1) := by decide +kernel
theorem dL_textAt_16 : decode cL_textAt 16 = .ok (.ireturn, 1) := by decide +kernel
theorem dL_textAt_17 : decode cL_textAt 17 = .ok (.iconst 0, 1) := by decide +kernel
theorem dL_textAt_18 : decode cL_textAt 18 = .ok (.ireturn, 1) := by decide +kernel
set_option maxRecDepth 20000 in
theorem ggL_lines_X6_lines : GoodIn wsL_lines wsX6_lines := goodIn_ca (goodIn_r _ [6, 7, 8, 5, 9, 10, 11, 12, 13, 14, 15, 16, 17, 18, 19, 20, 21, 22, 23, 24, 25, 26, 27, 28, 29, 30, 31, 32, 33, 34, 35, 36, 37, 38, 39, 40, 41, 42] (by decide +kernel) (by decide +kernel)) (goodIn_sub (fun _ h => List.mem_cons_of_mem _ (List.mem_append_right _ h)) (by decide +kernel))
set_option maxRecDepth 20000 in
theorem gL_lines_X6_lines : GoodIn wsL_lines (wsV RL 41 RX6 yX6_lines wsX6_lines) := goodIn_app (goodIn_of _ (by decide +kernel)) ggL_lines_X6_lines
theorem dL_lines_0 : decode cL_lines 0 = .ok (.aload_n 2, 1) := by decide +kernel
theorem dL_lines_1 : decode cL_lines 1 = .ok (.iconst 0, 1) := by decide +kernel
theorem dL_lines_2 : decode cL_lines 2 = .ok (.aload_n 0, 1) := by decide +kernel
theorem dL_lines_3 : decode cL_lines 3 = .ok (.iload_n 1, 1) := by decide +kernel
theorem dL_lines_4 : decode cL_lines 4 = .ok (.invokevirtual 41, 3) := by decide +kernel
theorem dL_lines_7 : decode cL_lines 7 = .ok (.i2l, 1) := by decide +kernel
theorem dL_lines_8 : decode cL_lines 8 = .ok (.lastore, 1) := by decide +kernel
theorem dL_lines_9 : decode cL_lines 9 = .ok (.goto 6, 3) := by decide +kernel
theorem dL_lines_12 : decode cL_lines 12 = .ok (.astore_n 3, 1) := by decide +kernel
theorem dL_lines_13 : decode cL_lines 13 = .ok (.iconst 1, 1) := by decide +kernel
theorem dL_lines_14 : decode cL_lines 14 = .ok (.ireturn, 1) := by decide +kernel
theorem dL_lines_15 : decode cL_lines 15 = .ok (.iconst 0, 1) := by decide +kernel
theorem dL_lines_16 : decode cL_lines 16 = .ok (.ireturn, 1) := by decide +kernel
set_option maxRecDepth 20000 in
theorem ggL_fours_X6_fours : GoodIn wsL_fours wsX6_fours := goodIn_ca (goodIn_r _ [6, 7, 8, 5, 9, 10, 11, 12, 13, 14, 15, 16, 17, 18, 19, 20, 21, 22, 23, 24, 25, 26, 27, 28, 29, 30, 31, 32, 33, 34, 35, 36, 37, 38, 39, 40, 41, 42, 43, 44, 45, 46, 47, 48, 49] (by decide +kernel) (by decide +kernel)) (goodIn_sub (fun _ h => List.mem_cons_of_mem _ (List.mem_append_right _ h)) (by decide +kernel))
set_option maxRecDepth 20000 in
theorem gL_fours_X6_fours : GoodIn wsL_fours (wsV RL 44 RX6 yX6_fours wsX6_fours) := goodIn_app (goodIn_of _ (by decide +kernel)) ggL_fours_X6_fours
theorem dL_fours_0 : decode cL_fours 0 = .ok (.aload_n 2, 1) := by decide +kernel
theorem dL_fours_1 : decode cL_fours 1 = .ok (.iconst 0, 1) := by decide +kernel
theorem dL_fours_2 : decode cL_fours 2 = .ok (.aload_n 0, 1) := by decide +kernel
theorem dL_fours_3 : decode cL_fours 3 = .ok (.iload_n 1, 1) := by decide +kernel
theorem dL_fours_4 : decode cL_fours 4 = .ok (.invokevirtual 44, 3) := by decide +kernel
theorem dL_fours_7 : decode cL_fours 7 = .ok (.i2l, 1) := by decide +kernel
theorem dL_fours_8 : decode cL_fours 8 = .ok (.lastore, 1) := by decide +kernel
theorem dL_fours_9 : decode cL_fours 9 = .ok (.goto 6, 3) := by decide +kernel
theorem dL_fours_12 : decode cL_fours 12 = .ok (.astore_n 3, 1) := by decide +kernel
theorem dL_fours_13 : decode cL_fours 13 = .ok (.iconst 1, 1) := by decide +kernel
theorem dL_fours_14 : decode cL_fours 14 = .ok (.ireturn, 1) := by decide +kernel
theorem dL_fours_15 : decode cL_fours 15 = .ok (.iconst 0, 1) := by decide +kernel
theorem dL_fours_16 : decode cL_fours 16 = .ok (.ireturn, 1) := by decide +kernel
set_option maxRecDepth 20000 in
theorem ggL_foursBehind_X6_foursBehind : GoodIn wsL_foursBehind wsX6_foursBehind := goodIn_ca (goodIn_ca (goodIn_r _ [7, 8, 9, 6, 10, 11, 12, 13, 14, 15, 16, 17, 18, 19, 20, 21, 22, 23, 24, 25, 26, 27, 28, 29, 30, 31, 32, 33, 34, 35, 36, 37, 38, 39, 40, 41, 42, 43, 44, 45, 46, 47, 48, 49, 50, 51, 52, 53, 54, 55, 56, 57, 58, 59, 60, 61, 62, 63, 64, 65, 66, 67, 68, 69, 70, 71, 72, 73, 74, 75, 76, 77, 78, 79, 80, 81, 82, 83, 84, 85, 86, 87] (by decide +kernel) (by decide +kernel)) (goodIn_sub (fun _ h => List.mem_cons_of_mem _ (List.mem_append_left _ (List.mem_append_right _ h))) (by decide +kernel))) (goodIn_sub (fun _ h => List.mem_cons_of_mem _ (List.mem_append_right _ h)) (by decide +kernel))
set_option maxRecDepth 20000 in
theorem gL_foursBehind_X6_foursBehind : GoodIn wsL_foursBehind (wsV RL 47 RX6 yX6_foursBehind wsX6_foursBehind) := goodIn_app (goodIn_of _ (by decide +kernel)) ggL_foursBehind_X6_foursBehind
theorem dL_foursBehind_0 : decode cL_foursBehind 0 = .ok (.aload 4, 2) := by decide +kernel
theorem dL_foursBehind_2 : decode cL_foursBehind 2 = .ok (.iconst 0, 1) := by decide +kernel
theorem dL_foursBehind_3 : decode cL_foursBehind 3 = .ok (.aload_n 0, 1) := by decide +kernel
theorem dL_foursBehind_4 : decode cL_foursBehind 4 = .ok (.iload_n 1, 1) := by decide +kernel
theorem dL_foursBehind_5 : decode cL_foursBehind 5 = .ok (.iload_n 2, 1) := by decide +kernel
theorem dL_foursBehind_6 : decode cL_foursBehind 6 = .ok (.iload_n 3, 1) := by decide +kernel
theorem dL_foursBehind_7 : decode cL_foursBehind 7 = .ok (.invokevirtual 47, 3) := by decide +kernel
theorem dL_foursBehind_10 : decode cL_foursBehind 10 = .ok (.i2l, 1) := by decide +kernel
theorem dL_foursBehind_11 : decode cL_foursBehind 11 = .ok (.lastore, 1) := by decide +kernel
theorem dL_foursBehind_12 : decode cL_foursBehind 12 = .ok (.goto 11, 3) := by decide +kernel
theorem dL_foursBehind_15 : decode cL_foursBehind 15 = .ok (.astore 5, 2) := by decide +kernel
theorem dL_foursBehind_17 : decode cL_foursBehind 17 = .ok (.iconst 1, 1) := by decide +kernel
theorem dL_foursBehind_18 : decode cL_foursBehind 18 = .ok (.ireturn, 1) := by decide +kernel
theorem dL_foursBehind_19 : decode cL_foursBehind 19 = .ok (.astore 5, 2) := by decide +kernel
theorem dL_foursBehind_21 : decode cL_foursBehind 21 = .ok (.iconst 2, 1) := by decide +kernel
theorem dL_foursBehind_22 : decode cL_foursBehind 22 = .ok (.ireturn, 1) := by decide +kernel
theorem dL_foursBehind_23 : decode cL_foursBehind 23 = .ok (.iconst 0, 1) := by decide +kernel
theorem dL_foursBehind_24 : decode cL_foursBehind 24 = .ok (.ireturn, 1) := by decide +kernel
set_option maxRecDepth 20000 in
theorem ggL_winningCells_X6_winningCells : GoodIn wsL_winningCells wsX6_winningCells := goodIn_ca (goodIn_r _ [6, 7, 8, 9, 5, 10, 11, 12, 13, 14, 15, 16, 17, 18, 19, 20, 21, 22, 23, 24, 25, 26, 27, 28, 29, 30, 31, 32, 33, 34, 35, 36, 37, 38, 39, 40, 41, 42, 43, 44, 45, 46, 47, 48, 49, 50, 51, 52, 53, 54, 55, 56, 57, 58, 59, 60, 61, 62, 63, 64, 65, 66] (by decide +kernel) (by decide +kernel)) (goodIn_sub (fun _ h => List.mem_cons_of_mem _ (List.mem_append_right _ h)) (by decide +kernel))
set_option maxRecDepth 20000 in
theorem gL_winningCells_X6_winningCells : GoodIn wsL_winningCells (wsV RL 51 RX6 yX6_winningCells wsX6_winningCells) := goodIn_app (goodIn_of _ (by decide +kernel)) ggL_winningCells_X6_winningCells
theorem dL_winningCells_0 : decode cL_winningCells 0 = .ok (.aload_n 1, 1) := by decide +kernel
theorem dL_winningCells_1 : decode cL_winningCells 1 = .ok (.iconst 0, 1) := by decide +kernel
theorem dL_winningCells_2 : decode cL_winningCells 2 = .ok (.aload_n 0, 1) := by decide +kernel
theorem dL_winningCells_3 : decode cL_winningCells 3 = .ok (.invokevirtual 51, 3) := by decide +kernel
theorem dL_winningCells_6 : decode cL_winningCells 6 = .ok (.i2l, 1) := by decide +kernel
theorem dL_winningCells_7 : decode cL_winningCells 7 = .ok (.lastore, 1) := by decide +kernel
theorem dL_winningCells_8 : decode cL_winningCells 8 = .ok (.goto 6, 3) := by decide +kernel
theorem dL_winningCells_11 : decode cL_winningCells 11 = .ok (.astore_n 2, 1) := by decide +kernel
theorem dL_winningCells_12 : decode cL_winningCells 12 = .ok (.iconst 1, 1) := by decide +kernel
theorem dL_winningCells_13 : decode cL_winningCells 13 = .ok (.ireturn, 1) := by decide +kernel
theorem dL_winningCells_14 : decode cL_winningCells 14 = .ok (.iconst 0, 1) := by decide +kernel
theorem dL_winningCells_15 : decode cL_winningCells 15 = .ok (.ireturn, 1) := by decide +kernel
set_option maxRecDepth 20000 in
theorem ggL_winningTurns_X6_winningTurns : GoodIn wsL_winningTurns wsX6_winningTurns := goodIn_ca (goodIn_ca (goodIn_r _ [7, 8, 9, 6, 10, 11, 12, 13, 14, 15, 16, 17, 18, 19, 20, 21, 22, 23, 24, 25, 26, 27, 28, 29, 30, 31, 32, 33, 34, 35, 36, 37, 38, 39, 40, 41, 42, 43, 44, 45, 46, 47, 48, 49, 50, 51, 52, 53, 54, 55, 56, 57, 58, 59, 60, 61, 62, 63, 64, 65, 66, 67, 68, 69, 70, 71, 72, 73, 74, 75, 76, 77, 78, 79, 80, 81, 82, 83, 84, 85, 86, 87, 88, 89, 90, 91, 92, 93, 94, 95, 96, 97, 98, 99, 100, 101, 102, 103, 104, 105] (by decide +kernel) (by decide +kernel)) (goodIn_sub (fun _ h => List.mem_cons_of_mem _ (List.mem_append_left _ (List.mem_append_right _ h))) (by decide +kernel))) (goodIn_sub (fun _ h => List.mem_cons_of_mem _ (List.mem_append_right _ h)) (by decide +kernel))
set_option maxRecDepth 20000 in
theorem gL_winningTurns_X6_winningTurns : GoodIn wsL_winningTurns (wsV RL 55 RX6 yX6_winningTurns wsX6_winningTurns) := goodIn_app (goodIn_of _ (by decide +kernel)) ggL_winningTurns_X6_winningTurns
theorem dL_winningTurns_0 : decode cL_winningTurns 0 = .ok (.aload_n 2, 1) := by decide +kernel
theorem dL_winningTurns_1 : decode cL_winningTurns 1 = .ok (.iconst 0, 1) := by decide +kernel
theorem dL_winningTurns_2 : decode cL_winningTurns 2 = .ok (.aload_n 0, 1) := by decide +kernel
theorem dL_winningTurns_3 : decode cL_winningTurns 3 = .ok (.iload_n 1, 1) := by decide +kernel
theorem dL_winningTurns_4 : decode cL_winningTurns 4 = .ok (.invokevirtual 55, 3) := by decide +kernel
theorem dL_winningTurns_7 : decode cL_winningTurns 7 = .ok (.i2l, 1) := by decide +kernel
theorem dL_winningTurns_8 : decode cL_winningTurns 8 = .ok (.lastore, 1) := by decide +kernel
theorem dL_winningTurns_9 : decode cL_winningTurns 9 = .ok (.goto 9, 3) := by decide +kernel
theorem dL_winningTurns_12 : decode cL_winningTurns 12 = .ok (.astore_n 3, 1) := by decide +kernel
theorem dL_winningTurns_13 : decode cL_winningTurns 13 = .ok (.iconst 1, 1) := by decide +kernel
theorem dL_winningTurns_14 : decode cL_winningTurns 14 = .ok (.ireturn, 1) := by decide +kernel
theorem dL_winningTurns_15 : decode cL_winningTurns 15 = .ok (.astore_n 3, 1) := by decide +kernel
theorem dL_winningTurns_16 : decode cL_winningTurns 16 = .ok (.iconst 2, 1) := by decide +kernel
theorem dL_winningTurns_17 : decode cL_winningTurns 17 = .ok (.ireturn, 1) := by decide +kernel
theorem dL_winningTurns_18 : decode cL_winningTurns 18 = .ok (.iconst 0, 1) := by decide +kernel
theorem dL_winningTurns_19 : decode cL_winningTurns 19 = .ok (.ireturn, 1) := by decide +kernel
set_option maxRecDepth 20000 in
theorem ggL_value_X6_value : GoodIn wsL_value wsX6_value := goodIn_ca (goodIn_r _ [6, 7, 8, 9, 10, 5, 11, 12, 13, 14, 15, 16, 17, 18, 19, 20, 21, 22, 23, 24, 25, 26, 27, 28, 29, 30, 31, 32, 33, 34, 35, 36, 37, 38, 39, 40, 41, 42, 43, 44, 45, 46, 47, 48, 49, 50, 51, 52, 53, 54, 55, 56, 57, 58, 59, 60, 61, 62, 63, 64, 65, 66, 67, 68, 69, 70, 71, 72, 73, 74, 75, 76, 77, 78, 79, 80, 81, 82, 83, 84, 85, 86, 87, 88, 89, 90, 91, 92, 93, 94, 95, 96, 97, 98, 99, 100, 101, 102, 103, 104, 105, 106, 107, 108, 109, 110, 111, 112, 113, 114, 115, 116, 117, 118, 119, 120, 121, 122, 123, 124, 125, 126, 127, 128, 129, 130, 131, 132, 133, 134, 135, 136, 137, 138, 139, 140, 141, 142, 143, 144, 145, 146, 147, 148, 149, 150, 151, 152] (by decide +kernel) (by decide +kernel)) (goodIn_sub (fun _ h => List.mem_cons_of_mem _ (List.mem_append_right _ h)) (by decide +kernel))
set_option maxRecDepth 20000 in
theorem gL_value_X6_value : GoodIn wsL_value (wsV RL 58 RX6 yX6_value wsX6_value) := goodIn_app (goodIn_of _ (by decide +kernel)) ggL_value_X6_value
theorem dL_value_0 : decode cL_value 0 = .ok (.aload_n 1, 1) := by decide +kernel
theorem dL_value_1 : decode cL_value 1 = .ok (.iconst 0, 1) := by decide +kernel
theorem dL_value_2 : decode cL_value 2 = .ok (.aload_n 0, 1) := by decide +kernel
theorem dL_value_3 : decode cL_value 3 = .ok (.invokevirtual 58, 3) := by decide +kernel
theorem dL_value_6 : decode cL_value 6 = .ok (.i2l, 1) := by decide +kernel
theorem dL_value_7 : decode cL_value 7 = .ok (.lastore, 1) := by decide +kernel
theorem dL_value_8 : decode cL_value 8 = .ok (.goto 6, 3) := by decide +kernel
theorem dL_value_11 : decode cL_value 11 = .ok (.astore_n 2, 1) := by decide +kernel
theorem dL_value_12 : decode cL_value 12 = .ok (.iconst 1, 1) := by decide +kernel
theorem dL_value_13 : decode cL_value 13 = .ok (.ireturn, 1) := by decide +kernel
theorem dL_value_14 : decode cL_value 14 = .ok (.iconst 0, 1) := by decide +kernel
theorem dL_value_15 : decode cL_value 15 = .ok (.ireturn, 1) := by decide +kernel
set_option maxRecDepth 20000 in
theorem ggL_valueOnBoards_X6_valueOnBoards : GoodIn wsL_valueOnBoards wsX6_valueOnBoards := goodIn_ca (goodIn_r _ [6, 7, 8, 9, 10, 5, 11, 12, 13, 14, 15, 16, 17, 18, 19, 20, 21, 22, 23, 24, 25, 26, 27, 28, 29, 30, 31, 32, 33, 34, 35, 36, 37, 38, 39, 40, 41, 42, 43, 44, 45, 46, 47, 48, 49, 50, 51, 52, 53, 54, 55, 56, 57, 58, 59, 60, 61, 62, 63, 64, 65, 66, 67, 68, 69, 70, 71, 72, 73, 74, 75, 76, 77, 78, 79, 80, 81, 82, 83, 84, 85, 86, 87, 88, 89, 90, 91, 92, 93, 94, 95, 96, 97, 98, 99, 100, 101, 102, 103, 104, 105, 106, 107, 108, 109, 110, 111, 112, 113, 114, 115, 116, 117, 118, 119, 120, 121, 122, 123, 124, 125, 126, 127, 128, 129, 130, 131, 132, 133, 134, 135, 136, 137, 138, 139, 140, 141, 142, 143, 144, 145, 146, 147, 148, 149, 150, 151, 152] (by decide +kernel) (by decide +kernel)) (goodIn_sub (fun _ h => List.mem_cons_of_mem _ (List.mem_append_right _ h)) (by decide +kernel))
set_option maxRecDepth 20000 in
theorem gL_valueOnBoards_X6_valueOnBoards : GoodIn wsL_valueOnBoards (wsV RL 61 RX6 yX6_valueOnBoards wsX6_valueOnBoards) := goodIn_app (goodIn_of _ (by decide +kernel)) ggL_valueOnBoards_X6_valueOnBoards
theorem dL_valueOnBoards_0 : decode cL_valueOnBoards 0 = .ok (.aload_n 1, 1) := by decide +kernel
theorem dL_valueOnBoards_1 : decode cL_valueOnBoards 1 = .ok (.iconst 0, 1) := by decide +kernel
theorem dL_valueOnBoards_2 : decode cL_valueOnBoards 2 = .ok (.aload_n 0, 1) := by decide +kernel
theorem dL_valueOnBoards_3 : decode cL_valueOnBoards 3 = .ok (.invokevirtual 61, 3) := by decide +kernel
theorem dL_valueOnBoards_6 : decode cL_valueOnBoards 6 = .ok (.i2l, 1) := by decide +kernel
theorem dL_valueOnBoards_7 : decode cL_valueOnBoards 7 = .ok (.lastore, 1) := by decide +kernel
theorem dL_valueOnBoards_8 : decode cL_valueOnBoards 8 = .ok (.goto 6, 3) := by decide +kernel
theorem dL_valueOnBoards_11 : decode cL_valueOnBoards 11 = .ok (.astore_n 2, 1) := by decide +kernel
theorem dL_valueOnBoards_12 : decode cL_valueOnBoards 12 = .ok (.iconst 1, 1) := by decide +kernel
theorem dL_valueOnBoards_13 : decode cL_valueOnBoards 13 = .ok (.ireturn, 1) := by decide +kernel
theorem dL_valueOnBoards_14 : decode cL_valueOnBoards 14 = .ok (.iconst 0, 1) := by decide +kernel
theorem dL_valueOnBoards_15 : decode cL_valueOnBoards 15 = .ok (.ireturn, 1) := by decide +kernel
set_option maxRecDepth 20000 in
theorem ggL_bestMove_X6_bestMove : GoodIn wsL_bestMove wsX6_bestMove := goodIn_ca (goodIn_r _ [6, 7, 8, 9, 10, 11, 5, 12, 13, 14, 15, 16, 17, 18, 19, 20, 21, 22, 23, 24, 25, 26, 27, 28, 29, 30, 31, 32, 33, 34, 35, 36, 37, 38, 39, 40, 41, 42, 43, 44, 45, 46, 47, 48, 49, 50, 51, 52, 53, 54, 55, 56, 57, 58, 59, 60, 61, 62, 63, 64, 65, 66, 67, 68, 69, 70, 71, 72, 73, 74, 75, 76, 77, 78, 79, 80, 81, 82, 83, 84, 85, 86, 87, 88, 89, 90, 91, 92, 93, 94, 95, 96, 97, 98, 99, 100, 101, 102, 103, 104, 105, 106, 107, 108, 109, 110, 111, 112, 113, 114, 115, 116, 117, 118, 119, 120, 121, 122, 123, 124, 125, 126, 127, 128, 129, 130, 131, 132, 133, 134, 135, 136, 137, 138, 139, 140, 141, 142, 143, 144, 145, 146, 147, 148, 149, 150, 151, 152, 153, 154, 155, 156] (by decide +kernel) (by decide +kernel)) (goodIn_sub (fun _ h => List.mem_cons_of_mem _ (List.mem_append_right _ h)) (by decide +kernel))
set_option maxRecDepth 20000 in
theorem gL_bestMove_X6_bestMove : GoodIn wsL_bestMove (wsV RL 64 RX6 yX6_bestMove wsX6_bestMove) := goodIn_app (goodIn_of _ (by decide +kernel)) ggL_bestMove_X6_bestMove
theorem dL_bestMove_0 : decode cL_bestMove 0 = .ok (.aload_n 1, 1) := by decide +kernel
theorem dL_bestMove_1 : decode cL_bestMove 1 = .ok (.iconst 0, 1) := by decide +kernel
theorem dL_bestMove_2 : decode cL_bestMove 2 = .ok (.aload_n 0, 1) := by decide +kernel
theorem dL_bestMove_3 : decode cL_bestMove 3 = .ok (.invokevirtual 64, 3) := by decide +kernel
theorem dL_bestMove_6 : decode cL_bestMove 6 = .ok (.i2l, 1) := by decide +kernel
theorem dL_bestMove_7 : decode cL_bestMove 7 = .ok (.lastore, 1) := by decide +kernel
theorem dL_bestMove_8 : decode cL_bestMove 8 = .ok (.goto 6, 3) := by decide +kernel
theorem dL_bestMove_11 : decode cL_bestMove 11 = .ok (.astore_n 2, 1) := by decide +kernel
theorem dL_bestMove_12 : decode cL_bestMove 12 = .ok (.iconst 1, 1) := by decide +kernel
theorem dL_bestMove_13 : decode cL_bestMove 13 = .ok (.ireturn, 1) := by decide +kernel
theorem dL_bestMove_14 : decode cL_bestMove 14 = .ok (.iconst 0, 1) := by decide +kernel
theorem dL_bestMove_15 : decode cL_bestMove 15 = .ok (.ireturn, 1) := by decide +kernel
