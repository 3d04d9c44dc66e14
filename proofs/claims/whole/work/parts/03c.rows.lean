theorem dX6_turn_0 : decode cX6_turn 0 = .ok (.iload_n 1, 1) := by decide +kernel
theorem dX6_turn_1 : decode cX6_turn 1 = .ok (.invokestatic 76, 3) := by decide +kernel
theorem dX6_turn_4 : decode cX6_turn 4 = .ok (.iload_n 2, 1) := by decide +kernel
theorem dX6_turn_5 : decode cX6_turn 5 = .ok (.invokestatic 79, 3) := by decide +kernel
theorem dX6_turn_8 : decode cX6_turn 8 = .ok (.aload_n 0, 1) := by decide +kernel
theorem dX6_turn_9 : decode cX6_turn 9 = .ok (.getfield 31, 3) := by decide +kernel
theorem dX6_turn_12 : decode cX6_turn 12 = .ok (.ifCond .ne 10, 3) := by decide +kernel
theorem dX6_turn_15 : decode cX6_turn 15 = .ok (.aload_n 0, 1) := by decide +kernel
theorem dX6_turn_16 : decode cX6_turn 16 = .ok (.getfield 72, 3) := by decide +kernel
theorem dX6_turn_19 : decode cX6_turn 19 = .ok (.ifCond .ne 13, 3) := by decide +kernel
theorem dX6_turn_22 : decode cX6_turn 22 = .ok (.new 82, 3) := by decide +kernel
theorem dX6_turn_25 : decode cX6_turn 25 = .ok (.dup, 1) := by decide +kernel
theorem dX6_turn_26 : decode cX6_turn 26 = .ok (.ldc 84, 2) := by decide +kernel
theorem dX6_turn_28 : decode cX6_turn 28 = .ok (.invokespecial 86, 3) := by decide +kernel
theorem dX6_turn_31 : decode cX6_turn 31 = .ok (.athrow, 1) := by decide +kernel
theorem dX6_turn_32 : decode cX6_turn 32 = .ok (.iload_n 1, 1) := by decide +kernel
theorem dX6_turn_33 : decode cX6_turn 33 = .ok (.iload_n 2, 1) := by decide +kernel
theorem dX6_turn_34 : decode cX6_turn 34 = .ok (.invokestatic 89, 3) := by decide +kernel
theorem dX6_turn_37 : decode cX6_turn 37 = .ok (.istore_n 3, 1) := by decide +kernel
theorem dX6_turn_38 : decode cX6_turn 38 = .ok (.aload_n 0, 1) := by decide +kernel
theorem dX6_turn_39 : decode cX6_turn 39 = .ok (.iload_n 3, 1) := by decide +kernel
theorem dX6_turn_40 : decode cX6_turn 40 = .ok (.invokevirtual 93, 3) := by decide +kernel
theorem dX6_turn_43 : decode cX6_turn 43 = .ok (.aload_n 0, 1) := by decide +kernel
theorem dX6_turn_44 : decode cX6_turn 44 = .ok (.getfield 12, 3) := by decide +kernel
theorem dX6_turn_47 : decode cX6_turn 47 = .ok (.iload_n 3, 1) := by decide +kernel
theorem dX6_turn_48 : decode cX6_turn 48 = .ok (.invokevirtual 96, 3) := by decide +kernel
theorem dX6_turn_51 : decode cX6_turn 51 = .ok (.aload_n 0, 1) := by decide +kernel
theorem dX6_turn_52 : decode cX6_turn 52 = .ok (.iconst 0, 1) := by decide +kernel
theorem dX6_turn_53 : decode cX6_turn 53 = .ok (.putfield 72, 3) := by decide +kernel
theorem dX6_turn_56 : decode cX6_turn 56 = .ok (.aload_n 0, 1) := by decide +kernel
theorem dX6_turn_57 : decode cX6_turn 57 = .ok (.aload_n 0, 1) := by decide +kernel
theorem dX6_turn_58 : decode cX6_turn 58 = .ok (.invokevirtual 99, 3) := by decide +kernel
theorem dX6_turn_61 : decode cX6_turn 61 = .ok (.putfield 31, 3) := by decide +kernel
theorem dX6_turn_64 : decode cX6_turn 64 = .ok (.aload_n 0, 1) := by decide +kernel
theorem dX6_turn_65 : decode cX6_turn 65 = .ok (.getfield 31, 3) := by decide +kernel
theorem dX6_turn_68 : decode cX6_turn 68 = .ok (.ireturn, 1) := by decide +kernel
set_option maxRecDepth 20000 in
theorem ggX6_undo_X2_count : GoodIn wsX6_undo wsX2_count := goodIn_r _ [13, 14, 92, 93, 94] (by decide +kernel) (by decide +kernel)
set_option maxRecDepth 20000 in
theorem gX6_undo_X2_count : GoodIn wsX6_undo (wsV RX6 102 RX2 yX2_count wsX2_count) := goodIn_app (goodIn_of _ (by decide +kernel)) ggX6_undo_X2_count
set_option maxRecDepth 20000 in
theorem ggX6_undo_X2_hasTurn : GoodIn wsX6_undo wsX2_hasTurn := goodIn_r _ [18, 19, 20, 21, 12, 22, 23, 24, 25, 26, 27, 14, 92, 93, 94] (by decide +kernel) (by decide +kernel)
set_option maxRecDepth 20000 in
theorem gX6_undo_X2_hasTurn : GoodIn wsX6_undo (wsV RX6 107 RX2 yX2_hasTurn wsX2_hasTurn) := goodIn_app (goodIn_of _ (by decide +kernel)) ggX6_undo_X2_hasTurn
set_option maxRecDepth 20000 in
theorem ggX6_undo_X2_turnOf : GoodIn wsX6_undo wsX2_turnOf := goodIn_r _ [22, 23, 24, 25, 26, 12, 27, 14, 92, 93, 94] (by decide +kernel) (by decide +kernel)
set_option maxRecDepth 20000 in
theorem gX6_undo_X2_turnOf : GoodIn wsX6_undo (wsV RX6 111 RX2 yX2_turnOf wsX2_turnOf) := goodIn_app (goodIn_of _ (by decide +kernel)) ggX6_undo_X2_turnOf
set_option maxRecDepth 20000 in
theorem ggX6_undo_X4_opposite : GoodIn wsX6_undo wsX4_opposite := goodIn_r _ [32, 33, 34, 31, 35, 36, 37, 38, 39, 40, 41] (by decide +kernel) (by decide +kernel)
set_option maxRecDepth 20000 in
theorem gX6_undo_X4_opposite : GoodIn wsX6_undo (va_wsS RX6 115 yX4_opposite wsX4_opposite) := goodIn_app (goodIn_of _ (by decide +kernel)) ggX6_undo_X4_opposite
set_option maxRecDepth 20000 in
theorem ggX6_undo_X6_turnBoard : GoodIn wsX6_undo wsX6_turnBoard := goodIn_r _ [45, 5, 6, 46, 47, 31, 48, 49, 50, 33, 34, 35, 36, 37, 38, 51, 52, 53, 54, 55, 56, 57, 58, 59, 60, 61, 62, 63, 64, 85, 86, 87, 88, 89, 90, 91] (by decide +kernel) (by decide +kernel)
set_option maxRecDepth 20000 in
theorem gX6_undo_X6_turnBoard : GoodIn wsX6_undo (wsV RX6 93 RX6 yX6_turnBoard wsX6_turnBoard) := goodIn_app (goodIn_of _ (by decide +kernel)) ggX6_undo_X6_turnBoard
set_option maxRecDepth 20000 in
theorem ggX6_undo_X2_dropTurn : GoodIn wsX6_undo wsX2_dropTurn := goodIn_r _ [68, 69, 70, 71, 12, 72, 14, 23, 24, 25, 26, 27, 92, 93, 94] (by decide +kernel) (by decide +kernel)
set_option maxRecDepth 20000 in
theorem gX6_undo_X2_dropTurn : GoodIn wsX6_undo (wsV RX6 120 RX2 yX2_dropTurn wsX2_dropTurn) := goodIn_app (goodIn_of _ (by decide +kernel)) ggX6_undo_X2_dropTurn
set_option maxRecDepth 20000 in
theorem ggX6_undo_X2_cellOf : GoodIn wsX6_undo wsX2_cellOf := goodIn_r _ [76, 77, 24, 25, 26, 12, 27, 14, 92, 93, 94] (by decide +kernel) (by decide +kernel)
set_option maxRecDepth 20000 in
theorem gX6_undo_X2_cellOf : GoodIn wsX6_undo (wsV RX6 123 RX2 yX2_cellOf wsX2_cellOf) := goodIn_app (goodIn_of _ (by decide +kernel)) ggX6_undo_X2_cellOf
set_option maxRecDepth 20000 in
theorem ggX6_undo_X6_bitOf : GoodIn wsX6_undo wsX6_bitOf := goodIn_r _ [80] (by decide +kernel) (by decide +kernel)
set_option maxRecDepth 20000 in
theorem gX6_undo_X6_bitOf : GoodIn wsX6_undo (va_wsS RX6 53 yX6_bitOf wsX6_bitOf) := goodIn_app (goodIn_of _ (by decide +kernel)) ggX6_undo_X6_bitOf
set_option maxRecDepth 20000 in
theorem ggX6_undo_X2_dropMarble : GoodIn wsX6_undo wsX2_dropMarble := goodIn_r _ [84, 14, 92, 93, 94] (by decide +kernel) (by decide +kernel)
set_option maxRecDepth 20000 in
theorem gX6_undo_X2_dropMarble : GoodIn wsX6_undo (wsV RX6 128 RX2 yX2_dropMarble wsX2_dropMarble) := goodIn_app (goodIn_of _ (by decide +kernel)) ggX6_undo_X2_dropMarble
theorem dX6_undo_0 : decode cX6_undo 0 = .ok (.aload_n 0, 1) := by decide +kernel
theorem dX6_undo_1 : decode cX6_undo 1 = .ok (.getfield 12, 3) := by decide +kernel
theorem dX6_undo_4 : decode cX6_undo 4 = .ok (.invokevirtual 102, 3) := by decide +kernel
theorem dX6_undo_7 : decode cX6_undo 7 = .ok (.ifCond .ne 13, 3) := by decide +kernel
theorem dX6_undo_10 : decode cX6_undo 10 = .ok (.new 82, 3) := by decide +kernel
theorem dX6_undo_13 : decode cX6_undo 13 = .ok (.dup, 1) := by decide +kernel
theorem dX6_undo_14 : decode cX6_undo 14 = .ok (.ldc 105, 2) := by decide +kernel
theorem dX6_undo_16 : decode cX6_undo 16 = .ok (.invokespecial 86, 3) := by decide +kernel
theorem dX6_undo_19 : decode cX6_undo 19 = .ok (.athrow, 1) := by decide +kernel
theorem dX6_undo_20 : decode cX6_undo 20 = .ok (.aload_n 0, 1) := by decide +kernel
theorem dX6_undo_21 : decode cX6_undo 21 = .ok (.getfield 12, 3) := by decide +kernel
theorem dX6_undo_24 : decode cX6_undo 24 = .ok (.invokevirtual 102, 3) := by decide +kernel
theorem dX6_undo_27 : decode cX6_undo 27 = .ok (.iconst 1, 1) := by decide +kernel
theorem dX6_undo_28 : decode cX6_undo 28 = .ok (.isub, 1) := by decide +kernel
theorem dX6_undo_29 : decode cX6_undo 29 = .ok (.istore_n 1, 1) := by decide +kernel
theorem dX6_undo_30 : decode cX6_undo 30 = .ok (.aload_n 0, 1) := by decide +kernel
theorem dX6_undo_31 : decode cX6_undo 31 = .ok (.getfield 12, 3) := by decide +kernel
theorem dX6_undo_34 : decode cX6_undo 34 = .ok (.iload_n 1, 1) := by decide +kernel
theorem dX6_undo_35 : decode cX6_undo 35 = .ok (.invokevirtual 107, 3) := by decide +kernel
theorem dX6_undo_38 : decode cX6_undo 38 = .ok (.istore_n 2, 1) := by decide +kernel
theorem dX6_undo_39 : decode cX6_undo 39 = .ok (.iload_n 2, 1) := by decide +kernel
theorem dX6_undo_40 : decode cX6_undo 40 = .ok (.ifCond .eq 28, 3) := by decide +kernel
theorem dX6_undo_43 : decode cX6_undo 43 = .ok (.aload_n 0, 1) := by decide +kernel
theorem dX6_undo_44 : decode cX6_undo 44 = .ok (.aload_n 0, 1) := by decide +kernel
theorem dX6_undo_45 : decode cX6_undo 45 = .ok (.getfield 12, 3) := by decide +kernel
theorem dX6_undo_48 : decode cX6_undo 48 = .ok (.iload_n 1, 1) := by decide +kernel
theorem dX6_undo_49 : decode cX6_undo 49 = .ok (.invokevirtual 111, 3) := by decide +kernel
theorem dX6_undo_52 : decode cX6_undo 52 = .ok (.invokestatic 115, 3) := by decide +kernel
theorem dX6_undo_55 : decode cX6_undo 55 = .ok (.invokevirtual 93, 3) := by decide +kernel
theorem dX6_undo_58 : decode cX6_undo 58 = .ok (.aload_n 0, 1) := by decide +kernel
theorem dX6_undo_59 : decode cX6_undo 59 = .ok (.getfield 12, 3) := by decide +kernel
theorem dX6_undo_62 : decode cX6_undo 62 = .ok (.invokevirtual 120, 3) := by decide +kernel
theorem dX6_undo_65 : decode cX6_undo 65 = .ok (.goto 46, 3) := by decide +kernel
theorem dX6_undo_68 : decode cX6_undo 68 = .ok (.aload_n 0, 1) := by decide +kernel
theorem dX6_undo_69 : decode cX6_undo 69 = .ok (.getfield 12, 3) := by decide +kernel
theorem dX6_undo_72 : decode cX6_undo 72 = .ok (.iload_n 1, 1) := by decide +kernel
theorem dX6_undo_73 : decode cX6_undo 73 = .ok (.invokevirtual 123, 3) := by decide +kernel
theorem dX6_undo_76 : decode cX6_undo 76 = .ok (.invokestatic 53, 3) := by decide +kernel
theorem dX6_undo_79 : decode cX6_undo 79 = .ok (.ldc2_w 126, 3) := by decide +kernel
theorem dX6_undo_82 : decode cX6_undo 82 = .ok (.lxor, 1) := by decide +kernel
theorem dX6_undo_83 : decode cX6_undo 83 = .ok (.lstore_n 3, 1) := by decide +kernel
theorem dX6_undo_84 : decode cX6_undo 84 = .ok (.aload_n 0, 1) := by decide +kernel
theorem dX6_undo_85 : decode cX6_undo 85 = .ok (.dup, 1) := by decide +kernel
theorem dX6_undo_86 : decode cX6_undo 86 = .ok (.getfield 49, 3) := by decide +kernel
theorem dX6_undo_89 : decode cX6_undo 89 = .ok (.lload_n 3, 1) := by decide +kernel
theorem dX6_undo_90 : decode cX6_undo 90 = .ok (.land, 1) := by decide +kernel
theorem dX6_undo_91 : decode cX6_undo 91 = .ok (.putfield 49, 3) := by decide +kernel
theorem dX6_undo_94 : decode cX6_undo 94 = .ok (.aload_n 0, 1) := by decide +kernel
theorem dX6_undo_95 : decode cX6_undo 95 = .ok (.dup, 1) := by decide +kernel
theorem dX6_undo_96 : decode cX6_undo 96 = .ok (.getfield 57, 3) := by decide +kernel
theorem dX6_undo_99 : decode cX6_undo 99 = .ok (.lload_n 3, 1) := by decide +kernel
theorem dX6_undo_100 : decode cX6_undo 100 = .ok (.land, 1) := by decide +kernel
theorem dX6_undo_101 : decode cX6_undo 101 = .ok (.putfield 57, 3) := by decide +kernel
theorem dX6_undo_104 : decode cX6_undo 104 = .ok (.aload_n 0, 1) := by decide +kernel
theorem dX6_undo_105 : decode cX6_undo 105 = .ok (.getfield 12, 3) := by decide +kernel
theorem dX6_undo_108 : decode cX6_undo 108 = .ok (.invokevirtual 128, 3) := by decide +kernel
theorem dX6_undo_111 : decode cX6_undo 111 = .ok (.aload_n 0, 1) := by decide +kernel
theorem dX6_undo_112 : decode cX6_undo 112 = .ok (.iload_n 2, 1) := by decide +kernel
theorem dX6_undo_113 : decode cX6_undo 113 = .ok (.putfield 72, 3) := by decide +kernel
theorem dX6_undo_116 : decode cX6_undo 116 = .ok (.aload_n 0, 1) := by decide +kernel
theorem dX6_undo_117 : decode cX6_undo 117 = .ok (.iconst 0, 1) := by decide +kernel
theorem dX6_undo_118 : decode cX6_undo 118 = .ok (.putfield 31, 3) := by decide +kernel
theorem dX6_undo_121 : decode cX6_undo 121 = .ok (.iload_n 2, 1) := by decide +kernel
theorem dX6_undo_122 : decode cX6_undo 122 = .ok (.ireturn, 1) := by decide +kernel
set_option maxRecDepth 20000 in
theorem ggX6_lay_X6_requireBoard : GoodIn wsX6_lay wsX6_requireBoard := goodIn_ca (goodIn_r _ [9, 10, 11, 12, 13, 14, 15, 16, 17, 18, 19] (by decide +kernel) (by decide +kernel)) (goodIn_sub (fun _ h => List.mem_cons_of_mem _ (List.mem_append_right _ h)) (by decide +kernel))
set_option maxRecDepth 20000 in
theorem gX6_lay_X6_requireBoard : GoodIn wsX6_lay (va_wsS RX6 131 yX6_requireBoard wsX6_requireBoard) := goodIn_app (goodIn_of _ (by decide +kernel)) ggX6_lay_X6_requireBoard
set_option maxRecDepth 20000 in
theorem ggX6_lay_X2_clear : GoodIn wsX6_lay wsX2_clear := goodIn_r _ [24, 25, 54, 55, 56] (by decide +kernel) (by decide +kernel)
set_option maxRecDepth 20000 in
theorem gX6_lay_X2_clear : GoodIn wsX6_lay (wsV RX6 135 RX2 yX2_clear wsX2_clear) := goodIn_app (goodIn_of _ (by decide +kernel)) ggX6_lay_X2_clear
set_option maxRecDepth 20000 in
theorem ggX6_lay_X6_resultBehindTurn : GoodIn wsX6_lay wsX6_resultBehindTurn := goodIn_r _ [29, 1, 2, 30, 31, 32, 33, 34, 35, 36, 37, 38, 39, 40, 41, 42, 43, 8, 44, 45, 46, 47, 48, 49, 50, 51, 52, 53] (by decide +kernel) (by decide +kernel)
set_option maxRecDepth 20000 in
theorem gX6_lay_X6_resultBehindTurn : GoodIn wsX6_lay (wsV RX6 99 RX6 yX6_resultBehindTurn wsX6_resultBehindTurn) := goodIn_app (goodIn_of _ (by decide +kernel)) ggX6_lay_X6_resultBehindTurn
theorem dX6_lay_0 : decode cX6_lay 0 = .ok (.lload_n 1, 1) := by decide +kernel
theorem dX6_lay_1 : decode cX6_lay 1 = .ok (.lload_n 3, 1) := by decide +kernel
theorem dX6_lay_2 : decode cX6_lay 2 = .ok (.invokestatic 131, 3) := by decide +kernel
theorem dX6_lay_5 : decode cX6_lay 5 = .ok (.aload_n 0, 1) := by decide +kernel
theorem dX6_lay_6 : decode cX6_lay 6 = .ok (.lload_n 1, 1) := by decide +kernel
theorem dX6_lay_7 : decode cX6_lay 7 = .ok (.putfield 49, 3) := by decide +kernel
theorem dX6_lay_10 : decode cX6_lay 10 = .ok (.aload_n 0, 1) := by decide +kernel
theorem dX6_lay_11 : decode cX6_lay 11 = .ok (.lload_n 3, 1) := by decide +kernel
theorem dX6_lay_12 : decode cX6_lay 12 = .ok (.putfield 57, 3) := by decide +kernel
theorem dX6_lay_15 : decode cX6_lay 15 = .ok (.aload_n 0, 1) := by decide +kernel
theorem dX6_lay_16 : decode cX6_lay 16 = .ok (.getfield 12, 3) := by decide +kernel
theorem dX6_lay_19 : decode cX6_lay 19 = .ok (.invokevirtual 135, 3) := by decide +kernel
theorem dX6_lay_22 : decode cX6_lay 22 = .ok (.aload_n 0, 1) := by decide +kernel
theorem dX6_lay_23 : decode cX6_lay 23 = .ok (.iconst 0, 1) := by decide +kernel
theorem dX6_lay_24 : decode cX6_lay 24 = .ok (.putfield 72, 3) := by decide +kernel
theorem dX6_lay_27 : decode cX6_lay 27 = .ok (.aload_n 0, 1) := by decide +kernel
theorem dX6_lay_28 : decode cX6_lay 28 = .ok (.aload_n 0, 1) := by decide +kernel
theorem dX6_lay_29 : decode cX6_lay 29 = .ok (.invokevirtual 99, 3) := by decide +kernel
theorem dX6_lay_32 : decode cX6_lay 32 = .ok (.putfield 31, 3) := by decide +kernel
theorem dX6_lay_35 : decode cX6_lay 35 = .ok (.aload_n 0, 1) := by decide +kernel
theorem dX6_lay_36 : decode cX6_lay 36 = .ok (.getfield 31, 3) := by decide +kernel
theorem dX6_lay_39 : decode cX6_lay 39 = .ok (.ireturn, 1) := by decide +kernel
theorem dX6_result_0 : decode cX6_result 0 = .ok (.aload_n 0, 1) := by decide +kernel
theorem dX6_result_1 : decode cX6_result 1 = .ok (.getfield 31, 3) := by decide +kernel
theorem dX6_result_4 : decode cX6_result 4 = .ok (.ireturn, 1) := by decide +kernel
set_option maxRecDepth 20000 in
theorem ggX6_mover_X6_sideToAct : GoodIn wsX6_mover wsX6_sideToAct := goodIn_r _ [6, 7, 8, 9, 10, 5, 11, 12, 13, 14, 15, 16, 17, 18, 19, 20, 21, 22, 23, 24, 25, 26, 27] (by decide +kernel) (by decide +kernel)
set_option maxRecDepth 20000 in
theorem gX6_mover_X6_sideToAct : GoodIn wsX6_mover (wsV RX6 45 RX6 yX6_sideToAct wsX6_sideToAct) := goodIn_app (goodIn_of _ (by decide +kernel)) ggX6_mover_X6_sideToAct
theorem dX6_mover_0 : decode cX6_mover 0 = .ok (.aload_n 0, 1) := by decide +kernel
theorem dX6_mover_1 : decode cX6_mover 1 = .ok (.getfield 31, 3) := by decide +kernel
theorem dX6_mover_4 : decode cX6_mover 4 = .ok (.ifCond .ne 10, 3) := by decide +kernel
theorem dX6_mover_7 : decode cX6_mover 7 = .ok (.aload_n 0, 1) := by decide +kernel
theorem dX6_mover_8 : decode cX6_mover 8 = .ok (.invokevirtual 45, 3) := by decide +kernel
theorem dX6_mover_11 : decode cX6_mover 11 = .ok (.goto 4, 3) := by decide +kernel
theorem dX6_mover_14 : decode cX6_mover 14 = .ok (.iconst 0, 1) := by decide +kernel
theorem dX6_mover_15 : decode cX6_mover 15 = .ok (.ireturn, 1) := by decide +kernel
theorem dX6_mustTurn_0 : decode cX6_mustTurn 0 = .ok (.aload_n 0, 1) := by decide +kernel
theorem dX6_mustTurn_1 : decode cX6_mustTurn 1 = .ok (.getfield 72, 3) := by decide +kernel
theorem dX6_mustTurn_4 : decode cX6_mustTurn 4 = .ok (.ireturn, 1) := by decide +kernel
set_option maxRecDepth 20000 in
theorem ggX6_at_X6_requireCell : GoodIn wsX6_at wsX6_requireCell := goodIn_ca (goodIn_r _ [6, 7, 8] (by decide +kernel) (by decide +kernel)) (goodIn_sub (fun _ h => List.mem_cons_of_mem _ (List.mem_append_right _ h)) (by decide +kernel))
set_option maxRecDepth 20000 in
theorem gX6_at_X6_requireCell : GoodIn wsX6_at (va_wsS RX6 35 yX6_requireCell wsX6_requireCell) := goodIn_app (goodIn_of _ (by decide +kernel)) ggX6_at_X6_requireCell
set_option maxRecDepth 20000 in
theorem ggX6_at_X6_bitOf : GoodIn wsX6_at wsX6_bitOf := goodIn_r _ [11] (by decide +kernel) (by decide +kernel)
set_option maxRecDepth 20000 in
theorem gX6_at_X6_bitOf : GoodIn wsX6_at (va_wsS RX6 53 yX6_bitOf wsX6_bitOf) := goodIn_app (goodIn_of _ (by decide +kernel)) ggX6_at_X6_bitOf
theorem dX6_at_0 : decode cX6_at 0 = .ok (.iload_n 1, 1) := by decide +kernel
theorem dX6_at_1 : decode cX6_at 1 = .ok (.invokestatic 35, 3) := by decide +kernel
theorem dX6_at_4 : decode cX6_at 4 = .ok (.aload_n 0, 1) := by decide +kernel
theorem dX6_at_5 : decode cX6_at 5 = .ok (.getfield 49, 3) := by decide +kernel
theorem dX6_at_8 : decode cX6_at 8 = .ok (.iload_n 1, 1) := by decide +kernel
theorem dX6_at_9 : decode cX6_at 9 = .ok (.invokestatic 53, 3) := by decide +kernel
theorem dX6_at_12 : decode cX6_at 12 = .ok (.land, 1) := by decide +kernel
theorem dX6_at_13 : decode cX6_at 13 = .ok (.lconst 0, 1) := by decide +kernel
theorem dX6_at_14 : decode cX6_at 14 = .ok (.lcmp, 1) := by decide +kernel
theorem dX6_at_15 : decode cX6_at 15 = .ok (.ifCond .eq 5, 3) := by decide +kernel
theorem dX6_at_18 : decode cX6_at 18 = .ok (.iconst 1, 1) := by decide +kernel
theorem dX6_at_19 : decode cX6_at 19 = .ok (.ireturn, 1) := by decide +kernel
theorem dX6_at_20 : decode cX6_at 20 = .ok (.aload_n 0, 1) := by decide +kernel
theorem dX6_at_21 : decode cX6_at 21 = .ok (.getfield 57, 3) := by decide +kernel
theorem dX6_at_24 : decode cX6_at 24 = .ok (.iload_n 1, 1) := by decide +kernel
theorem dX6_at_25 : decode cX6_at 25 = .ok (.invokestatic 53, 3) := by decide +kernel
theorem dX6_at_28 : decode cX6_at 28 = .ok (.land, 1) := by decide +kernel
theorem dX6_at_29 : decode cX6_at 29 = .ok (.lconst 0, 1) := by decide +kernel
theorem dX6_at_30 : decode cX6_at 30 = .ok (.lcmp, 1) := by decide +kernel
theorem dX6_at_31 : decode cX6_at 31 = .ok (.ifCond .eq 7, 3) := by decide +kernel
theorem dX6_at_34 : decode cX6_at 34 = .ok (.iconst 2, 1) := by decide +kernel
theorem dX6_at_35 : decode cX6_at 35 = .ok (.goto 4, 3) := by decide +kernel
theorem dX6_at_38 : decode cX6_at 38 = .ok (.iconst 0, 1) := by decide +kernel
theorem dX6_at_39 : decode cX6_at 39 = .ok (.ireturn, 1) := by decide +kernel
set_option maxRecDepth 20000 in
theorem ggX6_marbles_J13_bitCount_95d88 : GoodIn wsX6_marbles wsJ13_bitCount_95d88 := goodIn_r _ [6, 7, 8, 9] (by decide +kernel) (by decide +kernel)
set_option maxRecDepth 20000 in
theorem gX6_marbles_J13_bitCount_95d88 : GoodIn wsX6_marbles (va_wsS RX6 138 yJ13_bitCount_95d88 wsJ13_bitCount_95d88) := goodIn_app (goodIn_of _ (by decide +kernel)) ggX6_marbles_J13_bitCount_95d88
theorem dX6_marbles_0 : decode cX6_marbles 0 = .ok (.aload_n 0, 1) := by decide +kernel
theorem dX6_marbles_1 : decode cX6_marbles 1 = .ok (.getfield 49, 3) := by decide +kernel
theorem dX6_marbles_4 : decode cX6_marbles 4 = .ok (.aload_n 0, 1) := by decide +kernel
theorem dX6_marbles_5 : decode cX6_marbles 5 = .ok (.getfield 57, 3) := by decide +kernel
theorem dX6_marbles_8 : decode cX6_marbles 8 = .ok (.lor, 1) := by decide +kernel
theorem dX6_marbles_9 : decode cX6_marbles 9 = .ok (.invokestatic 138, 3) := by decide +kernel
theorem dX6_marbles_12 : decode cX6_marbles 12 = .ok (.ireturn, 1) := by decide +kernel
set_option maxRecDepth 20000 in
theorem ggX6_share_X6_marbles : GoodIn wsX6_share wsX6_marbles := goodIn_r _ [6, 7, 8, 9, 10, 11, 12, 13, 14, 15, 16, 17, 18, 19, 20, 21, 22] (by decide +kernel) (by decide +kernel)
set_option maxRecDepth 20000 in
theorem gX6_share_X6_marbles : GoodIn wsX6_share (wsV RX6 144 RX6 yX6_marbles wsX6_marbles) := goodIn_app (goodIn_of _ (by decide +kernel)) ggX6_share_X6_marbles
theorem dX6_share_0 : decode cX6_share 0 = .ok (.aload_n 0, 1) := by decide +kernel
theorem dX6_share_1 : decode cX6_share 1 = .ok (.invokevirtual 144, 3) := by decide +kernel
theorem dX6_share_4 : decode cX6_share 4 = .ok (.i2f, 1) := by decide +kernel
theorem dX6_share_5 : decode cX6_share 5 = .ok (.ldc 147, 2) := by decide +kernel
theorem dX6_share_7 : decode cX6_share 7 = .ok (.fdiv, 1) := by decide +kernel
theorem dX6_share_8 : decode cX6_share 8 = .ok (.freturn, 1) := by decide +kernel
set_option maxRecDepth 20000 in
theorem ggX6_moves_X2_count : GoodIn wsX6_moves wsX2_count := goodIn_r _ [6, 7, 15, 16, 17] (by decide +kernel) (by decide +kernel)
set_option maxRecDepth 20000 in
theorem gX6_moves_X2_count : GoodIn wsX6_moves (wsV RX6 102 RX2 yX2_count wsX2_count) := goodIn_app (goodIn_of _ (by decide +kernel)) ggX6_moves_X2_count
theorem dX6_moves_0 : decode cX6_moves 0 = .ok (.aload_n 0, 1) := by decide +kernel
theorem dX6_moves_1 : decode cX6_moves 1 = .ok (.getfield 12, 3) := by decide +kernel
theorem dX6_moves_4 : decode cX6_moves 4 = .ok (.invokevirtual 102, 3) := by decide +kernel
theorem dX6_moves_7 : decode cX6_moves 7 = .ok (.ireturn, 1) := by decide +kernel
set_option maxRecDepth 20000 in
theorem ggX6_textLength_X6_requireMove : GoodIn wsX6_textLength wsX6_requireMove := goodIn_ca (goodIn_r _ [5, 6, 7, 8, 9, 10, 11, 12, 13, 14, 32, 33, 34, 35, 36, 37, 38, 39, 40, 41] (by decide +kernel) (by decide +kernel)) (goodIn_sub (fun _ h => List.mem_cons_of_mem _ (List.mem_append_right _ h)) (by decide +kernel))
set_option maxRecDepth 20000 in
theorem gX6_textLength_X6_requireMove : GoodIn wsX6_textLength (wsV RX6 148 RX6 yX6_requireMove wsX6_requireMove) := goodIn_app (goodIn_of _ (by decide +kernel)) ggX6_textLength_X6_requireMove
set_option maxRecDepth 20000 in
theorem ggX6_textLength_X6_lengthOfText : GoodIn wsX6_textLength wsX6_lengthOfText := goodIn_r _ [18, 8, 19, 20, 21, 12, 22, 23, 24, 25, 26, 27, 28, 29, 30, 31, 14, 32, 33, 34, 35, 36, 37, 38, 39, 40, 41] (by decide +kernel) (by decide +kernel)
set_option maxRecDepth 20000 in
theorem gX6_textLength_X6_lengthOfText : GoodIn wsX6_textLength (wsV RX6 151 RX6 yX6_lengthOfText wsX6_lengthOfText) := goodIn_app (goodIn_of _ (by decide +kernel)) ggX6_textLength_X6_lengthOfText
theorem dX6_textLength_0 : decode cX6_textLength 0 = .ok (.aload_n 0, 1) := by decide +kernel
theorem dX6_textLength_1 : decode cX6_textLength 1 = .ok (.iload_n 1, 1) := by decide +kernel
theorem dX6_textLength_2 : decode cX6_textLength 2 = .ok (.invokevirtual 148, 3) := by decide +kernel
theorem dX6_textLength_5 : decode cX6_textLength 5 = .ok (.aload_n 0, 1) := by decide +kernel
theorem dX6_textLength_6 : decode cX6_textLength 6 = .ok (.iload_n 1, 1) := by decide +kernel
theorem dX6_textLength_7 : decode cX6_textLength 7 = .ok (.invokevirtual 151, 3) := by decide +kernel
theorem dX6_textLength_10 : decode cX6_textLength 10 = .ok (.ireturn, 1) := by decide +kernel
set_option maxRecDepth 20000 in
theorem ggX6_textAt_X6_requireMove : GoodIn wsX6_textAt wsX6_requireMove := goodIn_ca (goodIn_r _ [8, 1, 2, 3, 9, 10, 11, 12, 13, 14, 45, 46, 47, 48, 49, 50, 51, 52, 53, 54] (by decide +kernel) (by decide +kernel)) (goodIn_sub (fun _ h => List.mem_cons_of_mem _ (List.mem_append_right _ h)) (by decide +kernel))
set_option maxRecDepth 20000 in
theorem gX6_textAt_X6_requireMove : GoodIn wsX6_textAt (wsV RX6 148 RX6 yX6_requireMove wsX6_requireMove) := goodIn_app (goodIn_of _ (by decide +kernel)) ggX6_textAt_X6_requireMove
set_option maxRecDepth 20000 in
theorem ggX6_textAt_X6_lengthOfText : GoodIn wsX6_textAt wsX6_lengthOfText := goodIn_r _ [18, 3, 19, 20, 21, 12, 22, 23, 24, 25, 26, 27, 28, 29, 30, 31, 14, 45, 46, 47, 48, 49, 50, 51, 52, 53, 54] (by decide +kernel) (by decide +kernel)
set_option maxRecDepth 20000 in
theorem gX6_textAt_X6_lengthOfText : GoodIn wsX6_textAt (wsV RX6 151 RX6 yX6_lengthOfText wsX6_lengthOfText) := goodIn_app (goodIn_of _ (by decide +kernel)) ggX6_textAt_X6_lengthOfText
set_option maxRecDepth 20000 in
theorem ggX6_textAt_X2_cellOf : GoodIn wsX6_textAt wsX2_cellOf := goodIn_r _ [35, 36, 28, 29, 30, 12, 31, 14, 52, 53, 54] (by decide +kernel) (by decide +kernel)
set_option maxRecDepth 20000 in
theorem gX6_textAt_X2_cellOf : GoodIn wsX6_textAt (wsV RX6 123 RX2 yX2_cellOf wsX2_cellOf) := goodIn_app (goodIn_of _ (by decide +kernel)) ggX6_textAt_X2_cellOf
set_option maxRecDepth 20000 in
theorem ggX6_textAt_X2_turnOf : GoodIn wsX6_textAt wsX2_turnOf := goodIn_r _ [26, 27, 28, 29, 30, 12, 31, 14, 52, 53, 54] (by decide +kernel) (by decide +kernel)
set_option maxRecDepth 20000 in
theorem gX6_textAt_X2_turnOf : GoodIn wsX6_textAt (wsV RX6 111 RX2 yX2_turnOf wsX2_turnOf) := goodIn_app (goodIn_of _ (by decide +kernel)) ggX6_textAt_X2_turnOf
set_option maxRecDepth 20000 in
theorem ggX6_textAt_X4_quarterOf : GoodIn wsX6_textAt wsX4_quarterOf := goodIn_r _ [41] (by decide +kernel) (by decide +kernel)
set_option maxRecDepth 20000 in
theorem gX6_textAt_X4_quarterOf : GoodIn wsX6_textAt (va_wsS RX6 159 yX4_quarterOf wsX4_quarterOf) := goodIn_app (goodIn_of _ (by decide +kernel)) ggX6_textAt_X4_quarterOf
set_option maxRecDepth 20000 in
theorem ggX6_textAt_X4_wayOf : GoodIn wsX6_textAt wsX4_wayOf := goodIn_r _ [44] (by decide +kernel) (by decide +kernel)
set_option maxRecDepth 20000 in
theorem gX6_textAt_X4_wayOf : GoodIn wsX6_textAt (va_wsS RX6 162 yX4_wayOf wsX4_wayOf) := goodIn_app (goodIn_of _ (by decide +kernel)) ggX6_textAt_X4_wayOf
theorem dX6_textAt_0 : decode cX6_textAt 0 = .ok (.aload_n 0, 1) := by decide +kernel
theorem dX6_textAt_1 : decode cX6_textAt 1 = .ok (.iload_n 1, 1) := by decide +kernel
theorem dX6_textAt_2 : decode cX6_textAt 2 = .ok (.invokevirtual 148, 3) := by decide +kernel
theorem dX6_textAt_5 : decode cX6_textAt 5 = .ok (.iload_n 2, 1) := by decide +kernel
theorem dX6_textAt_6 : decode cX6_textAt 6 = .ok (.ifCond .lt 12, 3) := by decide +kernel
theorem dX6_textAt_9 : decode cX6_textAt 9 = .ok (.iload_n 2, 1) := by decide +kernel
theorem dX6_textAt_10 : decode cX6_textAt 10 = .ok (.aload_n 0, 1) := by decide +kernel
theorem dX6_textAt_11 : decode cX6_textAt 11 = .ok (.iload_n 1, 1) := by decide +kernel
theorem dX6_textAt_12 : decode cX6_textAt 12 = .ok (.invokevirtual 151, 3) := by decide +kernel
theorem dX6_textAt_15 : decode cX6_textAt 15 = .ok (.if_icmp .lt 13, 3) := by decide +kernel
theorem dX6_textAt_18 : decode cX6_textAt 18 = .ok (.new 154, 3) := by decide +kernel
theorem dX6_textAt_21 : decode cX6_textAt 21 = .ok (.dup, 1) := by decide +kernel
theorem dX6_textAt_22 : decode cX6_textAt 22 = .ok (.ldc 156, 2) := by decide +kernel
theorem dX6_textAt_24 : decode cX6_textAt 24 = .ok (.invokespecial 158, 3) := by decide +kernel
theorem dX6_textAt_27 : decode cX6_textAt 27 = .ok (.athrow, 1) := by decide +kernel
theorem dX6_textAt_28 : decode cX6_textAt 28 = .ok (.iload_n 2, 1) := by decide +kernel
theorem dX6_textAt_29 : decode cX6_textAt 29 = .ok (.tableswitch 75 0 2 #[27, 43, 59], 27) := by decide +kernel
theorem dX6_textAt_56 : decode cX6_textAt 56 = .ok (.bipush 97, 2) := by decide +kernel
theorem dX6_textAt_58 : decode cX6_textAt 58 = .ok (.aload_n 0, 1) := by decide +kernel
theorem dX6_textAt_59 : decode cX6_textAt 59 = .ok (.getfield 12, 3) := by decide +kernel
theorem dX6_textAt_62 : decode cX6_textAt 62 = .ok (.iload_n 1, 1) := by decide +kernel
theorem dX6_textAt_63 : decode cX6_textAt 63 = .ok (.invokevirtual 123, 3) := by decide +kernel
theorem dX6_textAt_66 : decode cX6_textAt 66 = .ok (.bipush 6, 2) := by decide +kernel
theorem dX6_textAt_68 : decode cX6_textAt 68 = .ok (.irem, 1) := by decide +kernel
theorem dX6_textAt_69 : decode cX6_textAt 69 = .ok (.iadd, 1) := by decide +kernel
theorem dX6_textAt_70 : decode cX6_textAt 70 = .ok (.i2c, 1) := by decide +kernel
theorem dX6_textAt_71 : decode cX6_textAt 71 = .ok (.ireturn, 1) := by decide +kernel
theorem dX6_textAt_72 : decode cX6_textAt 72 = .ok (.bipush 49, 2) := by decide +kernel
theorem dX6_textAt_74 : decode cX6_textAt 74 = .ok (.aload_n 0, 1) := by decide +kernel
theorem dX6_textAt_75 : decode cX6_textAt 75 = .ok (.getfield 12, 3) := by decide +kernel
theorem dX6_textAt_78 : decode cX6_textAt 78 = .ok (.iload_n 1, 1) := by decide +kernel
theorem dX6_textAt_79 : decode cX6_textAt 79 = .ok (.invokevirtual 123, 3) := by decide +kernel
theorem dX6_textAt_82 : decode cX6_textAt 82 = .ok (.bipush 6, 2) := by decide +kernel
theorem dX6_textAt_84 : decode cX6_textAt 84 = .ok (.idiv, 1) := by decide +kernel
theorem dX6_textAt_85 : decode cX6_textAt 85 = .ok (.iadd, 1) := by decide +kernel
theorem dX6_textAt_86 : decode cX6_textAt 86 = .ok (.i2c, 1) := by decide +kernel
theorem dX6_textAt_87 : decode cX6_textAt 87 = .ok (.ireturn, 1) := by decide +kernel
theorem dX6_textAt_88 : decode cX6_textAt 88 = .ok (.bipush 48, 2) := by decide +kernel
theorem dX6_textAt_90 : decode cX6_textAt 90 = .ok (.aload_n 0, 1) := by decide +kernel
theorem dX6_textAt_91 : decode cX6_textAt 91 = .ok (.getfield 12, 3) := by decide +kernel
theorem dX6_textAt_94 : decode cX6_textAt 94 = .ok (.iload_n 1, 1) := by decide +kernel
theorem dX6_textAt_95 : decode cX6_textAt 95 = .ok (.invokevirtual 111, 3) := by decide +kernel
theorem dX6_textAt_98 : decode cX6_textAt 98 = .ok (.invokestatic 159, 3) := by decide +kernel
theorem dX6_textAt_101 : decode cX6_textAt 101 = .ok (.iadd, 1) := by decide +kernel
theorem dX6_textAt_102 : decode cX6_textAt 102 = .ok (.i2c, 1) := by decide +kernel
theorem dX6_textAt_103 : decode cX6_textAt 103 = .ok (.ireturn, 1) := by decide +kernel
theorem dX6_textAt_104 : decode cX6_textAt 104 = .ok (.aload_n 0, 1) := by decide +kernel
theorem dX6_textAt_105 : decode cX6_textAt 105 = .ok (.getfield 12, 3) := by decide +kernel
theorem dX6_textAt_108 : decode cX6_textAt 108 = .ok (.iload_n 1, 1) := by decide +kernel
theorem dX6_textAt_109 : decode cX6_textAt 109 = .ok (.invokevirtual 111, 3) := by decide +kernel
theorem dX6_textAt_112 : decode cX6_textAt 112 = .ok (.invokestatic 162, 3) := by decide +kernel
theorem dX6_textAt_115 : decode cX6_textAt 115 = .ok (.ifCond .ne 8, 3) := by decide +kernel
theorem dX6_textAt_118 : decode cX6_textAt 118 = .ok (.bipush 82, 2) := by decide +kernel
theorem dX6_textAt_120 : decode cX6_textAt 120 = .ok (.goto 5, 3) := by decide +kernel
theorem dX6_textAt_123 : decode cX6_textAt 123 = .ok (.bipush 76, 2) := by decide +kernel
theorem dX6_textAt_125 : decode cX6_textAt 125 = .ok (.ireturn, 1) := by decide +kernel
set_option maxRecDepth 20000 in
theorem ggX6_lines_X6_requireSide : GoodIn wsX6_lines wsX6_requireSide := goodIn_ca (goodIn_r _ [4, 5, 6] (by decide +kernel) (by decide +kernel)) (goodIn_sub (fun _ h => List.mem_cons_of_mem _ (List.mem_append_right _ h)) (by decide +kernel))
set_option maxRecDepth 20000 in
theorem gX6_lines_X6_requireSide : GoodIn wsX6_lines (va_wsS RX6 165 yX6_requireSide wsX6_requireSide) := goodIn_app (goodIn_of _ (by decide +kernel)) ggX6_lines_X6_requireSide
set_option maxRecDepth 20000 in
theorem ggX6_lines_X6_marblesOf : GoodIn wsX6_lines wsX6_marblesOf := goodIn_r _ [10, 11, 12, 31, 32, 33, 34, 35, 36, 37] (by decide +kernel) (by decide +kernel)
set_option maxRecDepth 20000 in
theorem gX6_lines_X6_marblesOf : GoodIn wsX6_lines (wsV RX6 63 RX6 yX6_marblesOf wsX6_marblesOf) := goodIn_app (goodIn_of _ (by decide +kernel)) ggX6_lines_X6_marblesOf
set_option maxRecDepth 20000 in
theorem ggX6_lines_X1_countLines : GoodIn wsX6_lines wsX1_countLines := goodIn_r _ [16, 17, 18, 19, 20, 21, 22, 15, 23, 24, 25, 26, 27, 28, 29, 30] (by decide +kernel) (by decide +kernel)
set_option maxRecDepth 20000 in
theorem gX6_lines_X1_countLines : GoodIn wsX6_lines (va_wsS RX6 168 yX1_countLines wsX1_countLines) := goodIn_app (goodIn_of _ (by decide +kernel)) ggX6_lines_X1_countLines
theorem dX6_lines_0 : decode cX6_lines 0 = .ok (.iload_n 1, 1) := by decide +kernel
theorem dX6_lines_1 : decode cX6_lines 1 = .ok (.invokestatic 165, 3) := by decide +kernel
theorem dX6_lines_4 : decode cX6_lines 4 = .ok (.aload_n 0, 1) := by decide +kernel
theorem dX6_lines_5 : decode cX6_lines 5 = .ok (.iload_n 1, 1) := by decide +kernel
theorem dX6_lines_6 : decode cX6_lines 6 = .ok (.invokevirtual 63, 3) := by decide +kernel
theorem dX6_lines_9 : decode cX6_lines 9 = .ok (.invokestatic 168, 3) := by decide +kernel
theorem dX6_lines_12 : decode cX6_lines 12 = .ok (.ireturn, 1) := by decide +kernel
set_option maxRecDepth 20000 in
theorem ggX6_fours_X6_requireSide : GoodIn wsX6_fours wsX6_requireSide := goodIn_ca (goodIn_r _ [4, 5, 6] (by decide +kernel) (by decide +kernel)) (goodIn_sub (fun _ h => List.mem_cons_of_mem _ (List.mem_append_right _ h)) (by decide +kernel))
set_option maxRecDepth 20000 in
theorem gX6_fours_X6_requireSide : GoodIn wsX6_fours (va_wsS RX6 165 yX6_requireSide wsX6_requireSide) := goodIn_app (goodIn_of _ (by decide +kernel)) ggX6_fours_X6_requireSide
set_option maxRecDepth 20000 in
theorem ggX6_fours_X6_marblesOf : GoodIn wsX6_fours wsX6_marblesOf := goodIn_r _ [10, 11, 12, 38, 39, 40, 41, 42, 43, 44] (by decide +kernel) (by decide +kernel)
set_option maxRecDepth 20000 in
theorem gX6_fours_X6_marblesOf : GoodIn wsX6_fours (wsV RX6 63 RX6 yX6_marblesOf wsX6_marblesOf) := goodIn_app (goodIn_of _ (by decide +kernel)) ggX6_fours_X6_marblesOf
set_option maxRecDepth 20000 in
theorem ggX6_fours_X6_emptyCells : GoodIn wsX6_fours wsX6_emptyCells := goodIn_r _ [16, 17, 11, 12, 18, 38, 39, 40, 41, 42, 43, 44] (by decide +kernel) (by decide +kernel)
set_option maxRecDepth 20000 in
theorem gX6_fours_X6_emptyCells : GoodIn wsX6_fours (wsV RX6 171 RX6 yX6_emptyCells wsX6_emptyCells) := goodIn_app (goodIn_of _ (by decide +kernel)) ggX6_fours_X6_emptyCells
set_option maxRecDepth 20000 in
theorem ggX6_fours_X1_countFours : GoodIn wsX6_fours wsX1_countFours := goodIn_r _ [22, 23, 24, 25, 26, 27, 28, 21, 29, 30, 31, 32, 33, 34, 35, 36, 37] (by decide +kernel) (by decide +kernel)
set_option maxRecDepth 20000 in
theorem gX6_fours_X1_countFours : GoodIn wsX6_fours (va_wsS RX6 175 yX1_countFours wsX1_countFours) := goodIn_app (goodIn_of _ (by decide +kernel)) ggX6_fours_X1_countFours
theorem dX6_fours_0 : decode cX6_fours 0 = .ok (.iload_n 1, 1) := by decide +kernel
theorem dX6_fours_1 : decode cX6_fours 1 = .ok (.invokestatic 165, 3) := by decide +kernel
theorem dX6_fours_4 : decode cX6_fours 4 = .ok (.aload_n 0, 1) := by decide +kernel
theorem dX6_fours_5 : decode cX6_fours 5 = .ok (.iload_n 1, 1) := by decide +kernel
theorem dX6_fours_6 : decode cX6_fours 6 = .ok (.invokevirtual 63, 3) := by decide +kernel
theorem dX6_fours_9 : decode cX6_fours 9 = .ok (.aload_n 0, 1) := by decide +kernel
theorem dX6_fours_10 : decode cX6_fours 10 = .ok (.invokevirtual 171, 3) := by decide +kernel
theorem dX6_fours_13 : decode cX6_fours 13 = .ok (.invokestatic 175, 3) := by decide +kernel
theorem dX6_fours_16 : decode cX6_fours 16 = .ok (.ireturn, 1) := by decide +kernel
set_option maxRecDepth 20000 in
theorem ggX6_foursBehind_X6_requireSide : GoodIn wsX6_foursBehind wsX6_requireSide := goodIn_ca (goodIn_r _ [4, 5, 6] (by decide +kernel) (by decide +kernel)) (goodIn_sub (fun _ h => List.mem_cons_of_mem _ (List.mem_append_left _ (List.mem_append_right _ h))) (by decide +kernel))
set_option maxRecDepth 20000 in
theorem gX6_foursBehind_X6_requireSide : GoodIn wsX6_foursBehind (va_wsS RX6 165 yX6_requireSide wsX6_requireSide) := goodIn_app (goodIn_of _ (by decide +kernel)) ggX6_foursBehind_X6_requireSide
set_option maxRecDepth 20000 in
theorem ggX6_foursBehind_X6_requireQuarter : GoodIn wsX6_foursBehind wsX6_requireQuarter := goodIn_ca (goodIn_r _ [9, 5, 6] (by decide +kernel) (by decide +kernel)) (goodIn_sub (fun _ h => List.mem_cons_of_mem _ (List.mem_append_left _ (List.mem_append_right _ h))) (by decide +kernel))
set_option maxRecDepth 20000 in
theorem gX6_foursBehind_X6_requireQuarter : GoodIn wsX6_foursBehind (va_wsS RX6 76 yX6_requireQuarter wsX6_requireQuarter) := goodIn_app (goodIn_of _ (by decide +kernel)) ggX6_foursBehind_X6_requireQuarter
set_option maxRecDepth 20000 in
theorem ggX6_foursBehind_X6_requireWay : GoodIn wsX6_foursBehind wsX6_requireWay := goodIn_ca (goodIn_r _ [12, 13, 14] (by decide +kernel) (by decide +kernel)) (goodIn_sub (fun _ h => List.mem_cons_of_mem _ (List.mem_append_right _ h)) (by decide +kernel))
set_option maxRecDepth 20000 in
theorem gX6_foursBehind_X6_requireWay : GoodIn wsX6_foursBehind (va_wsS RX6 79 yX6_requireWay wsX6_requireWay) := goodIn_app (goodIn_of _ (by decide +kernel)) ggX6_foursBehind_X6_requireWay
set_option maxRecDepth 20000 in
theorem ggX6_foursBehind_X6_turnNumber : GoodIn wsX6_foursBehind wsX6_turnNumber := goodIn_r _ [17] (by decide +kernel) (by decide +kernel)
set_option maxRecDepth 20000 in
theorem gX6_foursBehind_X6_turnNumber : GoodIn wsX6_foursBehind (va_wsS RX6 89 yX6_turnNumber wsX6_turnNumber) := goodIn_app (goodIn_of _ (by decide +kernel)) ggX6_foursBehind_X6_turnNumber
set_option maxRecDepth 20000 in
theorem ggX6_foursBehind_X6_marblesOf : GoodIn wsX6_foursBehind wsX6_marblesOf := goodIn_r _ [21, 22, 23, 75, 76, 77, 78, 79, 80, 81] (by decide +kernel) (by decide +kernel)
set_option maxRecDepth 20000 in
theorem gX6_foursBehind_X6_marblesOf : GoodIn wsX6_foursBehind (wsV RX6 63 RX6 yX6_marblesOf wsX6_marblesOf) := goodIn_app (goodIn_of _ (by decide +kernel)) ggX6_foursBehind_X6_marblesOf
set_option maxRecDepth 20000 in
theorem ggX6_foursBehind_X4_turned : GoodIn wsX6_foursBehind wsX4_turned := goodIn_r _ [27, 28, 29, 30, 31, 26, 32, 33, 34, 35, 36, 37, 38, 39, 40, 41, 42, 43, 44, 45, 46, 47, 48, 49] (by decide +kernel) (by decide +kernel)
set_option maxRecDepth 20000 in
theorem gX6_foursBehind_X4_turned : GoodIn wsX6_foursBehind (va_wsS RX6 179 yX4_turned wsX4_turned) := goodIn_app (goodIn_of _ (by decide +kernel)) ggX6_foursBehind_X4_turned
set_option maxRecDepth 20000 in
theorem ggX6_foursBehind_X6_emptyCells : GoodIn wsX6_foursBehind wsX6_emptyCells := goodIn_r _ [53, 54, 22, 23, 55, 75, 76, 77, 78, 79, 80, 81] (by decide +kernel) (by decide +kernel)
set_option maxRecDepth 20000 in
theorem gX6_foursBehind_X6_emptyCells : GoodIn wsX6_foursBehind (wsV RX6 171 RX6 yX6_emptyCells wsX6_emptyCells) := goodIn_app (goodIn_of _ (by decide +kernel)) ggX6_foursBehind_X6_emptyCells
set_option maxRecDepth 20000 in
theorem ggX6_foursBehind_X1_countFours : GoodIn wsX6_foursBehind wsX1_countFours := goodIn_r _ [59, 60, 61, 62, 63, 64, 65, 58, 66, 67, 68, 69, 70, 71, 72, 73, 74] (by decide +kernel) (by decide +kernel)
set_option maxRecDepth 20000 in
theorem gX6_foursBehind_X1_countFours : GoodIn wsX6_foursBehind (va_wsS RX6 175 yX1_countFours wsX1_countFours) := goodIn_app (goodIn_of _ (by decide +kernel)) ggX6_foursBehind_X1_countFours
theorem dX6_foursBehind_0 : decode cX6_foursBehind 0 = .ok (.iload_n 1, 1) := by decide +kernel
theorem dX6_foursBehind_1 : decode cX6_foursBehind 1 = .ok (.invokestatic 165, 3) := by decide +kernel
theorem dX6_foursBehind_4 : decode cX6_foursBehind 4 = .ok (.iload_n 2, 1) := by decide +kernel
theorem dX6_foursBehind_5 : decode cX6_foursBehind 5 = .ok (.invokestatic 76, 3) := by decide +kernel
theorem dX6_foursBehind_8 : decode cX6_foursBehind 8 = .ok (.iload_n 3, 1) := by decide +kernel
theorem dX6_foursBehind_9 : decode cX6_foursBehind 9 = .ok (.invokestatic 79, 3) := by decide +kernel
theorem dX6_foursBehind_12 : decode cX6_foursBehind 12 = .ok (.iload_n 2, 1) := by decide +kernel
theorem dX6_foursBehind_13 : decode cX6_foursBehind 13 = .ok (.iload_n 3, 1) := by decide +kernel
theorem dX6_foursBehind_14 : decode cX6_foursBehind 14 = .ok (.invokestatic 89, 3) := by decide +kernel
theorem dX6_foursBehind_17 : decode cX6_foursBehind 17 = .ok (.istore 4, 2) := by decide +kernel
theorem dX6_foursBehind_19 : decode cX6_foursBehind 19 = .ok (.aload_n 0, 1) := by decide +kernel
theorem dX6_foursBehind_20 : decode cX6_foursBehind 20 = .ok (.iload_n 1, 1) := by decide +kernel
theorem dX6_foursBehind_21 : decode cX6_foursBehind 21 = .ok (.invokevirtual 63, 3) := by decide +kernel
theorem dX6_foursBehind_24 : decode cX6_foursBehind 24 = .ok (.iload 4, 2) := by decide +kernel
theorem dX6_foursBehind_26 : decode cX6_foursBehind 26 = .ok (.invokestatic 179, 3) := by decide +kernel
theorem dX6_foursBehind_29 : decode cX6_foursBehind 29 = .ok (.aload_n 0, 1) := by decide +kernel
theorem dX6_foursBehind_30 : decode cX6_foursBehind 30 = .ok (.invokevirtual 171, 3) := by decide +kernel
theorem dX6_foursBehind_33 : decode cX6_foursBehind 33 = .ok (.iload 4, 2) := by decide +kernel
theorem dX6_foursBehind_35 : decode cX6_foursBehind 35 = .ok (.invokestatic 179, 3) := by decide +kernel
theorem dX6_foursBehind_38 : decode cX6_foursBehind 38 = .ok (.invokestatic 175, 3) := by decide +kernel
theorem dX6_foursBehind_41 : decode cX6_foursBehind 41 = .ok (.ireturn, 1) := by decide +kernel
set_option maxRecDepth 20000 in
theorem ggX6_form_X0_leastCode : GoodIn wsX6_form wsX0_leastCode := goodIn_r _ [6, 7, 8, 9, 10, 11, 12, 5, 13, 14, 15] (by decide +kernel) (by decide +kernel)
set_option maxRecDepth 20000 in
theorem gX6_form_X0_leastCode : GoodIn wsX6_form (va_wsS RX6 183 yX0_leastCode wsX0_leastCode) := goodIn_app (goodIn_of _ (by decide +kernel)) ggX6_form_X0_leastCode
theorem dX6_form_0 : decode cX6_form 0 = .ok (.aload_n 0, 1) := by decide +kernel
theorem dX6_form_1 : decode cX6_form 1 = .ok (.getfield 49, 3) := by decide +kernel
theorem dX6_form_4 : decode cX6_form 4 = .ok (.aload_n 0, 1) := by decide +kernel
theorem dX6_form_5 : decode cX6_form 5 = .ok (.getfield 57, 3) := by decide +kernel
theorem dX6_form_8 : decode cX6_form 8 = .ok (.invokestatic 183, 3) := by decide +kernel
theorem dX6_form_11 : decode cX6_form 11 = .ok (.lreturn, 1) := by decide +kernel
set_option maxRecDepth 20000 in
theorem ggX6_symmetries_X0_countSymmetries : GoodIn wsX6_symmetries wsX0_countSymmetries := goodIn_r _ [6, 7, 8, 5, 9, 10, 11] (by decide +kernel) (by decide +kernel)
set_option maxRecDepth 20000 in
theorem gX6_symmetries_X0_countSymmetries : GoodIn wsX6_symmetries (va_wsS RX6 189 yX0_countSymmetries wsX0_countSymmetries) := goodIn_app (goodIn_of _ (by decide +kernel)) ggX6_symmetries_X0_countSymmetries
theorem dX6_symmetries_0 : decode cX6_symmetries 0 = .ok (.aload_n 0, 1) := by decide +kernel
theorem dX6_symmetries_1 : decode cX6_symmetries 1 = .ok (.getfield 49, 3) := by decide +kernel
theorem dX6_symmetries_4 : decode cX6_symmetries 4 = .ok (.aload_n 0, 1) := by decide +kernel
theorem dX6_symmetries_5 : decode cX6_symmetries 5 = .ok (.getfield 57, 3) := by decide +kernel
theorem dX6_symmetries_8 : decode cX6_symmetries 8 = .ok (.invokestatic 189, 3) := by decide +kernel
theorem dX6_symmetries_11 : decode cX6_symmetries 11 = .ok (.ireturn, 1) := by decide +kernel
set_option maxRecDepth 20000 in
theorem ggX6_winningCells_X6_requireToPut : GoodIn wsX6_winningCells wsX6_requireToPut := goodIn_ca (goodIn_r _ [5, 6, 7, 8, 9, 55, 56, 57, 58, 59, 60, 61] (by decide +kernel) (by decide +kernel)) (goodIn_sub (fun _ h => List.mem_cons_of_mem _ (List.mem_append_right _ h)) (by decide +kernel))
set_option maxRecDepth 20000 in
theorem gX6_winningCells_X6_requireToPut : GoodIn wsX6_winningCells (wsV RX6 39 RX6 yX6_requireToPut wsX6_requireToPut) := goodIn_app (goodIn_of _ (by decide +kernel)) ggX6_winningCells_X6_requireToPut
set_option maxRecDepth 20000 in
theorem ggX6_winningCells_X6_sideToAct : GoodIn wsX6_winningCells wsX6_sideToAct := goodIn_r _ [13, 9, 14, 15, 16, 4, 17, 18, 19, 20, 21, 22, 23, 24, 25, 26, 55, 56, 57, 58, 59, 60, 61] (by decide +kernel) (by decide +kernel)
set_option maxRecDepth 20000 in
theorem gX6_winningCells_X6_sideToAct : GoodIn wsX6_winningCells (wsV RX6 45 RX6 yX6_sideToAct wsX6_sideToAct) := goodIn_app (goodIn_of _ (by decide +kernel)) ggX6_winningCells_X6_sideToAct
set_option maxRecDepth 20000 in
theorem ggX6_winningCells_X6_marblesOf : GoodIn wsX6_winningCells wsX6_marblesOf := goodIn_r _ [30, 18, 19, 55, 56, 57, 58, 59, 60, 61] (by decide +kernel) (by decide +kernel)
set_option maxRecDepth 20000 in
theorem gX6_winningCells_X6_marblesOf : GoodIn wsX6_winningCells (wsV RX6 63 RX6 yX6_marblesOf wsX6_marblesOf) := goodIn_app (goodIn_of _ (by decide +kernel)) ggX6_winningCells_X6_marblesOf
set_option maxRecDepth 20000 in
theorem ggX6_winningCells_X6_isEmpty : GoodIn wsX6_winningCells wsX6_isEmpty := goodIn_r _ [34, 35, 36, 37, 4, 38, 39, 18, 19, 40, 41, 42, 43, 55, 56, 57, 58, 59, 60, 61] (by decide +kernel) (by decide +kernel)
set_option maxRecDepth 20000 in
theorem gX6_winningCells_X6_isEmpty : GoodIn wsX6_winningCells (wsV RX6 192 RX6 yX6_isEmpty wsX6_isEmpty) := goodIn_app (goodIn_of _ (by decide +kernel)) ggX6_winningCells_X6_isEmpty
set_option maxRecDepth 20000 in
theorem ggX6_winningCells_X6_bitOf : GoodIn wsX6_winningCells wsX6_bitOf := goodIn_r _ [43] (by decide +kernel) (by decide +kernel)
set_option maxRecDepth 20000 in
theorem gX6_winningCells_X6_bitOf : GoodIn wsX6_winningCells (va_wsS RX6 53 yX6_bitOf wsX6_bitOf) := goodIn_app (goodIn_of _ (by decide +kernel)) ggX6_winningCells_X6_bitOf
set_option maxRecDepth 20000 in
theorem ggX6_winningCells_X1_hasLine : GoodIn wsX6_winningCells wsX1_hasLine := goodIn_r _ [47, 48, 49, 50, 51, 52, 53, 46, 54] (by decide +kernel) (by decide +kernel)
set_option maxRecDepth 20000 in
theorem gX6_winningCells_X1_hasLine : GoodIn wsX6_winningCells (va_wsS RX6 66 yX1_hasLine wsX1_hasLine) := goodIn_app (goodIn_of _ (by decide +kernel)) ggX6_winningCells_X1_hasLine
theorem dX6_winningCells_0 : decode cX6_winningCells 0 = .ok (.aload_n 0, 1) := by decide +kernel
theorem dX6_winningCells_1 : decode cX6_winningCells 1 = .ok (.invokevirtual 39, 3) := by decide +kernel
theorem dX6_winningCells_4 : decode cX6_winningCells 4 = .ok (.aload_n 0, 1) := by decide +kernel
theorem dX6_winningCells_5 : decode cX6_winningCells 5 = .ok (.aload_n 0, 1) := by decide +kernel
theorem dX6_winningCells_6 : decode cX6_winningCells 6 = .ok (.invokevirtual 45, 3) := by decide +kernel
theorem dX6_winningCells_9 : decode cX6_winningCells 9 = .ok (.invokevirtual 63, 3) := by decide +kernel
theorem dX6_winningCells_12 : decode cX6_winningCells 12 = .ok (.lstore_n 1, 1) := by decide +kernel
theorem dX6_winningCells_13 : decode cX6_winningCells 13 = .ok (.iconst 0, 1) := by decide +kernel
theorem dX6_winningCells_14 : decode cX6_winningCells 14 = .ok (.istore_n 3, 1) := by decide +kernel
theorem dX6_winningCells_15 : decode cX6_winningCells 15 = .ok (.iconst 0, 1) := by decide +kernel
theorem dX6_winningCells_16 : decode cX6_winningCells 16 = .ok (.istore 4, 2) := by decide +kernel
theorem dX6_winningCells_18 : decode cX6_winningCells 18 = .ok (.iload 4, 2) := by decide +kernel
theorem dX6_winningCells_20 : decode cX6_winningCells 20 = .ok (.bipush 36, 2) := by decide +kernel
theorem dX6_winningCells_22 : decode cX6_winningCells 22 = .ok (.if_icmp .ge 34, 3) := by decide +kernel
theorem dX6_winningCells_25 : decode cX6_winningCells 25 = .ok (.aload_n 0, 1) := by decide +kernel
theorem dX6_winningCells_26 : decode cX6_winningCells 26 = .ok (.iload 4, 2) := by decide +kernel
theorem dX6_winningCells_28 : decode cX6_winningCells 28 = .ok (.invokevirtual 192, 3) := by decide +kernel
theorem dX6_winningCells_31 : decode cX6_winningCells 31 = .ok (.ifCond .eq 19, 3) := by decide +kernel
theorem dX6_winningCells_34 : decode cX6_winningCells 34 = .ok (.lload_n 1, 1) := by decide +kernel
theorem dX6_winningCells_35 : decode cX6_winningCells 35 = .ok (.iload 4, 2) := by decide +kernel
theorem dX6_winningCells_37 : decode cX6_winningCells 37 = .ok (.invokestatic 53, 3) := by decide +kernel
theorem dX6_winningCells_40 : decode cX6_winningCells 40 = .ok (.lor, 1) := by decide +kernel
theorem dX6_winningCells_41 : decode cX6_winningCells 41 = .ok (.invokestatic 66, 3) := by decide +kernel
theorem dX6_winningCells_44 : decode cX6_winningCells 44 = .ok (.ifCond .eq 6, 3) := by decide +kernel
theorem dX6_winningCells_47 : decode cX6_winningCells 47 = .ok (.iinc 3 1, 3) := by decide +kernel
theorem dX6_winningCells_50 : decode cX6_winningCells 50 = .ok (.iinc 4 1, 3) := by decide +kernel
theorem dX6_winningCells_53 : decode cX6_winningCells 53 = .ok (.goto (-35), 3) := by decide +kernel
theorem dX6_winningCells_56 : decode cX6_winningCells 56 = .ok (.iload_n 3, 1) := by decide +kernel
theorem dX6_winningCells_57 : decode cX6_winningCells 57 = .ok (.ireturn, 1) := by decide +kernel
set_option maxRecDepth 20000 in
theorem ggX6_winningTurns_X6_requireCell : GoodIn wsX6_winningTurns wsX6_requireCell := goodIn_ca (goodIn_r _ [4, 5, 6] (by decide +kernel) (by decide +kernel)) (goodIn_sub (fun _ h => List.mem_cons_of_mem _ (List.mem_append_left _ (List.mem_append_right _ h))) (by decide +kernel))
set_option maxRecDepth 20000 in
theorem gX6_winningTurns_X6_requireCell : GoodIn wsX6_winningTurns (va_wsS RX6 35 yX6_requireCell wsX6_requireCell) := goodIn_app (goodIn_of _ (by decide +kernel)) ggX6_winningTurns_X6_requireCell
set_option maxRecDepth 20000 in
theorem ggX6_winningTurns_X6_requireToPut : GoodIn wsX6_winningTurns wsX6_requireToPut := goodIn_ca (goodIn_r _ [10, 11, 12, 13, 14, 93, 94, 95, 96, 97, 98, 99] (by decide +kernel) (by decide +kernel)) (goodIn_sub (fun _ h => List.mem_cons_of_mem _ (List.mem_append_right _ h)) (by decide +kernel))
set_option maxRecDepth 20000 in
theorem gX6_winningTurns_X6_requireToPut : GoodIn wsX6_winningTurns (wsV RX6 39 RX6 yX6_requireToPut wsX6_requireToPut) := goodIn_app (goodIn_of _ (by decide +kernel)) ggX6_winningTurns_X6_requireToPut
set_option maxRecDepth 20000 in
theorem ggX6_winningTurns_X6_requireEmpty : GoodIn wsX6_winningTurns wsX6_requireEmpty := goodIn_ca (goodIn_r _ [18, 11, 12, 19, 20, 21, 3, 22, 23, 24, 25, 26, 27, 28, 29, 30, 31, 32, 33, 93, 94, 95, 96, 97, 98, 99] (by decide +kernel) (by decide +kernel)) (goodIn_sub (fun _ h => List.mem_cons_of_mem _ (List.mem_append_right _ h)) (by decide +kernel))
set_option maxRecDepth 20000 in
theorem gX6_winningTurns_X6_requireEmpty : GoodIn wsX6_winningTurns (wsV RX6 42 RX6 yX6_requireEmpty wsX6_requireEmpty) := goodIn_app (goodIn_of _ (by decide +kernel)) ggX6_winningTurns_X6_requireEmpty
set_option maxRecDepth 20000 in
theorem ggX6_winningTurns_X6_sideToAct : GoodIn wsX6_winningTurns wsX6_sideToAct := goodIn_r _ [37, 14, 38, 39, 40, 3, 41, 28, 29, 42, 43, 44, 45, 46, 47, 48, 93, 94, 95, 96, 97, 98, 99] (by decide +kernel) (by decide +kernel)
set_option maxRecDepth 20000 in
theorem gX6_winningTurns_X6_sideToAct : GoodIn wsX6_winningTurns (wsV RX6 45 RX6 yX6_sideToAct wsX6_sideToAct) := goodIn_app (goodIn_of _ (by decide +kernel)) ggX6_winningTurns_X6_sideToAct
set_option maxRecDepth 20000 in
theorem ggX6_winningTurns_X6_marblesOf : GoodIn wsX6_winningTurns wsX6_marblesOf := goodIn_r _ [52, 28, 29, 93, 94, 95, 96, 97, 98, 99] (by decide +kernel) (by decide +kernel)
set_option maxRecDepth 20000 in
theorem gX6_winningTurns_X6_marblesOf : GoodIn wsX6_winningTurns (wsV RX6 63 RX6 yX6_marblesOf wsX6_marblesOf) := goodIn_app (goodIn_of _ (by decide +kernel)) ggX6_winningTurns_X6_marblesOf
set_option maxRecDepth 20000 in
theorem ggX6_winningTurns_X6_bitOf : GoodIn wsX6_winningTurns wsX6_bitOf := goodIn_r _ [33] (by decide +kernel) (by decide +kernel)
set_option maxRecDepth 20000 in
theorem gX6_winningTurns_X6_bitOf : GoodIn wsX6_winningTurns (va_wsS RX6 53 yX6_bitOf wsX6_bitOf) := goodIn_app (goodIn_of _ (by decide +kernel)) ggX6_winningTurns_X6_bitOf
set_option maxRecDepth 20000 in
theorem ggX6_winningTurns_X1_hasLine : GoodIn wsX6_winningTurns wsX1_hasLine := goodIn_r _ [56, 57, 58, 59, 60, 61, 62, 55, 63] (by decide +kernel) (by decide +kernel)
set_option maxRecDepth 20000 in
theorem gX6_winningTurns_X1_hasLine : GoodIn wsX6_winningTurns (va_wsS RX6 66 yX1_hasLine wsX1_hasLine) := goodIn_app (goodIn_of _ (by decide +kernel)) ggX6_winningTurns_X1_hasLine
set_option maxRecDepth 20000 in
theorem ggX6_winningTurns_X6_otherSide : GoodIn wsX6_winningTurns wsX6_otherSide := goodIn_r _ [66] (by decide +kernel) (by decide +kernel)
set_option maxRecDepth 20000 in
theorem gX6_winningTurns_X6_otherSide : GoodIn wsX6_winningTurns (va_wsS RX6 195 yX6_otherSide wsX6_otherSide) := goodIn_app (goodIn_of _ (by decide +kernel)) ggX6_winningTurns_X6_otherSide
set_option maxRecDepth 20000 in
theorem ggX6_winningTurns_X4_turned : GoodIn wsX6_winningTurns wsX4_turned := goodIn_r _ [70, 71, 72, 73, 74, 69, 75, 76, 77, 78, 79, 80, 81, 82, 83, 84, 85, 86, 87, 88, 89, 90, 91, 92] (by decide +kernel) (by decide +kernel)
set_option maxRecDepth 20000 in
theorem gX6_winningTurns_X4_turned : GoodIn wsX6_winningTurns (va_wsS RX6 179 yX4_turned wsX4_turned) := goodIn_app (goodIn_of _ (by decide +kernel)) ggX6_winningTurns_X4_turned
theorem dX6_winningTurns_0 : decode cX6_winningTurns 0 = .ok (.iload_n 1, 1) := by decide +kernel
theorem dX6_winningTurns_1 : decode cX6_winningTurns 1 = .ok (.invokestatic 35, 3) := by decide +kernel
theorem dX6_winningTurns_4 : decode cX6_winningTurns 4 = .ok (.aload_n 0, 1) := by decide +kernel
theorem dX6_winningTurns_5 : decode cX6_winningTurns 5 = .ok (.invokevirtual 39, 3) := by decide +kernel
theorem dX6_winningTurns_8 : decode cX6_winningTurns 8 = .ok (.aload_n 0, 1) := by decide +kernel
theorem dX6_winningTurns_9 : decode cX6_winningTurns 9 = .ok (.iload_n 1, 1) := by decide +kernel
theorem dX6_winningTurns_10 : decode cX6_winningTurns 10 = .ok (.invokevirtual 42, 3) := by decide +kernel
theorem dX6_winningTurns_13 : decode cX6_winningTurns 13 = .ok (.aload_n 0, 1) := by decide +kernel
theorem dX6_winningTurns_14 : decode cX6_winningTurns 14 = .ok (.invokevirtual 45, 3) := by decide +kernel
theorem dX6_winningTurns_17 : decode cX6_winningTurns 17 = .ok (.istore_n 2, 1) := by decide +kernel
theorem dX6_winningTurns_18 : decode cX6_winningTurns 18 = .ok (.aload_n 0, 1) := by decide +kernel
theorem dX6_winningTurns_19 : decode cX6_winningTurns 19 = .ok (.iload_n 2, 1) := by decide +kernel
theorem dX6_winningTurns_20 : decode cX6_winningTurns 20 = .ok (.invokevirtual 63, 3) := by decide +kernel
theorem dX6_winningTurns_23 : decode cX6_winningTurns 23 = .ok (.iload_n 1, 1) := by decide +kernel
theorem dX6_winningTurns_24 : decode cX6_winningTurns 24 = .ok (.invokestatic 53, 3) := by decide +kernel
theorem dX6_winningTurns_27 : decode cX6_winningTurns 27 = .ok (.lor, 1) := by decide +kernel
theorem dX6_winningTurns_28 : decode cX6_winningTurns 28 = .ok (.lstore_n 3, 1) := by decide +kernel
theorem dX6_winningTurns_29 : decode cX6_winningTurns 29 = .ok (.lload_n 3, 1) := by decide +kernel
theorem dX6_winningTurns_30 : decode cX6_winningTurns 30 = .ok (.invokestatic 66, 3) := by decide +kernel
theorem dX6_winningTurns_33 : decode cX6_winningTurns 33 = .ok (.ifCond .eq 6, 3) := by decide +kernel
theorem dX6_winningTurns_36 : decode cX6_winningTurns 36 = .ok (.bipush 8, 2) := by decide +kernel
theorem dX6_winningTurns_38 : decode cX6_winningTurns 38 = .ok (.ireturn, 1) := by decide +kernel
theorem dX6_winningTurns_39 : decode cX6_winningTurns 39 = .ok (.aload_n 0, 1) := by decide +kernel
theorem dX6_winningTurns_40 : decode cX6_winningTurns 40 = .ok (.iload_n 2, 1) := by decide +kernel
theorem dX6_winningTurns_41 : decode cX6_winningTurns 41 = .ok (.invokestatic 195, 3) := by decide +kernel
theorem dX6_winningTurns_44 : decode cX6_winningTurns 44 = .ok (.invokevirtual 63, 3) := by decide +kernel
theorem dX6_winningTurns_47 : decode cX6_winningTurns 47 = .ok (.lstore 5, 2) := by decide +kernel
theorem dX6_winningTurns_49 : decode cX6_winningTurns 49 = .ok (.iconst 0, 1) := by decide +kernel
theorem dX6_winningTurns_50 : decode cX6_winningTurns 50 = .ok (.istore 7, 2) := by decide +kernel
