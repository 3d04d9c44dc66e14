theorem dX7_cellOf_28 : decode cX7_cellOf 28 = .ok (.bipush 12, 2) := by decide +kernel
theorem dX7_cellOf_30 : decode cX7_cellOf 30 = .ok (.isub, 1) := by decide +kernel
theorem dX7_cellOf_31 : decode cX7_cellOf 31 = .ok (.iconst 2, 1) := by decide +kernel
theorem dX7_cellOf_32 : decode cX7_cellOf 32 = .ok (.irem, 1) := by decide +kernel
theorem dX7_cellOf_33 : decode cX7_cellOf 33 = .ok (.iload_n 1, 1) := by decide +kernel
theorem dX7_cellOf_34 : decode cX7_cellOf 34 = .ok (.iadd, 1) := by decide +kernel
theorem dX7_cellOf_35 : decode cX7_cellOf 35 = .ok (.imul, 1) := by decide +kernel
theorem dX7_cellOf_36 : decode cX7_cellOf 36 = .ok (.iload_n 0, 1) := by decide +kernel
theorem dX7_cellOf_37 : decode cX7_cellOf 37 = .ok (.bipush 12, 2) := by decide +kernel
theorem dX7_cellOf_39 : decode cX7_cellOf 39 = .ok (.isub, 1) := by decide +kernel
theorem dX7_cellOf_40 : decode cX7_cellOf 40 = .ok (.iconst 2, 1) := by decide +kernel
theorem dX7_cellOf_41 : decode cX7_cellOf 41 = .ok (.idiv, 1) := by decide +kernel
theorem dX7_cellOf_42 : decode cX7_cellOf 42 = .ok (.iadd, 1) := by decide +kernel
theorem dX7_cellOf_43 : decode cX7_cellOf 43 = .ok (.ireturn, 1) := by decide +kernel
theorem dX7_cellOf_44 : decode cX7_cellOf 44 = .ok (.iload_n 0, 1) := by decide +kernel
theorem dX7_cellOf_45 : decode cX7_cellOf 45 = .ok (.bipush 24, 2) := by decide +kernel
theorem dX7_cellOf_47 : decode cX7_cellOf 47 = .ok (.isub, 1) := by decide +kernel
theorem dX7_cellOf_48 : decode cX7_cellOf 48 = .ok (.iconst 2, 1) := by decide +kernel
theorem dX7_cellOf_49 : decode cX7_cellOf 49 = .ok (.idiv, 1) := by decide +kernel
theorem dX7_cellOf_50 : decode cX7_cellOf 50 = .ok (.iconst 2, 1) := by decide +kernel
theorem dX7_cellOf_51 : decode cX7_cellOf 51 = .ok (.irem, 1) := by decide +kernel
theorem dX7_cellOf_52 : decode cX7_cellOf 52 = .ok (.iload_n 1, 1) := by decide +kernel
theorem dX7_cellOf_53 : decode cX7_cellOf 53 = .ok (.iadd, 1) := by decide +kernel
theorem dX7_cellOf_54 : decode cX7_cellOf 54 = .ok (.istore_n 2, 1) := by decide +kernel
theorem dX7_cellOf_55 : decode cX7_cellOf 55 = .ok (.iload_n 0, 1) := by decide +kernel
theorem dX7_cellOf_56 : decode cX7_cellOf 56 = .ok (.bipush 28, 2) := by decide +kernel
theorem dX7_cellOf_58 : decode cX7_cellOf 58 = .ok (.if_icmp .ge 16, 3) := by decide +kernel
theorem dX7_cellOf_61 : decode cX7_cellOf 61 = .ok (.bipush 6, 2) := by decide +kernel
theorem dX7_cellOf_63 : decode cX7_cellOf 63 = .ok (.iload_n 2, 1) := by decide +kernel
theorem dX7_cellOf_64 : decode cX7_cellOf 64 = .ok (.imul, 1) := by decide +kernel
theorem dX7_cellOf_65 : decode cX7_cellOf 65 = .ok (.iload_n 0, 1) := by decide +kernel
theorem dX7_cellOf_66 : decode cX7_cellOf 66 = .ok (.iconst 2, 1) := by decide +kernel
theorem dX7_cellOf_67 : decode cX7_cellOf 67 = .ok (.irem, 1) := by decide +kernel
theorem dX7_cellOf_68 : decode cX7_cellOf 68 = .ok (.iadd, 1) := by decide +kernel
theorem dX7_cellOf_69 : decode cX7_cellOf 69 = .ok (.iload_n 1, 1) := by decide +kernel
theorem dX7_cellOf_70 : decode cX7_cellOf 70 = .ok (.iadd, 1) := by decide +kernel
theorem dX7_cellOf_71 : decode cX7_cellOf 71 = .ok (.goto 15, 3) := by decide +kernel
theorem dX7_cellOf_74 : decode cX7_cellOf 74 = .ok (.bipush 6, 2) := by decide +kernel
theorem dX7_cellOf_76 : decode cX7_cellOf 76 = .ok (.iload_n 2, 1) := by decide +kernel
theorem dX7_cellOf_77 : decode cX7_cellOf 77 = .ok (.imul, 1) := by decide +kernel
theorem dX7_cellOf_78 : decode cX7_cellOf 78 = .ok (.iconst 5, 1) := by decide +kernel
theorem dX7_cellOf_79 : decode cX7_cellOf 79 = .ok (.iadd, 1) := by decide +kernel
theorem dX7_cellOf_80 : decode cX7_cellOf 80 = .ok (.iload_n 0, 1) := by decide +kernel
theorem dX7_cellOf_81 : decode cX7_cellOf 81 = .ok (.iconst 2, 1) := by decide +kernel
theorem dX7_cellOf_82 : decode cX7_cellOf 82 = .ok (.irem, 1) := by decide +kernel
theorem dX7_cellOf_83 : decode cX7_cellOf 83 = .ok (.isub, 1) := by decide +kernel
theorem dX7_cellOf_84 : decode cX7_cellOf 84 = .ok (.iload_n 1, 1) := by decide +kernel
theorem dX7_cellOf_85 : decode cX7_cellOf 85 = .ok (.isub, 1) := by decide +kernel
theorem dX7_cellOf_86 : decode cX7_cellOf 86 = .ok (.ireturn, 1) := by decide +kernel
set_option maxRecDepth 20000 in
theorem ggX7_count_X7_cellOf : GoodIn wsX7_count wsX7_cellOf := goodIn_r _ [4] (by decide +kernel) (by decide +kernel)
set_option maxRecDepth 20000 in
theorem gX7_count_X7_cellOf : GoodIn wsX7_count (va_wsS RX7 49 yX7_cellOf wsX7_cellOf) := goodIn_app (goodIn_of _ (by decide +kernel)) ggX7_count_X7_cellOf
set_option maxRecDepth 20000 in
theorem ggX7_count_X7_has : GoodIn wsX7_count wsX7_has := goodIn_r _ [7] (by decide +kernel) (by decide +kernel)
set_option maxRecDepth 20000 in
theorem gX7_count_X7_has : GoodIn wsX7_count (va_wsS RX7 53 yX7_has wsX7_has) := goodIn_app (goodIn_of _ (by decide +kernel)) ggX7_count_X7_has
theorem dX7_count_0 : decode cX7_count 0 = .ok (.iconst 0, 1) := by decide +kernel
theorem dX7_count_1 : decode cX7_count 1 = .ok (.istore 5, 2) := by decide +kernel
theorem dX7_count_3 : decode cX7_count 3 = .ok (.iconst 0, 1) := by decide +kernel
theorem dX7_count_4 : decode cX7_count 4 = .ok (.istore 6, 2) := by decide +kernel
theorem dX7_count_6 : decode cX7_count 6 = .ok (.iload 6, 2) := by decide +kernel
theorem dX7_count_8 : decode cX7_count 8 = .ok (.bipush 32, 2) := by decide +kernel
theorem dX7_count_10 : decode cX7_count 10 = .ok (.if_icmp .ge 86, 3) := by decide +kernel
theorem dX7_count_13 : decode cX7_count 13 = .ok (.iconst 0, 1) := by decide +kernel
theorem dX7_count_14 : decode cX7_count 14 = .ok (.istore 7, 2) := by decide +kernel
theorem dX7_count_16 : decode cX7_count 16 = .ok (.iconst 0, 1) := by decide +kernel
theorem dX7_count_17 : decode cX7_count 17 = .ok (.istore 8, 2) := by decide +kernel
theorem dX7_count_19 : decode cX7_count 19 = .ok (.iload 8, 2) := by decide +kernel
theorem dX7_count_21 : decode cX7_count 21 = .ok (.iconst 5, 1) := by decide +kernel
theorem dX7_count_22 : decode cX7_count 22 = .ok (.if_icmp .ge 51, 3) := by decide +kernel
theorem dX7_count_25 : decode cX7_count 25 = .ok (.iload 6, 2) := by decide +kernel
theorem dX7_count_27 : decode cX7_count 27 = .ok (.iload 8, 2) := by decide +kernel
theorem dX7_count_29 : decode cX7_count 29 = .ok (.invokestatic 49, 3) := by decide +kernel
theorem dX7_count_32 : decode cX7_count 32 = .ok (.istore 9, 2) := by decide +kernel
theorem dX7_count_34 : decode cX7_count 34 = .ok (.iload 7, 2) := by decide +kernel
theorem dX7_count_36 : decode cX7_count 36 = .ok (.lload_n 0, 1) := by decide +kernel
theorem dX7_count_37 : decode cX7_count 37 = .ok (.iload 9, 2) := by decide +kernel
theorem dX7_count_39 : decode cX7_count 39 = .ok (.invokestatic 53, 3) := by decide +kernel
theorem dX7_count_42 : decode cX7_count 42 = .ok (.ifCond .eq 7, 3) := by decide +kernel
theorem dX7_count_45 : decode cX7_count 45 = .ok (.iconst 1, 1) := by decide +kernel
theorem dX7_count_46 : decode cX7_count 46 = .ok (.goto 18, 3) := by decide +kernel
theorem dX7_count_49 : decode cX7_count 49 = .ok (.lload_n 2, 1) := by decide +kernel
theorem dX7_count_50 : decode cX7_count 50 = .ok (.iload 9, 2) := by decide +kernel
theorem dX7_count_52 : decode cX7_count 52 = .ok (.invokestatic 53, 3) := by decide +kernel
theorem dX7_count_55 : decode cX7_count 55 = .ok (.ifCond .eq 8, 3) := by decide +kernel
theorem dX7_count_58 : decode cX7_count 58 = .ok (.bipush (-9), 2) := by decide +kernel
theorem dX7_count_60 : decode cX7_count 60 = .ok (.goto 4, 3) := by decide +kernel
theorem dX7_count_63 : decode cX7_count 63 = .ok (.iconst 0, 1) := by decide +kernel
theorem dX7_count_64 : decode cX7_count 64 = .ok (.iadd, 1) := by decide +kernel
theorem dX7_count_65 : decode cX7_count 65 = .ok (.istore 7, 2) := by decide +kernel
theorem dX7_count_67 : decode cX7_count 67 = .ok (.iinc 8 1, 3) := by decide +kernel
theorem dX7_count_70 : decode cX7_count 70 = .ok (.goto (-51), 3) := by decide +kernel
theorem dX7_count_73 : decode cX7_count 73 = .ok (.iload 5, 2) := by decide +kernel
theorem dX7_count_75 : decode cX7_count 75 = .ok (.iload 7, 2) := by decide +kernel
theorem dX7_count_77 : decode cX7_count 77 = .ok (.iload 4, 2) := by decide +kernel
theorem dX7_count_79 : decode cX7_count 79 = .ok (.if_icmp .ne 7, 3) := by decide +kernel
theorem dX7_count_82 : decode cX7_count 82 = .ok (.iconst 1, 1) := by decide +kernel
theorem dX7_count_83 : decode cX7_count 83 = .ok (.goto 4, 3) := by decide +kernel
theorem dX7_count_86 : decode cX7_count 86 = .ok (.iconst 0, 1) := by decide +kernel
theorem dX7_count_87 : decode cX7_count 87 = .ok (.iadd, 1) := by decide +kernel
theorem dX7_count_88 : decode cX7_count 88 = .ok (.istore 5, 2) := by decide +kernel
theorem dX7_count_90 : decode cX7_count 90 = .ok (.iinc 6 1, 3) := by decide +kernel
theorem dX7_count_93 : decode cX7_count 93 = .ok (.goto (-87), 3) := by decide +kernel
theorem dX7_count_96 : decode cX7_count 96 = .ok (.iload 5, 2) := by decide +kernel
theorem dX7_count_98 : decode cX7_count 98 = .ok (.ireturn, 1) := by decide +kernel
set_option maxRecDepth 20000 in
theorem ggX7_hasLine_X7_count : GoodIn wsX7_hasLine wsX7_count := goodIn_r _ [4, 5, 6, 3, 7, 8, 9, 10] (by decide +kernel) (by decide +kernel)
set_option maxRecDepth 20000 in
theorem gX7_hasLine_X7_count : GoodIn wsX7_hasLine (va_wsS RX7 57 yX7_count wsX7_count) := goodIn_app (goodIn_of _ (by decide +kernel)) ggX7_hasLine_X7_count
theorem dX7_hasLine_0 : decode cX7_hasLine 0 = .ok (.lload_n 0, 1) := by decide +kernel
theorem dX7_hasLine_1 : decode cX7_hasLine 1 = .ok (.lconst 0, 1) := by decide +kernel
theorem dX7_hasLine_2 : decode cX7_hasLine 2 = .ok (.iconst 5, 1) := by decide +kernel
theorem dX7_hasLine_3 : decode cX7_hasLine 3 = .ok (.invokestatic 57, 3) := by decide +kernel
theorem dX7_hasLine_6 : decode cX7_hasLine 6 = .ok (.ifCond .le 7, 3) := by decide +kernel
theorem dX7_hasLine_9 : decode cX7_hasLine 9 = .ok (.iconst 1, 1) := by decide +kernel
theorem dX7_hasLine_10 : decode cX7_hasLine 10 = .ok (.goto 4, 3) := by decide +kernel
theorem dX7_hasLine_13 : decode cX7_hasLine 13 = .ok (.iconst 0, 1) := by decide +kernel
theorem dX7_hasLine_14 : decode cX7_hasLine 14 = .ok (.ireturn, 1) := by decide +kernel
set_option maxRecDepth 20000 in
theorem ggX7_turned_X7_has : GoodIn wsX7_turned wsX7_has := goodIn_r _ [5] (by decide +kernel) (by decide +kernel)
set_option maxRecDepth 20000 in
theorem gX7_turned_X7_has : GoodIn wsX7_turned (va_wsS RX7 53 yX7_has wsX7_has) := goodIn_app (goodIn_of _ (by decide +kernel)) ggX7_turned_X7_has
theorem dX7_turned_0 : decode cX7_turned 0 = .ok (.iload_n 2, 1) := by decide +kernel
theorem dX7_turned_1 : decode cX7_turned 1 = .ok (.iconst 2, 1) := by decide +kernel
theorem dX7_turned_2 : decode cX7_turned 2 = .ok (.idiv, 1) := by decide +kernel
theorem dX7_turned_3 : decode cX7_turned 3 = .ok (.bipush 18, 2) := by decide +kernel
theorem dX7_turned_5 : decode cX7_turned 5 = .ok (.imul, 1) := by decide +kernel
theorem dX7_turned_6 : decode cX7_turned 6 = .ok (.iload_n 2, 1) := by decide +kernel
theorem dX7_turned_7 : decode cX7_turned 7 = .ok (.iconst 2, 1) := by decide +kernel
theorem dX7_turned_8 : decode cX7_turned 8 = .ok (.irem, 1) := by decide +kernel
theorem dX7_turned_9 : decode cX7_turned 9 = .ok (.iconst 3, 1) := by decide +kernel
theorem dX7_turned_10 : decode cX7_turned 10 = .ok (.imul, 1) := by decide +kernel
theorem dX7_turned_11 : decode cX7_turned 11 = .ok (.iadd, 1) := by decide +kernel
theorem dX7_turned_12 : decode cX7_turned 12 = .ok (.istore 4, 2) := by decide +kernel
theorem dX7_turned_14 : decode cX7_turned 14 = .ok (.lload_n 0, 1) := by decide +kernel
theorem dX7_turned_15 : decode cX7_turned 15 = .ok (.lstore 5, 2) := by decide +kernel
theorem dX7_turned_17 : decode cX7_turned 17 = .ok (.iconst 0, 1) := by decide +kernel
theorem dX7_turned_18 : decode cX7_turned 18 = .ok (.istore 7, 2) := by decide +kernel
theorem dX7_turned_20 : decode cX7_turned 20 = .ok (.iload 7, 2) := by decide +kernel
theorem dX7_turned_22 : decode cX7_turned 22 = .ok (.iconst 3, 1) := by decide +kernel
theorem dX7_turned_23 : decode cX7_turned 23 = .ok (.if_icmp .ge 69, 3) := by decide +kernel
theorem dX7_turned_26 : decode cX7_turned 26 = .ok (.iconst 0, 1) := by decide +kernel
theorem dX7_turned_27 : decode cX7_turned 27 = .ok (.istore 8, 2) := by decide +kernel
theorem dX7_turned_29 : decode cX7_turned 29 = .ok (.iload 8, 2) := by decide +kernel
theorem dX7_turned_31 : decode cX7_turned 31 = .ok (.iconst 3, 1) := by decide +kernel
theorem dX7_turned_32 : decode cX7_turned 32 = .ok (.if_icmp .ge 54, 3) := by decide +kernel
theorem dX7_turned_35 : decode cX7_turned 35 = .ok (.iload_n 3, 1) := by decide +kernel
theorem dX7_turned_36 : decode cX7_turned 36 = .ok (.ifCond .ne 16, 3) := by decide +kernel
theorem dX7_turned_39 : decode cX7_turned 39 = .ok (.bipush 6, 2) := by decide +kernel
theorem dX7_turned_41 : decode cX7_turned 41 = .ok (.iload 8, 2) := by decide +kernel
theorem dX7_turned_43 : decode cX7_turned 43 = .ok (.imul, 1) := by decide +kernel
theorem dX7_turned_44 : decode cX7_turned 44 = .ok (.iconst 2, 1) := by decide +kernel
theorem dX7_turned_45 : decode cX7_turned 45 = .ok (.iadd, 1) := by decide +kernel
theorem dX7_turned_46 : decode cX7_turned 46 = .ok (.iload 7, 2) := by decide +kernel
theorem dX7_turned_48 : decode cX7_turned 48 = .ok (.isub, 1) := by decide +kernel
theorem dX7_turned_49 : decode cX7_turned 49 = .ok (.goto 13, 3) := by decide +kernel
theorem dX7_turned_52 : decode cX7_turned 52 = .ok (.bipush 6, 2) := by decide +kernel
theorem dX7_turned_54 : decode cX7_turned 54 = .ok (.iconst 2, 1) := by decide +kernel
theorem dX7_turned_55 : decode cX7_turned 55 = .ok (.iload 8, 2) := by decide +kernel
theorem dX7_turned_57 : decode cX7_turned 57 = .ok (.isub, 1) := by decide +kernel
theorem dX7_turned_58 : decode cX7_turned 58 = .ok (.imul, 1) := by decide +kernel
theorem dX7_turned_59 : decode cX7_turned 59 = .ok (.iload 7, 2) := by decide +kernel
theorem dX7_turned_61 : decode cX7_turned 61 = .ok (.iadd, 1) := by decide +kernel
theorem dX7_turned_62 : decode cX7_turned 62 = .ok (.istore 9, 2) := by decide +kernel
theorem dX7_turned_64 : decode cX7_turned 64 = .ok (.lload 5, 2) := by decide +kernel
theorem dX7_turned_66 : decode cX7_turned 66 = .ok (.lconst 1, 1) := by decide +kernel
theorem dX7_turned_67 : decode cX7_turned 67 = .ok (.iload 4, 2) := by decide +kernel
theorem dX7_turned_69 : decode cX7_turned 69 = .ok (.iload 9, 2) := by decide +kernel
theorem dX7_turned_71 : decode cX7_turned 71 = .ok (.iadd, 1) := by decide +kernel
theorem dX7_turned_72 : decode cX7_turned 72 = .ok (.lshl, 1) := by decide +kernel
theorem dX7_turned_73 : decode cX7_turned 73 = .ok (.ldc2_w 61, 3) := by decide +kernel
theorem dX7_turned_76 : decode cX7_turned 76 = .ok (.lxor, 1) := by decide +kernel
theorem dX7_turned_77 : decode cX7_turned 77 = .ok (.land, 1) := by decide +kernel
theorem dX7_turned_78 : decode cX7_turned 78 = .ok (.lstore 5, 2) := by decide +kernel
theorem dX7_turned_80 : decode cX7_turned 80 = .ok (.iinc 8 1, 3) := by decide +kernel
theorem dX7_turned_83 : decode cX7_turned 83 = .ok (.goto (-54), 3) := by decide +kernel
theorem dX7_turned_86 : decode cX7_turned 86 = .ok (.iinc 7 1, 3) := by decide +kernel
theorem dX7_turned_89 : decode cX7_turned 89 = .ok (.goto (-69), 3) := by decide +kernel
theorem dX7_turned_92 : decode cX7_turned 92 = .ok (.iconst 0, 1) := by decide +kernel
theorem dX7_turned_93 : decode cX7_turned 93 = .ok (.istore 7, 2) := by decide +kernel
theorem dX7_turned_95 : decode cX7_turned 95 = .ok (.iload 7, 2) := by decide +kernel
theorem dX7_turned_97 : decode cX7_turned 97 = .ok (.iconst 3, 1) := by decide +kernel
theorem dX7_turned_98 : decode cX7_turned 98 = .ok (.if_icmp .ge 87, 3) := by decide +kernel
theorem dX7_turned_101 : decode cX7_turned 101 = .ok (.iconst 0, 1) := by decide +kernel
theorem dX7_turned_102 : decode cX7_turned 102 = .ok (.istore 8, 2) := by decide +kernel
theorem dX7_turned_104 : decode cX7_turned 104 = .ok (.iload 8, 2) := by decide +kernel
theorem dX7_turned_106 : decode cX7_turned 106 = .ok (.iconst 3, 1) := by decide +kernel
theorem dX7_turned_107 : decode cX7_turned 107 = .ok (.if_icmp .ge 72, 3) := by decide +kernel
theorem dX7_turned_110 : decode cX7_turned 110 = .ok (.iload_n 3, 1) := by decide +kernel
theorem dX7_turned_111 : decode cX7_turned 111 = .ok (.ifCond .ne 16, 3) := by decide +kernel
theorem dX7_turned_114 : decode cX7_turned 114 = .ok (.bipush 6, 2) := by decide +kernel
theorem dX7_turned_116 : decode cX7_turned 116 = .ok (.iload 8, 2) := by decide +kernel
theorem dX7_turned_118 : decode cX7_turned 118 = .ok (.imul, 1) := by decide +kernel
theorem dX7_turned_119 : decode cX7_turned 119 = .ok (.iconst 2, 1) := by decide +kernel
theorem dX7_turned_120 : decode cX7_turned 120 = .ok (.iadd, 1) := by decide +kernel
theorem dX7_turned_121 : decode cX7_turned 121 = .ok (.iload 7, 2) := by decide +kernel
theorem dX7_turned_123 : decode cX7_turned 123 = .ok (.isub, 1) := by decide +kernel
theorem dX7_turned_124 : decode cX7_turned 124 = .ok (.goto 13, 3) := by decide +kernel
theorem dX7_turned_127 : decode cX7_turned 127 = .ok (.bipush 6, 2) := by decide +kernel
theorem dX7_turned_129 : decode cX7_turned 129 = .ok (.iconst 2, 1) := by decide +kernel
theorem dX7_turned_130 : decode cX7_turned 130 = .ok (.iload 8, 2) := by decide +kernel
theorem dX7_turned_132 : decode cX7_turned 132 = .ok (.isub, 1) := by decide +kernel
theorem dX7_turned_133 : decode cX7_turned 133 = .ok (.imul, 1) := by decide +kernel
theorem dX7_turned_134 : decode cX7_turned 134 = .ok (.iload 7, 2) := by decide +kernel
theorem dX7_turned_136 : decode cX7_turned 136 = .ok (.iadd, 1) := by decide +kernel
theorem dX7_turned_137 : decode cX7_turned 137 = .ok (.istore 9, 2) := by decide +kernel
theorem dX7_turned_139 : decode cX7_turned 139 = .ok (.lload 5, 2) := by decide +kernel
theorem dX7_turned_141 : decode cX7_turned 141 = .ok (.lload_n 0, 1) := by decide +kernel
theorem dX7_turned_142 : decode cX7_turned 142 = .ok (.iload 4, 2) := by decide +kernel
theorem dX7_turned_144 : decode cX7_turned 144 = .ok (.bipush 6, 2) := by decide +kernel
theorem dX7_turned_146 : decode cX7_turned 146 = .ok (.iload 7, 2) := by decide +kernel
theorem dX7_turned_148 : decode cX7_turned 148 = .ok (.imul, 1) := by decide +kernel
theorem dX7_turned_149 : decode cX7_turned 149 = .ok (.iadd, 1) := by decide +kernel
theorem dX7_turned_150 : decode cX7_turned 150 = .ok (.iload 8, 2) := by decide +kernel
theorem dX7_turned_152 : decode cX7_turned 152 = .ok (.iadd, 1) := by decide +kernel
theorem dX7_turned_153 : decode cX7_turned 153 = .ok (.invokestatic 53, 3) := by decide +kernel
theorem dX7_turned_156 : decode cX7_turned 156 = .ok (.ifCond .eq 13, 3) := by decide +kernel
theorem dX7_turned_159 : decode cX7_turned 159 = .ok (.lconst 1, 1) := by decide +kernel
theorem dX7_turned_160 : decode cX7_turned 160 = .ok (.iload 4, 2) := by decide +kernel
theorem dX7_turned_162 : decode cX7_turned 162 = .ok (.iload 9, 2) := by decide +kernel
theorem dX7_turned_164 : decode cX7_turned 164 = .ok (.iadd, 1) := by decide +kernel
theorem dX7_turned_165 : decode cX7_turned 165 = .ok (.lshl, 1) := by decide +kernel
theorem dX7_turned_166 : decode cX7_turned 166 = .ok (.goto 4, 3) := by decide +kernel
theorem dX7_turned_169 : decode cX7_turned 169 = .ok (.lconst 0, 1) := by decide +kernel
theorem dX7_turned_170 : decode cX7_turned 170 = .ok (.lor, 1) := by decide +kernel
theorem dX7_turned_171 : decode cX7_turned 171 = .ok (.lstore 5, 2) := by decide +kernel
theorem dX7_turned_173 : decode cX7_turned 173 = .ok (.iinc 8 1, 3) := by decide +kernel
theorem dX7_turned_176 : decode cX7_turned 176 = .ok (.goto (-72), 3) := by decide +kernel
theorem dX7_turned_179 : decode cX7_turned 179 = .ok (.iinc 7 1, 3) := by decide +kernel
theorem dX7_turned_182 : decode cX7_turned 182 = .ok (.goto (-87), 3) := by decide +kernel
theorem dX7_turned_185 : decode cX7_turned 185 = .ok (.lload 5, 2) := by decide +kernel
theorem dX7_turned_187 : decode cX7_turned 187 = .ok (.lreturn, 1) := by decide +kernel
set_option maxRecDepth 20000 in
theorem ggX7_judge_X7_hasLine : GoodIn wsX7_judge wsX7_hasLine := goodIn_r _ [5, 6, 7, 4, 8, 9, 10, 11, 12, 13, 14] (by decide +kernel) (by decide +kernel)
set_option maxRecDepth 20000 in
theorem gX7_judge_X7_hasLine : GoodIn wsX7_judge (va_wsS RX7 63 yX7_hasLine wsX7_hasLine) := goodIn_app (goodIn_of _ (by decide +kernel)) ggX7_judge_X7_hasLine
theorem dX7_judge_0 : decode cX7_judge 0 = .ok (.lload_n 0, 1) := by decide +kernel
theorem dX7_judge_1 : decode cX7_judge 1 = .ok (.invokestatic 63, 3) := by decide +kernel
theorem dX7_judge_4 : decode cX7_judge 4 = .ok (.istore 4, 2) := by decide +kernel
theorem dX7_judge_6 : decode cX7_judge 6 = .ok (.lload_n 2, 1) := by decide +kernel
theorem dX7_judge_7 : decode cX7_judge 7 = .ok (.invokestatic 63, 3) := by decide +kernel
theorem dX7_judge_10 : decode cX7_judge 10 = .ok (.istore 5, 2) := by decide +kernel
theorem dX7_judge_12 : decode cX7_judge 12 = .ok (.iload 4, 2) := by decide +kernel
theorem dX7_judge_14 : decode cX7_judge 14 = .ok (.ifCond .eq 12, 3) := by decide +kernel
theorem dX7_judge_17 : decode cX7_judge 17 = .ok (.iload 5, 2) := by decide +kernel
theorem dX7_judge_19 : decode cX7_judge 19 = .ok (.ifCond .eq 7, 3) := by decide +kernel
theorem dX7_judge_22 : decode cX7_judge 22 = .ok (.iconst 3, 1) := by decide +kernel
theorem dX7_judge_23 : decode cX7_judge 23 = .ok (.goto 36, 3) := by decide +kernel
theorem dX7_judge_26 : decode cX7_judge 26 = .ok (.iload 4, 2) := by decide +kernel
theorem dX7_judge_28 : decode cX7_judge 28 = .ok (.ifCond .eq 7, 3) := by decide +kernel
theorem dX7_judge_31 : decode cX7_judge 31 = .ok (.iconst 1, 1) := by decide +kernel
theorem dX7_judge_32 : decode cX7_judge 32 = .ok (.goto 27, 3) := by decide +kernel
theorem dX7_judge_35 : decode cX7_judge 35 = .ok (.iload 5, 2) := by decide +kernel
theorem dX7_judge_37 : decode cX7_judge 37 = .ok (.ifCond .eq 7, 3) := by decide +kernel
theorem dX7_judge_40 : decode cX7_judge 40 = .ok (.iconst 2, 1) := by decide +kernel
theorem dX7_judge_41 : decode cX7_judge 41 = .ok (.goto 18, 3) := by decide +kernel
theorem dX7_judge_44 : decode cX7_judge 44 = .ok (.lload_n 0, 1) := by decide +kernel
theorem dX7_judge_45 : decode cX7_judge 45 = .ok (.lload_n 2, 1) := by decide +kernel
theorem dX7_judge_46 : decode cX7_judge 46 = .ok (.lor, 1) := by decide +kernel
theorem dX7_judge_47 : decode cX7_judge 47 = .ok (.ldc2_w 67, 3) := by decide +kernel
theorem dX7_judge_50 : decode cX7_judge 50 = .ok (.lcmp, 1) := by decide +kernel
theorem dX7_judge_51 : decode cX7_judge 51 = .ok (.ifCond .ne 7, 3) := by decide +kernel
theorem dX7_judge_54 : decode cX7_judge 54 = .ok (.iconst 3, 1) := by decide +kernel
theorem dX7_judge_55 : decode cX7_judge 55 = .ok (.goto 4, 3) := by decide +kernel
theorem dX7_judge_58 : decode cX7_judge 58 = .ok (.iconst 0, 1) := by decide +kernel
theorem dX7_judge_59 : decode cX7_judge 59 = .ok (.ireturn, 1) := by decide +kernel
set_option maxRecDepth 20000 in
theorem ggX7_put_X7_isCell : GoodIn wsX7_put wsX7_isCell := goodIn_r _ [11, 12, 13, 10, 14] (by decide +kernel) (by decide +kernel)
set_option maxRecDepth 20000 in
theorem gX7_put_X7_isCell : GoodIn wsX7_put (va_wsS RX7 69 yX7_isCell wsX7_isCell) := goodIn_app (goodIn_of _ (by decide +kernel)) ggX7_put_X7_isCell
set_option maxRecDepth 20000 in
theorem ggX7_put_X7_has : GoodIn wsX7_put wsX7_has := goodIn_r _ [17] (by decide +kernel) (by decide +kernel)
set_option maxRecDepth 20000 in
theorem gX7_put_X7_has : GoodIn wsX7_put (va_wsS RX7 53 yX7_has wsX7_has) := goodIn_app (goodIn_of _ (by decide +kernel)) ggX7_put_X7_has
set_option maxRecDepth 20000 in
theorem ggX7_put_X7_goesWell : GoodIn wsX7_put wsX7_goesWell := goodIn_r _ [21, 22, 32, 33, 34, 35, 36, 37, 38, 39, 40, 41, 42, 43, 44, 45, 46] (by decide +kernel) (by decide +kernel)
set_option maxRecDepth 20000 in
theorem gX7_put_X7_goesWell : GoodIn wsX7_put (wsV RX7 80 RX7 yX7_goesWell wsX7_goesWell) := goodIn_app (goodIn_of _ (by decide +kernel)) ggX7_put_X7_goesWell
set_option maxRecDepth 20000 in
theorem ggX7_put_X7_hasLine : GoodIn wsX7_put wsX7_hasLine := goodIn_r _ [25, 26, 27, 10, 28, 29, 30, 31, 15, 16, 17] (by decide +kernel) (by decide +kernel)
set_option maxRecDepth 20000 in
theorem gX7_put_X7_hasLine : GoodIn wsX7_put (va_wsS RX7 63 yX7_hasLine wsX7_hasLine) := goodIn_app (goodIn_of _ (by decide +kernel)) ggX7_put_X7_hasLine
theorem dX7_put_0 : decode cX7_put 0 = .ok (.iload_n 1, 1) := by decide +kernel
theorem dX7_put_1 : decode cX7_put 1 = .ok (.invokestatic 69, 3) := by decide +kernel
theorem dX7_put_4 : decode cX7_put 4 = .ok (.ifCond .eq 41, 3) := by decide +kernel
theorem dX7_put_7 : decode cX7_put 7 = .ok (.aload_n 0, 1) := by decide +kernel
theorem dX7_put_8 : decode cX7_put 8 = .ok (.getfield 73, 3) := by decide +kernel
theorem dX7_put_11 : decode cX7_put 11 = .ok (.ifCond .ne 30, 3) := by decide +kernel
theorem dX7_put_14 : decode cX7_put 14 = .ok (.aload_n 0, 1) := by decide +kernel
theorem dX7_put_15 : decode cX7_put 15 = .ok (.getfield 76, 3) := by decide +kernel
theorem dX7_put_18 : decode cX7_put 18 = .ok (.ifCond .ne 23, 3) := by decide +kernel
theorem dX7_put_21 : decode cX7_put 21 = .ok (.aload_n 0, 1) := by decide +kernel
theorem dX7_put_22 : decode cX7_put 22 = .ok (.getfield 7, 3) := by decide +kernel
theorem dX7_put_25 : decode cX7_put 25 = .ok (.iconst 1, 1) := by decide +kernel
theorem dX7_put_26 : decode cX7_put 26 = .ok (.laload, 1) := by decide +kernel
theorem dX7_put_27 : decode cX7_put 27 = .ok (.aload_n 0, 1) := by decide +kernel
theorem dX7_put_28 : decode cX7_put 28 = .ok (.getfield 7, 3) := by decide +kernel
theorem dX7_put_31 : decode cX7_put 31 = .ok (.iconst 2, 1) := by decide +kernel
theorem dX7_put_32 : decode cX7_put 32 = .ok (.laload, 1) := by decide +kernel
theorem dX7_put_33 : decode cX7_put 33 = .ok (.lor, 1) := by decide +kernel
theorem dX7_put_34 : decode cX7_put 34 = .ok (.iload_n 1, 1) := by decide +kernel
theorem dX7_put_35 : decode cX7_put 35 = .ok (.invokestatic 53, 3) := by decide +kernel
theorem dX7_put_38 : decode cX7_put 38 = .ok (.ifCond .eq 7, 3) := by decide +kernel
theorem dX7_put_41 : decode cX7_put 41 = .ok (.iconst 1, 1) := by decide +kernel
theorem dX7_put_42 : decode cX7_put 42 = .ok (.goto 4, 3) := by decide +kernel
theorem dX7_put_45 : decode cX7_put 45 = .ok (.iconst 0, 1) := by decide +kernel
theorem dX7_put_46 : decode cX7_put 46 = .ok (.istore_n 2, 1) := by decide +kernel
theorem dX7_put_47 : decode cX7_put 47 = .ok (.aload_n 0, 1) := by decide +kernel
theorem dX7_put_48 : decode cX7_put 48 = .ok (.iload_n 1, 1) := by decide +kernel
theorem dX7_put_49 : decode cX7_put 49 = .ok (.invokestatic 69, 3) := by decide +kernel
theorem dX7_put_52 : decode cX7_put 52 = .ok (.ifCond .ne 7, 3) := by decide +kernel
theorem dX7_put_55 : decode cX7_put 55 = .ok (.iconst 1, 1) := by decide +kernel
theorem dX7_put_56 : decode cX7_put 56 = .ok (.goto 12, 3) := by decide +kernel
theorem dX7_put_59 : decode cX7_put 59 = .ok (.iload_n 2, 1) := by decide +kernel
theorem dX7_put_60 : decode cX7_put 60 = .ok (.ifCond .eq 7, 3) := by decide +kernel
theorem dX7_put_63 : decode cX7_put 63 = .ok (.iconst 2, 1) := by decide +kernel
theorem dX7_put_64 : decode cX7_put 64 = .ok (.goto 4, 3) := by decide +kernel
theorem dX7_put_67 : decode cX7_put 67 = .ok (.iconst 0, 1) := by decide +kernel
theorem dX7_put_68 : decode cX7_put 68 = .ok (.invokevirtual 80, 3) := by decide +kernel
theorem dX7_put_71 : decode cX7_put 71 = .ok (.ifCond .ne 5, 3) := by decide +kernel
theorem dX7_put_74 : decode cX7_put 74 = .ok (.iconst 0, 1) := by decide +kernel
theorem dX7_put_75 : decode cX7_put 75 = .ok (.ireturn, 1) := by decide +kernel
theorem dX7_put_76 : decode cX7_put 76 = .ok (.aload_n 0, 1) := by decide +kernel
theorem dX7_put_77 : decode cX7_put 77 = .ok (.getfield 7, 3) := by decide +kernel
theorem dX7_put_80 : decode cX7_put 80 = .ok (.aload_n 0, 1) := by decide +kernel
theorem dX7_put_81 : decode cX7_put 81 = .ok (.getfield 13, 3) := by decide +kernel
theorem dX7_put_84 : decode cX7_put 84 = .ok (.dup2, 1) := by decide +kernel
theorem dX7_put_85 : decode cX7_put 85 = .ok (.laload, 1) := by decide +kernel
theorem dX7_put_86 : decode cX7_put 86 = .ok (.lconst 1, 1) := by decide +kernel
theorem dX7_put_87 : decode cX7_put 87 = .ok (.iload_n 1, 1) := by decide +kernel
theorem dX7_put_88 : decode cX7_put 88 = .ok (.lshl, 1) := by decide +kernel
theorem dX7_put_89 : decode cX7_put 89 = .ok (.lor, 1) := by decide +kernel
theorem dX7_put_90 : decode cX7_put 90 = .ok (.lastore, 1) := by decide +kernel
theorem dX7_put_91 : decode cX7_put 91 = .ok (.aload_n 0, 1) := by decide +kernel
theorem dX7_put_92 : decode cX7_put 92 = .ok (.getfield 17, 3) := by decide +kernel
theorem dX7_put_95 : decode cX7_put 95 = .ok (.aload_n 0, 1) := by decide +kernel
theorem dX7_put_96 : decode cX7_put 96 = .ok (.getfield 83, 3) := by decide +kernel
theorem dX7_put_99 : decode cX7_put 99 = .ok (.iload_n 1, 1) := by decide +kernel
theorem dX7_put_100 : decode cX7_put 100 = .ok (.iastore, 1) := by decide +kernel
theorem dX7_put_101 : decode cX7_put 101 = .ok (.aload_n 0, 1) := by decide +kernel
theorem dX7_put_102 : decode cX7_put 102 = .ok (.getfield 21, 3) := by decide +kernel
theorem dX7_put_105 : decode cX7_put 105 = .ok (.aload_n 0, 1) := by decide +kernel
theorem dX7_put_106 : decode cX7_put 106 = .ok (.getfield 83, 3) := by decide +kernel
theorem dX7_put_109 : decode cX7_put 109 = .ok (.iconst (-1), 1) := by decide +kernel
theorem dX7_put_110 : decode cX7_put 110 = .ok (.iastore, 1) := by decide +kernel
theorem dX7_put_111 : decode cX7_put 111 = .ok (.aload_n 0, 1) := by decide +kernel
theorem dX7_put_112 : decode cX7_put 112 = .ok (.dup, 1) := by decide +kernel
theorem dX7_put_113 : decode cX7_put 113 = .ok (.getfield 83, 3) := by decide +kernel
theorem dX7_put_116 : decode cX7_put 116 = .ok (.iconst 1, 1) := by decide +kernel
theorem dX7_put_117 : decode cX7_put 117 = .ok (.iadd, 1) := by decide +kernel
theorem dX7_put_118 : decode cX7_put 118 = .ok (.putfield 83, 3) := by decide +kernel
theorem dX7_put_121 : decode cX7_put 121 = .ok (.aload_n 0, 1) := by decide +kernel
theorem dX7_put_122 : decode cX7_put 122 = .ok (.iconst 1, 1) := by decide +kernel
theorem dX7_put_123 : decode cX7_put 123 = .ok (.putfield 76, 3) := by decide +kernel
theorem dX7_put_126 : decode cX7_put 126 = .ok (.aload_n 0, 1) := by decide +kernel
theorem dX7_put_127 : decode cX7_put 127 = .ok (.getfield 7, 3) := by decide +kernel
theorem dX7_put_130 : decode cX7_put 130 = .ok (.aload_n 0, 1) := by decide +kernel
theorem dX7_put_131 : decode cX7_put 131 = .ok (.getfield 13, 3) := by decide +kernel
theorem dX7_put_134 : decode cX7_put 134 = .ok (.laload, 1) := by decide +kernel
theorem dX7_put_135 : decode cX7_put 135 = .ok (.invokestatic 63, 3) := by decide +kernel
theorem dX7_put_138 : decode cX7_put 138 = .ok (.ifCond .eq 16, 3) := by decide +kernel
theorem dX7_put_141 : decode cX7_put 141 = .ok (.aload_n 0, 1) := by decide +kernel
theorem dX7_put_142 : decode cX7_put 142 = .ok (.aload_n 0, 1) := by decide +kernel
theorem dX7_put_143 : decode cX7_put 143 = .ok (.getfield 13, 3) := by decide +kernel
theorem dX7_put_146 : decode cX7_put 146 = .ok (.putfield 73, 3) := by decide +kernel
theorem dX7_put_149 : decode cX7_put 149 = .ok (.aload_n 0, 1) := by decide +kernel
theorem dX7_put_150 : decode cX7_put 150 = .ok (.iconst 0, 1) := by decide +kernel
theorem dX7_put_151 : decode cX7_put 151 = .ok (.putfield 76, 3) := by decide +kernel
theorem dX7_put_154 : decode cX7_put 154 = .ok (.aload_n 0, 1) := by decide +kernel
theorem dX7_put_155 : decode cX7_put 155 = .ok (.getfield 73, 3) := by decide +kernel
theorem dX7_put_158 : decode cX7_put 158 = .ok (.ireturn, 1) := by decide +kernel
set_option maxRecDepth 20000 in
theorem ggX7_turnOwn_X7_turned : GoodIn wsX7_turnOwn wsX7_turned := goodIn_r _ [5, 6, 7, 8, 4, 9] (by decide +kernel) (by decide +kernel)
set_option maxRecDepth 20000 in
theorem gX7_turnOwn_X7_turned : GoodIn wsX7_turnOwn (va_wsS RX7 86 yX7_turned wsX7_turned) := goodIn_app (goodIn_of _ (by decide +kernel)) ggX7_turnOwn_X7_turned
theorem dX7_turnOwn_0 : decode cX7_turnOwn 0 = .ok (.aload_n 0, 1) := by decide +kernel
theorem dX7_turnOwn_1 : decode cX7_turnOwn 1 = .ok (.getfield 7, 3) := by decide +kernel
theorem dX7_turnOwn_4 : decode cX7_turnOwn 4 = .ok (.iconst 1, 1) := by decide +kernel
theorem dX7_turnOwn_5 : decode cX7_turnOwn 5 = .ok (.aload_n 0, 1) := by decide +kernel
theorem dX7_turnOwn_6 : decode cX7_turnOwn 6 = .ok (.getfield 7, 3) := by decide +kernel
theorem dX7_turnOwn_9 : decode cX7_turnOwn 9 = .ok (.iconst 1, 1) := by decide +kernel
theorem dX7_turnOwn_10 : decode cX7_turnOwn 10 = .ok (.laload, 1) := by decide +kernel
theorem dX7_turnOwn_11 : decode cX7_turnOwn 11 = .ok (.iload_n 1, 1) := by decide +kernel
theorem dX7_turnOwn_12 : decode cX7_turnOwn 12 = .ok (.iload_n 2, 1) := by decide +kernel
theorem dX7_turnOwn_13 : decode cX7_turnOwn 13 = .ok (.invokestatic 86, 3) := by decide +kernel
theorem dX7_turnOwn_16 : decode cX7_turnOwn 16 = .ok (.lastore, 1) := by decide +kernel
theorem dX7_turnOwn_17 : decode cX7_turnOwn 17 = .ok (.aload_n 0, 1) := by decide +kernel
theorem dX7_turnOwn_18 : decode cX7_turnOwn 18 = .ok (.getfield 7, 3) := by decide +kernel
theorem dX7_turnOwn_21 : decode cX7_turnOwn 21 = .ok (.iconst 2, 1) := by decide +kernel
theorem dX7_turnOwn_22 : decode cX7_turnOwn 22 = .ok (.aload_n 0, 1) := by decide +kernel
theorem dX7_turnOwn_23 : decode cX7_turnOwn 23 = .ok (.getfield 7, 3) := by decide +kernel
theorem dX7_turnOwn_26 : decode cX7_turnOwn 26 = .ok (.iconst 2, 1) := by decide +kernel
theorem dX7_turnOwn_27 : decode cX7_turnOwn 27 = .ok (.laload, 1) := by decide +kernel
theorem dX7_turnOwn_28 : decode cX7_turnOwn 28 = .ok (.iload_n 1, 1) := by decide +kernel
theorem dX7_turnOwn_29 : decode cX7_turnOwn 29 = .ok (.iload_n 2, 1) := by decide +kernel
theorem dX7_turnOwn_30 : decode cX7_turnOwn 30 = .ok (.invokestatic 86, 3) := by decide +kernel
theorem dX7_turnOwn_33 : decode cX7_turnOwn 33 = .ok (.lastore, 1) := by decide +kernel
theorem dX7_turnOwn_34 : decode cX7_turnOwn 34 = .ok (.return_, 1) := by decide +kernel
set_option maxRecDepth 20000 in
theorem ggX7_turn_X7_in : GoodIn wsX7_turn wsX7_in := goodIn_r _ [10] (by decide +kernel) (by decide +kernel)
set_option maxRecDepth 20000 in
theorem gX7_turn_X7_in : GoodIn wsX7_turn (va_wsS RX7 45 yX7_in wsX7_in) := goodIn_app (goodIn_of _ (by decide +kernel)) ggX7_turn_X7_in
set_option maxRecDepth 20000 in
theorem ggX7_turn_X7_goesWell : GoodIn wsX7_turn wsX7_goesWell := goodIn_r _ [14, 15, 40, 41, 42, 43, 44, 45, 46, 47, 48, 49, 50, 51, 52, 53, 54] (by decide +kernel) (by decide +kernel)
set_option maxRecDepth 20000 in
theorem gX7_turn_X7_goesWell : GoodIn wsX7_turn (wsV RX7 80 RX7 yX7_goesWell wsX7_goesWell) := goodIn_app (goodIn_of _ (by decide +kernel)) ggX7_turn_X7_goesWell
set_option maxRecDepth 20000 in
theorem ggX7_turn_X7_turnOwn : GoodIn wsX7_turn wsX7_turnOwn := goodIn_r _ [19, 6, 20, 21, 9, 22, 23, 24, 25, 26, 40, 41, 42, 43, 44, 45, 46, 47, 48, 49, 50, 51, 52, 53, 54] (by decide +kernel) (by decide +kernel)
set_option maxRecDepth 20000 in
theorem gX7_turn_X7_turnOwn : GoodIn wsX7_turn (wsV RX7 90 RX7 yX7_turnOwn wsX7_turnOwn) := goodIn_app (goodIn_of _ (by decide +kernel)) ggX7_turn_X7_turnOwn
set_option maxRecDepth 20000 in
theorem ggX7_turn_X7_judge : GoodIn wsX7_turn wsX7_judge := goodIn_r _ [29, 30, 31, 32, 9, 33, 34, 35, 36, 37, 38, 39, 24, 25, 26] (by decide +kernel) (by decide +kernel)
set_option maxRecDepth 20000 in
theorem gX7_turn_X7_judge : GoodIn wsX7_turn (va_wsS RX7 94 yX7_judge wsX7_judge) := goodIn_app (goodIn_of _ (by decide +kernel)) ggX7_turn_X7_judge
theorem dX7_turn_0 : decode cX7_turn 0 = .ok (.iload_n 1, 1) := by decide +kernel
theorem dX7_turn_1 : decode cX7_turn 1 = .ok (.iconst 0, 1) := by decide +kernel
theorem dX7_turn_2 : decode cX7_turn 2 = .ok (.iconst 3, 1) := by decide +kernel
theorem dX7_turn_3 : decode cX7_turn 3 = .ok (.invokestatic 45, 3) := by decide +kernel
theorem dX7_turn_6 : decode cX7_turn 6 = .ok (.istore_n 3, 1) := by decide +kernel
theorem dX7_turn_7 : decode cX7_turn 7 = .ok (.aload_n 0, 1) := by decide +kernel
theorem dX7_turn_8 : decode cX7_turn 8 = .ok (.iload_n 3, 1) := by decide +kernel
theorem dX7_turn_9 : decode cX7_turn 9 = .ok (.ifCond .ne 7, 3) := by decide +kernel
theorem dX7_turn_12 : decode cX7_turn 12 = .ok (.iconst 1, 1) := by decide +kernel
theorem dX7_turn_13 : decode cX7_turn 13 = .ok (.goto 35, 3) := by decide +kernel
theorem dX7_turn_16 : decode cX7_turn 16 = .ok (.iload_n 2, 1) := by decide +kernel
theorem dX7_turn_17 : decode cX7_turn 17 = .ok (.iconst 0, 1) := by decide +kernel
theorem dX7_turn_18 : decode cX7_turn 18 = .ok (.iconst 1, 1) := by decide +kernel
theorem dX7_turn_19 : decode cX7_turn 19 = .ok (.invokestatic 45, 3) := by decide +kernel
theorem dX7_turn_22 : decode cX7_turn 22 = .ok (.ifCond .ne 7, 3) := by decide +kernel
theorem dX7_turn_25 : decode cX7_turn 25 = .ok (.iconst 2, 1) := by decide +kernel
theorem dX7_turn_26 : decode cX7_turn 26 = .ok (.goto 22, 3) := by decide +kernel
theorem dX7_turn_29 : decode cX7_turn 29 = .ok (.aload_n 0, 1) := by decide +kernel
theorem dX7_turn_30 : decode cX7_turn 30 = .ok (.getfield 73, 3) := by decide +kernel
theorem dX7_turn_33 : decode cX7_turn 33 = .ok (.ifCond .ne 10, 3) := by decide +kernel
theorem dX7_turn_36 : decode cX7_turn 36 = .ok (.aload_n 0, 1) := by decide +kernel
theorem dX7_turn_37 : decode cX7_turn 37 = .ok (.getfield 76, 3) := by decide +kernel
theorem dX7_turn_40 : decode cX7_turn 40 = .ok (.ifCond .ne 7, 3) := by decide +kernel
theorem dX7_turn_43 : decode cX7_turn 43 = .ok (.iconst 3, 1) := by decide +kernel
theorem dX7_turn_44 : decode cX7_turn 44 = .ok (.goto 4, 3) := by decide +kernel
theorem dX7_turn_47 : decode cX7_turn 47 = .ok (.iconst 0, 1) := by decide +kernel
theorem dX7_turn_48 : decode cX7_turn 48 = .ok (.invokevirtual 80, 3) := by decide +kernel
theorem dX7_turn_51 : decode cX7_turn 51 = .ok (.ifCond .ne 5, 3) := by decide +kernel
theorem dX7_turn_54 : decode cX7_turn 54 = .ok (.iconst 0, 1) := by decide +kernel
theorem dX7_turn_55 : decode cX7_turn 55 = .ok (.ireturn, 1) := by decide +kernel
theorem dX7_turn_56 : decode cX7_turn 56 = .ok (.aload_n 0, 1) := by decide +kernel
theorem dX7_turn_57 : decode cX7_turn 57 = .ok (.iload_n 1, 1) := by decide +kernel
theorem dX7_turn_58 : decode cX7_turn 58 = .ok (.iload_n 2, 1) := by decide +kernel
theorem dX7_turn_59 : decode cX7_turn 59 = .ok (.invokevirtual 90, 3) := by decide +kernel
theorem dX7_turn_62 : decode cX7_turn 62 = .ok (.aload_n 0, 1) := by decide +kernel
theorem dX7_turn_63 : decode cX7_turn 63 = .ok (.getfield 21, 3) := by decide +kernel
theorem dX7_turn_66 : decode cX7_turn 66 = .ok (.aload_n 0, 1) := by decide +kernel
theorem dX7_turn_67 : decode cX7_turn 67 = .ok (.getfield 83, 3) := by decide +kernel
theorem dX7_turn_70 : decode cX7_turn 70 = .ok (.iconst 1, 1) := by decide +kernel
theorem dX7_turn_71 : decode cX7_turn 71 = .ok (.isub, 1) := by decide +kernel
theorem dX7_turn_72 : decode cX7_turn 72 = .ok (.iconst 2, 1) := by decide +kernel
theorem dX7_turn_73 : decode cX7_turn 73 = .ok (.iload_n 1, 1) := by decide +kernel
theorem dX7_turn_74 : decode cX7_turn 74 = .ok (.imul, 1) := by decide +kernel
theorem dX7_turn_75 : decode cX7_turn 75 = .ok (.iload_n 2, 1) := by decide +kernel
theorem dX7_turn_76 : decode cX7_turn 76 = .ok (.iadd, 1) := by decide +kernel
theorem dX7_turn_77 : decode cX7_turn 77 = .ok (.iastore, 1) := by decide +kernel
theorem dX7_turn_78 : decode cX7_turn 78 = .ok (.aload_n 0, 1) := by decide +kernel
theorem dX7_turn_79 : decode cX7_turn 79 = .ok (.iconst 0, 1) := by decide +kernel
theorem dX7_turn_80 : decode cX7_turn 80 = .ok (.putfield 76, 3) := by decide +kernel
theorem dX7_turn_83 : decode cX7_turn 83 = .ok (.aload_n 0, 1) := by decide +kernel
theorem dX7_turn_84 : decode cX7_turn 84 = .ok (.iconst 3, 1) := by decide +kernel
theorem dX7_turn_85 : decode cX7_turn 85 = .ok (.aload_n 0, 1) := by decide +kernel
theorem dX7_turn_86 : decode cX7_turn 86 = .ok (.getfield 13, 3) := by decide +kernel
theorem dX7_turn_89 : decode cX7_turn 89 = .ok (.isub, 1) := by decide +kernel
theorem dX7_turn_90 : decode cX7_turn 90 = .ok (.putfield 13, 3) := by decide +kernel
theorem dX7_turn_93 : decode cX7_turn 93 = .ok (.aload_n 0, 1) := by decide +kernel
theorem dX7_turn_94 : decode cX7_turn 94 = .ok (.aload_n 0, 1) := by decide +kernel
theorem dX7_turn_95 : decode cX7_turn 95 = .ok (.getfield 7, 3) := by decide +kernel
theorem dX7_turn_98 : decode cX7_turn 98 = .ok (.iconst 1, 1) := by decide +kernel
theorem dX7_turn_99 : decode cX7_turn 99 = .ok (.laload, 1) := by decide +kernel
theorem dX7_turn_100 : decode cX7_turn 100 = .ok (.aload_n 0, 1) := by decide +kernel
theorem dX7_turn_101 : decode cX7_turn 101 = .ok (.getfield 7, 3) := by decide +kernel
theorem dX7_turn_104 : decode cX7_turn 104 = .ok (.iconst 2, 1) := by decide +kernel
theorem dX7_turn_105 : decode cX7_turn 105 = .ok (.laload, 1) := by decide +kernel
theorem dX7_turn_106 : decode cX7_turn 106 = .ok (.invokestatic 94, 3) := by decide +kernel
theorem dX7_turn_109 : decode cX7_turn 109 = .ok (.putfield 73, 3) := by decide +kernel
theorem dX7_turn_112 : decode cX7_turn 112 = .ok (.aload_n 0, 1) := by decide +kernel
theorem dX7_turn_113 : decode cX7_turn 113 = .ok (.getfield 73, 3) := by decide +kernel
theorem dX7_turn_116 : decode cX7_turn 116 = .ok (.ireturn, 1) := by decide +kernel
set_option maxRecDepth 20000 in
theorem ggX7_undo_X7_goesWell : GoodIn wsX7_undo wsX7_goesWell := goodIn_r _ [13, 14, 25, 26, 27, 28, 29, 30, 31, 32, 33, 34, 35, 36, 37, 38, 39] (by decide +kernel) (by decide +kernel)
set_option maxRecDepth 20000 in
theorem gX7_undo_X7_goesWell : GoodIn wsX7_undo (wsV RX7 80 RX7 yX7_goesWell wsX7_goesWell) := goodIn_app (goodIn_of _ (by decide +kernel)) ggX7_undo_X7_goesWell
set_option maxRecDepth 20000 in
theorem ggX7_undo_X7_turnOwn : GoodIn wsX7_undo wsX7_turnOwn := goodIn_r _ [18, 6, 19, 20, 12, 21, 8, 22, 23, 24, 25, 26, 27, 28, 29, 30, 31, 32, 33, 34, 35, 36, 37, 38, 39] (by decide +kernel) (by decide +kernel)
set_option maxRecDepth 20000 in
theorem gX7_undo_X7_turnOwn : GoodIn wsX7_undo (wsV RX7 90 RX7 yX7_turnOwn wsX7_turnOwn) := goodIn_app (goodIn_of _ (by decide +kernel)) ggX7_undo_X7_turnOwn
theorem dX7_undo_0 : decode cX7_undo 0 = .ok (.aload_n 0, 1) := by decide +kernel
theorem dX7_undo_1 : decode cX7_undo 1 = .ok (.aload_n 0, 1) := by decide +kernel
theorem dX7_undo_2 : decode cX7_undo 2 = .ok (.getfield 83, 3) := by decide +kernel
theorem dX7_undo_5 : decode cX7_undo 5 = .ok (.ifCond .ne 7, 3) := by decide +kernel
theorem dX7_undo_8 : decode cX7_undo 8 = .ok (.iconst 1, 1) := by decide +kernel
theorem dX7_undo_9 : decode cX7_undo 9 = .ok (.goto 4, 3) := by decide +kernel
theorem dX7_undo_12 : decode cX7_undo 12 = .ok (.iconst 0, 1) := by decide +kernel
theorem dX7_undo_13 : decode cX7_undo 13 = .ok (.invokevirtual 80, 3) := by decide +kernel
theorem dX7_undo_16 : decode cX7_undo 16 = .ok (.ifCond .ne 5, 3) := by decide +kernel
theorem dX7_undo_19 : decode cX7_undo 19 = .ok (.iconst 0, 1) := by decide +kernel
theorem dX7_undo_20 : decode cX7_undo 20 = .ok (.ireturn, 1) := by decide +kernel
theorem dX7_undo_21 : decode cX7_undo 21 = .ok (.aload_n 0, 1) := by decide +kernel
theorem dX7_undo_22 : decode cX7_undo 22 = .ok (.iconst 0, 1) := by decide +kernel
theorem dX7_undo_23 : decode cX7_undo 23 = .ok (.putfield 73, 3) := by decide +kernel
theorem dX7_undo_26 : decode cX7_undo 26 = .ok (.aload_n 0, 1) := by decide +kernel
theorem dX7_undo_27 : decode cX7_undo 27 = .ok (.getfield 21, 3) := by decide +kernel
theorem dX7_undo_30 : decode cX7_undo 30 = .ok (.aload_n 0, 1) := by decide +kernel
theorem dX7_undo_31 : decode cX7_undo 31 = .ok (.getfield 83, 3) := by decide +kernel
theorem dX7_undo_34 : decode cX7_undo 34 = .ok (.iconst 1, 1) := by decide +kernel
theorem dX7_undo_35 : decode cX7_undo 35 = .ok (.isub, 1) := by decide +kernel
theorem dX7_undo_36 : decode cX7_undo 36 = .ok (.iaload, 1) := by decide +kernel
theorem dX7_undo_37 : decode cX7_undo 37 = .ok (.istore_n 1, 1) := by decide +kernel
theorem dX7_undo_38 : decode cX7_undo 38 = .ok (.iload_n 1, 1) := by decide +kernel
theorem dX7_undo_39 : decode cX7_undo 39 = .ok (.iconst (-1), 1) := by decide +kernel
theorem dX7_undo_40 : decode cX7_undo 40 = .ok (.if_icmp .eq 44, 3) := by decide +kernel
theorem dX7_undo_43 : decode cX7_undo 43 = .ok (.aload_n 0, 1) := by decide +kernel
theorem dX7_undo_44 : decode cX7_undo 44 = .ok (.iload_n 1, 1) := by decide +kernel
theorem dX7_undo_45 : decode cX7_undo 45 = .ok (.iconst 2, 1) := by decide +kernel
theorem dX7_undo_46 : decode cX7_undo 46 = .ok (.idiv, 1) := by decide +kernel
theorem dX7_undo_47 : decode cX7_undo 47 = .ok (.iconst 1, 1) := by decide +kernel
theorem dX7_undo_48 : decode cX7_undo 48 = .ok (.iload_n 1, 1) := by decide +kernel
theorem dX7_undo_49 : decode cX7_undo 49 = .ok (.iconst 2, 1) := by decide +kernel
theorem dX7_undo_50 : decode cX7_undo 50 = .ok (.irem, 1) := by decide +kernel
theorem dX7_undo_51 : decode cX7_undo 51 = .ok (.isub, 1) := by decide +kernel
theorem dX7_undo_52 : decode cX7_undo 52 = .ok (.invokevirtual 90, 3) := by decide +kernel
theorem dX7_undo_55 : decode cX7_undo 55 = .ok (.aload_n 0, 1) := by decide +kernel
theorem dX7_undo_56 : decode cX7_undo 56 = .ok (.getfield 21, 3) := by decide +kernel
theorem dX7_undo_59 : decode cX7_undo 59 = .ok (.aload_n 0, 1) := by decide +kernel
theorem dX7_undo_60 : decode cX7_undo 60 = .ok (.getfield 83, 3) := by decide +kernel
theorem dX7_undo_63 : decode cX7_undo 63 = .ok (.iconst 1, 1) := by decide +kernel
theorem dX7_undo_64 : decode cX7_undo 64 = .ok (.isub, 1) := by decide +kernel
theorem dX7_undo_65 : decode cX7_undo 65 = .ok (.iconst (-1), 1) := by decide +kernel
theorem dX7_undo_66 : decode cX7_undo 66 = .ok (.iastore, 1) := by decide +kernel
theorem dX7_undo_67 : decode cX7_undo 67 = .ok (.aload_n 0, 1) := by decide +kernel
theorem dX7_undo_68 : decode cX7_undo 68 = .ok (.iconst 1, 1) := by decide +kernel
theorem dX7_undo_69 : decode cX7_undo 69 = .ok (.putfield 76, 3) := by decide +kernel
theorem dX7_undo_72 : decode cX7_undo 72 = .ok (.aload_n 0, 1) := by decide +kernel
theorem dX7_undo_73 : decode cX7_undo 73 = .ok (.iconst 3, 1) := by decide +kernel
theorem dX7_undo_74 : decode cX7_undo 74 = .ok (.aload_n 0, 1) := by decide +kernel
theorem dX7_undo_75 : decode cX7_undo 75 = .ok (.getfield 13, 3) := by decide +kernel
theorem dX7_undo_78 : decode cX7_undo 78 = .ok (.isub, 1) := by decide +kernel
theorem dX7_undo_79 : decode cX7_undo 79 = .ok (.putfield 13, 3) := by decide +kernel
theorem dX7_undo_82 : decode cX7_undo 82 = .ok (.iconst 1, 1) := by decide +kernel
theorem dX7_undo_83 : decode cX7_undo 83 = .ok (.ireturn, 1) := by decide +kernel
theorem dX7_undo_84 : decode cX7_undo 84 = .ok (.aload_n 0, 1) := by decide +kernel
theorem dX7_undo_85 : decode cX7_undo 85 = .ok (.dup, 1) := by decide +kernel
theorem dX7_undo_86 : decode cX7_undo 86 = .ok (.getfield 83, 3) := by decide +kernel
theorem dX7_undo_89 : decode cX7_undo 89 = .ok (.iconst 1, 1) := by decide +kernel
theorem dX7_undo_90 : decode cX7_undo 90 = .ok (.isub, 1) := by decide +kernel
theorem dX7_undo_91 : decode cX7_undo 91 = .ok (.putfield 83, 3) := by decide +kernel
theorem dX7_undo_94 : decode cX7_undo 94 = .ok (.aload_n 0, 1) := by decide +kernel
theorem dX7_undo_95 : decode cX7_undo 95 = .ok (.getfield 7, 3) := by decide +kernel
theorem dX7_undo_98 : decode cX7_undo 98 = .ok (.aload_n 0, 1) := by decide +kernel
theorem dX7_undo_99 : decode cX7_undo 99 = .ok (.getfield 13, 3) := by decide +kernel
theorem dX7_undo_102 : decode cX7_undo 102 = .ok (.dup2, 1) := by decide +kernel
theorem dX7_undo_103 : decode cX7_undo 103 = .ok (.laload, 1) := by decide +kernel
theorem dX7_undo_104 : decode cX7_undo 104 = .ok (.lconst 1, 1) := by decide +kernel
theorem dX7_undo_105 : decode cX7_undo 105 = .ok (.aload_n 0, 1) := by decide +kernel
theorem dX7_undo_106 : decode cX7_undo 106 = .ok (.getfield 17, 3) := by decide +kernel
theorem dX7_undo_109 : decode cX7_undo 109 = .ok (.aload_n 0, 1) := by decide +kernel
theorem dX7_undo_110 : decode cX7_undo 110 = .ok (.getfield 83, 3) := by decide +kernel
theorem dX7_undo_113 : decode cX7_undo 113 = .ok (.iaload, 1) := by decide +kernel
theorem dX7_undo_114 : decode cX7_undo 114 = .ok (.lshl, 1) := by decide +kernel
theorem dX7_undo_115 : decode cX7_undo 115 = .ok (.ldc2_w 61, 3) := by decide +kernel
theorem dX7_undo_118 : decode cX7_undo 118 = .ok (.lxor, 1) := by decide +kernel
theorem dX7_undo_119 : decode cX7_undo 119 = .ok (.land, 1) := by decide +kernel
theorem dX7_undo_120 : decode cX7_undo 120 = .ok (.lastore, 1) := by decide +kernel
theorem dX7_undo_121 : decode cX7_undo 121 = .ok (.aload_n 0, 1) := by decide +kernel
theorem dX7_undo_122 : decode cX7_undo 122 = .ok (.iconst 0, 1) := by decide +kernel
theorem dX7_undo_123 : decode cX7_undo 123 = .ok (.putfield 76, 3) := by decide +kernel
theorem dX7_undo_126 : decode cX7_undo 126 = .ok (.iconst 0, 1) := by decide +kernel
theorem dX7_undo_127 : decode cX7_undo 127 = .ok (.ireturn, 1) := by decide +kernel
set_option maxRecDepth 20000 in
theorem ggX7_sizeOf_X7_has : GoodIn wsX7_sizeOf wsX7_has := goodIn_r _ [4] (by decide +kernel) (by decide +kernel)
set_option maxRecDepth 20000 in
theorem gX7_sizeOf_X7_has : GoodIn wsX7_sizeOf (va_wsS RX7 53 yX7_has wsX7_has) := goodIn_app (goodIn_of _ (by decide +kernel)) ggX7_sizeOf_X7_has
theorem dX7_sizeOf_0 : decode cX7_sizeOf 0 = .ok (.iconst 0, 1) := by decide +kernel
theorem dX7_sizeOf_1 : decode cX7_sizeOf 1 = .ok (.istore_n 2, 1) := by decide +kernel
theorem dX7_sizeOf_2 : decode cX7_sizeOf 2 = .ok (.iconst 0, 1) := by decide +kernel
theorem dX7_sizeOf_3 : decode cX7_sizeOf 3 = .ok (.istore_n 3, 1) := by decide +kernel
theorem dX7_sizeOf_4 : decode cX7_sizeOf 4 = .ok (.iload_n 3, 1) := by decide +kernel
theorem dX7_sizeOf_5 : decode cX7_sizeOf 5 = .ok (.bipush 36, 2) := by decide +kernel
theorem dX7_sizeOf_7 : decode cX7_sizeOf 7 = .ok (.if_icmp .ge 25, 3) := by decide +kernel
theorem dX7_sizeOf_10 : decode cX7_sizeOf 10 = .ok (.iload_n 2, 1) := by decide +kernel
theorem dX7_sizeOf_11 : decode cX7_sizeOf 11 = .ok (.lload_n 0, 1) := by decide +kernel
theorem dX7_sizeOf_12 : decode cX7_sizeOf 12 = .ok (.iload_n 3, 1) := by decide +kernel
theorem dX7_sizeOf_13 : decode cX7_sizeOf 13 = .ok (.invokestatic 53, 3) := by decide +kernel
theorem dX7_sizeOf_16 : decode cX7_sizeOf 16 = .ok (.ifCond .eq 7, 3) := by decide +kernel
