theorem dX0_leastCode_0 : decode cX0_leastCode 0 = .ok (.lload_n 0, 1) := by decide +kernel
theorem dX0_leastCode_1 : decode cX0_leastCode 1 = .ok (.lload_n 2, 1) := by decide +kernel
theorem dX0_leastCode_2 : decode cX0_leastCode 2 = .ok (.iconst 0, 1) := by decide +kernel
theorem dX0_leastCode_3 : decode cX0_leastCode 3 = .ok (.invokestatic 11, 3) := by decide +kernel
theorem dX0_leastCode_6 : decode cX0_leastCode 6 = .ok (.lstore 4, 2) := by decide +kernel
theorem dX0_leastCode_8 : decode cX0_leastCode 8 = .ok (.iconst 1, 1) := by decide +kernel
theorem dX0_leastCode_9 : decode cX0_leastCode 9 = .ok (.istore 6, 2) := by decide +kernel
theorem dX0_leastCode_11 : decode cX0_leastCode 11 = .ok (.iload 6, 2) := by decide +kernel
theorem dX0_leastCode_13 : decode cX0_leastCode 13 = .ok (.bipush 8, 2) := by decide +kernel
theorem dX0_leastCode_15 : decode cX0_leastCode 15 = .ok (.if_icmp .ge 23, 3) := by decide +kernel
theorem dX0_leastCode_18 : decode cX0_leastCode 18 = .ok (.lload 4, 2) := by decide +kernel
theorem dX0_leastCode_20 : decode cX0_leastCode 20 = .ok (.lload_n 0, 1) := by decide +kernel
theorem dX0_leastCode_21 : decode cX0_leastCode 21 = .ok (.lload_n 2, 1) := by decide +kernel
theorem dX0_leastCode_22 : decode cX0_leastCode 22 = .ok (.iload 6, 2) := by decide +kernel
theorem dX0_leastCode_24 : decode cX0_leastCode 24 = .ok (.invokestatic 11, 3) := by decide +kernel
theorem dX0_leastCode_27 : decode cX0_leastCode 27 = .ok (.invokestatic 15, 3) := by decide +kernel
theorem dX0_leastCode_30 : decode cX0_leastCode 30 = .ok (.lstore 4, 2) := by decide +kernel
theorem dX0_leastCode_32 : decode cX0_leastCode 32 = .ok (.iinc 6 1, 3) := by decide +kernel
theorem dX0_leastCode_35 : decode cX0_leastCode 35 = .ok (.goto (-24), 3) := by decide +kernel
theorem dX0_leastCode_38 : decode cX0_leastCode 38 = .ok (.lload 4, 2) := by decide +kernel
theorem dX0_leastCode_40 : decode cX0_leastCode 40 = .ok (.lreturn, 1) := by decide +kernel
set_option maxRecDepth 20000 in
theorem ggX0_countSymmetries_X0_codeSeen : GoodIn wsX0_countSymmetries wsX0_codeSeen := goodIn_r _ [4, 5, 6] (by decide +kernel) (by decide +kernel)
set_option maxRecDepth 20000 in
theorem gX0_countSymmetries_X0_codeSeen : GoodIn wsX0_countSymmetries (va_wsS RX0 11 yX0_codeSeen wsX0_codeSeen) := goodIn_app (goodIn_of _ (by decide +kernel)) ggX0_countSymmetries_X0_codeSeen
theorem dX0_countSymmetries_0 : decode cX0_countSymmetries 0 = .ok (.lload_n 0, 1) := by decide +kernel
theorem dX0_countSymmetries_1 : decode cX0_countSymmetries 1 = .ok (.lload_n 2, 1) := by decide +kernel
theorem dX0_countSymmetries_2 : decode cX0_countSymmetries 2 = .ok (.iconst 0, 1) := by decide +kernel
theorem dX0_countSymmetries_3 : decode cX0_countSymmetries 3 = .ok (.invokestatic 11, 3) := by decide +kernel
theorem dX0_countSymmetries_6 : decode cX0_countSymmetries 6 = .ok (.lstore 4, 2) := by decide +kernel
theorem dX0_countSymmetries_8 : decode cX0_countSymmetries 8 = .ok (.iconst 0, 1) := by decide +kernel
theorem dX0_countSymmetries_9 : decode cX0_countSymmetries 9 = .ok (.istore 6, 2) := by decide +kernel
theorem dX0_countSymmetries_11 : decode cX0_countSymmetries 11 = .ok (.iconst 0, 1) := by decide +kernel
theorem dX0_countSymmetries_12 : decode cX0_countSymmetries 12 = .ok (.istore 7, 2) := by decide +kernel
theorem dX0_countSymmetries_14 : decode cX0_countSymmetries 14 = .ok (.iload 7, 2) := by decide +kernel
theorem dX0_countSymmetries_16 : decode cX0_countSymmetries 16 = .ok (.bipush 8, 2) := by decide +kernel
theorem dX0_countSymmetries_18 : decode cX0_countSymmetries 18 = .ok (.if_icmp .ge 25, 3) := by decide +kernel
theorem dX0_countSymmetries_21 : decode cX0_countSymmetries 21 = .ok (.lload_n 0, 1) := by decide +kernel
theorem dX0_countSymmetries_22 : decode cX0_countSymmetries 22 = .ok (.lload_n 2, 1) := by decide +kernel
theorem dX0_countSymmetries_23 : decode cX0_countSymmetries 23 = .ok (.iload 7, 2) := by decide +kernel
theorem dX0_countSymmetries_25 : decode cX0_countSymmetries 25 = .ok (.invokestatic 11, 3) := by decide +kernel
theorem dX0_countSymmetries_28 : decode cX0_countSymmetries 28 = .ok (.lload 4, 2) := by decide +kernel
theorem dX0_countSymmetries_30 : decode cX0_countSymmetries 30 = .ok (.lcmp, 1) := by decide +kernel
theorem dX0_countSymmetries_31 : decode cX0_countSymmetries 31 = .ok (.ifCond .ne 6, 3) := by decide +kernel
theorem dX0_countSymmetries_34 : decode cX0_countSymmetries 34 = .ok (.iinc 6 1, 3) := by decide +kernel
theorem dX0_countSymmetries_37 : decode cX0_countSymmetries 37 = .ok (.iinc 7 1, 3) := by decide +kernel
theorem dX0_countSymmetries_40 : decode cX0_countSymmetries 40 = .ok (.goto (-26), 3) := by decide +kernel
theorem dX0_countSymmetries_43 : decode cX0_countSymmetries 43 = .ok (.iload 6, 2) := by decide +kernel
theorem dX0_countSymmetries_45 : decode cX0_countSymmetries 45 = .ok (.ireturn, 1) := by decide +kernel
theorem dX0_codeSeen_0 : decode cX0_codeSeen 0 = .ok (.iload 4, 2) := by decide +kernel
theorem dX0_codeSeen_2 : decode cX0_codeSeen 2 = .ok (.iconst 1, 1) := by decide +kernel
theorem dX0_codeSeen_3 : decode cX0_codeSeen 3 = .ok (.iand, 1) := by decide +kernel
theorem dX0_codeSeen_4 : decode cX0_codeSeen 4 = .ok (.ifCond .eq 7, 3) := by decide +kernel
theorem dX0_codeSeen_7 : decode cX0_codeSeen 7 = .ok (.iconst 1, 1) := by decide +kernel
theorem dX0_codeSeen_8 : decode cX0_codeSeen 8 = .ok (.goto 4, 3) := by decide +kernel
theorem dX0_codeSeen_11 : decode cX0_codeSeen 11 = .ok (.iconst 0, 1) := by decide +kernel
theorem dX0_codeSeen_12 : decode cX0_codeSeen 12 = .ok (.istore 5, 2) := by decide +kernel
theorem dX0_codeSeen_14 : decode cX0_codeSeen 14 = .ok (.iload 4, 2) := by decide +kernel
theorem dX0_codeSeen_16 : decode cX0_codeSeen 16 = .ok (.iconst 2, 1) := by decide +kernel
theorem dX0_codeSeen_17 : decode cX0_codeSeen 17 = .ok (.iand, 1) := by decide +kernel
theorem dX0_codeSeen_18 : decode cX0_codeSeen 18 = .ok (.ifCond .eq 7, 3) := by decide +kernel
theorem dX0_codeSeen_21 : decode cX0_codeSeen 21 = .ok (.iconst 1, 1) := by decide +kernel
theorem dX0_codeSeen_22 : decode cX0_codeSeen 22 = .ok (.goto 4, 3) := by decide +kernel
theorem dX0_codeSeen_25 : decode cX0_codeSeen 25 = .ok (.iconst 0, 1) := by decide +kernel
theorem dX0_codeSeen_26 : decode cX0_codeSeen 26 = .ok (.istore 6, 2) := by decide +kernel
theorem dX0_codeSeen_28 : decode cX0_codeSeen 28 = .ok (.iload 4, 2) := by decide +kernel
theorem dX0_codeSeen_30 : decode cX0_codeSeen 30 = .ok (.iconst 4, 1) := by decide +kernel
theorem dX0_codeSeen_31 : decode cX0_codeSeen 31 = .ok (.iand, 1) := by decide +kernel
theorem dX0_codeSeen_32 : decode cX0_codeSeen 32 = .ok (.ifCond .eq 7, 3) := by decide +kernel
theorem dX0_codeSeen_35 : decode cX0_codeSeen 35 = .ok (.iconst 1, 1) := by decide +kernel
theorem dX0_codeSeen_36 : decode cX0_codeSeen 36 = .ok (.goto 4, 3) := by decide +kernel
theorem dX0_codeSeen_39 : decode cX0_codeSeen 39 = .ok (.iconst 0, 1) := by decide +kernel
theorem dX0_codeSeen_40 : decode cX0_codeSeen 40 = .ok (.istore 7, 2) := by decide +kernel
theorem dX0_codeSeen_42 : decode cX0_codeSeen 42 = .ok (.iload 5, 2) := by decide +kernel
theorem dX0_codeSeen_44 : decode cX0_codeSeen 44 = .ok (.ifCond .eq 8, 3) := by decide +kernel
theorem dX0_codeSeen_47 : decode cX0_codeSeen 47 = .ok (.bipush 30, 2) := by decide +kernel
theorem dX0_codeSeen_49 : decode cX0_codeSeen 49 = .ok (.goto 4, 3) := by decide +kernel
theorem dX0_codeSeen_52 : decode cX0_codeSeen 52 = .ok (.iconst 0, 1) := by decide +kernel
theorem dX0_codeSeen_53 : decode cX0_codeSeen 53 = .ok (.iload 6, 2) := by decide +kernel
theorem dX0_codeSeen_55 : decode cX0_codeSeen 55 = .ok (.ifCond .eq 7, 3) := by decide +kernel
theorem dX0_codeSeen_58 : decode cX0_codeSeen 58 = .ok (.iconst 5, 1) := by decide +kernel
theorem dX0_codeSeen_59 : decode cX0_codeSeen 59 = .ok (.goto 4, 3) := by decide +kernel
theorem dX0_codeSeen_62 : decode cX0_codeSeen 62 = .ok (.iconst 0, 1) := by decide +kernel
theorem dX0_codeSeen_63 : decode cX0_codeSeen 63 = .ok (.iadd, 1) := by decide +kernel
theorem dX0_codeSeen_64 : decode cX0_codeSeen 64 = .ok (.istore 8, 2) := by decide +kernel
theorem dX0_codeSeen_66 : decode cX0_codeSeen 66 = .ok (.iload 5, 2) := by decide +kernel
theorem dX0_codeSeen_68 : decode cX0_codeSeen 68 = .ok (.ifCond .eq 8, 3) := by decide +kernel
theorem dX0_codeSeen_71 : decode cX0_codeSeen 71 = .ok (.bipush (-6), 2) := by decide +kernel
theorem dX0_codeSeen_73 : decode cX0_codeSeen 73 = .ok (.goto 5, 3) := by decide +kernel
theorem dX0_codeSeen_76 : decode cX0_codeSeen 76 = .ok (.bipush 6, 2) := by decide +kernel
theorem dX0_codeSeen_78 : decode cX0_codeSeen 78 = .ok (.istore 9, 2) := by decide +kernel
theorem dX0_codeSeen_80 : decode cX0_codeSeen 80 = .ok (.iload 6, 2) := by decide +kernel
theorem dX0_codeSeen_82 : decode cX0_codeSeen 82 = .ok (.ifCond .eq 7, 3) := by decide +kernel
theorem dX0_codeSeen_85 : decode cX0_codeSeen 85 = .ok (.iconst (-1), 1) := by decide +kernel
theorem dX0_codeSeen_86 : decode cX0_codeSeen 86 = .ok (.goto 4, 3) := by decide +kernel
theorem dX0_codeSeen_89 : decode cX0_codeSeen 89 = .ok (.iconst 1, 1) := by decide +kernel
theorem dX0_codeSeen_90 : decode cX0_codeSeen 90 = .ok (.istore 10, 2) := by decide +kernel
theorem dX0_codeSeen_92 : decode cX0_codeSeen 92 = .ok (.iload 7, 2) := by decide +kernel
theorem dX0_codeSeen_94 : decode cX0_codeSeen 94 = .ok (.ifCond .eq 8, 3) := by decide +kernel
theorem dX0_codeSeen_97 : decode cX0_codeSeen 97 = .ok (.iload 10, 2) := by decide +kernel
theorem dX0_codeSeen_99 : decode cX0_codeSeen 99 = .ok (.goto 5, 3) := by decide +kernel
theorem dX0_codeSeen_102 : decode cX0_codeSeen 102 = .ok (.iload 9, 2) := by decide +kernel
theorem dX0_codeSeen_104 : decode cX0_codeSeen 104 = .ok (.istore 11, 2) := by decide +kernel
theorem dX0_codeSeen_106 : decode cX0_codeSeen 106 = .ok (.iload 7, 2) := by decide +kernel
theorem dX0_codeSeen_108 : decode cX0_codeSeen 108 = .ok (.ifCond .eq 8, 3) := by decide +kernel
theorem dX0_codeSeen_111 : decode cX0_codeSeen 111 = .ok (.iload 9, 2) := by decide +kernel
theorem dX0_codeSeen_113 : decode cX0_codeSeen 113 = .ok (.goto 5, 3) := by decide +kernel
theorem dX0_codeSeen_116 : decode cX0_codeSeen 116 = .ok (.iload 10, 2) := by decide +kernel
theorem dX0_codeSeen_118 : decode cX0_codeSeen 118 = .ok (.istore 12, 2) := by decide +kernel
theorem dX0_codeSeen_120 : decode cX0_codeSeen 120 = .ok (.lconst 0, 1) := by decide +kernel
theorem dX0_codeSeen_121 : decode cX0_codeSeen 121 = .ok (.lstore 13, 2) := by decide +kernel
theorem dX0_codeSeen_123 : decode cX0_codeSeen 123 = .ok (.bipush 35, 2) := by decide +kernel
theorem dX0_codeSeen_125 : decode cX0_codeSeen 125 = .ok (.istore 15, 2) := by decide +kernel
theorem dX0_codeSeen_127 : decode cX0_codeSeen 127 = .ok (.iload 15, 2) := by decide +kernel
theorem dX0_codeSeen_129 : decode cX0_codeSeen 129 = .ok (.ifCond .lt 57, 3) := by decide +kernel
theorem dX0_codeSeen_132 : decode cX0_codeSeen 132 = .ok (.iload 8, 2) := by decide +kernel
theorem dX0_codeSeen_134 : decode cX0_codeSeen 134 = .ok (.iload 15, 2) := by decide +kernel
theorem dX0_codeSeen_136 : decode cX0_codeSeen 136 = .ok (.bipush 6, 2) := by decide +kernel
theorem dX0_codeSeen_138 : decode cX0_codeSeen 138 = .ok (.idiv, 1) := by decide +kernel
theorem dX0_codeSeen_139 : decode cX0_codeSeen 139 = .ok (.iload 11, 2) := by decide +kernel
theorem dX0_codeSeen_141 : decode cX0_codeSeen 141 = .ok (.imul, 1) := by decide +kernel
theorem dX0_codeSeen_142 : decode cX0_codeSeen 142 = .ok (.iadd, 1) := by decide +kernel
theorem dX0_codeSeen_143 : decode cX0_codeSeen 143 = .ok (.iload 15, 2) := by decide +kernel
theorem dX0_codeSeen_145 : decode cX0_codeSeen 145 = .ok (.bipush 6, 2) := by decide +kernel
theorem dX0_codeSeen_147 : decode cX0_codeSeen 147 = .ok (.irem, 1) := by decide +kernel
theorem dX0_codeSeen_148 : decode cX0_codeSeen 148 = .ok (.iload 12, 2) := by decide +kernel
theorem dX0_codeSeen_150 : decode cX0_codeSeen 150 = .ok (.imul, 1) := by decide +kernel
theorem dX0_codeSeen_151 : decode cX0_codeSeen 151 = .ok (.iadd, 1) := by decide +kernel
theorem dX0_codeSeen_152 : decode cX0_codeSeen 152 = .ok (.istore 16, 2) := by decide +kernel
theorem dX0_codeSeen_154 : decode cX0_codeSeen 154 = .ok (.ldc2_w 21, 3) := by decide +kernel
theorem dX0_codeSeen_157 : decode cX0_codeSeen 157 = .ok (.lload 13, 2) := by decide +kernel
theorem dX0_codeSeen_159 : decode cX0_codeSeen 159 = .ok (.lmul, 1) := by decide +kernel
theorem dX0_codeSeen_160 : decode cX0_codeSeen 160 = .ok (.lload_n 0, 1) := by decide +kernel
theorem dX0_codeSeen_161 : decode cX0_codeSeen 161 = .ok (.iload 16, 2) := by decide +kernel
theorem dX0_codeSeen_163 : decode cX0_codeSeen 163 = .ok (.lushr, 1) := by decide +kernel
theorem dX0_codeSeen_164 : decode cX0_codeSeen 164 = .ok (.lconst 1, 1) := by decide +kernel
theorem dX0_codeSeen_165 : decode cX0_codeSeen 165 = .ok (.land, 1) := by decide +kernel
theorem dX0_codeSeen_166 : decode cX0_codeSeen 166 = .ok (.ladd, 1) := by decide +kernel
theorem dX0_codeSeen_167 : decode cX0_codeSeen 167 = .ok (.ldc2_w 23, 3) := by decide +kernel
theorem dX0_codeSeen_170 : decode cX0_codeSeen 170 = .ok (.lload_n 2, 1) := by decide +kernel
theorem dX0_codeSeen_171 : decode cX0_codeSeen 171 = .ok (.iload 16, 2) := by decide +kernel
theorem dX0_codeSeen_173 : decode cX0_codeSeen 173 = .ok (.lushr, 1) := by decide +kernel
theorem dX0_codeSeen_174 : decode cX0_codeSeen 174 = .ok (.lconst 1, 1) := by decide +kernel
theorem dX0_codeSeen_175 : decode cX0_codeSeen 175 = .ok (.land, 1) := by decide +kernel
theorem dX0_codeSeen_176 : decode cX0_codeSeen 176 = .ok (.lmul, 1) := by decide +kernel
theorem dX0_codeSeen_177 : decode cX0_codeSeen 177 = .ok (.ladd, 1) := by decide +kernel
theorem dX0_codeSeen_178 : decode cX0_codeSeen 178 = .ok (.lstore 13, 2) := by decide +kernel
theorem dX0_codeSeen_180 : decode cX0_codeSeen 180 = .ok (.iinc 15 (-1), 3) := by decide +kernel
theorem dX0_codeSeen_183 : decode cX0_codeSeen 183 = .ok (.goto (-56), 3) := by decide +kernel
theorem dX0_codeSeen_186 : decode cX0_codeSeen 186 = .ok (.lload 13, 2) := by decide +kernel
theorem dX0_codeSeen_188 : decode cX0_codeSeen 188 = .ok (.lreturn, 1) := by decide +kernel
set_option maxRecDepth 20000 in
theorem ggX1_hasLine_X1_fives : GoodIn wsX1_hasLine wsX1_fives := goodIn_r _ [8] (by decide +kernel) (by decide +kernel)
set_option maxRecDepth 20000 in
theorem gX1_hasLine_X1_fives : GoodIn wsX1_hasLine (va_wsS RX1 11 yX1_fives wsX1_fives) := goodIn_app (goodIn_of _ (by decide +kernel)) ggX1_hasLine_X1_fives
theorem dX1_hasLine_0 : decode cX1_hasLine 0 = .ok (.lload_n 0, 1) := by decide +kernel
theorem dX1_hasLine_1 : decode cX1_hasLine 1 = .ok (.iconst 1, 1) := by decide +kernel
theorem dX1_hasLine_2 : decode cX1_hasLine 2 = .ok (.invokestatic 11, 3) := by decide +kernel
theorem dX1_hasLine_5 : decode cX1_hasLine 5 = .ok (.ldc2_w 15, 3) := by decide +kernel
theorem dX1_hasLine_8 : decode cX1_hasLine 8 = .ok (.land, 1) := by decide +kernel
theorem dX1_hasLine_9 : decode cX1_hasLine 9 = .ok (.lconst 0, 1) := by decide +kernel
theorem dX1_hasLine_10 : decode cX1_hasLine 10 = .ok (.lcmp, 1) := by decide +kernel
theorem dX1_hasLine_11 : decode cX1_hasLine 11 = .ok (.ifCond .ne 47, 3) := by decide +kernel
theorem dX1_hasLine_14 : decode cX1_hasLine 14 = .ok (.lload_n 0, 1) := by decide +kernel
theorem dX1_hasLine_15 : decode cX1_hasLine 15 = .ok (.bipush 6, 2) := by decide +kernel
theorem dX1_hasLine_17 : decode cX1_hasLine 17 = .ok (.invokestatic 11, 3) := by decide +kernel
theorem dX1_hasLine_20 : decode cX1_hasLine 20 = .ok (.ldc2_w 17, 3) := by decide +kernel
theorem dX1_hasLine_23 : decode cX1_hasLine 23 = .ok (.land, 1) := by decide +kernel
theorem dX1_hasLine_24 : decode cX1_hasLine 24 = .ok (.lconst 0, 1) := by decide +kernel
theorem dX1_hasLine_25 : decode cX1_hasLine 25 = .ok (.lcmp, 1) := by decide +kernel
theorem dX1_hasLine_26 : decode cX1_hasLine 26 = .ok (.ifCond .ne 32, 3) := by decide +kernel
theorem dX1_hasLine_29 : decode cX1_hasLine 29 = .ok (.lload_n 0, 1) := by decide +kernel
theorem dX1_hasLine_30 : decode cX1_hasLine 30 = .ok (.bipush 7, 2) := by decide +kernel
theorem dX1_hasLine_32 : decode cX1_hasLine 32 = .ok (.invokestatic 11, 3) := by decide +kernel
theorem dX1_hasLine_35 : decode cX1_hasLine 35 = .ok (.ldc2_w 19, 3) := by decide +kernel
theorem dX1_hasLine_38 : decode cX1_hasLine 38 = .ok (.land, 1) := by decide +kernel
theorem dX1_hasLine_39 : decode cX1_hasLine 39 = .ok (.lconst 0, 1) := by decide +kernel
theorem dX1_hasLine_40 : decode cX1_hasLine 40 = .ok (.lcmp, 1) := by decide +kernel
theorem dX1_hasLine_41 : decode cX1_hasLine 41 = .ok (.ifCond .ne 17, 3) := by decide +kernel
theorem dX1_hasLine_44 : decode cX1_hasLine 44 = .ok (.lload_n 0, 1) := by decide +kernel
theorem dX1_hasLine_45 : decode cX1_hasLine 45 = .ok (.iconst 5, 1) := by decide +kernel
theorem dX1_hasLine_46 : decode cX1_hasLine 46 = .ok (.invokestatic 11, 3) := by decide +kernel
theorem dX1_hasLine_49 : decode cX1_hasLine 49 = .ok (.ldc2_w 21, 3) := by decide +kernel
theorem dX1_hasLine_52 : decode cX1_hasLine 52 = .ok (.land, 1) := by decide +kernel
theorem dX1_hasLine_53 : decode cX1_hasLine 53 = .ok (.lconst 0, 1) := by decide +kernel
theorem dX1_hasLine_54 : decode cX1_hasLine 54 = .ok (.lcmp, 1) := by decide +kernel
theorem dX1_hasLine_55 : decode cX1_hasLine 55 = .ok (.ifCond .eq 7, 3) := by decide +kernel
theorem dX1_hasLine_58 : decode cX1_hasLine 58 = .ok (.iconst 1, 1) := by decide +kernel
theorem dX1_hasLine_59 : decode cX1_hasLine 59 = .ok (.goto 4, 3) := by decide +kernel
theorem dX1_hasLine_62 : decode cX1_hasLine 62 = .ok (.iconst 0, 1) := by decide +kernel
theorem dX1_hasLine_63 : decode cX1_hasLine 63 = .ok (.ireturn, 1) := by decide +kernel
set_option maxRecDepth 20000 in
theorem ggX1_countLines_X1_fives : GoodIn wsX1_countLines wsX1_fives := goodIn_r _ [8] (by decide +kernel) (by decide +kernel)
set_option maxRecDepth 20000 in
theorem gX1_countLines_X1_fives : GoodIn wsX1_countLines (va_wsS RX1 11 yX1_fives wsX1_fives) := goodIn_app (goodIn_of _ (by decide +kernel)) ggX1_countLines_X1_fives
set_option maxRecDepth 20000 in
theorem ggX1_countLines_J13_bitCount_95d88 : GoodIn wsX1_countLines wsJ13_bitCount_95d88 := goodIn_r _ [12, 13, 14, 15] (by decide +kernel) (by decide +kernel)
set_option maxRecDepth 20000 in
theorem gX1_countLines_J13_bitCount_95d88 : GoodIn wsX1_countLines (va_wsS RX1 23 yJ13_bitCount_95d88 wsJ13_bitCount_95d88) := goodIn_app (goodIn_of _ (by decide +kernel)) ggX1_countLines_J13_bitCount_95d88
theorem dX1_countLines_0 : decode cX1_countLines 0 = .ok (.lload_n 0, 1) := by decide +kernel
theorem dX1_countLines_1 : decode cX1_countLines 1 = .ok (.iconst 1, 1) := by decide +kernel
theorem dX1_countLines_2 : decode cX1_countLines 2 = .ok (.invokestatic 11, 3) := by decide +kernel
theorem dX1_countLines_5 : decode cX1_countLines 5 = .ok (.ldc2_w 15, 3) := by decide +kernel
theorem dX1_countLines_8 : decode cX1_countLines 8 = .ok (.land, 1) := by decide +kernel
theorem dX1_countLines_9 : decode cX1_countLines 9 = .ok (.invokestatic 23, 3) := by decide +kernel
theorem dX1_countLines_12 : decode cX1_countLines 12 = .ok (.lload_n 0, 1) := by decide +kernel
theorem dX1_countLines_13 : decode cX1_countLines 13 = .ok (.bipush 6, 2) := by decide +kernel
theorem dX1_countLines_15 : decode cX1_countLines 15 = .ok (.invokestatic 11, 3) := by decide +kernel
theorem dX1_countLines_18 : decode cX1_countLines 18 = .ok (.ldc2_w 17, 3) := by decide +kernel
theorem dX1_countLines_21 : decode cX1_countLines 21 = .ok (.land, 1) := by decide +kernel
theorem dX1_countLines_22 : decode cX1_countLines 22 = .ok (.invokestatic 23, 3) := by decide +kernel
theorem dX1_countLines_25 : decode cX1_countLines 25 = .ok (.iadd, 1) := by decide +kernel
theorem dX1_countLines_26 : decode cX1_countLines 26 = .ok (.lload_n 0, 1) := by decide +kernel
theorem dX1_countLines_27 : decode cX1_countLines 27 = .ok (.bipush 7, 2) := by decide +kernel
theorem dX1_countLines_29 : decode cX1_countLines 29 = .ok (.invokestatic 11, 3) := by decide +kernel
theorem dX1_countLines_32 : decode cX1_countLines 32 = .ok (.ldc2_w 19, 3) := by decide +kernel
theorem dX1_countLines_35 : decode cX1_countLines 35 = .ok (.land, 1) := by decide +kernel
theorem dX1_countLines_36 : decode cX1_countLines 36 = .ok (.invokestatic 23, 3) := by decide +kernel
theorem dX1_countLines_39 : decode cX1_countLines 39 = .ok (.iadd, 1) := by decide +kernel
theorem dX1_countLines_40 : decode cX1_countLines 40 = .ok (.lload_n 0, 1) := by decide +kernel
theorem dX1_countLines_41 : decode cX1_countLines 41 = .ok (.iconst 5, 1) := by decide +kernel
theorem dX1_countLines_42 : decode cX1_countLines 42 = .ok (.invokestatic 11, 3) := by decide +kernel
theorem dX1_countLines_45 : decode cX1_countLines 45 = .ok (.ldc2_w 21, 3) := by decide +kernel
theorem dX1_countLines_48 : decode cX1_countLines 48 = .ok (.land, 1) := by decide +kernel
theorem dX1_countLines_49 : decode cX1_countLines 49 = .ok (.invokestatic 23, 3) := by decide +kernel
theorem dX1_countLines_52 : decode cX1_countLines 52 = .ok (.iadd, 1) := by decide +kernel
theorem dX1_countLines_53 : decode cX1_countLines 53 = .ok (.ireturn, 1) := by decide +kernel
set_option maxRecDepth 20000 in
theorem ggX1_countFours_X1_foursWith : GoodIn wsX1_countFours wsX1_foursWith := goodIn_r _ [8, 9] (by decide +kernel) (by decide +kernel)
set_option maxRecDepth 20000 in
theorem gX1_countFours_X1_foursWith : GoodIn wsX1_countFours (va_wsS RX1 29 yX1_foursWith wsX1_foursWith) := goodIn_app (goodIn_of _ (by decide +kernel)) ggX1_countFours_X1_foursWith
set_option maxRecDepth 20000 in
theorem ggX1_countFours_J13_bitCount_95d88 : GoodIn wsX1_countFours wsJ13_bitCount_95d88 := goodIn_r _ [13, 14, 15, 16] (by decide +kernel) (by decide +kernel)
set_option maxRecDepth 20000 in
theorem gX1_countFours_J13_bitCount_95d88 : GoodIn wsX1_countFours (va_wsS RX1 23 yJ13_bitCount_95d88 wsJ13_bitCount_95d88) := goodIn_app (goodIn_of _ (by decide +kernel)) ggX1_countFours_J13_bitCount_95d88
theorem dX1_countFours_0 : decode cX1_countFours 0 = .ok (.iconst 0, 1) := by decide +kernel
theorem dX1_countFours_1 : decode cX1_countFours 1 = .ok (.istore 4, 2) := by decide +kernel
theorem dX1_countFours_3 : decode cX1_countFours 3 = .ok (.iconst 0, 1) := by decide +kernel
theorem dX1_countFours_4 : decode cX1_countFours 4 = .ok (.istore 5, 2) := by decide +kernel
theorem dX1_countFours_6 : decode cX1_countFours 6 = .ok (.iload 5, 2) := by decide +kernel
theorem dX1_countFours_8 : decode cX1_countFours 8 = .ok (.iconst 5, 1) := by decide +kernel
theorem dX1_countFours_9 : decode cX1_countFours 9 = .ok (.if_icmp .ge 79, 3) := by decide +kernel
theorem dX1_countFours_12 : decode cX1_countFours 12 = .ok (.iload 4, 2) := by decide +kernel
theorem dX1_countFours_14 : decode cX1_countFours 14 = .ok (.lload_n 0, 1) := by decide +kernel
theorem dX1_countFours_15 : decode cX1_countFours 15 = .ok (.lload_n 2, 1) := by decide +kernel
theorem dX1_countFours_16 : decode cX1_countFours 16 = .ok (.iconst 1, 1) := by decide +kernel
theorem dX1_countFours_17 : decode cX1_countFours 17 = .ok (.iload 5, 2) := by decide +kernel
theorem dX1_countFours_19 : decode cX1_countFours 19 = .ok (.invokestatic 29, 3) := by decide +kernel
theorem dX1_countFours_22 : decode cX1_countFours 22 = .ok (.ldc2_w 15, 3) := by decide +kernel
theorem dX1_countFours_25 : decode cX1_countFours 25 = .ok (.land, 1) := by decide +kernel
theorem dX1_countFours_26 : decode cX1_countFours 26 = .ok (.invokestatic 23, 3) := by decide +kernel
theorem dX1_countFours_29 : decode cX1_countFours 29 = .ok (.lload_n 0, 1) := by decide +kernel
theorem dX1_countFours_30 : decode cX1_countFours 30 = .ok (.lload_n 2, 1) := by decide +kernel
theorem dX1_countFours_31 : decode cX1_countFours 31 = .ok (.bipush 6, 2) := by decide +kernel
theorem dX1_countFours_33 : decode cX1_countFours 33 = .ok (.iload 5, 2) := by decide +kernel
theorem dX1_countFours_35 : decode cX1_countFours 35 = .ok (.invokestatic 29, 3) := by decide +kernel
theorem dX1_countFours_38 : decode cX1_countFours 38 = .ok (.ldc2_w 17, 3) := by decide +kernel
theorem dX1_countFours_41 : decode cX1_countFours 41 = .ok (.land, 1) := by decide +kernel
theorem dX1_countFours_42 : decode cX1_countFours 42 = .ok (.invokestatic 23, 3) := by decide +kernel
theorem dX1_countFours_45 : decode cX1_countFours 45 = .ok (.iadd, 1) := by decide +kernel
theorem dX1_countFours_46 : decode cX1_countFours 46 = .ok (.lload_n 0, 1) := by decide +kernel
theorem dX1_countFours_47 : decode cX1_countFours 47 = .ok (.lload_n 2, 1) := by decide +kernel
theorem dX1_countFours_48 : decode cX1_countFours 48 = .ok (.bipush 7, 2) := by decide +kernel
theorem dX1_countFours_50 : decode cX1_countFours 50 = .ok (.iload 5, 2) := by decide +kernel
theorem dX1_countFours_52 : decode cX1_countFours 52 = .ok (.invokestatic 29, 3) := by decide +kernel
theorem dX1_countFours_55 : decode cX1_countFours 55 = .ok (.ldc2_w 19, 3) := by decide +kernel
theorem dX1_countFours_58 : decode cX1_countFours 58 = .ok (.land, 1) := by decide +kernel
theorem dX1_countFours_59 : decode cX1_countFours 59 = .ok (.invokestatic 23, 3) := by decide +kernel
theorem dX1_countFours_62 : decode cX1_countFours 62 = .ok (.iadd, 1) := by decide +kernel
theorem dX1_countFours_63 : decode cX1_countFours 63 = .ok (.lload_n 0, 1) := by decide +kernel
theorem dX1_countFours_64 : decode cX1_countFours 64 = .ok (.lload_n 2, 1) := by decide +kernel
theorem dX1_countFours_65 : decode cX1_countFours 65 = .ok (.iconst 5, 1) := by decide +kernel
theorem dX1_countFours_66 : decode cX1_countFours 66 = .ok (.iload 5, 2) := by decide +kernel
theorem dX1_countFours_68 : decode cX1_countFours 68 = .ok (.invokestatic 29, 3) := by decide +kernel
theorem dX1_countFours_71 : decode cX1_countFours 71 = .ok (.ldc2_w 21, 3) := by decide +kernel
theorem dX1_countFours_74 : decode cX1_countFours 74 = .ok (.land, 1) := by decide +kernel
theorem dX1_countFours_75 : decode cX1_countFours 75 = .ok (.invokestatic 23, 3) := by decide +kernel
theorem dX1_countFours_78 : decode cX1_countFours 78 = .ok (.iadd, 1) := by decide +kernel
theorem dX1_countFours_79 : decode cX1_countFours 79 = .ok (.iadd, 1) := by decide +kernel
theorem dX1_countFours_80 : decode cX1_countFours 80 = .ok (.istore 4, 2) := by decide +kernel
theorem dX1_countFours_82 : decode cX1_countFours 82 = .ok (.iinc 5 1, 3) := by decide +kernel
theorem dX1_countFours_85 : decode cX1_countFours 85 = .ok (.goto (-79), 3) := by decide +kernel
theorem dX1_countFours_88 : decode cX1_countFours 88 = .ok (.iload 4, 2) := by decide +kernel
theorem dX1_countFours_90 : decode cX1_countFours 90 = .ok (.ireturn, 1) := by decide +kernel
theorem dX1_fives_0 : decode cX1_fives 0 = .ok (.lload_n 0, 1) := by decide +kernel
theorem dX1_fives_1 : decode cX1_fives 1 = .ok (.lload_n 0, 1) := by decide +kernel
theorem dX1_fives_2 : decode cX1_fives 2 = .ok (.iload_n 2, 1) := by decide +kernel
theorem dX1_fives_3 : decode cX1_fives 3 = .ok (.lushr, 1) := by decide +kernel
theorem dX1_fives_4 : decode cX1_fives 4 = .ok (.land, 1) := by decide +kernel
theorem dX1_fives_5 : decode cX1_fives 5 = .ok (.lstore_n 3, 1) := by decide +kernel
theorem dX1_fives_6 : decode cX1_fives 6 = .ok (.lload_n 3, 1) := by decide +kernel
theorem dX1_fives_7 : decode cX1_fives 7 = .ok (.lload_n 3, 1) := by decide +kernel
theorem dX1_fives_8 : decode cX1_fives 8 = .ok (.iconst 2, 1) := by decide +kernel
theorem dX1_fives_9 : decode cX1_fives 9 = .ok (.iload_n 2, 1) := by decide +kernel
theorem dX1_fives_10 : decode cX1_fives 10 = .ok (.imul, 1) := by decide +kernel
theorem dX1_fives_11 : decode cX1_fives 11 = .ok (.lushr, 1) := by decide +kernel
theorem dX1_fives_12 : decode cX1_fives 12 = .ok (.land, 1) := by decide +kernel
theorem dX1_fives_13 : decode cX1_fives 13 = .ok (.lload_n 0, 1) := by decide +kernel
theorem dX1_fives_14 : decode cX1_fives 14 = .ok (.iconst 4, 1) := by decide +kernel
theorem dX1_fives_15 : decode cX1_fives 15 = .ok (.iload_n 2, 1) := by decide +kernel
theorem dX1_fives_16 : decode cX1_fives 16 = .ok (.imul, 1) := by decide +kernel
theorem dX1_fives_17 : decode cX1_fives 17 = .ok (.lushr, 1) := by decide +kernel
theorem dX1_fives_18 : decode cX1_fives 18 = .ok (.land, 1) := by decide +kernel
theorem dX1_fives_19 : decode cX1_fives 19 = .ok (.lreturn, 1) := by decide +kernel
theorem dX1_foursWith_0 : decode cX1_foursWith 0 = .ok (.ldc2_w 33, 3) := by decide +kernel
theorem dX1_foursWith_3 : decode cX1_foursWith 3 = .ok (.lstore 6, 2) := by decide +kernel
theorem dX1_foursWith_5 : decode cX1_foursWith 5 = .ok (.iconst 0, 1) := by decide +kernel
theorem dX1_foursWith_6 : decode cX1_foursWith 6 = .ok (.istore 8, 2) := by decide +kernel
theorem dX1_foursWith_8 : decode cX1_foursWith 8 = .ok (.iload 8, 2) := by decide +kernel
theorem dX1_foursWith_10 : decode cX1_foursWith 10 = .ok (.iconst 5, 1) := by decide +kernel
theorem dX1_foursWith_11 : decode cX1_foursWith 11 = .ok (.if_icmp .ge 32, 3) := by decide +kernel
theorem dX1_foursWith_14 : decode cX1_foursWith 14 = .ok (.lload 6, 2) := by decide +kernel
theorem dX1_foursWith_16 : decode cX1_foursWith 16 = .ok (.iload 8, 2) := by decide +kernel
theorem dX1_foursWith_18 : decode cX1_foursWith 18 = .ok (.iload 5, 2) := by decide +kernel
theorem dX1_foursWith_20 : decode cX1_foursWith 20 = .ok (.if_icmp .ne 7, 3) := by decide +kernel
theorem dX1_foursWith_23 : decode cX1_foursWith 23 = .ok (.lload_n 2, 1) := by decide +kernel
theorem dX1_foursWith_24 : decode cX1_foursWith 24 = .ok (.goto 4, 3) := by decide +kernel
theorem dX1_foursWith_27 : decode cX1_foursWith 27 = .ok (.lload_n 0, 1) := by decide +kernel
theorem dX1_foursWith_28 : decode cX1_foursWith 28 = .ok (.iload 8, 2) := by decide +kernel
theorem dX1_foursWith_30 : decode cX1_foursWith 30 = .ok (.iload 4, 2) := by decide +kernel
theorem dX1_foursWith_32 : decode cX1_foursWith 32 = .ok (.imul, 1) := by decide +kernel
theorem dX1_foursWith_33 : decode cX1_foursWith 33 = .ok (.lushr, 1) := by decide +kernel
theorem dX1_foursWith_34 : decode cX1_foursWith 34 = .ok (.land, 1) := by decide +kernel
theorem dX1_foursWith_35 : decode cX1_foursWith 35 = .ok (.lstore 6, 2) := by decide +kernel
theorem dX1_foursWith_37 : decode cX1_foursWith 37 = .ok (.iinc 8 1, 3) := by decide +kernel
theorem dX1_foursWith_40 : decode cX1_foursWith 40 = .ok (.goto (-32), 3) := by decide +kernel
theorem dX1_foursWith_43 : decode cX1_foursWith 43 = .ok (.lload 6, 2) := by decide +kernel
theorem dX1_foursWith_45 : decode cX1_foursWith 45 = .ok (.lreturn, 1) := by decide +kernel
theorem dX2_init_0 : decode cX2_init 0 = .ok (.aload_n 0, 1) := by decide +kernel
theorem dX2_init_1 : decode cX2_init 1 = .ok (.invokespecial 3, 3) := by decide +kernel
theorem dX2_init_4 : decode cX2_init 4 = .ok (.aload_n 0, 1) := by decide +kernel
theorem dX2_init_5 : decode cX2_init 5 = .ok (.bipush 36, 2) := by decide +kernel
theorem dX2_init_7 : decode cX2_init 7 = .ok (.newarray .int, 2) := by decide +kernel
theorem dX2_init_9 : decode cX2_init 9 = .ok (.putfield 9, 3) := by decide +kernel
theorem dX2_init_12 : decode cX2_init 12 = .ok (.aload_n 0, 1) := by decide +kernel
theorem dX2_init_13 : decode cX2_init 13 = .ok (.bipush 36, 2) := by decide +kernel
theorem dX2_init_15 : decode cX2_init 15 = .ok (.newarray .int, 2) := by decide +kernel
theorem dX2_init_17 : decode cX2_init 17 = .ok (.putfield 15, 3) := by decide +kernel
theorem dX2_init_20 : decode cX2_init 20 = .ok (.return_, 1) := by decide +kernel
theorem dX2_count_0 : decode cX2_count 0 = .ok (.aload_n 0, 1) := by decide +kernel
theorem dX2_count_1 : decode cX2_count 1 = .ok (.getfield 18, 3) := by decide +kernel
theorem dX2_count_4 : decode cX2_count 4 = .ok (.ireturn, 1) := by decide +kernel
theorem dX2_clear_0 : decode cX2_clear 0 = .ok (.aload_n 0, 1) := by decide +kernel
theorem dX2_clear_1 : decode cX2_clear 1 = .ok (.iconst 0, 1) := by decide +kernel
theorem dX2_clear_2 : decode cX2_clear 2 = .ok (.putfield 18, 3) := by decide +kernel
theorem dX2_clear_5 : decode cX2_clear 5 = .ok (.return_, 1) := by decide +kernel
theorem dX2_addMarble_0 : decode cX2_addMarble 0 = .ok (.aload_n 0, 1) := by decide +kernel
theorem dX2_addMarble_1 : decode cX2_addMarble 1 = .ok (.getfield 18, 3) := by decide +kernel
theorem dX2_addMarble_4 : decode cX2_addMarble 4 = .ok (.bipush 36, 2) := by decide +kernel
theorem dX2_addMarble_6 : decode cX2_addMarble 6 = .ok (.if_icmp .ge 33, 3) := by decide +kernel
theorem dX2_addMarble_9 : decode cX2_addMarble 9 = .ok (.aload_n 0, 1) := by decide +kernel
theorem dX2_addMarble_10 : decode cX2_addMarble 10 = .ok (.getfield 9, 3) := by decide +kernel
theorem dX2_addMarble_13 : decode cX2_addMarble 13 = .ok (.aload_n 0, 1) := by decide +kernel
theorem dX2_addMarble_14 : decode cX2_addMarble 14 = .ok (.getfield 18, 3) := by decide +kernel
theorem dX2_addMarble_17 : decode cX2_addMarble 17 = .ok (.iload_n 1, 1) := by decide +kernel
theorem dX2_addMarble_18 : decode cX2_addMarble 18 = .ok (.iastore, 1) := by decide +kernel
theorem dX2_addMarble_19 : decode cX2_addMarble 19 = .ok (.aload_n 0, 1) := by decide +kernel
theorem dX2_addMarble_20 : decode cX2_addMarble 20 = .ok (.getfield 15, 3) := by decide +kernel
theorem dX2_addMarble_23 : decode cX2_addMarble 23 = .ok (.aload_n 0, 1) := by decide +kernel
theorem dX2_addMarble_24 : decode cX2_addMarble 24 = .ok (.getfield 18, 3) := by decide +kernel
theorem dX2_addMarble_27 : decode cX2_addMarble 27 = .ok (.iconst (-1), 1) := by decide +kernel
theorem dX2_addMarble_28 : decode cX2_addMarble 28 = .ok (.iastore, 1) := by decide +kernel
theorem dX2_addMarble_29 : decode cX2_addMarble 29 = .ok (.aload_n 0, 1) := by decide +kernel
theorem dX2_addMarble_30 : decode cX2_addMarble 30 = .ok (.dup, 1) := by decide +kernel
theorem dX2_addMarble_31 : decode cX2_addMarble 31 = .ok (.getfield 18, 3) := by decide +kernel
theorem dX2_addMarble_34 : decode cX2_addMarble 34 = .ok (.iconst 1, 1) := by decide +kernel
theorem dX2_addMarble_35 : decode cX2_addMarble 35 = .ok (.iadd, 1) := by decide +kernel
theorem dX2_addMarble_36 : decode cX2_addMarble 36 = .ok (.putfield 18, 3) := by decide +kernel
theorem dX2_addMarble_39 : decode cX2_addMarble 39 = .ok (.return_, 1) := by decide +kernel
set_option maxRecDepth 20000 in
theorem ggX2_addTurn_X2_setLastTurn : GoodIn wsX2_addTurn wsX2_setLastTurn := goodIn_r _ [5, 6, 7, 8, 9, 10, 4, 11, 12, 13, 14] (by decide +kernel) (by decide +kernel)
set_option maxRecDepth 20000 in
theorem gX2_addTurn_X2_setLastTurn : GoodIn wsX2_addTurn (wsV RX2 22 RX2 yX2_setLastTurn wsX2_setLastTurn) := goodIn_app (goodIn_of _ (by decide +kernel)) ggX2_addTurn_X2_setLastTurn
theorem dX2_addTurn_0 : decode cX2_addTurn 0 = .ok (.aload_n 0, 1) := by decide +kernel
theorem dX2_addTurn_1 : decode cX2_addTurn 1 = .ok (.iload_n 1, 1) := by decide +kernel
theorem dX2_addTurn_2 : decode cX2_addTurn 2 = .ok (.invokevirtual 22, 3) := by decide +kernel
theorem dX2_addTurn_5 : decode cX2_addTurn 5 = .ok (.return_, 1) := by decide +kernel
set_option maxRecDepth 20000 in
theorem ggX2_dropTurn_X2_setLastTurn : GoodIn wsX2_dropTurn wsX2_setLastTurn := goodIn_r _ [5, 6, 7, 8, 9, 10, 4, 11, 12, 13, 14] (by decide +kernel) (by decide +kernel)
set_option maxRecDepth 20000 in
theorem gX2_dropTurn_X2_setLastTurn : GoodIn wsX2_dropTurn (wsV RX2 22 RX2 yX2_setLastTurn wsX2_setLastTurn) := goodIn_app (goodIn_of _ (by decide +kernel)) ggX2_dropTurn_X2_setLastTurn
theorem dX2_dropTurn_0 : decode cX2_dropTurn 0 = .ok (.aload_n 0, 1) := by decide +kernel
theorem dX2_dropTurn_1 : decode cX2_dropTurn 1 = .ok (.iconst (-1), 1) := by decide +kernel
theorem dX2_dropTurn_2 : decode cX2_dropTurn 2 = .ok (.invokevirtual 22, 3) := by decide +kernel
theorem dX2_dropTurn_5 : decode cX2_dropTurn 5 = .ok (.return_, 1) := by decide +kernel
theorem dX2_dropMarble_0 : decode cX2_dropMarble 0 = .ok (.aload_n 0, 1) := by decide +kernel
theorem dX2_dropMarble_1 : decode cX2_dropMarble 1 = .ok (.getfield 18, 3) := by decide +kernel
theorem dX2_dropMarble_4 : decode cX2_dropMarble 4 = .ok (.ifCond .le 13, 3) := by decide +kernel
theorem dX2_dropMarble_7 : decode cX2_dropMarble 7 = .ok (.aload_n 0, 1) := by decide +kernel
theorem dX2_dropMarble_8 : decode cX2_dropMarble 8 = .ok (.dup, 1) := by decide +kernel
theorem dX2_dropMarble_9 : decode cX2_dropMarble 9 = .ok (.getfield 18, 3) := by decide +kernel
theorem dX2_dropMarble_12 : decode cX2_dropMarble 12 = .ok (.iconst 1, 1) := by decide +kernel
theorem dX2_dropMarble_13 : decode cX2_dropMarble 13 = .ok (.isub, 1) := by decide +kernel
theorem dX2_dropMarble_14 : decode cX2_dropMarble 14 = .ok (.putfield 18, 3) := by decide +kernel
theorem dX2_dropMarble_17 : decode cX2_dropMarble 17 = .ok (.return_, 1) := by decide +kernel
set_option maxRecDepth 20000 in
theorem ggX2_cellOf_X2_isMove : GoodIn wsX2_cellOf wsX2_isMove := goodIn_r _ [6, 7, 8, 9, 10] (by decide +kernel) (by decide +kernel)
set_option maxRecDepth 20000 in
theorem gX2_cellOf_X2_isMove : GoodIn wsX2_cellOf (wsV RX2 26 RX2 yX2_isMove wsX2_isMove) := goodIn_app (goodIn_of _ (by decide +kernel)) ggX2_cellOf_X2_isMove
theorem dX2_cellOf_0 : decode cX2_cellOf 0 = .ok (.aload_n 0, 1) := by decide +kernel
theorem dX2_cellOf_1 : decode cX2_cellOf 1 = .ok (.iload_n 1, 1) := by decide +kernel
theorem dX2_cellOf_2 : decode cX2_cellOf 2 = .ok (.invokevirtual 26, 3) := by decide +kernel
theorem dX2_cellOf_5 : decode cX2_cellOf 5 = .ok (.ifCond .eq 12, 3) := by decide +kernel
theorem dX2_cellOf_8 : decode cX2_cellOf 8 = .ok (.aload_n 0, 1) := by decide +kernel
theorem dX2_cellOf_9 : decode cX2_cellOf 9 = .ok (.getfield 9, 3) := by decide +kernel
theorem dX2_cellOf_12 : decode cX2_cellOf 12 = .ok (.iload_n 1, 1) := by decide +kernel
theorem dX2_cellOf_13 : decode cX2_cellOf 13 = .ok (.iaload, 1) := by decide +kernel
theorem dX2_cellOf_14 : decode cX2_cellOf 14 = .ok (.goto 4, 3) := by decide +kernel
theorem dX2_cellOf_17 : decode cX2_cellOf 17 = .ok (.iconst 0, 1) := by decide +kernel
theorem dX2_cellOf_18 : decode cX2_cellOf 18 = .ok (.ireturn, 1) := by decide +kernel
set_option maxRecDepth 20000 in
theorem ggX2_turnOf_X2_isMove : GoodIn wsX2_turnOf wsX2_isMove := goodIn_r _ [6, 7, 8, 9, 10] (by decide +kernel) (by decide +kernel)
set_option maxRecDepth 20000 in
theorem gX2_turnOf_X2_isMove : GoodIn wsX2_turnOf (wsV RX2 26 RX2 yX2_isMove wsX2_isMove) := goodIn_app (goodIn_of _ (by decide +kernel)) ggX2_turnOf_X2_isMove
theorem dX2_turnOf_0 : decode cX2_turnOf 0 = .ok (.aload_n 0, 1) := by decide +kernel
theorem dX2_turnOf_1 : decode cX2_turnOf 1 = .ok (.iload_n 1, 1) := by decide +kernel
theorem dX2_turnOf_2 : decode cX2_turnOf 2 = .ok (.invokevirtual 26, 3) := by decide +kernel
theorem dX2_turnOf_5 : decode cX2_turnOf 5 = .ok (.ifCond .eq 12, 3) := by decide +kernel
theorem dX2_turnOf_8 : decode cX2_turnOf 8 = .ok (.aload_n 0, 1) := by decide +kernel
theorem dX2_turnOf_9 : decode cX2_turnOf 9 = .ok (.getfield 15, 3) := by decide +kernel
theorem dX2_turnOf_12 : decode cX2_turnOf 12 = .ok (.iload_n 1, 1) := by decide +kernel
theorem dX2_turnOf_13 : decode cX2_turnOf 13 = .ok (.iaload, 1) := by decide +kernel
theorem dX2_turnOf_14 : decode cX2_turnOf 14 = .ok (.goto 4, 3) := by decide +kernel
theorem dX2_turnOf_17 : decode cX2_turnOf 17 = .ok (.iconst (-1), 1) := by decide +kernel
theorem dX2_turnOf_18 : decode cX2_turnOf 18 = .ok (.ireturn, 1) := by decide +kernel
set_option maxRecDepth 20000 in
theorem ggX2_hasTurn_X2_turnOf : GoodIn wsX2_hasTurn wsX2_turnOf := goodIn_r _ [5, 6, 7, 8, 9, 4, 10, 11, 12, 13, 14] (by decide +kernel) (by decide +kernel)
set_option maxRecDepth 20000 in
theorem gX2_hasTurn_X2_turnOf : GoodIn wsX2_hasTurn (wsV RX2 30 RX2 yX2_turnOf wsX2_turnOf) := goodIn_app (goodIn_of _ (by decide +kernel)) ggX2_hasTurn_X2_turnOf
theorem dX2_hasTurn_0 : decode cX2_hasTurn 0 = .ok (.aload_n 0, 1) := by decide +kernel
theorem dX2_hasTurn_1 : decode cX2_hasTurn 1 = .ok (.iload_n 1, 1) := by decide +kernel
theorem dX2_hasTurn_2 : decode cX2_hasTurn 2 = .ok (.invokevirtual 30, 3) := by decide +kernel
theorem dX2_hasTurn_5 : decode cX2_hasTurn 5 = .ok (.iconst (-1), 1) := by decide +kernel
theorem dX2_hasTurn_6 : decode cX2_hasTurn 6 = .ok (.if_icmp .eq 7, 3) := by decide +kernel
theorem dX2_hasTurn_9 : decode cX2_hasTurn 9 = .ok (.iconst 1, 1) := by decide +kernel
theorem dX2_hasTurn_10 : decode cX2_hasTurn 10 = .ok (.goto 4, 3) := by decide +kernel
theorem dX2_hasTurn_13 : decode cX2_hasTurn 13 = .ok (.iconst 0, 1) := by decide +kernel
theorem dX2_hasTurn_14 : decode cX2_hasTurn 14 = .ok (.ireturn, 1) := by decide +kernel
set_option maxRecDepth 20000 in
theorem ggX2_setLastTurn_X2_isMove : GoodIn wsX2_setLastTurn wsX2_isMove := goodIn_r _ [7, 1, 8, 9, 10] (by decide +kernel) (by decide +kernel)
set_option maxRecDepth 20000 in
theorem gX2_setLastTurn_X2_isMove : GoodIn wsX2_setLastTurn (wsV RX2 26 RX2 yX2_isMove wsX2_isMove) := goodIn_app (goodIn_of _ (by decide +kernel)) ggX2_setLastTurn_X2_isMove
theorem dX2_setLastTurn_0 : decode cX2_setLastTurn 0 = .ok (.aload_n 0, 1) := by decide +kernel
theorem dX2_setLastTurn_1 : decode cX2_setLastTurn 1 = .ok (.aload_n 0, 1) := by decide +kernel
theorem dX2_setLastTurn_2 : decode cX2_setLastTurn 2 = .ok (.getfield 18, 3) := by decide +kernel
theorem dX2_setLastTurn_5 : decode cX2_setLastTurn 5 = .ok (.iconst 1, 1) := by decide +kernel
theorem dX2_setLastTurn_6 : decode cX2_setLastTurn 6 = .ok (.isub, 1) := by decide +kernel
theorem dX2_setLastTurn_7 : decode cX2_setLastTurn 7 = .ok (.invokevirtual 26, 3) := by decide +kernel
theorem dX2_setLastTurn_10 : decode cX2_setLastTurn 10 = .ok (.ifCond .eq 15, 3) := by decide +kernel
theorem dX2_setLastTurn_13 : decode cX2_setLastTurn 13 = .ok (.aload_n 0, 1) := by decide +kernel
theorem dX2_setLastTurn_14 : decode cX2_setLastTurn 14 = .ok (.getfield 15, 3) := by decide +kernel
theorem dX2_setLastTurn_17 : decode cX2_setLastTurn 17 = .ok (.aload_n 0, 1) := by decide +kernel
theorem dX2_setLastTurn_18 : decode cX2_setLastTurn 18 = .ok (.getfield 18, 3) := by decide +kernel
theorem dX2_setLastTurn_21 : decode cX2_setLastTurn 21 = .ok (.iconst 1, 1) := by decide +kernel
theorem dX2_setLastTurn_22 : decode cX2_setLastTurn 22 = .ok (.isub, 1) := by decide +kernel
theorem dX2_setLastTurn_23 : decode cX2_setLastTurn 23 = .ok (.iload_n 1, 1) := by decide +kernel
theorem dX2_setLastTurn_24 : decode cX2_setLastTurn 24 = .ok (.iastore, 1) := by decide +kernel
theorem dX2_setLastTurn_25 : decode cX2_setLastTurn 25 = .ok (.return_, 1) := by decide +kernel
theorem dX2_isMove_0 : decode cX2_isMove 0 = .ok (.iload_n 1, 1) := by decide +kernel
theorem dX2_isMove_1 : decode cX2_isMove 1 = .ok (.ifCond .lt 21, 3) := by decide +kernel
theorem dX2_isMove_4 : decode cX2_isMove 4 = .ok (.iload_n 1, 1) := by decide +kernel
theorem dX2_isMove_5 : decode cX2_isMove 5 = .ok (.aload_n 0, 1) := by decide +kernel
theorem dX2_isMove_6 : decode cX2_isMove 6 = .ok (.getfield 18, 3) := by decide +kernel
theorem dX2_isMove_9 : decode cX2_isMove 9 = .ok (.if_icmp .ge 13, 3) := by decide +kernel
theorem dX2_isMove_12 : decode cX2_isMove 12 = .ok (.iload_n 1, 1) := by decide +kernel
theorem dX2_isMove_13 : decode cX2_isMove 13 = .ok (.bipush 36, 2) := by decide +kernel
theorem dX2_isMove_15 : decode cX2_isMove 15 = .ok (.if_icmp .ge 7, 3) := by decide +kernel
theorem dX2_isMove_18 : decode cX2_isMove 18 = .ok (.iconst 1, 1) := by decide +kernel
theorem dX2_isMove_19 : decode cX2_isMove 19 = .ok (.goto 4, 3) := by decide +kernel
theorem dX2_isMove_22 : decode cX2_isMove 22 = .ok (.iconst 0, 1) := by decide +kernel
theorem dX2_isMove_23 : decode cX2_isMove 23 = .ok (.ireturn, 1) := by decide +kernel
theorem dX3_init_0 : decode cX3_init 0 = .ok (.aload_n 0, 1) := by decide +kernel
theorem dX3_init_1 : decode cX3_init 1 = .ok (.invokespecial 3, 3) := by decide +kernel
theorem dX3_init_4 : decode cX3_init 4 = .ok (.aload_n 0, 1) := by decide +kernel
theorem dX3_init_5 : decode cX3_init 5 = .ok (.aload_n 1, 1) := by decide +kernel
theorem dX3_init_6 : decode cX3_init 6 = .ok (.putfield 9, 3) := by decide +kernel
theorem dX3_init_9 : decode cX3_init 9 = .ok (.return_, 1) := by decide +kernel
set_option maxRecDepth 20000 in
theorem ggX3_valueToPut_X3_playMarbles : GoodIn wsX3_valueToPut wsX3_playMarbles := goodIn_r _ [45, 46, 47, 19, 48, 49, 50, 51, 52, 53, 54, 55, 56, 57, 58, 59, 60, 61, 62, 63, 64, 65, 5, 66, 67, 68, 69, 70, 71, 72, 73, 74, 75, 76, 77, 78, 79, 80, 81, 82, 83, 84, 85, 86, 87, 88, 89, 90, 91, 92, 93, 94, 95, 0, 1, 2, 3, 4, 6, 7, 8, 9, 10, 11, 12, 13, 14, 15, 16, 17, 18, 20, 21, 22, 23, 24, 25, 26, 27, 28, 29, 30, 31, 32, 33, 34, 35, 36, 37, 38, 39, 40, 41, 42, 43, 44, 96, 97, 98, 99, 100, 101, 102] (by decide +kernel) (by decide +kernel)
set_option maxRecDepth 20000 in
theorem gX3_valueToPut_X3_playMarbles : GoodIn wsX3_valueToPut (wsV RX3 15 RX3 yX3_playMarbles wsX3_playMarbles) := goodIn_app (goodIn_of _ (by decide +kernel)) ggX3_valueToPut_X3_playMarbles
set_option maxRecDepth 20000 in
theorem ggX3_valueToPut_J13_bitCount_95d88 : GoodIn wsX3_valueToPut wsJ13_bitCount_95d88 := goodIn_r _ [9, 10, 11, 12] (by decide +kernel) (by decide +kernel)
set_option maxRecDepth 20000 in
theorem gX3_valueToPut_J13_bitCount_95d88 : GoodIn wsX3_valueToPut (va_wsS RX3 19 yJ13_bitCount_95d88 wsJ13_bitCount_95d88) := goodIn_app (goodIn_of _ (by decide +kernel)) ggX3_valueToPut_J13_bitCount_95d88
set_option maxRecDepth 20000 in
theorem ggX3_valueToPut_X0_leastCode : GoodIn wsX3_valueToPut wsX0_leastCode := goodIn_r _ [16, 17, 18, 19, 20, 21, 22, 15, 23, 24, 25] (by decide +kernel) (by decide +kernel)
set_option maxRecDepth 20000 in
theorem gX3_valueToPut_X0_leastCode : GoodIn wsX3_valueToPut (va_wsS RX3 25 yX0_leastCode wsX0_leastCode) := goodIn_app (goodIn_of _ (by decide +kernel)) ggX3_valueToPut_X0_leastCode
set_option maxRecDepth 20000 in
theorem ggX3_valueToPut_X5_holds : GoodIn wsX3_valueToPut wsX5_holds := goodIn_r _ [30, 31, 32, 33, 29, 34, 35, 101, 102] (by decide +kernel) (by decide +kernel)
set_option maxRecDepth 20000 in
theorem gX3_valueToPut_X5_holds : GoodIn wsX3_valueToPut (wsV RX3 31 RX5 yX5_holds wsX5_holds) := goodIn_app (goodIn_of _ (by decide +kernel)) ggX3_valueToPut_X5_holds
set_option maxRecDepth 20000 in
theorem ggX3_valueToPut_X5_valueOf : GoodIn wsX3_valueToPut wsX5_valueOf := goodIn_r _ [39, 40, 32, 33, 29, 34, 35, 101, 102] (by decide +kernel) (by decide +kernel)
set_option maxRecDepth 20000 in
theorem gX3_valueToPut_X5_valueOf : GoodIn wsX3_valueToPut (wsV RX3 37 RX5 yX5_valueOf wsX5_valueOf) := goodIn_app (goodIn_of _ (by decide +kernel)) ggX3_valueToPut_X5_valueOf
set_option maxRecDepth 20000 in
theorem ggX3_valueToPut_X5_keep : GoodIn wsX3_valueToPut wsX5_keep := goodIn_r _ [44, 31, 40, 32, 33, 29, 34, 35, 101, 102] (by decide +kernel) (by decide +kernel)
set_option maxRecDepth 20000 in
theorem gX3_valueToPut_X5_keep : GoodIn wsX3_valueToPut (wsV RX3 40 RX5 yX5_keep wsX5_keep) := goodIn_app (goodIn_of _ (by decide +kernel)) ggX3_valueToPut_X5_keep
theorem dX3_valueToPut_0 : decode cX3_valueToPut 0 = .ok (.iload 5, 2) := by decide +kernel
theorem dX3_valueToPut_2 : decode cX3_valueToPut 2 = .ok (.ifCond .le 9, 3) := by decide +kernel
theorem dX3_valueToPut_5 : decode cX3_valueToPut 5 = .ok (.iload 5, 2) := by decide +kernel
theorem dX3_valueToPut_7 : decode cX3_valueToPut 7 = .ok (.iconst 3, 1) := by decide +kernel
theorem dX3_valueToPut_8 : decode cX3_valueToPut 8 = .ok (.if_icmp .le 5, 3) := by decide +kernel
theorem dX3_valueToPut_11 : decode cX3_valueToPut 11 = .ok (.iconst 0, 1) := by decide +kernel
theorem dX3_valueToPut_12 : decode cX3_valueToPut 12 = .ok (.ireturn, 1) := by decide +kernel
theorem dX3_valueToPut_13 : decode cX3_valueToPut 13 = .ok (.aload_n 0, 1) := by decide +kernel
theorem dX3_valueToPut_14 : decode cX3_valueToPut 14 = .ok (.getfield 9, 3) := by decide +kernel
theorem dX3_valueToPut_17 : decode cX3_valueToPut 17 = .ok (.ifnull 9, 3) := by decide +kernel
theorem dX3_valueToPut_20 : decode cX3_valueToPut 20 = .ok (.iload 5, 2) := by decide +kernel
theorem dX3_valueToPut_22 : decode cX3_valueToPut 22 = .ok (.iconst 2, 1) := by decide +kernel
theorem dX3_valueToPut_23 : decode cX3_valueToPut 23 = .ok (.if_icmp .ge 12, 3) := by decide +kernel
theorem dX3_valueToPut_26 : decode cX3_valueToPut 26 = .ok (.aload_n 0, 1) := by decide +kernel
theorem dX3_valueToPut_27 : decode cX3_valueToPut 27 = .ok (.lload_n 1, 1) := by decide +kernel
theorem dX3_valueToPut_28 : decode cX3_valueToPut 28 = .ok (.lload_n 3, 1) := by decide +kernel
theorem dX3_valueToPut_29 : decode cX3_valueToPut 29 = .ok (.iload 5, 2) := by decide +kernel
theorem dX3_valueToPut_31 : decode cX3_valueToPut 31 = .ok (.invokevirtual 15, 3) := by decide +kernel
theorem dX3_valueToPut_34 : decode cX3_valueToPut 34 = .ok (.ireturn, 1) := by decide +kernel
theorem dX3_valueToPut_35 : decode cX3_valueToPut 35 = .ok (.lload_n 1, 1) := by decide +kernel
theorem dX3_valueToPut_36 : decode cX3_valueToPut 36 = .ok (.invokestatic 19, 3) := by decide +kernel
theorem dX3_valueToPut_39 : decode cX3_valueToPut 39 = .ok (.lload_n 3, 1) := by decide +kernel
theorem dX3_valueToPut_40 : decode cX3_valueToPut 40 = .ok (.invokestatic 19, 3) := by decide +kernel
theorem dX3_valueToPut_43 : decode cX3_valueToPut 43 = .ok (.if_icmp .ne 11, 3) := by decide +kernel
theorem dX3_valueToPut_46 : decode cX3_valueToPut 46 = .ok (.lload_n 1, 1) := by decide +kernel
theorem dX3_valueToPut_47 : decode cX3_valueToPut 47 = .ok (.lload_n 3, 1) := by decide +kernel
theorem dX3_valueToPut_48 : decode cX3_valueToPut 48 = .ok (.invokestatic 25, 3) := by decide +kernel
theorem dX3_valueToPut_51 : decode cX3_valueToPut 51 = .ok (.goto 8, 3) := by decide +kernel
theorem dX3_valueToPut_54 : decode cX3_valueToPut 54 = .ok (.lload_n 3, 1) := by decide +kernel
theorem dX3_valueToPut_55 : decode cX3_valueToPut 55 = .ok (.lload_n 1, 1) := by decide +kernel
theorem dX3_valueToPut_56 : decode cX3_valueToPut 56 = .ok (.invokestatic 25, 3) := by decide +kernel
theorem dX3_valueToPut_59 : decode cX3_valueToPut 59 = .ok (.lstore 6, 2) := by decide +kernel
theorem dX3_valueToPut_61 : decode cX3_valueToPut 61 = .ok (.aload_n 0, 1) := by decide +kernel
theorem dX3_valueToPut_62 : decode cX3_valueToPut 62 = .ok (.getfield 9, 3) := by decide +kernel
theorem dX3_valueToPut_65 : decode cX3_valueToPut 65 = .ok (.lload 6, 2) := by decide +kernel
theorem dX3_valueToPut_67 : decode cX3_valueToPut 67 = .ok (.invokevirtual 31, 3) := by decide +kernel
theorem dX3_valueToPut_70 : decode cX3_valueToPut 70 = .ok (.ifCond .eq 13, 3) := by decide +kernel
theorem dX3_valueToPut_73 : decode cX3_valueToPut 73 = .ok (.aload_n 0, 1) := by decide +kernel
theorem dX3_valueToPut_74 : decode cX3_valueToPut 74 = .ok (.getfield 9, 3) := by decide +kernel
theorem dX3_valueToPut_77 : decode cX3_valueToPut 77 = .ok (.lload 6, 2) := by decide +kernel
theorem dX3_valueToPut_79 : decode cX3_valueToPut 79 = .ok (.invokevirtual 37, 3) := by decide +kernel
theorem dX3_valueToPut_82 : decode cX3_valueToPut 82 = .ok (.ireturn, 1) := by decide +kernel
theorem dX3_valueToPut_83 : decode cX3_valueToPut 83 = .ok (.aload_n 0, 1) := by decide +kernel
theorem dX3_valueToPut_84 : decode cX3_valueToPut 84 = .ok (.lload_n 1, 1) := by decide +kernel
theorem dX3_valueToPut_85 : decode cX3_valueToPut 85 = .ok (.lload_n 3, 1) := by decide +kernel
theorem dX3_valueToPut_86 : decode cX3_valueToPut 86 = .ok (.iload 5, 2) := by decide +kernel
theorem dX3_valueToPut_88 : decode cX3_valueToPut 88 = .ok (.invokevirtual 15, 3) := by decide +kernel
theorem dX3_valueToPut_91 : decode cX3_valueToPut 91 = .ok (.istore 8, 2) := by decide +kernel
theorem dX3_valueToPut_93 : decode cX3_valueToPut 93 = .ok (.aload_n 0, 1) := by decide +kernel
theorem dX3_valueToPut_94 : decode cX3_valueToPut 94 = .ok (.getfield 9, 3) := by decide +kernel
theorem dX3_valueToPut_97 : decode cX3_valueToPut 97 = .ok (.lload 6, 2) := by decide +kernel
theorem dX3_valueToPut_99 : decode cX3_valueToPut 99 = .ok (.iload 8, 2) := by decide +kernel
theorem dX3_valueToPut_101 : decode cX3_valueToPut 101 = .ok (.invokevirtual 40, 3) := by decide +kernel
theorem dX3_valueToPut_104 : decode cX3_valueToPut 104 = .ok (.iload 8, 2) := by decide +kernel
theorem dX3_valueToPut_106 : decode cX3_valueToPut 106 = .ok (.ireturn, 1) := by decide +kernel
set_option maxRecDepth 20000 in
theorem ggX3_valueToTurn_X3_valueBehindTurn : GoodIn wsX3_valueToTurn wsX3_valueBehindTurn := goodIn_r _ [27, 28, 29, 30, 31, 32, 33, 34, 35, 36, 37, 38, 39, 40, 41, 42, 43, 44, 45, 46, 47, 48, 49, 50, 51, 52, 53, 13, 14, 15, 16, 17, 18, 19, 20, 21, 22, 23, 54, 55, 56, 8, 9, 1, 2, 3, 4, 10, 11, 12, 24, 25, 26, 57, 58, 59, 60, 61, 62, 63, 64, 65, 66, 67, 68, 69, 70, 71, 72, 73, 74, 75, 76, 77, 78, 79, 80, 81, 82, 83, 84, 85, 86, 87, 88, 89, 90, 91, 92, 93, 94, 95, 96, 97, 98, 99, 0, 5, 6, 7, 100, 101, 102] (by decide +kernel) (by decide +kernel)
set_option maxRecDepth 20000 in
theorem gX3_valueToTurn_X3_valueBehindTurn : GoodIn wsX3_valueToTurn (wsV RX3 44 RX3 yX3_valueBehindTurn wsX3_valueBehindTurn) := goodIn_app (goodIn_of _ (by decide +kernel)) ggX3_valueToTurn_X3_valueBehindTurn
theorem dX3_valueToTurn_0 : decode cX3_valueToTurn 0 = .ok (.iconst (-1), 1) := by decide +kernel
theorem dX3_valueToTurn_1 : decode cX3_valueToTurn 1 = .ok (.istore 6, 2) := by decide +kernel
theorem dX3_valueToTurn_3 : decode cX3_valueToTurn 3 = .ok (.iconst 0, 1) := by decide +kernel
theorem dX3_valueToTurn_4 : decode cX3_valueToTurn 4 = .ok (.istore 7, 2) := by decide +kernel
theorem dX3_valueToTurn_6 : decode cX3_valueToTurn 6 = .ok (.iload 7, 2) := by decide +kernel
theorem dX3_valueToTurn_8 : decode cX3_valueToTurn 8 = .ok (.bipush 8, 2) := by decide +kernel
theorem dX3_valueToTurn_10 : decode cX3_valueToTurn 10 = .ok (.if_icmp .ge 32, 3) := by decide +kernel
theorem dX3_valueToTurn_13 : decode cX3_valueToTurn 13 = .ok (.iload 6, 2) := by decide +kernel
theorem dX3_valueToTurn_15 : decode cX3_valueToTurn 15 = .ok (.iconst 1, 1) := by decide +kernel
theorem dX3_valueToTurn_16 : decode cX3_valueToTurn 16 = .ok (.if_icmp .ge 26, 3) := by decide +kernel
theorem dX3_valueToTurn_19 : decode cX3_valueToTurn 19 = .ok (.iload 6, 2) := by decide +kernel
theorem dX3_valueToTurn_21 : decode cX3_valueToTurn 21 = .ok (.aload_n 0, 1) := by decide +kernel
theorem dX3_valueToTurn_22 : decode cX3_valueToTurn 22 = .ok (.lload_n 1, 1) := by decide +kernel
theorem dX3_valueToTurn_23 : decode cX3_valueToTurn 23 = .ok (.lload_n 3, 1) := by decide +kernel
theorem dX3_valueToTurn_24 : decode cX3_valueToTurn 24 = .ok (.iload 7, 2) := by decide +kernel
theorem dX3_valueToTurn_26 : decode cX3_valueToTurn 26 = .ok (.iload 5, 2) := by decide +kernel
theorem dX3_valueToTurn_28 : decode cX3_valueToTurn 28 = .ok (.invokevirtual 44, 3) := by decide +kernel
theorem dX3_valueToTurn_31 : decode cX3_valueToTurn 31 = .ok (.invokestatic 48, 3) := by decide +kernel
theorem dX3_valueToTurn_34 : decode cX3_valueToTurn 34 = .ok (.istore 6, 2) := by decide +kernel
theorem dX3_valueToTurn_36 : decode cX3_valueToTurn 36 = .ok (.iinc 7 1, 3) := by decide +kernel
theorem dX3_valueToTurn_39 : decode cX3_valueToTurn 39 = .ok (.goto (-33), 3) := by decide +kernel
theorem dX3_valueToTurn_42 : decode cX3_valueToTurn 42 = .ok (.iload 6, 2) := by decide +kernel
theorem dX3_valueToTurn_44 : decode cX3_valueToTurn 44 = .ok (.ireturn, 1) := by decide +kernel
set_option maxRecDepth 20000 in
theorem ggX3_lowestBestTurn_X3_valueBehindTurn : GoodIn wsX3_lowestBestTurn wsX3_valueBehindTurn := goodIn_r _ [5, 6, 7, 8, 9, 10, 11, 12, 13, 14, 15, 16, 17, 18, 19, 20, 21, 22, 23, 24, 25, 26, 27, 28, 29, 30, 31, 32, 33, 34, 35, 36, 37, 38, 39, 40, 41, 42, 43, 44, 45, 4, 46, 47, 48, 49, 50, 51, 52, 53, 54, 55, 56, 57, 58, 59, 60, 61, 62, 63, 64, 65, 66, 67, 68, 69, 70, 71, 72, 73, 74, 75, 76, 77, 78, 79, 80, 81, 82, 83, 84, 85, 86, 87, 88, 89, 90, 91, 92, 93, 94, 95, 96, 97, 98, 99, 100, 1, 2, 3, 101, 102, 103] (by decide +kernel) (by decide +kernel)
set_option maxRecDepth 20000 in
theorem gX3_lowestBestTurn_X3_valueBehindTurn : GoodIn wsX3_lowestBestTurn (wsV RX3 44 RX3 yX3_valueBehindTurn wsX3_valueBehindTurn) := goodIn_app (goodIn_of _ (by decide +kernel)) ggX3_lowestBestTurn_X3_valueBehindTurn
theorem dX3_lowestBestTurn_0 : decode cX3_lowestBestTurn 0 = .ok (.bipush (-2), 2) := by decide +kernel
theorem dX3_lowestBestTurn_2 : decode cX3_lowestBestTurn 2 = .ok (.istore 6, 2) := by decide +kernel
theorem dX3_lowestBestTurn_4 : decode cX3_lowestBestTurn 4 = .ok (.iconst 0, 1) := by decide +kernel
