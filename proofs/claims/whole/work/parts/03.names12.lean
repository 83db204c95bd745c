theorem dX3_whole_62 : decode cX3_whole 62 = .ok (.istore 4, 2) := by decide +kernel
theorem dX3_whole_64 : decode cX3_whole 64 = .ok (.iload 4, 2) := by decide +kernel
theorem dX3_whole_66 : decode cX3_whole 66 = .ok (.ifCond .eq 7, 3) := by decide +kernel
theorem dX3_whole_69 : decode cX3_whole 69 = .ok (.iload_n 2, 1) := by decide +kernel
theorem dX3_whole_70 : decode cX3_whole 70 = .ok (.goto 4, 3) := by decide +kernel
theorem dX3_whole_73 : decode cX3_whole 73 = .ok (.iload_n 1, 1) := by decide +kernel
theorem dX3_whole_74 : decode cX3_whole 74 = .ok (.istore 5, 2) := by decide +kernel
theorem dX3_whole_76 : decode cX3_whole 76 = .ok (.iload 4, 2) := by decide +kernel
theorem dX3_whole_78 : decode cX3_whole 78 = .ok (.ifCond .eq 7, 3) := by decide +kernel
theorem dX3_whole_81 : decode cX3_whole 81 = .ok (.iload_n 1, 1) := by decide +kernel
theorem dX3_whole_82 : decode cX3_whole 82 = .ok (.goto 4, 3) := by decide +kernel
theorem dX3_whole_85 : decode cX3_whole 85 = .ok (.iload_n 2, 1) := by decide +kernel
theorem dX3_whole_86 : decode cX3_whole 86 = .ok (.istore 6, 2) := by decide +kernel
theorem dX3_whole_88 : decode cX3_whole 88 = .ok (.aload_n 0, 1) := by decide +kernel
theorem dX3_whole_89 : decode cX3_whole 89 = .ok (.getfield 29, 3) := by decide +kernel
theorem dX3_whole_92 : decode cX3_whole 92 = .ok (.iload 6, 2) := by decide +kernel
theorem dX3_whole_94 : decode cX3_whole 94 = .ok (.laload, 1) := by decide +kernel
theorem dX3_whole_95 : decode cX3_whole 95 = .ok (.aload_n 0, 1) := by decide +kernel
theorem dX3_whole_96 : decode cX3_whole 96 = .ok (.getfield 29, 3) := by decide +kernel
theorem dX3_whole_99 : decode cX3_whole 99 = .ok (.iload 5, 2) := by decide +kernel
theorem dX3_whole_101 : decode cX3_whole 101 = .ok (.laload, 1) := by decide +kernel
theorem dX3_whole_102 : decode cX3_whole 102 = .ok (.lcmp, 1) := by decide +kernel
theorem dX3_whole_103 : decode cX3_whole 103 = .ok (.ifCond .ge 7, 3) := by decide +kernel
theorem dX3_whole_106 : decode cX3_whole 106 = .ok (.iconst 1, 1) := by decide +kernel
theorem dX3_whole_107 : decode cX3_whole 107 = .ok (.goto 4, 3) := by decide +kernel
theorem dX3_whole_110 : decode cX3_whole 110 = .ok (.iconst 0, 1) := by decide +kernel
theorem dX3_whole_111 : decode cX3_whole 111 = .ok (.istore 7, 2) := by decide +kernel
theorem dX3_whole_113 : decode cX3_whole 113 = .ok (.aload_n 0, 1) := by decide +kernel
theorem dX3_whole_114 : decode cX3_whole 114 = .ok (.getfield 26, 3) := by decide +kernel
theorem dX3_whole_117 : decode cX3_whole 117 = .ok (.iload 6, 2) := by decide +kernel
theorem dX3_whole_119 : decode cX3_whole 119 = .ok (.laload, 1) := by decide +kernel
theorem dX3_whole_120 : decode cX3_whole 120 = .ok (.aload_n 0, 1) := by decide +kernel
theorem dX3_whole_121 : decode cX3_whole 121 = .ok (.getfield 26, 3) := by decide +kernel
theorem dX3_whole_124 : decode cX3_whole 124 = .ok (.iload 5, 2) := by decide +kernel
theorem dX3_whole_126 : decode cX3_whole 126 = .ok (.laload, 1) := by decide +kernel
theorem dX3_whole_127 : decode cX3_whole 127 = .ok (.lsub, 1) := by decide +kernel
theorem dX3_whole_128 : decode cX3_whole 128 = .ok (.iload 7, 2) := by decide +kernel
theorem dX3_whole_130 : decode cX3_whole 130 = .ok (.ifCond .eq 7, 3) := by decide +kernel
theorem dX3_whole_133 : decode cX3_whole 133 = .ok (.lconst 1, 1) := by decide +kernel
theorem dX3_whole_134 : decode cX3_whole 134 = .ok (.goto 4, 3) := by decide +kernel
theorem dX3_whole_137 : decode cX3_whole 137 = .ok (.lconst 0, 1) := by decide +kernel
theorem dX3_whole_138 : decode cX3_whole 138 = .ok (.lsub, 1) := by decide +kernel
theorem dX3_whole_139 : decode cX3_whole 139 = .ok (.lstore 8, 2) := by decide +kernel
theorem dX3_whole_141 : decode cX3_whole 141 = .ok (.aload_n 0, 1) := by decide +kernel
theorem dX3_whole_142 : decode cX3_whole 142 = .ok (.getfield 29, 3) := by decide +kernel
theorem dX3_whole_145 : decode cX3_whole 145 = .ok (.iload 6, 2) := by decide +kernel
theorem dX3_whole_147 : decode cX3_whole 147 = .ok (.laload, 1) := by decide +kernel
theorem dX3_whole_148 : decode cX3_whole 148 = .ok (.aload_n 0, 1) := by decide +kernel
theorem dX3_whole_149 : decode cX3_whole 149 = .ok (.getfield 29, 3) := by decide +kernel
theorem dX3_whole_152 : decode cX3_whole 152 = .ok (.iload 5, 2) := by decide +kernel
theorem dX3_whole_154 : decode cX3_whole 154 = .ok (.laload, 1) := by decide +kernel
theorem dX3_whole_155 : decode cX3_whole 155 = .ok (.lsub, 1) := by decide +kernel
theorem dX3_whole_156 : decode cX3_whole 156 = .ok (.iload 7, 2) := by decide +kernel
theorem dX3_whole_158 : decode cX3_whole 158 = .ok (.ifCond .eq 9, 3) := by decide +kernel
theorem dX3_whole_161 : decode cX3_whole 161 = .ok (.ldc2_w 205, 3) := by decide +kernel
theorem dX3_whole_164 : decode cX3_whole 164 = .ok (.goto 4, 3) := by decide +kernel
theorem dX3_whole_167 : decode cX3_whole 167 = .ok (.lconst 0, 1) := by decide +kernel
theorem dX3_whole_168 : decode cX3_whole 168 = .ok (.ladd, 1) := by decide +kernel
theorem dX3_whole_169 : decode cX3_whole 169 = .ok (.ldc2_w 199, 3) := by decide +kernel
theorem dX3_whole_172 : decode cX3_whole 172 = .ok (.ldiv, 1) := by decide +kernel
theorem dX3_whole_173 : decode cX3_whole 173 = .ok (.lstore 10, 2) := by decide +kernel
theorem dX3_whole_175 : decode cX3_whole 175 = .ok (.iload_n 3, 1) := by decide +kernel
theorem dX3_whole_176 : decode cX3_whole 176 = .ok (.bipush 100, 2) := by decide +kernel
theorem dX3_whole_178 : decode cX3_whole 178 = .ok (.if_icmp .ne 8, 3) := by decide +kernel
theorem dX3_whole_181 : decode cX3_whole 181 = .ok (.lload 8, 2) := by decide +kernel
theorem dX3_whole_183 : decode cX3_whole 183 = .ok (.goto 38, 3) := by decide +kernel
theorem dX3_whole_186 : decode cX3_whole 186 = .ok (.ldc2_w 231, 3) := by decide +kernel
theorem dX3_whole_189 : decode cX3_whole 189 = .ok (.lload 8, 2) := by decide +kernel
theorem dX3_whole_191 : decode cX3_whole 191 = .ok (.lmul, 1) := by decide +kernel
theorem dX3_whole_192 : decode cX3_whole 192 = .ok (.lload 10, 2) := by decide +kernel
theorem dX3_whole_194 : decode cX3_whole 194 = .ok (.ladd, 1) := by decide +kernel
theorem dX3_whole_195 : decode cX3_whole 195 = .ok (.iload_n 3, 1) := by decide +kernel
theorem dX3_whole_196 : decode cX3_whole 196 = .ok (.bipush 104, 2) := by decide +kernel
theorem dX3_whole_198 : decode cX3_whole 198 = .ok (.if_icmp .ne 9, 3) := by decide +kernel
theorem dX3_whole_201 : decode cX3_whole 201 = .ok (.ldc2_w 195, 3) := by decide +kernel
theorem dX3_whole_204 : decode cX3_whole 204 = .ok (.goto 16, 3) := by decide +kernel
theorem dX3_whole_207 : decode cX3_whole 207 = .ok (.iload_n 3, 1) := by decide +kernel
theorem dX3_whole_208 : decode cX3_whole 208 = .ok (.bipush 105, 2) := by decide +kernel
theorem dX3_whole_210 : decode cX3_whole 210 = .ok (.if_icmp .ne 9, 3) := by decide +kernel
theorem dX3_whole_213 : decode cX3_whole 213 = .ok (.ldc2_w 197, 3) := by decide +kernel
theorem dX3_whole_216 : decode cX3_whole 216 = .ok (.goto 4, 3) := by decide +kernel
theorem dX3_whole_219 : decode cX3_whole 219 = .ok (.lconst 1, 1) := by decide +kernel
theorem dX3_whole_220 : decode cX3_whole 220 = .ok (.ldiv, 1) := by decide +kernel
theorem dX3_whole_221 : decode cX3_whole 221 = .ok (.lstore 12, 2) := by decide +kernel
theorem dX3_whole_223 : decode cX3_whole 223 = .ok (.iload 4, 2) := by decide +kernel
theorem dX3_whole_225 : decode cX3_whole 225 = .ok (.ifCond .eq 9, 3) := by decide +kernel
theorem dX3_whole_228 : decode cX3_whole 228 = .ok (.lload 12, 2) := by decide +kernel
theorem dX3_whole_230 : decode cX3_whole 230 = .ok (.lneg, 1) := by decide +kernel
theorem dX3_whole_231 : decode cX3_whole 231 = .ok (.goto 5, 3) := by decide +kernel
theorem dX3_whole_234 : decode cX3_whole 234 = .ok (.lload 12, 2) := by decide +kernel
theorem dX3_whole_236 : decode cX3_whole 236 = .ok (.lreturn, 1) := by decide +kernel
set_option maxRecDepth 20000 in
theorem ggX3_orderMoments_X3_isSlot : GoodIn wsX3_orderMoments wsX3_isSlot := goodIn_r _ [4, 5, 6, 7, 3, 8] (by decide +kernel) (by decide +kernel)
set_option maxRecDepth 20000 in
theorem gX3_orderMoments_X3_isSlot : GoodIn wsX3_orderMoments (va_wsS RX3 174 yX3_isSlot wsX3_isSlot) := goodIn_app (goodIn_of _ (by decide +kernel)) ggX3_orderMoments_X3_isSlot
set_option maxRecDepth 20000 in
theorem ggX3_orderMoments_X3_fails : GoodIn wsX3_orderMoments wsX3_fails := goodIn_r _ [12, 13, 20, 21, 22, 23, 24, 25, 26, 27, 28, 29, 30, 31, 32, 33] (by decide +kernel) (by decide +kernel)
set_option maxRecDepth 20000 in
theorem gX3_orderMoments_X3_fails : GoodIn wsX3_orderMoments (wsV RX3 125 RX3 yX3_fails wsX3_fails) := goodIn_app (goodIn_of _ (by decide +kernel)) ggX3_orderMoments_X3_fails
set_option maxRecDepth 20000 in
theorem ggX3_orderMoments_X3_isAhead : GoodIn wsX3_orderMoments wsX3_isAhead := goodIn_ca (goodIn_r _ [17, 18, 19, 20, 21, 22, 23, 24, 25, 26, 27, 28, 29, 30, 31, 32, 33] (by decide +kernel) (by decide +kernel)) (goodIn_sub (fun _ h => List.mem_cons_of_mem _ (List.mem_append_right _ h)) (by decide +kernel))
set_option maxRecDepth 20000 in
theorem gX3_orderMoments_X3_isAhead : GoodIn wsX3_orderMoments (wsV RX3 233 RX3 yX3_isAhead wsX3_isAhead) := goodIn_app (goodIn_of _ (by decide +kernel)) ggX3_orderMoments_X3_isAhead
theorem dX3_orderMoments_0 : decode cX3_orderMoments 0 = .ok (.aload_n 0, 1) := by decide +kernel
theorem dX3_orderMoments_1 : decode cX3_orderMoments 1 = .ok (.iload_n 1, 1) := by decide +kernel
theorem dX3_orderMoments_2 : decode cX3_orderMoments 2 = .ok (.invokestatic 174, 3) := by decide +kernel
theorem dX3_orderMoments_5 : decode cX3_orderMoments 5 = .ok (.ifCond .eq 14, 3) := by decide +kernel
theorem dX3_orderMoments_8 : decode cX3_orderMoments 8 = .ok (.iload_n 2, 1) := by decide +kernel
theorem dX3_orderMoments_9 : decode cX3_orderMoments 9 = .ok (.invokestatic 174, 3) := by decide +kernel
theorem dX3_orderMoments_12 : decode cX3_orderMoments 12 = .ok (.ifCond .eq 7, 3) := by decide +kernel
theorem dX3_orderMoments_15 : decode cX3_orderMoments 15 = .ok (.iconst 0, 1) := by decide +kernel
theorem dX3_orderMoments_16 : decode cX3_orderMoments 16 = .ok (.goto 4, 3) := by decide +kernel
theorem dX3_orderMoments_19 : decode cX3_orderMoments 19 = .ok (.iconst 1, 1) := by decide +kernel
theorem dX3_orderMoments_20 : decode cX3_orderMoments 20 = .ok (.invokevirtual 125, 3) := by decide +kernel
theorem dX3_orderMoments_23 : decode cX3_orderMoments 23 = .ok (.ifCond .eq 7, 3) := by decide +kernel
theorem dX3_orderMoments_26 : decode cX3_orderMoments 26 = .ok (.iconst 0, 1) := by decide +kernel
theorem dX3_orderMoments_27 : decode cX3_orderMoments 27 = .ok (.goto 30, 3) := by decide +kernel
theorem dX3_orderMoments_30 : decode cX3_orderMoments 30 = .ok (.aload_n 0, 1) := by decide +kernel
theorem dX3_orderMoments_31 : decode cX3_orderMoments 31 = .ok (.iload_n 1, 1) := by decide +kernel
theorem dX3_orderMoments_32 : decode cX3_orderMoments 32 = .ok (.iload_n 2, 1) := by decide +kernel
theorem dX3_orderMoments_33 : decode cX3_orderMoments 33 = .ok (.invokevirtual 233, 3) := by decide +kernel
theorem dX3_orderMoments_36 : decode cX3_orderMoments 36 = .ok (.ifCond .eq 7, 3) := by decide +kernel
theorem dX3_orderMoments_39 : decode cX3_orderMoments 39 = .ok (.iconst (-1), 1) := by decide +kernel
theorem dX3_orderMoments_40 : decode cX3_orderMoments 40 = .ok (.goto 17, 3) := by decide +kernel
theorem dX3_orderMoments_43 : decode cX3_orderMoments 43 = .ok (.aload_n 0, 1) := by decide +kernel
theorem dX3_orderMoments_44 : decode cX3_orderMoments 44 = .ok (.iload_n 2, 1) := by decide +kernel
theorem dX3_orderMoments_45 : decode cX3_orderMoments 45 = .ok (.iload_n 1, 1) := by decide +kernel
theorem dX3_orderMoments_46 : decode cX3_orderMoments 46 = .ok (.invokevirtual 233, 3) := by decide +kernel
theorem dX3_orderMoments_49 : decode cX3_orderMoments 49 = .ok (.ifCond .eq 7, 3) := by decide +kernel
theorem dX3_orderMoments_52 : decode cX3_orderMoments 52 = .ok (.iconst 1, 1) := by decide +kernel
theorem dX3_orderMoments_53 : decode cX3_orderMoments 53 = .ok (.goto 4, 3) := by decide +kernel
theorem dX3_orderMoments_56 : decode cX3_orderMoments 56 = .ok (.iconst 0, 1) := by decide +kernel
theorem dX3_orderMoments_57 : decode cX3_orderMoments 57 = .ok (.ireturn, 1) := by decide +kernel
set_option maxRecDepth 20000 in
theorem ggX3_longShare_X3_parts : GoodIn wsX3_longShare wsX3_parts := goodIn_r _ [9, 10, 11, 12, 3, 13, 14, 15, 16, 8, 17, 18, 19, 20, 21, 22, 23, 24, 25, 26, 27, 28, 29, 30, 31, 32, 33, 34, 35, 36, 37, 38, 39, 40, 41, 42, 43, 44, 45, 46, 47, 48, 49, 50, 51, 52] (by decide +kernel) (by decide +kernel)
set_option maxRecDepth 20000 in
theorem gX3_longShare_X3_parts : GoodIn wsX3_longShare (wsV RX3 104 RX3 yX3_parts wsX3_parts) := goodIn_app (goodIn_of _ (by decide +kernel)) ggX3_longShare_X3_parts
set_option maxRecDepth 20000 in
theorem ggX3_longShare_X3_isLong : GoodIn wsX3_longShare wsX3_isLong := goodIn_r _ [35, 26, 28, 11, 36, 37, 8, 38, 15, 16, 17] (by decide +kernel) (by decide +kernel)
set_option maxRecDepth 20000 in
theorem gX3_longShare_X3_isLong : GoodIn wsX3_longShare (va_wsS RX3 73 yX3_isLong wsX3_isLong) := goodIn_app (goodIn_of _ (by decide +kernel)) ggX3_longShare_X3_isLong
theorem dX3_longShare_0 : decode cX3_longShare 0 = .ok (.aload_n 0, 1) := by decide +kernel
theorem dX3_longShare_1 : decode cX3_longShare 1 = .ok (.iconst 0, 1) := by decide +kernel
theorem dX3_longShare_2 : decode cX3_longShare 2 = .ok (.putfield 1, 3) := by decide +kernel
theorem dX3_longShare_5 : decode cX3_longShare 5 = .ok (.iconst 0, 1) := by decide +kernel
theorem dX3_longShare_6 : decode cX3_longShare 6 = .ok (.istore_n 1, 1) := by decide +kernel
theorem dX3_longShare_7 : decode cX3_longShare 7 = .ok (.iconst 0, 1) := by decide +kernel
theorem dX3_longShare_8 : decode cX3_longShare 8 = .ok (.istore_n 2, 1) := by decide +kernel
theorem dX3_longShare_9 : decode cX3_longShare 9 = .ok (.iload_n 2, 1) := by decide +kernel
theorem dX3_longShare_10 : decode cX3_longShare 10 = .ok (.bipush 6, 2) := by decide +kernel
theorem dX3_longShare_12 : decode cX3_longShare 12 = .ok (.if_icmp .ge 37, 3) := by decide +kernel
theorem dX3_longShare_15 : decode cX3_longShare 15 = .ok (.aload_n 0, 1) := by decide +kernel
theorem dX3_longShare_16 : decode cX3_longShare 16 = .ok (.aload_n 0, 1) := by decide +kernel
theorem dX3_longShare_17 : decode cX3_longShare 17 = .ok (.getfield 13, 3) := by decide +kernel
theorem dX3_longShare_20 : decode cX3_longShare 20 = .ok (.iload_n 2, 1) := by decide +kernel
theorem dX3_longShare_21 : decode cX3_longShare 21 = .ok (.laload, 1) := by decide +kernel
theorem dX3_longShare_22 : decode cX3_longShare 22 = .ok (.invokevirtual 104, 3) := by decide +kernel
theorem dX3_longShare_25 : decode cX3_longShare 25 = .ok (.iload_n 1, 1) := by decide +kernel
theorem dX3_longShare_26 : decode cX3_longShare 26 = .ok (.aload_n 0, 1) := by decide +kernel
theorem dX3_longShare_27 : decode cX3_longShare 27 = .ok (.getfield 86, 3) := by decide +kernel
theorem dX3_longShare_30 : decode cX3_longShare 30 = .ok (.invokestatic 73, 3) := by decide +kernel
theorem dX3_longShare_33 : decode cX3_longShare 33 = .ok (.ifCond .eq 7, 3) := by decide +kernel
theorem dX3_longShare_36 : decode cX3_longShare 36 = .ok (.iconst 1, 1) := by decide +kernel
theorem dX3_longShare_37 : decode cX3_longShare 37 = .ok (.goto 4, 3) := by decide +kernel
theorem dX3_longShare_40 : decode cX3_longShare 40 = .ok (.iconst 0, 1) := by decide +kernel
theorem dX3_longShare_41 : decode cX3_longShare 41 = .ok (.iadd, 1) := by decide +kernel
theorem dX3_longShare_42 : decode cX3_longShare 42 = .ok (.istore_n 1, 1) := by decide +kernel
theorem dX3_longShare_43 : decode cX3_longShare 43 = .ok (.iinc 2 1, 3) := by decide +kernel
theorem dX3_longShare_46 : decode cX3_longShare 46 = .ok (.goto (-37), 3) := by decide +kernel
theorem dX3_longShare_49 : decode cX3_longShare 49 = .ok (.iload_n 1, 1) := by decide +kernel
theorem dX3_longShare_50 : decode cX3_longShare 50 = .ok (.i2f, 1) := by decide +kernel
theorem dX3_longShare_51 : decode cX3_longShare 51 = .ok (.ldc 237, 2) := by decide +kernel
theorem dX3_longShare_53 : decode cX3_longShare 53 = .ok (.fdiv, 1) := by decide +kernel
theorem dX3_longShare_54 : decode cX3_longShare 54 = .ok (.freturn, 1) := by decide +kernel
theorem dX3_meanDay_0 : decode cX3_meanDay 0 = .ok (.aload_n 0, 1) := by decide +kernel
theorem dX3_meanDay_1 : decode cX3_meanDay 1 = .ok (.iconst 0, 1) := by decide +kernel
theorem dX3_meanDay_2 : decode cX3_meanDay 2 = .ok (.putfield 1, 3) := by decide +kernel
theorem dX3_meanDay_5 : decode cX3_meanDay 5 = .ok (.lconst 0, 1) := by decide +kernel
theorem dX3_meanDay_6 : decode cX3_meanDay 6 = .ok (.lstore_n 1, 1) := by decide +kernel
theorem dX3_meanDay_7 : decode cX3_meanDay 7 = .ok (.iconst 0, 1) := by decide +kernel
theorem dX3_meanDay_8 : decode cX3_meanDay 8 = .ok (.istore_n 3, 1) := by decide +kernel
theorem dX3_meanDay_9 : decode cX3_meanDay 9 = .ok (.iload_n 3, 1) := by decide +kernel
theorem dX3_meanDay_10 : decode cX3_meanDay 10 = .ok (.bipush 6, 2) := by decide +kernel
theorem dX3_meanDay_12 : decode cX3_meanDay 12 = .ok (.if_icmp .ge 18, 3) := by decide +kernel
theorem dX3_meanDay_15 : decode cX3_meanDay 15 = .ok (.lload_n 1, 1) := by decide +kernel
theorem dX3_meanDay_16 : decode cX3_meanDay 16 = .ok (.aload_n 0, 1) := by decide +kernel
theorem dX3_meanDay_17 : decode cX3_meanDay 17 = .ok (.getfield 13, 3) := by decide +kernel
theorem dX3_meanDay_20 : decode cX3_meanDay 20 = .ok (.iload_n 3, 1) := by decide +kernel
theorem dX3_meanDay_21 : decode cX3_meanDay 21 = .ok (.laload, 1) := by decide +kernel
theorem dX3_meanDay_22 : decode cX3_meanDay 22 = .ok (.ladd, 1) := by decide +kernel
theorem dX3_meanDay_23 : decode cX3_meanDay 23 = .ok (.lstore_n 1, 1) := by decide +kernel
theorem dX3_meanDay_24 : decode cX3_meanDay 24 = .ok (.iinc 3 1, 3) := by decide +kernel
theorem dX3_meanDay_27 : decode cX3_meanDay 27 = .ok (.goto (-18), 3) := by decide +kernel
theorem dX3_meanDay_30 : decode cX3_meanDay 30 = .ok (.lload_n 1, 1) := by decide +kernel
theorem dX3_meanDay_31 : decode cX3_meanDay 31 = .ok (.l2d, 1) := by decide +kernel
theorem dX3_meanDay_32 : decode cX3_meanDay 32 = .ok (.ldc2_w 238, 3) := by decide +kernel
theorem dX3_meanDay_35 : decode cX3_meanDay 35 = .ok (.ddiv, 1) := by decide +kernel
theorem dX3_meanDay_36 : decode cX3_meanDay 36 = .ok (.dreturn, 1) := by decide +kernel
set_option maxRecDepth 20000 in
theorem ggX3_checksum_X3_floor : GoodIn wsX3_checksum wsX3_floor := goodIn_r _ [18] (by decide +kernel) (by decide +kernel)
set_option maxRecDepth 20000 in
theorem gX3_checksum_X3_floor : GoodIn wsX3_checksum (va_wsS RX3 46 yX3_floor wsX3_floor) := goodIn_app (goodIn_of _ (by decide +kernel)) ggX3_checksum_X3_floor
set_option maxRecDepth 20000 in
theorem ggX3_checksum_X3_rest : GoodIn wsX3_checksum wsX3_rest := goodIn_r _ [21, 15, 16, 17, 18] (by decide +kernel) (by decide +kernel)
set_option maxRecDepth 20000 in
theorem gX3_checksum_X3_rest : GoodIn wsX3_checksum (va_wsS RX3 52 yX3_rest wsX3_rest) := goodIn_app (goodIn_of _ (by decide +kernel)) ggX3_checksum_X3_rest
theorem dX3_checksum_0 : decode cX3_checksum 0 = .ok (.aload_n 0, 1) := by decide +kernel
theorem dX3_checksum_1 : decode cX3_checksum 1 = .ok (.iconst 0, 1) := by decide +kernel
theorem dX3_checksum_2 : decode cX3_checksum 2 = .ok (.putfield 1, 3) := by decide +kernel
theorem dX3_checksum_5 : decode cX3_checksum 5 = .ok (.ldc2_w 111, 3) := by decide +kernel
theorem dX3_checksum_8 : decode cX3_checksum 8 = .ok (.lstore_n 1, 1) := by decide +kernel
theorem dX3_checksum_9 : decode cX3_checksum 9 = .ok (.iconst 0, 1) := by decide +kernel
theorem dX3_checksum_10 : decode cX3_checksum 10 = .ok (.istore_n 3, 1) := by decide +kernel
theorem dX3_checksum_11 : decode cX3_checksum 11 = .ok (.iload_n 3, 1) := by decide +kernel
theorem dX3_checksum_12 : decode cX3_checksum 12 = .ok (.bipush 6, 2) := by decide +kernel
theorem dX3_checksum_14 : decode cX3_checksum 14 = .ok (.if_icmp .ge 22, 3) := by decide +kernel
theorem dX3_checksum_17 : decode cX3_checksum 17 = .ok (.ldc2_w 240, 3) := by decide +kernel
theorem dX3_checksum_20 : decode cX3_checksum 20 = .ok (.lload_n 1, 1) := by decide +kernel
theorem dX3_checksum_21 : decode cX3_checksum 21 = .ok (.lmul, 1) := by decide +kernel
theorem dX3_checksum_22 : decode cX3_checksum 22 = .ok (.aload_n 0, 1) := by decide +kernel
theorem dX3_checksum_23 : decode cX3_checksum 23 = .ok (.getfield 13, 3) := by decide +kernel
theorem dX3_checksum_26 : decode cX3_checksum 26 = .ok (.iload_n 3, 1) := by decide +kernel
theorem dX3_checksum_27 : decode cX3_checksum 27 = .ok (.laload, 1) := by decide +kernel
theorem dX3_checksum_28 : decode cX3_checksum 28 = .ok (.ladd, 1) := by decide +kernel
theorem dX3_checksum_29 : decode cX3_checksum 29 = .ok (.lstore_n 1, 1) := by decide +kernel
theorem dX3_checksum_30 : decode cX3_checksum 30 = .ok (.iinc 3 1, 3) := by decide +kernel
theorem dX3_checksum_33 : decode cX3_checksum 33 = .ok (.goto (-22), 3) := by decide +kernel
theorem dX3_checksum_36 : decode cX3_checksum 36 = .ok (.iconst 0, 1) := by decide +kernel
theorem dX3_checksum_37 : decode cX3_checksum 37 = .ok (.istore_n 3, 1) := by decide +kernel
theorem dX3_checksum_38 : decode cX3_checksum 38 = .ok (.iload_n 3, 1) := by decide +kernel
theorem dX3_checksum_39 : decode cX3_checksum 39 = .ok (.iconst 4, 1) := by decide +kernel
theorem dX3_checksum_40 : decode cX3_checksum 40 = .ok (.if_icmp .ge 44, 3) := by decide +kernel
theorem dX3_checksum_43 : decode cX3_checksum 43 = .ok (.ldc2_w 240, 3) := by decide +kernel
theorem dX3_checksum_46 : decode cX3_checksum 46 = .ok (.ldc2_w 240, 3) := by decide +kernel
theorem dX3_checksum_49 : decode cX3_checksum 49 = .ok (.ldc2_w 240, 3) := by decide +kernel
theorem dX3_checksum_52 : decode cX3_checksum 52 = .ok (.lload_n 1, 1) := by decide +kernel
theorem dX3_checksum_53 : decode cX3_checksum 53 = .ok (.lmul, 1) := by decide +kernel
theorem dX3_checksum_54 : decode cX3_checksum 54 = .ok (.aload_n 0, 1) := by decide +kernel
theorem dX3_checksum_55 : decode cX3_checksum 55 = .ok (.getfield 32, 3) := by decide +kernel
theorem dX3_checksum_58 : decode cX3_checksum 58 = .ok (.iload_n 3, 1) := by decide +kernel
theorem dX3_checksum_59 : decode cX3_checksum 59 = .ok (.laload, 1) := by decide +kernel
theorem dX3_checksum_60 : decode cX3_checksum 60 = .ok (.ladd, 1) := by decide +kernel
theorem dX3_checksum_61 : decode cX3_checksum 61 = .ok (.lmul, 1) := by decide +kernel
theorem dX3_checksum_62 : decode cX3_checksum 62 = .ok (.aload_n 0, 1) := by decide +kernel
theorem dX3_checksum_63 : decode cX3_checksum 63 = .ok (.getfield 35, 3) := by decide +kernel
theorem dX3_checksum_66 : decode cX3_checksum 66 = .ok (.iload_n 3, 1) := by decide +kernel
theorem dX3_checksum_67 : decode cX3_checksum 67 = .ok (.laload, 1) := by decide +kernel
theorem dX3_checksum_68 : decode cX3_checksum 68 = .ok (.ladd, 1) := by decide +kernel
theorem dX3_checksum_69 : decode cX3_checksum 69 = .ok (.lmul, 1) := by decide +kernel
theorem dX3_checksum_70 : decode cX3_checksum 70 = .ok (.aload_n 0, 1) := by decide +kernel
theorem dX3_checksum_71 : decode cX3_checksum 71 = .ok (.getfield 38, 3) := by decide +kernel
theorem dX3_checksum_74 : decode cX3_checksum 74 = .ok (.iload_n 3, 1) := by decide +kernel
theorem dX3_checksum_75 : decode cX3_checksum 75 = .ok (.laload, 1) := by decide +kernel
theorem dX3_checksum_76 : decode cX3_checksum 76 = .ok (.ladd, 1) := by decide +kernel
theorem dX3_checksum_77 : decode cX3_checksum 77 = .ok (.lstore_n 1, 1) := by decide +kernel
theorem dX3_checksum_78 : decode cX3_checksum 78 = .ok (.iinc 3 1, 3) := by decide +kernel
theorem dX3_checksum_81 : decode cX3_checksum 81 = .ok (.goto (-43), 3) := by decide +kernel
theorem dX3_checksum_84 : decode cX3_checksum 84 = .ok (.iconst 0, 1) := by decide +kernel
theorem dX3_checksum_85 : decode cX3_checksum 85 = .ok (.istore_n 3, 1) := by decide +kernel
theorem dX3_checksum_86 : decode cX3_checksum 86 = .ok (.iload_n 3, 1) := by decide +kernel
theorem dX3_checksum_87 : decode cX3_checksum 87 = .ok (.iconst 4, 1) := by decide +kernel
theorem dX3_checksum_88 : decode cX3_checksum 88 = .ok (.if_icmp .ge 47, 3) := by decide +kernel
theorem dX3_checksum_91 : decode cX3_checksum 91 = .ok (.ldc2_w 240, 3) := by decide +kernel
theorem dX3_checksum_94 : decode cX3_checksum 94 = .ok (.ldc2_w 240, 3) := by decide +kernel
theorem dX3_checksum_97 : decode cX3_checksum 97 = .ok (.lload_n 1, 1) := by decide +kernel
theorem dX3_checksum_98 : decode cX3_checksum 98 = .ok (.lmul, 1) := by decide +kernel
theorem dX3_checksum_99 : decode cX3_checksum 99 = .ok (.aload_n 0, 1) := by decide +kernel
theorem dX3_checksum_100 : decode cX3_checksum 100 = .ok (.getfield 41, 3) := by decide +kernel
theorem dX3_checksum_103 : decode cX3_checksum 103 = .ok (.iload_n 3, 1) := by decide +kernel
theorem dX3_checksum_104 : decode cX3_checksum 104 = .ok (.laload, 1) := by decide +kernel
theorem dX3_checksum_105 : decode cX3_checksum 105 = .ok (.ldc2_w 113, 3) := by decide +kernel
theorem dX3_checksum_108 : decode cX3_checksum 108 = .ok (.invokestatic 46, 3) := by decide +kernel
theorem dX3_checksum_111 : decode cX3_checksum 111 = .ok (.ladd, 1) := by decide +kernel
theorem dX3_checksum_112 : decode cX3_checksum 112 = .ok (.lmul, 1) := by decide +kernel
theorem dX3_checksum_113 : decode cX3_checksum 113 = .ok (.lconst 1, 1) := by decide +kernel
theorem dX3_checksum_114 : decode cX3_checksum 114 = .ok (.ladd, 1) := by decide +kernel
theorem dX3_checksum_115 : decode cX3_checksum 115 = .ok (.aload_n 0, 1) := by decide +kernel
theorem dX3_checksum_116 : decode cX3_checksum 116 = .ok (.getfield 41, 3) := by decide +kernel
theorem dX3_checksum_119 : decode cX3_checksum 119 = .ok (.iload_n 3, 1) := by decide +kernel
theorem dX3_checksum_120 : decode cX3_checksum 120 = .ok (.laload, 1) := by decide +kernel
theorem dX3_checksum_121 : decode cX3_checksum 121 = .ok (.ldc2_w 113, 3) := by decide +kernel
theorem dX3_checksum_124 : decode cX3_checksum 124 = .ok (.invokestatic 52, 3) := by decide +kernel
theorem dX3_checksum_127 : decode cX3_checksum 127 = .ok (.ladd, 1) := by decide +kernel
theorem dX3_checksum_128 : decode cX3_checksum 128 = .ok (.lstore_n 1, 1) := by decide +kernel
theorem dX3_checksum_129 : decode cX3_checksum 129 = .ok (.iinc 3 1, 3) := by decide +kernel
theorem dX3_checksum_132 : decode cX3_checksum 132 = .ok (.goto (-46), 3) := by decide +kernel
theorem dX3_checksum_135 : decode cX3_checksum 135 = .ok (.iconst 0, 1) := by decide +kernel
theorem dX3_checksum_136 : decode cX3_checksum 136 = .ok (.istore_n 3, 1) := by decide +kernel
theorem dX3_checksum_137 : decode cX3_checksum 137 = .ok (.iload_n 3, 1) := by decide +kernel
theorem dX3_checksum_138 : decode cX3_checksum 138 = .ok (.iconst 4, 1) := by decide +kernel
theorem dX3_checksum_139 : decode cX3_checksum 139 = .ok (.if_icmp .ge 22, 3) := by decide +kernel
theorem dX3_checksum_142 : decode cX3_checksum 142 = .ok (.ldc2_w 240, 3) := by decide +kernel
theorem dX3_checksum_145 : decode cX3_checksum 145 = .ok (.lload_n 1, 1) := by decide +kernel
theorem dX3_checksum_146 : decode cX3_checksum 146 = .ok (.lmul, 1) := by decide +kernel
theorem dX3_checksum_147 : decode cX3_checksum 147 = .ok (.aload_n 0, 1) := by decide +kernel
theorem dX3_checksum_148 : decode cX3_checksum 148 = .ok (.getfield 17, 3) := by decide +kernel
theorem dX3_checksum_151 : decode cX3_checksum 151 = .ok (.iload_n 3, 1) := by decide +kernel
theorem dX3_checksum_152 : decode cX3_checksum 152 = .ok (.laload, 1) := by decide +kernel
theorem dX3_checksum_153 : decode cX3_checksum 153 = .ok (.ladd, 1) := by decide +kernel
theorem dX3_checksum_154 : decode cX3_checksum 154 = .ok (.lstore_n 1, 1) := by decide +kernel
theorem dX3_checksum_155 : decode cX3_checksum 155 = .ok (.iinc 3 1, 3) := by decide +kernel
theorem dX3_checksum_158 : decode cX3_checksum 158 = .ok (.goto (-21), 3) := by decide +kernel
theorem dX3_checksum_161 : decode cX3_checksum 161 = .ok (.iconst 0, 1) := by decide +kernel
theorem dX3_checksum_162 : decode cX3_checksum 162 = .ok (.istore_n 3, 1) := by decide +kernel
theorem dX3_checksum_163 : decode cX3_checksum 163 = .ok (.iload_n 3, 1) := by decide +kernel
theorem dX3_checksum_164 : decode cX3_checksum 164 = .ok (.iconst 4, 1) := by decide +kernel
theorem dX3_checksum_165 : decode cX3_checksum 165 = .ok (.if_icmp .ge 33, 3) := by decide +kernel
theorem dX3_checksum_168 : decode cX3_checksum 168 = .ok (.ldc2_w 240, 3) := by decide +kernel
theorem dX3_checksum_171 : decode cX3_checksum 171 = .ok (.ldc2_w 240, 3) := by decide +kernel
theorem dX3_checksum_174 : decode cX3_checksum 174 = .ok (.lload_n 1, 1) := by decide +kernel
theorem dX3_checksum_175 : decode cX3_checksum 175 = .ok (.lmul, 1) := by decide +kernel
theorem dX3_checksum_176 : decode cX3_checksum 176 = .ok (.aload_n 0, 1) := by decide +kernel
theorem dX3_checksum_177 : decode cX3_checksum 177 = .ok (.getfield 20, 3) := by decide +kernel
theorem dX3_checksum_180 : decode cX3_checksum 180 = .ok (.iload_n 3, 1) := by decide +kernel
theorem dX3_checksum_181 : decode cX3_checksum 181 = .ok (.laload, 1) := by decide +kernel
theorem dX3_checksum_182 : decode cX3_checksum 182 = .ok (.ladd, 1) := by decide +kernel
theorem dX3_checksum_183 : decode cX3_checksum 183 = .ok (.lmul, 1) := by decide +kernel
theorem dX3_checksum_184 : decode cX3_checksum 184 = .ok (.aload_n 0, 1) := by decide +kernel
theorem dX3_checksum_185 : decode cX3_checksum 185 = .ok (.getfield 23, 3) := by decide +kernel
theorem dX3_checksum_188 : decode cX3_checksum 188 = .ok (.iload_n 3, 1) := by decide +kernel
theorem dX3_checksum_189 : decode cX3_checksum 189 = .ok (.laload, 1) := by decide +kernel
theorem dX3_checksum_190 : decode cX3_checksum 190 = .ok (.ladd, 1) := by decide +kernel
theorem dX3_checksum_191 : decode cX3_checksum 191 = .ok (.lstore_n 1, 1) := by decide +kernel
theorem dX3_checksum_192 : decode cX3_checksum 192 = .ok (.iinc 3 1, 3) := by decide +kernel
theorem dX3_checksum_195 : decode cX3_checksum 195 = .ok (.goto (-32), 3) := by decide +kernel
theorem dX3_checksum_198 : decode cX3_checksum 198 = .ok (.iconst 0, 1) := by decide +kernel
theorem dX3_checksum_199 : decode cX3_checksum 199 = .ok (.istore_n 3, 1) := by decide +kernel
theorem dX3_checksum_200 : decode cX3_checksum 200 = .ok (.iload_n 3, 1) := by decide +kernel
theorem dX3_checksum_201 : decode cX3_checksum 201 = .ok (.iconst 4, 1) := by decide +kernel
theorem dX3_checksum_202 : decode cX3_checksum 202 = .ok (.if_icmp .ge 33, 3) := by decide +kernel
theorem dX3_checksum_205 : decode cX3_checksum 205 = .ok (.ldc2_w 240, 3) := by decide +kernel
theorem dX3_checksum_208 : decode cX3_checksum 208 = .ok (.ldc2_w 240, 3) := by decide +kernel
theorem dX3_checksum_211 : decode cX3_checksum 211 = .ok (.lload_n 1, 1) := by decide +kernel
theorem dX3_checksum_212 : decode cX3_checksum 212 = .ok (.lmul, 1) := by decide +kernel
theorem dX3_checksum_213 : decode cX3_checksum 213 = .ok (.aload_n 0, 1) := by decide +kernel
theorem dX3_checksum_214 : decode cX3_checksum 214 = .ok (.getfield 26, 3) := by decide +kernel
theorem dX3_checksum_217 : decode cX3_checksum 217 = .ok (.iload_n 3, 1) := by decide +kernel
theorem dX3_checksum_218 : decode cX3_checksum 218 = .ok (.laload, 1) := by decide +kernel
theorem dX3_checksum_219 : decode cX3_checksum 219 = .ok (.ladd, 1) := by decide +kernel
theorem dX3_checksum_220 : decode cX3_checksum 220 = .ok (.lmul, 1) := by decide +kernel
theorem dX3_checksum_221 : decode cX3_checksum 221 = .ok (.aload_n 0, 1) := by decide +kernel
theorem dX3_checksum_222 : decode cX3_checksum 222 = .ok (.getfield 29, 3) := by decide +kernel
theorem dX3_checksum_225 : decode cX3_checksum 225 = .ok (.iload_n 3, 1) := by decide +kernel
theorem dX3_checksum_226 : decode cX3_checksum 226 = .ok (.laload, 1) := by decide +kernel
theorem dX3_checksum_227 : decode cX3_checksum 227 = .ok (.ladd, 1) := by decide +kernel
theorem dX3_checksum_228 : decode cX3_checksum 228 = .ok (.lstore_n 1, 1) := by decide +kernel
theorem dX3_checksum_229 : decode cX3_checksum 229 = .ok (.iinc 3 1, 3) := by decide +kernel
theorem dX3_checksum_232 : decode cX3_checksum 232 = .ok (.goto (-32), 3) := by decide +kernel
theorem dX3_checksum_235 : decode cX3_checksum 235 = .ok (.lload_n 1, 1) := by decide +kernel
theorem dX3_checksum_236 : decode cX3_checksum 236 = .ok (.lreturn, 1) := by decide +kernel
theorem dX3_isSound_0 : decode cX3_isSound 0 = .ok (.aload_n 0, 1) := by decide +kernel
theorem dX3_isSound_1 : decode cX3_isSound 1 = .ok (.iconst 0, 1) := by decide +kernel
theorem dX3_isSound_2 : decode cX3_isSound 2 = .ok (.putfield 1, 3) := by decide +kernel
theorem dX3_isSound_5 : decode cX3_isSound 5 = .ok (.iconst 1, 1) := by decide +kernel
theorem dX3_isSound_6 : decode cX3_isSound 6 = .ok (.ireturn, 1) := by decide +kernel
theorem dJx00060_init_a7421_0 : decode cJx00060_init_a7421 0 = .ok (.aload_n 0, 1) := by decide +kernel
theorem dJx00060_init_a7421_1 : decode cJx00060_init_a7421 1 = .ok (.aload_n 1, 1) := by decide +kernel
theorem dJx00060_init_a7421_2 : decode cJx00060_init_a7421 2 = .ok (.invokespecial 7, 3) := by decide +kernel
theorem dJx00060_init_a7421_5 : decode cJx00060_init_a7421 5 = .ok (.return_, 1) := by decide +kernel
theorem dJ9_floorDiv_f86c9_0 : decode cJ9_floorDiv_f86c9 0 = .ok (.lload_n 0, 1) := by decide +kernel
theorem dJ9_floorDiv_f86c9_1 : decode cJ9_floorDiv_f86c9 1 = .ok (.lload_n 2, 1) := by decide +kernel
theorem dJ9_floorDiv_f86c9_2 : decode cJ9_floorDiv_f86c9 2 = .ok (.ldiv, 1) := by decide +kernel
theorem dJ9_floorDiv_f86c9_3 : decode cJ9_floorDiv_f86c9 3 = .ok (.lstore 4, 2) := by decide +kernel
theorem dJ9_floorDiv_f86c9_5 : decode cJ9_floorDiv_f86c9 5 = .ok (.lload_n 0, 1) := by decide +kernel
theorem dJ9_floorDiv_f86c9_6 : decode cJ9_floorDiv_f86c9 6 = .ok (.lload_n 2, 1) := by decide +kernel
theorem dJ9_floorDiv_f86c9_7 : decode cJ9_floorDiv_f86c9 7 = .ok (.lxor, 1) := by decide +kernel
theorem dJ9_floorDiv_f86c9_8 : decode cJ9_floorDiv_f86c9 8 = .ok (.lconst 0, 1) := by decide +kernel
theorem dJ9_floorDiv_f86c9_9 : decode cJ9_floorDiv_f86c9 9 = .ok (.lcmp, 1) := by decide +kernel
theorem dJ9_floorDiv_f86c9_10 : decode cJ9_floorDiv_f86c9 10 = .ok (.ifCond .ge 17, 3) := by decide +kernel
theorem dJ9_floorDiv_f86c9_13 : decode cJ9_floorDiv_f86c9 13 = .ok (.lload 4, 2) := by decide +kernel
theorem dJ9_floorDiv_f86c9_15 : decode cJ9_floorDiv_f86c9 15 = .ok (.lload_n 2, 1) := by decide +kernel
theorem dJ9_floorDiv_f86c9_16 : decode cJ9_floorDiv_f86c9 16 = .ok (.lmul, 1) := by decide +kernel
theorem dJ9_floorDiv_f86c9_17 : decode cJ9_floorDiv_f86c9 17 = .ok (.lload_n 0, 1) := by decide +kernel
theorem dJ9_floorDiv_f86c9_18 : decode cJ9_floorDiv_f86c9 18 = .ok (.lcmp, 1) := by decide +kernel
theorem dJ9_floorDiv_f86c9_19 : decode cJ9_floorDiv_f86c9 19 = .ok (.ifCond .eq 8, 3) := by decide +kernel
theorem dJ9_floorDiv_f86c9_22 : decode cJ9_floorDiv_f86c9 22 = .ok (.lload 4, 2) := by decide +kernel
theorem dJ9_floorDiv_f86c9_24 : decode cJ9_floorDiv_f86c9 24 = .ok (.lconst 1, 1) := by decide +kernel
theorem dJ9_floorDiv_f86c9_25 : decode cJ9_floorDiv_f86c9 25 = .ok (.lsub, 1) := by decide +kernel
theorem dJ9_floorDiv_f86c9_26 : decode cJ9_floorDiv_f86c9 26 = .ok (.lreturn, 1) := by decide +kernel
theorem dJ9_floorDiv_f86c9_27 : decode cJ9_floorDiv_f86c9 27 = .ok (.lload 4, 2) := by decide +kernel
theorem dJ9_floorDiv_f86c9_29 : decode cJ9_floorDiv_f86c9 29 = .ok (.lreturn, 1) := by decide +kernel
theorem dJ9_floorMod_7cf53_0 : decode cJ9_floorMod_7cf53 0 = .ok (.iload_n 0, 1) := by decide +kernel
theorem dJ9_floorMod_7cf53_1 : decode cJ9_floorMod_7cf53 1 = .ok (.iload_n 1, 1) := by decide +kernel
theorem dJ9_floorMod_7cf53_2 : decode cJ9_floorMod_7cf53 2 = .ok (.irem, 1) := by decide +kernel
theorem dJ9_floorMod_7cf53_3 : decode cJ9_floorMod_7cf53 3 = .ok (.istore_n 2, 1) := by decide +kernel
theorem dJ9_floorMod_7cf53_4 : decode cJ9_floorMod_7cf53 4 = .ok (.iload_n 0, 1) := by decide +kernel
theorem dJ9_floorMod_7cf53_5 : decode cJ9_floorMod_7cf53 5 = .ok (.iload_n 1, 1) := by decide +kernel
theorem dJ9_floorMod_7cf53_6 : decode cJ9_floorMod_7cf53 6 = .ok (.ixor, 1) := by decide +kernel
theorem dJ9_floorMod_7cf53_7 : decode cJ9_floorMod_7cf53 7 = .ok (.ifCond .ge 11, 3) := by decide +kernel
theorem dJ9_floorMod_7cf53_10 : decode cJ9_floorMod_7cf53 10 = .ok (.iload_n 2, 1) := by decide +kernel
theorem dJ9_floorMod_7cf53_11 : decode cJ9_floorMod_7cf53 11 = .ok (.ifCond .eq 7, 3) := by decide +kernel
theorem dJ9_floorMod_7cf53_14 : decode cJ9_floorMod_7cf53 14 = .ok (.iload_n 2, 1) := by decide +kernel
theorem dJ9_floorMod_7cf53_15 : decode cJ9_floorMod_7cf53 15 = .ok (.iload_n 1, 1) := by decide +kernel
theorem dJ9_floorMod_7cf53_16 : decode cJ9_floorMod_7cf53 16 = .ok (.iadd, 1) := by decide +kernel
theorem dJ9_floorMod_7cf53_17 : decode cJ9_floorMod_7cf53 17 = .ok (.ireturn, 1) := by decide +kernel
theorem dJ9_floorMod_7cf53_18 : decode cJ9_floorMod_7cf53 18 = .ok (.iload_n 2, 1) := by decide +kernel
theorem dJ9_floorMod_7cf53_19 : decode cJ9_floorMod_7cf53 19 = .ok (.ireturn, 1) := by decide +kernel
theorem dJ9_floorMod_f86c9_0 : decode cJ9_floorMod_f86c9 0 = .ok (.lload_n 0, 1) := by decide +kernel
theorem dJ9_floorMod_f86c9_1 : decode cJ9_floorMod_f86c9 1 = .ok (.lload_n 2, 1) := by decide +kernel
theorem dJ9_floorMod_f86c9_2 : decode cJ9_floorMod_f86c9 2 = .ok (.lrem, 1) := by decide +kernel
theorem dJ9_floorMod_f86c9_3 : decode cJ9_floorMod_f86c9 3 = .ok (.lstore 4, 2) := by decide +kernel
theorem dJ9_floorMod_f86c9_5 : decode cJ9_floorMod_f86c9 5 = .ok (.lload_n 0, 1) := by decide +kernel
theorem dJ9_floorMod_f86c9_6 : decode cJ9_floorMod_f86c9 6 = .ok (.lload_n 2, 1) := by decide +kernel
theorem dJ9_floorMod_f86c9_7 : decode cJ9_floorMod_f86c9 7 = .ok (.lxor, 1) := by decide +kernel
theorem dJ9_floorMod_f86c9_8 : decode cJ9_floorMod_f86c9 8 = .ok (.lconst 0, 1) := by decide +kernel
theorem dJ9_floorMod_f86c9_9 : decode cJ9_floorMod_f86c9 9 = .ok (.lcmp, 1) := by decide +kernel
theorem dJ9_floorMod_f86c9_10 : decode cJ9_floorMod_f86c9 10 = .ok (.ifCond .ge 15, 3) := by decide +kernel
theorem dJ9_floorMod_f86c9_13 : decode cJ9_floorMod_f86c9 13 = .ok (.lload 4, 2) := by decide +kernel
theorem dJ9_floorMod_f86c9_15 : decode cJ9_floorMod_f86c9 15 = .ok (.lconst 0, 1) := by decide +kernel
theorem dJ9_floorMod_f86c9_16 : decode cJ9_floorMod_f86c9 16 = .ok (.lcmp, 1) := by decide +kernel
theorem dJ9_floorMod_f86c9_17 : decode cJ9_floorMod_f86c9 17 = .ok (.ifCond .eq 8, 3) := by decide +kernel
theorem dJ9_floorMod_f86c9_20 : decode cJ9_floorMod_f86c9 20 = .ok (.lload 4, 2) := by decide +kernel
theorem dJ9_floorMod_f86c9_22 : decode cJ9_floorMod_f86c9 22 = .ok (.lload_n 2, 1) := by decide +kernel
theorem dJ9_floorMod_f86c9_23 : decode cJ9_floorMod_f86c9 23 = .ok (.ladd, 1) := by decide +kernel
theorem dJ9_floorMod_f86c9_24 : decode cJ9_floorMod_f86c9 24 = .ok (.lreturn, 1) := by decide +kernel
theorem dJ9_floorMod_f86c9_25 : decode cJ9_floorMod_f86c9 25 = .ok (.lload 4, 2) := by decide +kernel
theorem dJ9_floorMod_f86c9_27 : decode cJ9_floorMod_f86c9 27 = .ok (.lreturn, 1) := by decide +kernel
theorem dJ9_max_f86c9_0 : decode cJ9_max_f86c9 0 = .ok (.lload_n 0, 1) := by decide +kernel
theorem dJ9_max_f86c9_1 : decode cJ9_max_f86c9 1 = .ok (.lload_n 2, 1) := by decide +kernel
theorem dJ9_max_f86c9_2 : decode cJ9_max_f86c9 2 = .ok (.lcmp, 1) := by decide +kernel
theorem dJ9_max_f86c9_3 : decode cJ9_max_f86c9 3 = .ok (.ifCond .lt 7, 3) := by decide +kernel
theorem dJ9_max_f86c9_6 : decode cJ9_max_f86c9 6 = .ok (.lload_n 0, 1) := by decide +kernel
theorem dJ9_max_f86c9_7 : decode cJ9_max_f86c9 7 = .ok (.goto 4, 3) := by decide +kernel
theorem dJ9_max_f86c9_10 : decode cJ9_max_f86c9 10 = .ok (.lload_n 2, 1) := by decide +kernel
theorem dJ9_max_f86c9_11 : decode cJ9_max_f86c9 11 = .ok (.lreturn, 1) := by decide +kernel
theorem dJ9_min_7cf53_0 : decode cJ9_min_7cf53 0 = .ok (.iload_n 0, 1) := by decide +kernel
theorem dJ9_min_7cf53_1 : decode cJ9_min_7cf53 1 = .ok (.iload_n 1, 1) := by decide +kernel
theorem dJ9_min_7cf53_2 : decode cJ9_min_7cf53 2 = .ok (.if_icmp .gt 7, 3) := by decide +kernel
theorem dJ9_min_7cf53_5 : decode cJ9_min_7cf53 5 = .ok (.iload_n 0, 1) := by decide +kernel
theorem dJ9_min_7cf53_6 : decode cJ9_min_7cf53 6 = .ok (.goto 4, 3) := by decide +kernel
theorem dJ9_min_7cf53_9 : decode cJ9_min_7cf53 9 = .ok (.iload_n 1, 1) := by decide +kernel
theorem dJ9_min_7cf53_10 : decode cJ9_min_7cf53 10 = .ok (.ireturn, 1) := by decide +kernel
theorem dJ9_min_f86c9_0 : decode cJ9_min_f86c9 0 = .ok (.lload_n 0, 1) := by decide +kernel
theorem dJ9_min_f86c9_1 : decode cJ9_min_f86c9 1 = .ok (.lload_n 2, 1) := by decide +kernel
theorem dJ9_min_f86c9_2 : decode cJ9_min_f86c9 2 = .ok (.lcmp, 1) := by decide +kernel
theorem dJ9_min_f86c9_3 : decode cJ9_min_f86c9 3 = .ok (.ifCond .gt 7, 3) := by decide +kernel
theorem dJ9_min_f86c9_6 : decode cJ9_min_f86c9 6 = .ok (.lload_n 0, 1) := by decide +kernel
theorem dJ9_min_f86c9_7 : decode cJ9_min_f86c9 7 = .ok (.goto 4, 3) := by decide +kernel
theorem dJ9_min_f86c9_10 : decode cJ9_min_f86c9 10 = .ok (.lload_n 2, 1) := by decide +kernel
theorem dJ9_min_f86c9_11 : decode cJ9_min_f86c9 11 = .ok (.lreturn, 1) := by decide +kernel
set_option maxRecDepth 20000 in
theorem ggL_date_X2_date : GoodIn wsL_date wsX2_date := goodIn_ca (goodIn_ca (goodIn_ca (goodIn_ca (goodIn_r _ [7, 8, 9, 10, 6, 11, 12, 13, 14, 15, 16, 17, 18, 19, 20, 21, 22, 23, 24, 25, 26, 27, 28, 29, 30, 31, 32, 33, 34, 35, 36, 37, 38, 39, 40, 41, 42, 43, 44, 45, 46, 47, 48, 49, 50, 51, 52, 53, 54, 55, 56, 57, 58, 59, 60, 61, 62, 63, 64, 65, 66, 67, 68, 69, 70, 71, 72, 73, 74, 75, 76, 77, 78, 79, 80, 81, 82, 83, 84, 85, 86, 87, 88, 89, 90] (by decide +kernel) (by decide +kernel)) (goodIn_sub (fun _ h => List.mem_cons_of_mem _ (List.mem_append_left _ (List.mem_append_left _ (List.mem_append_right _ h)))) (by decide +kernel))) (goodIn_sub (fun _ h => List.mem_cons_of_mem _ (List.mem_append_left _ (List.mem_append_right _ h))) (by decide +kernel))) (goodIn_sub (fun _ h => List.mem_cons_of_mem _ (List.mem_append_left _ (List.mem_append_left _ (List.mem_append_left _ (List.mem_append_right _ h))))) (by decide +kernel))) (goodIn_sub (fun _ h => List.mem_cons_of_mem _ (List.mem_append_right _ h)) (by decide +kernel))
set_option maxRecDepth 20000 in
theorem gL_date_X2_date : GoodIn wsL_date (wsV RL 7 RX2 yX2_date wsX2_date) := goodIn_app (goodIn_of _ (by decide +kernel)) ggL_date_X2_date
theorem dL_date_0 : decode cL_date 0 = .ok (.aload 5, 2) := by decide +kernel
theorem dL_date_2 : decode cL_date 2 = .ok (.iconst 0, 1) := by decide +kernel
theorem dL_date_3 : decode cL_date 3 = .ok (.aload_n 0, 1) := by decide +kernel
theorem dL_date_4 : decode cL_date 4 = .ok (.iload_n 1, 1) := by decide +kernel
theorem dL_date_5 : decode cL_date 5 = .ok (.iload_n 2, 1) := by decide +kernel
theorem dL_date_6 : decode cL_date 6 = .ok (.iload_n 3, 1) := by decide +kernel
theorem dL_date_7 : decode cL_date 7 = .ok (.iload 4, 2) := by decide +kernel
theorem dL_date_9 : decode cL_date 9 = .ok (.invokevirtual 7, 3) := by decide +kernel
theorem dL_date_12 : decode cL_date 12 = .ok (.lastore, 1) := by decide +kernel
theorem dL_date_13 : decode cL_date 13 = .ok (.goto 11, 3) := by decide +kernel
theorem dL_date_16 : decode cL_date 16 = .ok (.astore 6, 2) := by decide +kernel
theorem dL_date_18 : decode cL_date 18 = .ok (.iconst 1, 1) := by decide +kernel
theorem dL_date_19 : decode cL_date 19 = .ok (.ireturn, 1) := by decide +kernel
theorem dL_date_20 : decode cL_date 20 = .ok (.astore 6, 2) := by decide +kernel
theorem dL_date_22 : decode cL_date 22 = .ok (.iconst 2, 1) := by decide +kernel
theorem dL_date_23 : decode cL_date 23 = .ok (.ireturn, 1) := by decide +kernel
theorem dL_date_24 : decode cL_date 24 = .ok (.iconst 0, 1) := by decide +kernel
theorem dL_date_25 : decode cL_date 25 = .ok (.ireturn, 1) := by decide +kernel
set_option maxRecDepth 20000 in
theorem ggL_ofDay_X2_ofDay : GoodIn wsL_ofDay wsX2_ofDay := goodIn_ca (goodIn_ca (goodIn_ca (goodIn_r _ [7, 8, 9, 6, 10, 11, 12, 13, 14, 15, 16, 17, 18, 19, 20, 21, 22, 23, 24, 25, 26, 27, 28, 29, 30, 31, 32, 33, 34, 35, 36, 37, 38, 39, 40, 41, 42, 43, 44, 45, 46, 47, 48, 49, 50, 51, 52, 53, 54, 55, 56, 57] (by decide +kernel) (by decide +kernel)) (goodIn_sub (fun _ h => List.mem_cons_of_mem _ (List.mem_append_left _ (List.mem_append_right _ h))) (by decide +kernel))) (goodIn_sub (fun _ h => List.mem_cons_of_mem _ (List.mem_append_left _ (List.mem_append_left _ (List.mem_append_right _ h)))) (by decide +kernel))) (goodIn_sub (fun _ h => List.mem_cons_of_mem _ (List.mem_append_right _ h)) (by decide +kernel))
set_option maxRecDepth 20000 in
theorem gL_ofDay_X2_ofDay : GoodIn wsL_ofDay (wsV RL 17 RX2 yX2_ofDay wsX2_ofDay) := goodIn_app (goodIn_of _ (by decide +kernel)) ggL_ofDay_X2_ofDay
theorem dL_ofDay_0 : decode cL_ofDay 0 = .ok (.aload 4, 2) := by decide +kernel
theorem dL_ofDay_2 : decode cL_ofDay 2 = .ok (.iconst 0, 1) := by decide +kernel
theorem dL_ofDay_3 : decode cL_ofDay 3 = .ok (.aload_n 0, 1) := by decide +kernel
theorem dL_ofDay_4 : decode cL_ofDay 4 = .ok (.iload_n 1, 1) := by decide +kernel
theorem dL_ofDay_5 : decode cL_ofDay 5 = .ok (.lload_n 2, 1) := by decide +kernel
theorem dL_ofDay_6 : decode cL_ofDay 6 = .ok (.invokevirtual 17, 3) := by decide +kernel
theorem dL_ofDay_9 : decode cL_ofDay 9 = .ok (.i2l, 1) := by decide +kernel
theorem dL_ofDay_10 : decode cL_ofDay 10 = .ok (.lastore, 1) := by decide +kernel
theorem dL_ofDay_11 : decode cL_ofDay 11 = .ok (.goto 11, 3) := by decide +kernel
theorem dL_ofDay_14 : decode cL_ofDay 14 = .ok (.astore 5, 2) := by decide +kernel
theorem dL_ofDay_16 : decode cL_ofDay 16 = .ok (.iconst 1, 1) := by decide +kernel
theorem dL_ofDay_17 : decode cL_ofDay 17 = .ok (.ireturn, 1) := by decide +kernel
theorem dL_ofDay_18 : decode cL_ofDay 18 = .ok (.astore 5, 2) := by decide +kernel
theorem dL_ofDay_20 : decode cL_ofDay 20 = .ok (.iconst 2, 1) := by decide +kernel
theorem dL_ofDay_21 : decode cL_ofDay 21 = .ok (.ireturn, 1) := by decide +kernel
theorem dL_ofDay_22 : decode cL_ofDay 22 = .ok (.iconst 0, 1) := by decide +kernel
theorem dL_ofDay_23 : decode cL_ofDay 23 = .ok (.ireturn, 1) := by decide +kernel
set_option maxRecDepth 20000 in
theorem ggL_day_X2_day : GoodIn wsL_day wsX2_day := goodIn_ca (goodIn_ca (goodIn_r _ [6, 7, 8, 9, 5, 10, 11, 12, 13, 14, 15, 16, 17, 18, 19, 20, 21, 22] (by decide +kernel) (by decide +kernel)) (goodIn_sub (fun _ h => List.mem_cons_of_mem _ (List.mem_append_left _ (List.mem_append_right _ h))) (by decide +kernel))) (goodIn_sub (fun _ h => List.mem_cons_of_mem _ (List.mem_append_right _ h)) (by decide +kernel))
set_option maxRecDepth 20000 in
theorem gL_day_X2_day : GoodIn wsL_day (wsV RL 23 RX2 yX2_day wsX2_day) := goodIn_app (goodIn_of _ (by decide +kernel)) ggL_day_X2_day
theorem dL_day_0 : decode cL_day 0 = .ok (.aload_n 2, 1) := by decide +kernel
theorem dL_day_1 : decode cL_day 1 = .ok (.iconst 0, 1) := by decide +kernel
theorem dL_day_2 : decode cL_day 2 = .ok (.aload_n 0, 1) := by decide +kernel
theorem dL_day_3 : decode cL_day 3 = .ok (.iload_n 1, 1) := by decide +kernel
theorem dL_day_4 : decode cL_day 4 = .ok (.invokevirtual 23, 3) := by decide +kernel
theorem dL_day_7 : decode cL_day 7 = .ok (.lastore, 1) := by decide +kernel
theorem dL_day_8 : decode cL_day 8 = .ok (.goto 6, 3) := by decide +kernel
theorem dL_day_11 : decode cL_day 11 = .ok (.astore_n 3, 1) := by decide +kernel
theorem dL_day_12 : decode cL_day 12 = .ok (.iconst 1, 1) := by decide +kernel
theorem dL_day_13 : decode cL_day 13 = .ok (.ireturn, 1) := by decide +kernel
theorem dL_day_14 : decode cL_day 14 = .ok (.iconst 0, 1) := by decide +kernel
theorem dL_day_15 : decode cL_day 15 = .ok (.ireturn, 1) := by decide +kernel
set_option maxRecDepth 20000 in
theorem ggL_part_X2_part : GoodIn wsL_part wsX2_part := goodIn_ca (goodIn_ca (goodIn_ca (goodIn_r _ [7, 8, 9, 10, 11, 12, 6, 13, 14, 15, 16, 17, 18, 19, 20, 21, 22, 23, 24, 25, 26, 27, 28, 29, 30, 31, 32, 33, 34, 35, 36, 37, 38, 39, 40, 41, 42, 43, 44, 45, 46, 47, 48, 49, 50, 51, 52, 53, 54, 55, 56, 57, 58, 59, 60, 61, 62, 63, 64, 65, 66, 67, 68, 69, 70, 71, 72, 73, 74, 75, 76, 77, 78, 79, 80, 81, 82, 83, 84, 85, 86, 87, 88] (by decide +kernel) (by decide +kernel)) (goodIn_sub (fun _ h => List.mem_cons_of_mem _ (List.mem_append_left _ (List.mem_append_left _ (List.mem_append_right _ h)))) (by decide +kernel))) (goodIn_sub (fun _ h => List.mem_cons_of_mem _ (List.mem_append_left _ (List.mem_append_right _ h))) (by decide +kernel))) (goodIn_sub (fun _ h => List.mem_cons_of_mem _ (List.mem_append_right _ h)) (by decide +kernel))
set_option maxRecDepth 20000 in
theorem gL_part_X2_part : GoodIn wsL_part (wsV RL 27 RX2 yX2_part wsX2_part) := goodIn_app (goodIn_of _ (by decide +kernel)) ggL_part_X2_part
theorem dL_part_0 : decode cL_part 0 = .ok (.aload_n 3, 1) := by decide +kernel
theorem dL_part_1 : decode cL_part 1 = .ok (.iconst 0, 1) := by decide +kernel
theorem dL_part_2 : decode cL_part 2 = .ok (.aload_n 0, 1) := by decide +kernel
theorem dL_part_3 : decode cL_part 3 = .ok (.iload_n 1, 1) := by decide +kernel
theorem dL_part_4 : decode cL_part 4 = .ok (.iload_n 2, 1) := by decide +kernel
theorem dL_part_5 : decode cL_part 5 = .ok (.invokevirtual 27, 3) := by decide +kernel
theorem dL_part_8 : decode cL_part 8 = .ok (.i2l, 1) := by decide +kernel
theorem dL_part_9 : decode cL_part 9 = .ok (.lastore, 1) := by decide +kernel
theorem dL_part_10 : decode cL_part 10 = .ok (.goto 11, 3) := by decide +kernel
theorem dL_part_13 : decode cL_part 13 = .ok (.astore 4, 2) := by decide +kernel
theorem dL_part_15 : decode cL_part 15 = .ok (.iconst 1, 1) := by decide +kernel
theorem dL_part_16 : decode cL_part 16 = .ok (.ireturn, 1) := by decide +kernel
theorem dL_part_17 : decode cL_part 17 = .ok (.astore 4, 2) := by decide +kernel
theorem dL_part_19 : decode cL_part 19 = .ok (.iconst 2, 1) := by decide +kernel
theorem dL_part_20 : decode cL_part 20 = .ok (.ireturn, 1) := by decide +kernel
theorem dL_part_21 : decode cL_part 21 = .ok (.iconst 0, 1) := by decide +kernel
theorem dL_part_22 : decode cL_part 22 = .ok (.ireturn, 1) := by decide +kernel
set_option maxRecDepth 20000 in
theorem ggL_move_X2_move : GoodIn wsL_move wsX2_move := goodIn_ca (goodIn_ca (goodIn_ca (goodIn_ca (goodIn_r _ [8, 9, 10, 11, 12, 13, 7, 14, 15, 16, 17, 18, 19, 20, 21, 22, 23, 24, 25, 26, 27, 28, 29, 30, 31, 32, 33, 34, 35, 36, 37, 38, 39, 40, 41, 42, 43, 44, 45, 46, 47, 48, 49, 50, 51, 52, 53, 54, 55, 56, 57, 58, 59, 60, 61, 62, 63, 64, 65, 66, 67, 68, 69, 70, 71, 72, 73, 74, 75, 76, 77, 78, 79, 80, 81, 82, 83, 84, 85, 86, 87, 88, 89, 90, 91, 92, 93, 94, 95, 96, 97, 98, 99, 100, 101, 102, 103, 104, 105, 106, 107, 108, 109, 110, 111, 112, 113] (by decide +kernel) (by decide +kernel)) (goodIn_sub (fun _ h => List.mem_cons_of_mem _ (List.mem_append_left _ (List.mem_append_left _ (List.mem_append_left _ (List.mem_append_right _ h))))) (by decide +kernel))) (goodIn_sub (fun _ h => List.mem_cons_of_mem _ (List.mem_append_left _ (List.mem_append_left _ (List.mem_append_right _ h)))) (by decide +kernel))) (goodIn_sub (fun _ h => List.mem_cons_of_mem _ (List.mem_append_left _ (List.mem_append_right _ h))) (by decide +kernel))) (goodIn_sub (fun _ h => List.mem_cons_of_mem _ (List.mem_append_right _ h)) (by decide +kernel))
set_option maxRecDepth 20000 in
theorem gL_move_X2_move : GoodIn wsL_move (wsV RL 31 RX2 yX2_move wsX2_move) := goodIn_app (goodIn_of _ (by decide +kernel)) ggL_move_X2_move
theorem dL_move_0 : decode cL_move 0 = .ok (.aload 5, 2) := by decide +kernel
theorem dL_move_2 : decode cL_move 2 = .ok (.iconst 0, 1) := by decide +kernel
theorem dL_move_3 : decode cL_move 3 = .ok (.aload_n 0, 1) := by decide +kernel
theorem dL_move_4 : decode cL_move 4 = .ok (.iload_n 1, 1) := by decide +kernel
theorem dL_move_5 : decode cL_move 5 = .ok (.iload_n 2, 1) := by decide +kernel
theorem dL_move_6 : decode cL_move 6 = .ok (.iload_n 3, 1) := by decide +kernel
theorem dL_move_7 : decode cL_move 7 = .ok (.iload 4, 2) := by decide +kernel
theorem dL_move_9 : decode cL_move 9 = .ok (.invokevirtual 31, 3) := by decide +kernel
theorem dL_move_12 : decode cL_move 12 = .ok (.lastore, 1) := by decide +kernel
theorem dL_move_13 : decode cL_move 13 = .ok (.goto 15, 3) := by decide +kernel
theorem dL_move_16 : decode cL_move 16 = .ok (.astore 6, 2) := by decide +kernel
theorem dL_move_18 : decode cL_move 18 = .ok (.iconst 1, 1) := by decide +kernel
theorem dL_move_19 : decode cL_move 19 = .ok (.ireturn, 1) := by decide +kernel
theorem dL_move_20 : decode cL_move 20 = .ok (.astore 6, 2) := by decide +kernel
theorem dL_move_22 : decode cL_move 22 = .ok (.iconst 2, 1) := by decide +kernel
theorem dL_move_23 : decode cL_move 23 = .ok (.ireturn, 1) := by decide +kernel
theorem dL_move_24 : decode cL_move 24 = .ok (.astore 6, 2) := by decide +kernel
theorem dL_move_26 : decode cL_move 26 = .ok (.iconst 3, 1) := by decide +kernel
theorem dL_move_27 : decode cL_move 27 = .ok (.ireturn, 1) := by decide +kernel
theorem dL_move_28 : decode cL_move 28 = .ok (.iconst 0, 1) := by decide +kernel
theorem dL_move_29 : decode cL_move 29 = .ok (.ireturn, 1) := by decide +kernel
set_option maxRecDepth 20000 in
theorem ggL_with_X2_with : GoodIn wsL_with wsX2_with := goodIn_ca (goodIn_ca (goodIn_ca (goodIn_ca (goodIn_r _ [7, 8, 9, 10, 11, 12, 13, 6, 14, 15, 16, 17, 18, 19, 20, 21, 22, 23, 24, 25, 26, 27, 28, 29, 30, 31, 32, 33, 34, 35, 36, 37, 38, 39, 40, 41, 42, 43, 44, 45, 46, 47, 48, 49, 50, 51, 52, 53, 54, 55, 56, 57, 58, 59, 60, 61, 62, 63, 64, 65, 66, 67, 68, 69, 70, 71, 72, 73, 74, 75, 76, 77, 78, 79, 80, 81, 82, 83, 84, 85, 86, 87, 88, 89, 90, 91, 92, 93, 94, 95, 96, 97, 98, 99, 100, 101, 102, 103, 104, 105, 106, 107, 108, 109, 110, 111, 112, 113, 114, 115, 116, 117, 118] (by decide +kernel) (by decide +kernel)) (goodIn_sub (fun _ h => List.mem_cons_of_mem _ (List.mem_append_left _ (List.mem_append_left _ (List.mem_append_left _ (List.mem_append_right _ h))))) (by decide +kernel))) (goodIn_sub (fun _ h => List.mem_cons_of_mem _ (List.mem_append_left _ (List.mem_append_left _ (List.mem_append_right _ h)))) (by decide +kernel))) (goodIn_sub (fun _ h => List.mem_cons_of_mem _ (List.mem_append_left _ (List.mem_append_right _ h))) (by decide +kernel))) (goodIn_sub (fun _ h => List.mem_cons_of_mem _ (List.mem_append_right _ h)) (by decide +kernel))
set_option maxRecDepth 20000 in
theorem gL_with_X2_with : GoodIn wsL_with (wsV RL 35 RX2 yX2_with wsX2_with) := goodIn_app (goodIn_of _ (by decide +kernel)) ggL_with_X2_with
theorem dL_with_0 : decode cL_with 0 = .ok (.aload 5, 2) := by decide +kernel
theorem dL_with_2 : decode cL_with 2 = .ok (.iconst 0, 1) := by decide +kernel
theorem dL_with_3 : decode cL_with 3 = .ok (.aload_n 0, 1) := by decide +kernel
theorem dL_with_4 : decode cL_with 4 = .ok (.iload_n 1, 1) := by decide +kernel
theorem dL_with_5 : decode cL_with 5 = .ok (.iload_n 2, 1) := by decide +kernel
theorem dL_with_6 : decode cL_with 6 = .ok (.iload_n 3, 1) := by decide +kernel
theorem dL_with_7 : decode cL_with 7 = .ok (.iload 4, 2) := by decide +kernel
theorem dL_with_9 : decode cL_with 9 = .ok (.invokevirtual 35, 3) := by decide +kernel
theorem dL_with_12 : decode cL_with 12 = .ok (.lastore, 1) := by decide +kernel
theorem dL_with_13 : decode cL_with 13 = .ok (.goto 11, 3) := by decide +kernel
theorem dL_with_16 : decode cL_with 16 = .ok (.astore 6, 2) := by decide +kernel
theorem dL_with_18 : decode cL_with 18 = .ok (.iconst 1, 1) := by decide +kernel
theorem dL_with_19 : decode cL_with 19 = .ok (.ireturn, 1) := by decide +kernel
theorem dL_with_20 : decode cL_with 20 = .ok (.astore 6, 2) := by decide +kernel
theorem dL_with_22 : decode cL_with 22 = .ok (.iconst 2, 1) := by decide +kernel
theorem dL_with_23 : decode cL_with 23 = .ok (.ireturn, 1) := by decide +kernel
theorem dL_with_24 : decode cL_with 24 = .ok (.iconst 0, 1) := by decide +kernel
theorem dL_with_25 : decode cL_with 25 = .ok (.ireturn, 1) := by decide +kernel
set_option maxRecDepth 20000 in
theorem ggL_adjust_X2_adjust : GoodIn wsL_adjust wsX2_adjust := goodIn_ca (goodIn_ca (goodIn_ca (goodIn_ca (goodIn_r _ [8, 9, 10, 11, 12, 13, 7, 14, 15, 16, 17, 18, 19, 20, 21, 22, 23, 24, 25, 26, 27, 28, 29, 30, 31, 32, 33, 34, 35, 36, 37, 38, 39, 40, 41, 42, 43, 44, 45, 46, 47, 48, 49, 50, 51, 52, 53, 54, 55, 56, 57, 58, 59, 60, 61, 62, 63, 64, 65, 66, 67, 68, 69, 70, 71, 72, 73, 74, 75, 76, 77, 78, 79, 80, 81, 82, 83, 84, 85, 86, 87] (by decide +kernel) (by decide +kernel)) (goodIn_sub (fun _ h => List.mem_cons_of_mem _ (List.mem_append_left _ (List.mem_append_left _ (List.mem_append_left _ (List.mem_append_right _ h))))) (by decide +kernel))) (goodIn_sub (fun _ h => List.mem_cons_of_mem _ (List.mem_append_left _ (List.mem_append_left _ (List.mem_append_right _ h)))) (by decide +kernel))) (goodIn_sub (fun _ h => List.mem_cons_of_mem _ (List.mem_append_left _ (List.mem_append_right _ h))) (by decide +kernel))) (goodIn_sub (fun _ h => List.mem_cons_of_mem _ (List.mem_append_right _ h)) (by decide +kernel))
set_option maxRecDepth 20000 in
theorem gL_adjust_X2_adjust : GoodIn wsL_adjust (wsV RL 38 RX2 yX2_adjust wsX2_adjust) := goodIn_app (goodIn_of _ (by decide +kernel)) ggL_adjust_X2_adjust
theorem dL_adjust_0 : decode cL_adjust 0 = .ok (.aload 4, 2) := by decide +kernel
theorem dL_adjust_2 : decode cL_adjust 2 = .ok (.iconst 0, 1) := by decide +kernel
theorem dL_adjust_3 : decode cL_adjust 3 = .ok (.aload_n 0, 1) := by decide +kernel
theorem dL_adjust_4 : decode cL_adjust 4 = .ok (.iload_n 1, 1) := by decide +kernel
theorem dL_adjust_5 : decode cL_adjust 5 = .ok (.iload_n 2, 1) := by decide +kernel
theorem dL_adjust_6 : decode cL_adjust 6 = .ok (.iload_n 3, 1) := by decide +kernel
theorem dL_adjust_7 : decode cL_adjust 7 = .ok (.invokevirtual 38, 3) := by decide +kernel
theorem dL_adjust_10 : decode cL_adjust 10 = .ok (.lastore, 1) := by decide +kernel
theorem dL_adjust_11 : decode cL_adjust 11 = .ok (.goto 15, 3) := by decide +kernel
theorem dL_adjust_14 : decode cL_adjust 14 = .ok (.astore 5, 2) := by decide +kernel
theorem dL_adjust_16 : decode cL_adjust 16 = .ok (.iconst 1, 1) := by decide +kernel
theorem dL_adjust_17 : decode cL_adjust 17 = .ok (.ireturn, 1) := by decide +kernel
theorem dL_adjust_18 : decode cL_adjust 18 = .ok (.astore 5, 2) := by decide +kernel
theorem dL_adjust_20 : decode cL_adjust 20 = .ok (.iconst 2, 1) := by decide +kernel
theorem dL_adjust_21 : decode cL_adjust 21 = .ok (.ireturn, 1) := by decide +kernel
theorem dL_adjust_22 : decode cL_adjust 22 = .ok (.astore 5, 2) := by decide +kernel
theorem dL_adjust_24 : decode cL_adjust 24 = .ok (.iconst 3, 1) := by decide +kernel
theorem dL_adjust_25 : decode cL_adjust 25 = .ok (.ireturn, 1) := by decide +kernel
theorem dL_adjust_26 : decode cL_adjust 26 = .ok (.iconst 0, 1) := by decide +kernel
theorem dL_adjust_27 : decode cL_adjust 27 = .ok (.ireturn, 1) := by decide +kernel
set_option maxRecDepth 20000 in
theorem ggL_weekday_X2_weekday : GoodIn wsL_weekday wsX2_weekday := goodIn_ca (goodIn_ca (goodIn_ca (goodIn_ca (goodIn_r _ [8, 9, 10, 11, 12, 13, 14, 7, 15, 16, 17, 18, 19, 20, 21, 22, 23, 24, 25, 26, 27, 28, 29, 30, 31, 32, 33, 34, 35, 36, 37, 38, 39, 40, 41, 42, 43, 44, 45, 46, 47, 48, 49, 50, 51, 52, 53, 54, 55, 56, 57, 58, 59, 60, 61, 62, 63, 64, 65, 66, 67, 68, 69, 70, 71, 72, 73, 74, 75, 76, 77, 78, 79, 80, 81, 82, 83, 84, 85, 86, 87, 88, 89, 90, 91, 92, 93, 94, 95, 96, 97, 98, 99, 100, 101, 102, 103, 104, 105] (by decide +kernel) (by decide +kernel)) (goodIn_sub (fun _ h => List.mem_cons_of_mem _ (List.mem_append_left _ (List.mem_append_left _ (List.mem_append_left _ (List.mem_append_right _ h))))) (by decide +kernel))) (goodIn_sub (fun _ h => List.mem_cons_of_mem _ (List.mem_append_left _ (List.mem_append_left _ (List.mem_append_right _ h)))) (by decide +kernel))) (goodIn_sub (fun _ h => List.mem_cons_of_mem _ (List.mem_append_left _ (List.mem_append_right _ h))) (by decide +kernel))) (goodIn_sub (fun _ h => List.mem_cons_of_mem _ (List.mem_append_right _ h)) (by decide +kernel))
set_option maxRecDepth 20000 in
theorem gL_weekday_X2_weekday : GoodIn wsL_weekday (wsV RL 42 RX2 yX2_weekday wsX2_weekday) := goodIn_app (goodIn_of _ (by decide +kernel)) ggL_weekday_X2_weekday
theorem dL_weekday_0 : decode cL_weekday 0 = .ok (.aload 5, 2) := by decide +kernel
theorem dL_weekday_2 : decode cL_weekday 2 = .ok (.iconst 0, 1) := by decide +kernel
theorem dL_weekday_3 : decode cL_weekday 3 = .ok (.aload_n 0, 1) := by decide +kernel
theorem dL_weekday_4 : decode cL_weekday 4 = .ok (.iload_n 1, 1) := by decide +kernel
theorem dL_weekday_5 : decode cL_weekday 5 = .ok (.iload_n 2, 1) := by decide +kernel
theorem dL_weekday_6 : decode cL_weekday 6 = .ok (.iload_n 3, 1) := by decide +kernel
theorem dL_weekday_7 : decode cL_weekday 7 = .ok (.iload 4, 2) := by decide +kernel
theorem dL_weekday_9 : decode cL_weekday 9 = .ok (.invokevirtual 42, 3) := by decide +kernel
theorem dL_weekday_12 : decode cL_weekday 12 = .ok (.lastore, 1) := by decide +kernel
theorem dL_weekday_13 : decode cL_weekday 13 = .ok (.goto 15, 3) := by decide +kernel
theorem dL_weekday_16 : decode cL_weekday 16 = .ok (.astore 6, 2) := by decide +kernel
theorem dL_weekday_18 : decode cL_weekday 18 = .ok (.iconst 1, 1) := by decide +kernel
theorem dL_weekday_19 : decode cL_weekday 19 = .ok (.ireturn, 1) := by decide +kernel
theorem dL_weekday_20 : decode cL_weekday 20 = .ok (.astore 6, 2) := by decide +kernel
theorem dL_weekday_22 : decode cL_weekday 22 = .ok (.iconst 2, 1) := by decide +kernel
theorem dL_weekday_23 : decode cL_weekday 23 = .ok (.ireturn, 1) := by decide +kernel
theorem dL_weekday_24 : decode cL_weekday 24 = .ok (.astore 6, 2) := by decide +kernel
theorem dL_weekday_26 : decode cL_weekday 26 = .ok (.iconst 3, 1) := by decide +kernel
theorem dL_weekday_27 : decode cL_weekday 27 = .ok (.ireturn, 1) := by decide +kernel
theorem dL_weekday_28 : decode cL_weekday 28 = .ok (.iconst 0, 1) := by decide +kernel
theorem dL_weekday_29 : decode cL_weekday 29 = .ok (.ireturn, 1) := by decide +kernel
set_option maxRecDepth 20000 in
theorem ggL_inMonth_X2_inMonth : GoodIn wsL_inMonth wsX2_inMonth := goodIn_ca (goodIn_ca (goodIn_ca (goodIn_ca (goodIn_r _ [8, 9, 10, 11, 12, 13, 14, 7, 15, 16, 17, 18, 19, 20, 21, 22, 23, 24, 25, 26, 27, 28, 29, 30, 31, 32, 33, 34, 35, 36, 37, 38, 39, 40, 41, 42, 43, 44, 45, 46, 47, 48, 49, 50, 51, 52, 53, 54, 55, 56, 57, 58, 59, 60, 61, 62, 63, 64, 65, 66, 67, 68, 69, 70, 71, 72, 73, 74, 75, 76, 77, 78, 79, 80, 81, 82, 83, 84, 85, 86, 87, 88, 89, 90, 91, 92, 93, 94, 95, 96, 97, 98, 99, 100, 101, 102, 103, 104, 105, 106, 107] (by decide +kernel) (by decide +kernel)) (goodIn_sub (fun _ h => List.mem_cons_of_mem _ (List.mem_append_left _ (List.mem_append_left _ (List.mem_append_left _ (List.mem_append_right _ h))))) (by decide +kernel))) (goodIn_sub (fun _ h => List.mem_cons_of_mem _ (List.mem_append_left _ (List.mem_append_left _ (List.mem_append_right _ h)))) (by decide +kernel))) (goodIn_sub (fun _ h => List.mem_cons_of_mem _ (List.mem_append_left _ (List.mem_append_right _ h))) (by decide +kernel))) (goodIn_sub (fun _ h => List.mem_cons_of_mem _ (List.mem_append_right _ h)) (by decide +kernel))
set_option maxRecDepth 20000 in
theorem gL_inMonth_X2_inMonth : GoodIn wsL_inMonth (wsV RL 45 RX2 yX2_inMonth wsX2_inMonth) := goodIn_app (goodIn_of _ (by decide +kernel)) ggL_inMonth_X2_inMonth
theorem dL_inMonth_0 : decode cL_inMonth 0 = .ok (.aload 5, 2) := by decide +kernel
theorem dL_inMonth_2 : decode cL_inMonth 2 = .ok (.iconst 0, 1) := by decide +kernel
theorem dL_inMonth_3 : decode cL_inMonth 3 = .ok (.aload_n 0, 1) := by decide +kernel
theorem dL_inMonth_4 : decode cL_inMonth 4 = .ok (.iload_n 1, 1) := by decide +kernel
theorem dL_inMonth_5 : decode cL_inMonth 5 = .ok (.iload_n 2, 1) := by decide +kernel
theorem dL_inMonth_6 : decode cL_inMonth 6 = .ok (.iload_n 3, 1) := by decide +kernel
theorem dL_inMonth_7 : decode cL_inMonth 7 = .ok (.iload 4, 2) := by decide +kernel
theorem dL_inMonth_9 : decode cL_inMonth 9 = .ok (.invokevirtual 45, 3) := by decide +kernel
theorem dL_inMonth_12 : decode cL_inMonth 12 = .ok (.lastore, 1) := by decide +kernel
theorem dL_inMonth_13 : decode cL_inMonth 13 = .ok (.goto 15, 3) := by decide +kernel
theorem dL_inMonth_16 : decode cL_inMonth 16 = .ok (.astore 6, 2) := by decide +kernel
theorem dL_inMonth_18 : decode cL_inMonth 18 = .ok (.iconst 1, 1) := by decide +kernel
theorem dL_inMonth_19 : decode cL_inMonth 19 = .ok (.ireturn, 1) := by decide +kernel
theorem dL_inMonth_20 : decode cL_inMonth 20 = .ok (.astore 6, 2) := by decide +kernel
theorem dL_inMonth_22 : decode cL_inMonth 22 = .ok (.iconst 2, 1) := by decide +kernel
theorem dL_inMonth_23 : decode cL_inMonth 23 = .ok (.ireturn, 1) := by decide +kernel
theorem dL_inMonth_24 : decode cL_inMonth 24 = .ok (.astore 6, 2) := by decide +kernel
theorem dL_inMonth_26 : decode cL_inMonth 26 = .ok (.iconst 3, 1) := by decide +kernel
theorem dL_inMonth_27 : decode cL_inMonth 27 = .ok (.ireturn, 1) := by decide +kernel
theorem dL_inMonth_28 : decode cL_inMonth 28 = .ok (.iconst 0, 1) := by decide +kernel
theorem dL_inMonth_29 : decode cL_inMonth 29 = .ok (.ireturn, 1) := by decide +kernel
set_option maxRecDepth 20000 in
theorem ggL_atYear_X2_atYear : GoodIn wsL_atYear wsX2_atYear := goodIn_ca (goodIn_ca (goodIn_ca (goodIn_ca (goodIn_r _ [7, 8, 9, 10, 6, 11, 12, 13, 14, 15, 16, 17, 18, 19, 20, 21, 22, 23, 24, 25, 26, 27, 28, 29, 30, 31, 32, 33, 34, 35, 36, 37, 38, 39, 40, 41, 42, 43, 44, 45, 46, 47, 48, 49, 50, 51, 52, 53, 54, 55, 56, 57, 58, 59, 60, 61, 62, 63, 64, 65, 66, 67, 68, 69, 70, 71, 72, 73, 74, 75, 76, 77, 78, 79, 80, 81, 82, 83, 84, 85, 86, 87, 88, 89, 90, 91, 92, 93, 94, 95, 96, 97, 98] (by decide +kernel) (by decide +kernel)) (goodIn_sub (fun _ h => List.mem_cons_of_mem _ (List.mem_append_left _ (List.mem_append_left _ (List.mem_append_right _ h)))) (by decide +kernel))) (goodIn_sub (fun _ h => List.mem_cons_of_mem _ (List.mem_append_left _ (List.mem_append_right _ h))) (by decide +kernel))) (goodIn_sub (fun _ h => List.mem_cons_of_mem _ (List.mem_append_left _ (List.mem_append_left _ (List.mem_append_left _ (List.mem_append_right _ h))))) (by decide +kernel))) (goodIn_sub (fun _ h => List.mem_cons_of_mem _ (List.mem_append_right _ h)) (by decide +kernel))
set_option maxRecDepth 20000 in
theorem gL_atYear_X2_atYear : GoodIn wsL_atYear (wsV RL 48 RX2 yX2_atYear wsX2_atYear) := goodIn_app (goodIn_of _ (by decide +kernel)) ggL_atYear_X2_atYear
theorem dL_atYear_0 : decode cL_atYear 0 = .ok (.aload 5, 2) := by decide +kernel
theorem dL_atYear_2 : decode cL_atYear 2 = .ok (.iconst 0, 1) := by decide +kernel
theorem dL_atYear_3 : decode cL_atYear 3 = .ok (.aload_n 0, 1) := by decide +kernel
theorem dL_atYear_4 : decode cL_atYear 4 = .ok (.iload_n 1, 1) := by decide +kernel
theorem dL_atYear_5 : decode cL_atYear 5 = .ok (.iload_n 2, 1) := by decide +kernel
theorem dL_atYear_6 : decode cL_atYear 6 = .ok (.iload_n 3, 1) := by decide +kernel
theorem dL_atYear_7 : decode cL_atYear 7 = .ok (.iload 4, 2) := by decide +kernel
theorem dL_atYear_9 : decode cL_atYear 9 = .ok (.invokevirtual 48, 3) := by decide +kernel
theorem dL_atYear_12 : decode cL_atYear 12 = .ok (.lastore, 1) := by decide +kernel
theorem dL_atYear_13 : decode cL_atYear 13 = .ok (.goto 11, 3) := by decide +kernel
theorem dL_atYear_16 : decode cL_atYear 16 = .ok (.astore 6, 2) := by decide +kernel
theorem dL_atYear_18 : decode cL_atYear 18 = .ok (.iconst 1, 1) := by decide +kernel
theorem dL_atYear_19 : decode cL_atYear 19 = .ok (.ireturn, 1) := by decide +kernel
theorem dL_atYear_20 : decode cL_atYear 20 = .ok (.astore 6, 2) := by decide +kernel
theorem dL_atYear_22 : decode cL_atYear 22 = .ok (.iconst 2, 1) := by decide +kernel
theorem dL_atYear_23 : decode cL_atYear 23 = .ok (.ireturn, 1) := by decide +kernel
theorem dL_atYear_24 : decode cL_atYear 24 = .ok (.iconst 0, 1) := by decide +kernel
theorem dL_atYear_25 : decode cL_atYear 25 = .ok (.ireturn, 1) := by decide +kernel
set_option maxRecDepth 20000 in
theorem ggL_order_X2_order : GoodIn wsL_order wsX2_order := goodIn_ca (goodIn_ca (goodIn_r _ [6, 7, 8, 9, 5, 10, 11, 12, 13, 14, 15, 16, 17, 18, 19, 20, 21, 22, 23, 24, 25] (by decide +kernel) (by decide +kernel)) (goodIn_sub (fun _ h => List.mem_cons_of_mem _ (List.mem_append_left _ (List.mem_append_right _ h))) (by decide +kernel))) (goodIn_sub (fun _ h => List.mem_cons_of_mem _ (List.mem_append_right _ h)) (by decide +kernel))
set_option maxRecDepth 20000 in
theorem gL_order_X2_order : GoodIn wsL_order (wsV RL 51 RX2 yX2_order wsX2_order) := goodIn_app (goodIn_of _ (by decide +kernel)) ggL_order_X2_order
theorem dL_order_0 : decode cL_order 0 = .ok (.aload_n 3, 1) := by decide +kernel
theorem dL_order_1 : decode cL_order 1 = .ok (.iconst 0, 1) := by decide +kernel
theorem dL_order_2 : decode cL_order 2 = .ok (.aload_n 0, 1) := by decide +kernel
theorem dL_order_3 : decode cL_order 3 = .ok (.iload_n 1, 1) := by decide +kernel
theorem dL_order_4 : decode cL_order 4 = .ok (.iload_n 2, 1) := by decide +kernel
theorem dL_order_5 : decode cL_order 5 = .ok (.invokevirtual 51, 3) := by decide +kernel
theorem dL_order_8 : decode cL_order 8 = .ok (.i2l, 1) := by decide +kernel
theorem dL_order_9 : decode cL_order 9 = .ok (.lastore, 1) := by decide +kernel
theorem dL_order_10 : decode cL_order 10 = .ok (.goto 7, 3) := by decide +kernel
theorem dL_order_13 : decode cL_order 13 = .ok (.astore 4, 2) := by decide +kernel
theorem dL_order_15 : decode cL_order 15 = .ok (.iconst 1, 1) := by decide +kernel
theorem dL_order_16 : decode cL_order 16 = .ok (.ireturn, 1) := by decide +kernel
theorem dL_order_17 : decode cL_order 17 = .ok (.iconst 0, 1) := by decide +kernel
theorem dL_order_18 : decode cL_order 18 = .ok (.ireturn, 1) := by decide +kernel
set_option maxRecDepth 20000 in
theorem ggL_between_X2_between : GoodIn wsL_between wsX2_between := goodIn_ca (goodIn_ca (goodIn_ca (goodIn_r _ [7, 8, 9, 10, 11, 12, 13, 14, 6, 15, 16, 17, 18, 19, 20, 21, 22, 23, 24, 25, 26, 27, 28, 29, 30, 31, 32, 33, 34, 35, 36, 37, 38, 39, 40, 41, 42, 43, 44, 45, 46, 47, 48, 49, 50, 51, 52, 53, 54, 55, 56, 57, 58, 59, 60, 61, 62, 63, 64, 65, 66, 67, 68, 69, 70, 71, 72, 73, 74, 75, 76, 77, 78, 79, 80, 81, 82] (by decide +kernel) (by decide +kernel)) (goodIn_sub (fun _ h => List.mem_cons_of_mem _ (List.mem_append_left _ (List.mem_append_left _ (List.mem_append_right _ h)))) (by decide +kernel))) (goodIn_sub (fun _ h => List.mem_cons_of_mem _ (List.mem_append_left _ (List.mem_append_right _ h))) (by decide +kernel))) (goodIn_sub (fun _ h => List.mem_cons_of_mem _ (List.mem_append_right _ h)) (by decide +kernel))
set_option maxRecDepth 20000 in
theorem gL_between_X2_between : GoodIn wsL_between (wsV RL 55 RX2 yX2_between wsX2_between) := goodIn_app (goodIn_of _ (by decide +kernel)) ggL_between_X2_between
theorem dL_between_0 : decode cL_between 0 = .ok (.aload 4, 2) := by decide +kernel
theorem dL_between_2 : decode cL_between 2 = .ok (.iconst 0, 1) := by decide +kernel
theorem dL_between_3 : decode cL_between 3 = .ok (.aload_n 0, 1) := by decide +kernel
theorem dL_between_4 : decode cL_between 4 = .ok (.iload_n 1, 1) := by decide +kernel
theorem dL_between_5 : decode cL_between 5 = .ok (.iload_n 2, 1) := by decide +kernel
theorem dL_between_6 : decode cL_between 6 = .ok (.iload_n 3, 1) := by decide +kernel
theorem dL_between_7 : decode cL_between 7 = .ok (.invokevirtual 55, 3) := by decide +kernel
theorem dL_between_10 : decode cL_between 10 = .ok (.lastore, 1) := by decide +kernel
theorem dL_between_11 : decode cL_between 11 = .ok (.goto 11, 3) := by decide +kernel
theorem dL_between_14 : decode cL_between 14 = .ok (.astore 5, 2) := by decide +kernel
theorem dL_between_16 : decode cL_between 16 = .ok (.iconst 1, 1) := by decide +kernel
theorem dL_between_17 : decode cL_between 17 = .ok (.ireturn, 1) := by decide +kernel
theorem dL_between_18 : decode cL_between 18 = .ok (.astore 5, 2) := by decide +kernel
theorem dL_between_20 : decode cL_between 20 = .ok (.iconst 2, 1) := by decide +kernel
theorem dL_between_21 : decode cL_between 21 = .ok (.ireturn, 1) := by decide +kernel
theorem dL_between_22 : decode cL_between 22 = .ok (.iconst 0, 1) := by decide +kernel
theorem dL_between_23 : decode cL_between 23 = .ok (.ireturn, 1) := by decide +kernel
set_option maxRecDepth 20000 in
theorem ggL_span_X2_span : GoodIn wsL_span wsX2_span := goodIn_ca (goodIn_ca (goodIn_ca (goodIn_ca (goodIn_r _ [7, 8, 9, 6, 10, 11, 12, 13, 14, 15, 16, 17, 18, 19, 20, 21, 22, 23, 24, 25, 26, 27, 28, 29, 30, 31, 32, 33, 34, 35, 36, 37, 38, 39, 40, 41, 42, 43, 44, 45, 46, 47, 48, 49, 50, 51, 52] (by decide +kernel) (by decide +kernel)) (goodIn_sub (fun _ h => List.mem_cons_of_mem _ (List.mem_append_left _ (List.mem_append_left _ (List.mem_append_right _ h)))) (by decide +kernel))) (goodIn_sub (fun _ h => List.mem_cons_of_mem _ (List.mem_append_left _ (List.mem_append_right _ h))) (by decide +kernel))) (goodIn_sub (fun _ h => List.mem_cons_of_mem _ (List.mem_append_left _ (List.mem_append_left _ (List.mem_append_left _ (List.mem_append_right _ h))))) (by decide +kernel))) (goodIn_sub (fun _ h => List.mem_cons_of_mem _ (List.mem_append_right _ h)) (by decide +kernel))
set_option maxRecDepth 20000 in
theorem gL_span_X2_span : GoodIn wsL_span (wsV RL 59 RX2 yX2_span wsX2_span) := goodIn_app (goodIn_of _ (by decide +kernel)) ggL_span_X2_span
theorem dL_span_0 : decode cL_span 0 = .ok (.aload 5, 2) := by decide +kernel
theorem dL_span_2 : decode cL_span 2 = .ok (.iconst 0, 1) := by decide +kernel
theorem dL_span_3 : decode cL_span 3 = .ok (.aload_n 0, 1) := by decide +kernel
theorem dL_span_4 : decode cL_span 4 = .ok (.iload_n 1, 1) := by decide +kernel
theorem dL_span_5 : decode cL_span 5 = .ok (.iload_n 2, 1) := by decide +kernel
theorem dL_span_6 : decode cL_span 6 = .ok (.iload_n 3, 1) := by decide +kernel
theorem dL_span_7 : decode cL_span 7 = .ok (.iload 4, 2) := by decide +kernel
theorem dL_span_9 : decode cL_span 9 = .ok (.invokevirtual 59, 3) := by decide +kernel
theorem dL_span_12 : decode cL_span 12 = .ok (.lastore, 1) := by decide +kernel
theorem dL_span_13 : decode cL_span 13 = .ok (.goto 11, 3) := by decide +kernel
theorem dL_span_16 : decode cL_span 16 = .ok (.astore 6, 2) := by decide +kernel
theorem dL_span_18 : decode cL_span 18 = .ok (.iconst 1, 1) := by decide +kernel
theorem dL_span_19 : decode cL_span 19 = .ok (.ireturn, 1) := by decide +kernel
theorem dL_span_20 : decode cL_span 20 = .ok (.astore 6, 2) := by decide +kernel
theorem dL_span_22 : decode cL_span 22 = .ok (.iconst 2, 1) := by decide +kernel
theorem dL_span_23 : decode cL_span 23 = .ok (.ireturn, 1) := by decide +kernel
theorem dL_span_24 : decode cL_span 24 = .ok (.iconst 0, 1) := by decide +kernel
theorem dL_span_25 : decode cL_span 25 = .ok (.ireturn, 1) := by decide +kernel
set_option maxRecDepth 20000 in
theorem ggL_until_X2_until : GoodIn wsL_until wsX2_until := goodIn_ca (goodIn_ca (goodIn_ca (goodIn_r _ [7, 8, 9, 10, 11, 6, 12, 13, 14, 15, 16, 17, 18, 19, 20, 21, 22, 23, 24, 25, 26, 27, 28, 29, 30, 31, 32, 33, 34, 35, 36, 37, 38, 39, 40, 41, 42, 43, 44, 45, 46, 47, 48, 49, 50, 51, 52, 53, 54, 55, 56, 57, 58, 59, 60, 61, 62, 63, 64, 65, 66, 67, 68, 69, 70, 71, 72, 73, 74, 75, 76, 77, 78, 79, 80, 81, 82, 83, 84, 85, 86, 87, 88, 89, 90, 91, 92, 93, 94, 95, 96, 97, 98, 99, 100, 101, 102, 103, 104, 105, 106, 107, 108, 109, 110, 111, 112] (by decide +kernel) (by decide +kernel)) (goodIn_sub (fun _ h => List.mem_cons_of_mem _ (List.mem_append_left _ (List.mem_append_left _ (List.mem_append_right _ h)))) (by decide +kernel))) (goodIn_sub (fun _ h => List.mem_cons_of_mem _ (List.mem_append_left _ (List.mem_append_right _ h))) (by decide +kernel))) (goodIn_sub (fun _ h => List.mem_cons_of_mem _ (List.mem_append_right _ h)) (by decide +kernel))
set_option maxRecDepth 20000 in
theorem gL_until_X2_until : GoodIn wsL_until (wsV RL 62 RX2 yX2_until wsX2_until) := goodIn_app (goodIn_of _ (by decide +kernel)) ggL_until_X2_until
theorem dL_until_0 : decode cL_until 0 = .ok (.aload 4, 2) := by decide +kernel
theorem dL_until_2 : decode cL_until 2 = .ok (.iconst 0, 1) := by decide +kernel
theorem dL_until_3 : decode cL_until 3 = .ok (.aload_n 0, 1) := by decide +kernel
theorem dL_until_4 : decode cL_until 4 = .ok (.iload_n 1, 1) := by decide +kernel
theorem dL_until_5 : decode cL_until 5 = .ok (.iload_n 2, 1) := by decide +kernel
theorem dL_until_6 : decode cL_until 6 = .ok (.iload_n 3, 1) := by decide +kernel
theorem dL_until_7 : decode cL_until 7 = .ok (.invokevirtual 62, 3) := by decide +kernel
theorem dL_until_10 : decode cL_until 10 = .ok (.lastore, 1) := by decide +kernel
theorem dL_until_11 : decode cL_until 11 = .ok (.goto 11, 3) := by decide +kernel
theorem dL_until_14 : decode cL_until 14 = .ok (.astore 5, 2) := by decide +kernel
theorem dL_until_16 : decode cL_until 16 = .ok (.iconst 1, 1) := by decide +kernel
theorem dL_until_17 : decode cL_until 17 = .ok (.ireturn, 1) := by decide +kernel
theorem dL_until_18 : decode cL_until 18 = .ok (.astore 5, 2) := by decide +kernel
theorem dL_until_20 : decode cL_until 20 = .ok (.iconst 2, 1) := by decide +kernel
theorem dL_until_21 : decode cL_until 21 = .ok (.ireturn, 1) := by decide +kernel
theorem dL_until_22 : decode cL_until 22 = .ok (.iconst 0, 1) := by decide +kernel
theorem dL_until_23 : decode cL_until 23 = .ok (.ireturn, 1) := by decide +kernel
set_option maxRecDepth 20000 in
theorem ggL_go_X2_go : GoodIn wsL_go wsX2_go := goodIn_ca (goodIn_ca (goodIn_ca (goodIn_r _ [7, 8, 9, 10, 11, 6, 12, 13, 14, 15, 16, 17, 18, 19, 20, 21, 22, 23, 24, 25, 26, 27, 28, 29, 30, 31, 32, 33, 34, 35, 36, 37, 38, 39, 40, 41, 42, 43, 44, 45, 46, 47, 48, 49, 50, 51, 52, 53, 54, 55, 56, 57, 58, 59, 60, 61, 62, 63, 64, 65, 66, 67, 68, 69, 70, 71, 72, 73, 74, 75, 76, 77, 78, 79, 80, 81, 82, 83, 84, 85, 86, 87, 88, 89, 90, 91, 92, 93, 94, 95, 96, 97, 98, 99, 100, 101, 102, 103] (by decide +kernel) (by decide +kernel)) (goodIn_sub (fun _ h => List.mem_cons_of_mem _ (List.mem_append_left _ (List.mem_append_left _ (List.mem_append_right _ h)))) (by decide +kernel))) (goodIn_sub (fun _ h => List.mem_cons_of_mem _ (List.mem_append_left _ (List.mem_append_right _ h))) (by decide +kernel))) (goodIn_sub (fun _ h => List.mem_cons_of_mem _ (List.mem_append_right _ h)) (by decide +kernel))
set_option maxRecDepth 20000 in
theorem gL_go_X2_go : GoodIn wsL_go (wsV RL 66 RX2 yX2_go wsX2_go) := goodIn_app (goodIn_of _ (by decide +kernel)) ggL_go_X2_go
theorem dL_go_0 : decode cL_go 0 = .ok (.aload 5, 2) := by decide +kernel
theorem dL_go_2 : decode cL_go 2 = .ok (.iconst 0, 1) := by decide +kernel
theorem dL_go_3 : decode cL_go 3 = .ok (.aload_n 0, 1) := by decide +kernel
theorem dL_go_4 : decode cL_go 4 = .ok (.iload_n 1, 1) := by decide +kernel
theorem dL_go_5 : decode cL_go 5 = .ok (.iload_n 2, 1) := by decide +kernel
theorem dL_go_6 : decode cL_go 6 = .ok (.iload_n 3, 1) := by decide +kernel
theorem dL_go_7 : decode cL_go 7 = .ok (.iload 4, 2) := by decide +kernel
theorem dL_go_9 : decode cL_go 9 = .ok (.invokevirtual 66, 3) := by decide +kernel
theorem dL_go_12 : decode cL_go 12 = .ok (.lastore, 1) := by decide +kernel
theorem dL_go_13 : decode cL_go 13 = .ok (.goto 11, 3) := by decide +kernel
theorem dL_go_16 : decode cL_go 16 = .ok (.astore 6, 2) := by decide +kernel
theorem dL_go_18 : decode cL_go 18 = .ok (.iconst 1, 1) := by decide +kernel
theorem dL_go_19 : decode cL_go 19 = .ok (.ireturn, 1) := by decide +kernel
theorem dL_go_20 : decode cL_go 20 = .ok (.astore 6, 2) := by decide +kernel
theorem dL_go_22 : decode cL_go 22 = .ok (.iconst 2, 1) := by decide +kernel
theorem dL_go_23 : decode cL_go 23 = .ok (.ireturn, 1) := by decide +kernel
theorem dL_go_24 : decode cL_go 24 = .ok (.iconst 0, 1) := by decide +kernel
theorem dL_go_25 : decode cL_go 25 = .ok (.ireturn, 1) := by decide +kernel
set_option maxRecDepth 20000 in
theorem ggL_spanPart_X2_spanPart : GoodIn wsL_spanPart wsX2_spanPart := goodIn_ca (goodIn_ca (goodIn_ca (goodIn_r _ [7, 8, 9, 10, 11, 12, 13, 14, 6, 15, 16, 17, 18, 19, 20, 21, 22, 23, 24, 25, 26, 27] (by decide +kernel) (by decide +kernel)) (goodIn_sub (fun _ h => List.mem_cons_of_mem _ (List.mem_append_left _ (List.mem_append_left _ (List.mem_append_right _ h)))) (by decide +kernel))) (goodIn_sub (fun _ h => List.mem_cons_of_mem _ (List.mem_append_left _ (List.mem_append_right _ h))) (by decide +kernel))) (goodIn_sub (fun _ h => List.mem_cons_of_mem _ (List.mem_append_right _ h)) (by decide +kernel))
set_option maxRecDepth 20000 in
theorem gL_spanPart_X2_spanPart : GoodIn wsL_spanPart (wsV RL 70 RX2 yX2_spanPart wsX2_spanPart) := goodIn_app (goodIn_of _ (by decide +kernel)) ggL_spanPart_X2_spanPart
theorem dL_spanPart_0 : decode cL_spanPart 0 = .ok (.aload_n 3, 1) := by decide +kernel
theorem dL_spanPart_1 : decode cL_spanPart 1 = .ok (.iconst 0, 1) := by decide +kernel
theorem dL_spanPart_2 : decode cL_spanPart 2 = .ok (.aload_n 0, 1) := by decide +kernel
theorem dL_spanPart_3 : decode cL_spanPart 3 = .ok (.iload_n 1, 1) := by decide +kernel
theorem dL_spanPart_4 : decode cL_spanPart 4 = .ok (.iload_n 2, 1) := by decide +kernel
theorem dL_spanPart_5 : decode cL_spanPart 5 = .ok (.invokevirtual 70, 3) := by decide +kernel
theorem dL_spanPart_8 : decode cL_spanPart 8 = .ok (.i2l, 1) := by decide +kernel
theorem dL_spanPart_9 : decode cL_spanPart 9 = .ok (.lastore, 1) := by decide +kernel
theorem dL_spanPart_10 : decode cL_spanPart 10 = .ok (.goto 11, 3) := by decide +kernel
theorem dL_spanPart_13 : decode cL_spanPart 13 = .ok (.astore 4, 2) := by decide +kernel
theorem dL_spanPart_15 : decode cL_spanPart 15 = .ok (.iconst 1, 1) := by decide +kernel
theorem dL_spanPart_16 : decode cL_spanPart 16 = .ok (.ireturn, 1) := by decide +kernel
theorem dL_spanPart_17 : decode cL_spanPart 17 = .ok (.astore 4, 2) := by decide +kernel
theorem dL_spanPart_19 : decode cL_spanPart 19 = .ok (.iconst 2, 1) := by decide +kernel
theorem dL_spanPart_20 : decode cL_spanPart 20 = .ok (.ireturn, 1) := by decide +kernel
theorem dL_spanPart_21 : decode cL_spanPart 21 = .ok (.iconst 0, 1) := by decide +kernel
theorem dL_spanPart_22 : decode cL_spanPart 22 = .ok (.ireturn, 1) := by decide +kernel
set_option maxRecDepth 20000 in
theorem ggL_addSpan_X2_addSpan : GoodIn wsL_addSpan wsX2_addSpan := goodIn_ca (goodIn_ca (goodIn_ca (goodIn_r _ [7, 8, 9, 10, 11, 12, 13, 6, 14, 15, 16, 17, 18, 19, 20, 21, 22, 23, 24, 25, 26, 27, 28, 29, 30, 31, 32, 33, 34, 35, 36, 37, 38, 39, 40, 41, 42, 43, 44, 45, 46, 47, 48] (by decide +kernel) (by decide +kernel)) (goodIn_sub (fun _ h => List.mem_cons_of_mem _ (List.mem_append_left _ (List.mem_append_left _ (List.mem_append_right _ h)))) (by decide +kernel))) (goodIn_sub (fun _ h => List.mem_cons_of_mem _ (List.mem_append_left _ (List.mem_append_right _ h))) (by decide +kernel))) (goodIn_sub (fun _ h => List.mem_cons_of_mem _ (List.mem_append_right _ h)) (by decide +kernel))
set_option maxRecDepth 20000 in
theorem gL_addSpan_X2_addSpan : GoodIn wsL_addSpan (wsV RL 73 RX2 yX2_addSpan wsX2_addSpan) := goodIn_app (goodIn_of _ (by decide +kernel)) ggL_addSpan_X2_addSpan
theorem dL_addSpan_0 : decode cL_addSpan 0 = .ok (.aload 5, 2) := by decide +kernel
theorem dL_addSpan_2 : decode cL_addSpan 2 = .ok (.iconst 0, 1) := by decide +kernel
theorem dL_addSpan_3 : decode cL_addSpan 3 = .ok (.aload_n 0, 1) := by decide +kernel
theorem dL_addSpan_4 : decode cL_addSpan 4 = .ok (.iload_n 1, 1) := by decide +kernel
theorem dL_addSpan_5 : decode cL_addSpan 5 = .ok (.iload_n 2, 1) := by decide +kernel
theorem dL_addSpan_6 : decode cL_addSpan 6 = .ok (.iload_n 3, 1) := by decide +kernel
theorem dL_addSpan_7 : decode cL_addSpan 7 = .ok (.iload 4, 2) := by decide +kernel
theorem dL_addSpan_9 : decode cL_addSpan 9 = .ok (.invokevirtual 73, 3) := by decide +kernel
theorem dL_addSpan_12 : decode cL_addSpan 12 = .ok (.lastore, 1) := by decide +kernel
theorem dL_addSpan_13 : decode cL_addSpan 13 = .ok (.goto 11, 3) := by decide +kernel
theorem dL_addSpan_16 : decode cL_addSpan 16 = .ok (.astore 6, 2) := by decide +kernel
theorem dL_addSpan_18 : decode cL_addSpan 18 = .ok (.iconst 1, 1) := by decide +kernel
theorem dL_addSpan_19 : decode cL_addSpan 19 = .ok (.ireturn, 1) := by decide +kernel
theorem dL_addSpan_20 : decode cL_addSpan 20 = .ok (.astore 6, 2) := by decide +kernel
theorem dL_addSpan_22 : decode cL_addSpan 22 = .ok (.iconst 2, 1) := by decide +kernel
theorem dL_addSpan_23 : decode cL_addSpan 23 = .ok (.ireturn, 1) := by decide +kernel
theorem dL_addSpan_24 : decode cL_addSpan 24 = .ok (.iconst 0, 1) := by decide +kernel
theorem dL_addSpan_25 : decode cL_addSpan 25 = .ok (.ireturn, 1) := by decide +kernel
set_option maxRecDepth 20000 in
theorem ggL_timesSpan_X2_timesSpan : GoodIn wsL_timesSpan wsX2_timesSpan := goodIn_ca (goodIn_ca (goodIn_ca (goodIn_ca (goodIn_r _ [8, 9, 10, 11, 12, 13, 14, 15, 7, 16, 17, 18, 19, 20, 21, 22, 23, 24, 25, 26, 27, 28, 29, 30, 31, 32, 33, 34, 35, 36, 37, 38, 39, 40, 41, 42, 43, 44, 45, 46, 47, 48, 49, 50, 51, 52, 53, 54, 55] (by decide +kernel) (by decide +kernel)) (goodIn_sub (fun _ h => List.mem_cons_of_mem _ (List.mem_append_left _ (List.mem_append_left _ (List.mem_append_left _ (List.mem_append_right _ h))))) (by decide +kernel))) (goodIn_sub (fun _ h => List.mem_cons_of_mem _ (List.mem_append_left _ (List.mem_append_left _ (List.mem_append_right _ h)))) (by decide +kernel))) (goodIn_sub (fun _ h => List.mem_cons_of_mem _ (List.mem_append_left _ (List.mem_append_right _ h))) (by decide +kernel))) (goodIn_sub (fun _ h => List.mem_cons_of_mem _ (List.mem_append_right _ h)) (by decide +kernel))
set_option maxRecDepth 20000 in
theorem gL_timesSpan_X2_timesSpan : GoodIn wsL_timesSpan (wsV RL 76 RX2 yX2_timesSpan wsX2_timesSpan) := goodIn_app (goodIn_of _ (by decide +kernel)) ggL_timesSpan_X2_timesSpan
theorem dL_timesSpan_0 : decode cL_timesSpan 0 = .ok (.aload 4, 2) := by decide +kernel
theorem dL_timesSpan_2 : decode cL_timesSpan 2 = .ok (.iconst 0, 1) := by decide +kernel
theorem dL_timesSpan_3 : decode cL_timesSpan 3 = .ok (.aload_n 0, 1) := by decide +kernel
theorem dL_timesSpan_4 : decode cL_timesSpan 4 = .ok (.iload_n 1, 1) := by decide +kernel
theorem dL_timesSpan_5 : decode cL_timesSpan 5 = .ok (.iload_n 2, 1) := by decide +kernel
theorem dL_timesSpan_6 : decode cL_timesSpan 6 = .ok (.iload_n 3, 1) := by decide +kernel
theorem dL_timesSpan_7 : decode cL_timesSpan 7 = .ok (.invokevirtual 76, 3) := by decide +kernel
theorem dL_timesSpan_10 : decode cL_timesSpan 10 = .ok (.lastore, 1) := by decide +kernel
theorem dL_timesSpan_11 : decode cL_timesSpan 11 = .ok (.goto 15, 3) := by decide +kernel
theorem dL_timesSpan_14 : decode cL_timesSpan 14 = .ok (.astore 5, 2) := by decide +kernel
theorem dL_timesSpan_16 : decode cL_timesSpan 16 = .ok (.iconst 1, 1) := by decide +kernel
theorem dL_timesSpan_17 : decode cL_timesSpan 17 = .ok (.ireturn, 1) := by decide +kernel
theorem dL_timesSpan_18 : decode cL_timesSpan 18 = .ok (.astore 5, 2) := by decide +kernel
theorem dL_timesSpan_20 : decode cL_timesSpan 20 = .ok (.iconst 2, 1) := by decide +kernel
theorem dL_timesSpan_21 : decode cL_timesSpan 21 = .ok (.ireturn, 1) := by decide +kernel
theorem dL_timesSpan_22 : decode cL_timesSpan 22 = .ok (.astore 5, 2) := by decide +kernel
theorem dL_timesSpan_24 : decode cL_timesSpan 24 = .ok (.iconst 3, 1) := by decide +kernel
theorem dL_timesSpan_25 : decode cL_timesSpan 25 = .ok (.ireturn, 1) := by decide +kernel
theorem dL_timesSpan_26 : decode cL_timesSpan 26 = .ok (.iconst 0, 1) := by decide +kernel
theorem dL_timesSpan_27 : decode cL_timesSpan 27 = .ok (.ireturn, 1) := by decide +kernel
set_option maxRecDepth 20000 in
theorem ggL_plainSpan_X2_plainSpan : GoodIn wsL_plainSpan wsX2_plainSpan := goodIn_ca (goodIn_ca (goodIn_ca (goodIn_r _ [7, 8, 9, 10, 11, 6, 12, 13, 14, 15, 16, 17, 18, 19, 20, 21, 22, 23, 24, 25, 26, 27, 28, 29, 30, 31, 32, 33, 34, 35, 36, 37, 38, 39, 40, 41, 42, 43, 44, 45, 46, 47] (by decide +kernel) (by decide +kernel)) (goodIn_sub (fun _ h => List.mem_cons_of_mem _ (List.mem_append_left _ (List.mem_append_left _ (List.mem_append_right _ h)))) (by decide +kernel))) (goodIn_sub (fun _ h => List.mem_cons_of_mem _ (List.mem_append_left _ (List.mem_append_right _ h))) (by decide +kernel))) (goodIn_sub (fun _ h => List.mem_cons_of_mem _ (List.mem_append_right _ h)) (by decide +kernel))
set_option maxRecDepth 20000 in
theorem gL_plainSpan_X2_plainSpan : GoodIn wsL_plainSpan (wsV RL 79 RX2 yX2_plainSpan wsX2_plainSpan) := goodIn_app (goodIn_of _ (by decide +kernel)) ggL_plainSpan_X2_plainSpan
theorem dL_plainSpan_0 : decode cL_plainSpan 0 = .ok (.aload_n 3, 1) := by decide +kernel
theorem dL_plainSpan_1 : decode cL_plainSpan 1 = .ok (.iconst 0, 1) := by decide +kernel
theorem dL_plainSpan_2 : decode cL_plainSpan 2 = .ok (.aload_n 0, 1) := by decide +kernel
theorem dL_plainSpan_3 : decode cL_plainSpan 3 = .ok (.iload_n 1, 1) := by decide +kernel
theorem dL_plainSpan_4 : decode cL_plainSpan 4 = .ok (.iload_n 2, 1) := by decide +kernel
theorem dL_plainSpan_5 : decode cL_plainSpan 5 = .ok (.invokevirtual 79, 3) := by decide +kernel
theorem dL_plainSpan_8 : decode cL_plainSpan 8 = .ok (.lastore, 1) := by decide +kernel
theorem dL_plainSpan_9 : decode cL_plainSpan 9 = .ok (.goto 11, 3) := by decide +kernel
theorem dL_plainSpan_12 : decode cL_plainSpan 12 = .ok (.astore 4, 2) := by decide +kernel
theorem dL_plainSpan_14 : decode cL_plainSpan 14 = .ok (.iconst 1, 1) := by decide +kernel
theorem dL_plainSpan_15 : decode cL_plainSpan 15 = .ok (.ireturn, 1) := by decide +kernel
theorem dL_plainSpan_16 : decode cL_plainSpan 16 = .ok (.astore 4, 2) := by decide +kernel
theorem dL_plainSpan_18 : decode cL_plainSpan 18 = .ok (.iconst 2, 1) := by decide +kernel
theorem dL_plainSpan_19 : decode cL_plainSpan 19 = .ok (.ireturn, 1) := by decide +kernel
theorem dL_plainSpan_20 : decode cL_plainSpan 20 = .ok (.iconst 0, 1) := by decide +kernel
theorem dL_plainSpan_21 : decode cL_plainSpan 21 = .ok (.ireturn, 1) := by decide +kernel
set_option maxRecDepth 20000 in
theorem ggL_month_X2_month : GoodIn wsL_month wsX2_month := goodIn_ca (goodIn_ca (goodIn_ca (goodIn_ca (goodIn_r _ [7, 8, 9, 10, 6, 11, 12, 13, 14, 15, 16, 17, 18, 19, 20, 21, 22, 23, 24, 25, 26, 27, 28, 29, 30, 31, 32, 33, 34, 35, 36, 37, 38, 39, 40, 41, 42, 43, 44, 45, 46, 47, 48, 49, 50, 51, 52, 53, 54, 55, 56, 57, 58, 59, 60, 61, 62, 63, 64, 65, 66, 67, 68, 69, 70, 71, 72, 73, 74] (by decide +kernel) (by decide +kernel)) (goodIn_sub (fun _ h => List.mem_cons_of_mem _ (List.mem_append_left _ (List.mem_append_left _ (List.mem_append_right _ h)))) (by decide +kernel))) (goodIn_sub (fun _ h => List.mem_cons_of_mem _ (List.mem_append_left _ (List.mem_append_right _ h))) (by decide +kernel))) (goodIn_sub (fun _ h => List.mem_cons_of_mem _ (List.mem_append_left _ (List.mem_append_left _ (List.mem_append_left _ (List.mem_append_right _ h))))) (by decide +kernel))) (goodIn_sub (fun _ h => List.mem_cons_of_mem _ (List.mem_append_right _ h)) (by decide +kernel))
set_option maxRecDepth 20000 in
theorem gL_month_X2_month : GoodIn wsL_month (wsV RL 83 RX2 yX2_month wsX2_month) := goodIn_app (goodIn_of _ (by decide +kernel)) ggL_month_X2_month
theorem dL_month_0 : decode cL_month 0 = .ok (.aload 4, 2) := by decide +kernel
theorem dL_month_2 : decode cL_month 2 = .ok (.iconst 0, 1) := by decide +kernel
theorem dL_month_3 : decode cL_month 3 = .ok (.aload_n 0, 1) := by decide +kernel
theorem dL_month_4 : decode cL_month 4 = .ok (.iload_n 1, 1) := by decide +kernel
theorem dL_month_5 : decode cL_month 5 = .ok (.iload_n 2, 1) := by decide +kernel
theorem dL_month_6 : decode cL_month 6 = .ok (.iload_n 3, 1) := by decide +kernel
theorem dL_month_7 : decode cL_month 7 = .ok (.invokevirtual 83, 3) := by decide +kernel
theorem dL_month_10 : decode cL_month 10 = .ok (.i2l, 1) := by decide +kernel
theorem dL_month_11 : decode cL_month 11 = .ok (.lastore, 1) := by decide +kernel
theorem dL_month_12 : decode cL_month 12 = .ok (.goto 11, 3) := by decide +kernel
theorem dL_month_15 : decode cL_month 15 = .ok (.astore 5, 2) := by decide +kernel
theorem dL_month_17 : decode cL_month 17 = .ok (.iconst 1, 1) := by decide +kernel
theorem dL_month_18 : decode cL_month 18 = .ok (.ireturn, 1) := by decide +kernel
theorem dL_month_19 : decode cL_month 19 = .ok (.astore 5, 2) := by decide +kernel
theorem dL_month_21 : decode cL_month 21 = .ok (.iconst 2, 1) := by decide +kernel
theorem dL_month_22 : decode cL_month 22 = .ok (.ireturn, 1) := by decide +kernel
theorem dL_month_23 : decode cL_month 23 = .ok (.iconst 0, 1) := by decide +kernel
theorem dL_month_24 : decode cL_month 24 = .ok (.ireturn, 1) := by decide +kernel
set_option maxRecDepth 20000 in
theorem ggL_moveMonth_X2_moveMonth : GoodIn wsL_moveMonth wsX2_moveMonth := goodIn_ca (goodIn_ca (goodIn_ca (goodIn_ca (goodIn_r _ [8, 9, 10, 11, 12, 13, 14, 7, 15, 16, 17, 18, 19, 20, 21, 22, 23, 24, 25, 26, 27, 28, 29, 30, 31, 32, 33, 34, 35, 36, 37, 38, 39, 40, 41, 42, 43, 44, 45, 46, 47, 48, 49, 50, 51, 52, 53, 54, 55, 56, 57, 58, 59, 60, 61, 62, 63, 64, 65, 66, 67, 68, 69, 70, 71, 72, 73, 74] (by decide +kernel) (by decide +kernel)) (goodIn_sub (fun _ h => List.mem_cons_of_mem _ (List.mem_append_left _ (List.mem_append_left _ (List.mem_append_left _ (List.mem_append_right _ h))))) (by decide +kernel))) (goodIn_sub (fun _ h => List.mem_cons_of_mem _ (List.mem_append_left _ (List.mem_append_left _ (List.mem_append_right _ h)))) (by decide +kernel))) (goodIn_sub (fun _ h => List.mem_cons_of_mem _ (List.mem_append_left _ (List.mem_append_right _ h))) (by decide +kernel))) (goodIn_sub (fun _ h => List.mem_cons_of_mem _ (List.mem_append_right _ h)) (by decide +kernel))
set_option maxRecDepth 20000 in
theorem gL_moveMonth_X2_moveMonth : GoodIn wsL_moveMonth (wsV RL 87 RX2 yX2_moveMonth wsX2_moveMonth) := goodIn_app (goodIn_of _ (by decide +kernel)) ggL_moveMonth_X2_moveMonth
theorem dL_moveMonth_0 : decode cL_moveMonth 0 = .ok (.aload 5, 2) := by decide +kernel
theorem dL_moveMonth_2 : decode cL_moveMonth 2 = .ok (.iconst 0, 1) := by decide +kernel
theorem dL_moveMonth_3 : decode cL_moveMonth 3 = .ok (.aload_n 0, 1) := by decide +kernel
theorem dL_moveMonth_4 : decode cL_moveMonth 4 = .ok (.iload_n 1, 1) := by decide +kernel
theorem dL_moveMonth_5 : decode cL_moveMonth 5 = .ok (.iload_n 2, 1) := by decide +kernel
theorem dL_moveMonth_6 : decode cL_moveMonth 6 = .ok (.iload_n 3, 1) := by decide +kernel
theorem dL_moveMonth_7 : decode cL_moveMonth 7 = .ok (.iload 4, 2) := by decide +kernel
theorem dL_moveMonth_9 : decode cL_moveMonth 9 = .ok (.invokevirtual 87, 3) := by decide +kernel
theorem dL_moveMonth_12 : decode cL_moveMonth 12 = .ok (.i2l, 1) := by decide +kernel
theorem dL_moveMonth_13 : decode cL_moveMonth 13 = .ok (.lastore, 1) := by decide +kernel
theorem dL_moveMonth_14 : decode cL_moveMonth 14 = .ok (.goto 15, 3) := by decide +kernel
theorem dL_moveMonth_17 : decode cL_moveMonth 17 = .ok (.astore 6, 2) := by decide +kernel
theorem dL_moveMonth_19 : decode cL_moveMonth 19 = .ok (.iconst 1, 1) := by decide +kernel
theorem dL_moveMonth_20 : decode cL_moveMonth 20 = .ok (.ireturn, 1) := by decide +kernel
theorem dL_moveMonth_21 : decode cL_moveMonth 21 = .ok (.astore 6, 2) := by decide +kernel
theorem dL_moveMonth_23 : decode cL_moveMonth 23 = .ok (.iconst 2, 1) := by decide +kernel
theorem dL_moveMonth_24 : decode cL_moveMonth 24 = .ok (.ireturn, 1) := by decide +kernel
theorem dL_moveMonth_25 : decode cL_moveMonth 25 = .ok (.astore 6, 2) := by decide +kernel
theorem dL_moveMonth_27 : decode cL_moveMonth 27 = .ok (.iconst 3, 1) := by decide +kernel
theorem dL_moveMonth_28 : decode cL_moveMonth 28 = .ok (.ireturn, 1) := by decide +kernel
theorem dL_moveMonth_29 : decode cL_moveMonth 29 = .ok (.iconst 0, 1) := by decide +kernel
theorem dL_moveMonth_30 : decode cL_moveMonth 30 = .ok (.ireturn, 1) := by decide +kernel
set_option maxRecDepth 20000 in
theorem ggL_monthPart_X2_monthPart : GoodIn wsL_monthPart wsX2_monthPart := goodIn_ca (goodIn_ca (goodIn_ca (goodIn_r _ [7, 8, 9, 10, 11, 12, 6, 13, 14, 15, 16, 17, 18, 19, 20, 21, 22, 23, 24, 25, 26, 27, 28, 29, 30, 31, 32, 33, 34, 35, 36, 37, 38, 39, 40, 41, 42, 43, 44, 45, 46, 47, 48, 49, 50, 51, 52, 53, 54] (by decide +kernel) (by decide +kernel)) (goodIn_sub (fun _ h => List.mem_cons_of_mem _ (List.mem_append_left _ (List.mem_append_left _ (List.mem_append_right _ h)))) (by decide +kernel))) (goodIn_sub (fun _ h => List.mem_cons_of_mem _ (List.mem_append_left _ (List.mem_append_right _ h))) (by decide +kernel))) (goodIn_sub (fun _ h => List.mem_cons_of_mem _ (List.mem_append_right _ h)) (by decide +kernel))
set_option maxRecDepth 20000 in
theorem gL_monthPart_X2_monthPart : GoodIn wsL_monthPart (wsV RL 91 RX2 yX2_monthPart wsX2_monthPart) := goodIn_app (goodIn_of _ (by decide +kernel)) ggL_monthPart_X2_monthPart
theorem dL_monthPart_0 : decode cL_monthPart 0 = .ok (.aload_n 3, 1) := by decide +kernel
theorem dL_monthPart_1 : decode cL_monthPart 1 = .ok (.iconst 0, 1) := by decide +kernel
theorem dL_monthPart_2 : decode cL_monthPart 2 = .ok (.aload_n 0, 1) := by decide +kernel
theorem dL_monthPart_3 : decode cL_monthPart 3 = .ok (.iload_n 1, 1) := by decide +kernel
theorem dL_monthPart_4 : decode cL_monthPart 4 = .ok (.iload_n 2, 1) := by decide +kernel
theorem dL_monthPart_5 : decode cL_monthPart 5 = .ok (.invokevirtual 91, 3) := by decide +kernel
theorem dL_monthPart_8 : decode cL_monthPart 8 = .ok (.i2l, 1) := by decide +kernel
theorem dL_monthPart_9 : decode cL_monthPart 9 = .ok (.lastore, 1) := by decide +kernel
theorem dL_monthPart_10 : decode cL_monthPart 10 = .ok (.goto 11, 3) := by decide +kernel
theorem dL_monthPart_13 : decode cL_monthPart 13 = .ok (.astore 4, 2) := by decide +kernel
theorem dL_monthPart_15 : decode cL_monthPart 15 = .ok (.iconst 1, 1) := by decide +kernel
theorem dL_monthPart_16 : decode cL_monthPart 16 = .ok (.ireturn, 1) := by decide +kernel
theorem dL_monthPart_17 : decode cL_monthPart 17 = .ok (.astore 4, 2) := by decide +kernel
theorem dL_monthPart_19 : decode cL_monthPart 19 = .ok (.iconst 2, 1) := by decide +kernel
theorem dL_monthPart_20 : decode cL_monthPart 20 = .ok (.ireturn, 1) := by decide +kernel
theorem dL_monthPart_21 : decode cL_monthPart 21 = .ok (.iconst 0, 1) := by decide +kernel
theorem dL_monthPart_22 : decode cL_monthPart 22 = .ok (.ireturn, 1) := by decide +kernel
set_option maxRecDepth 20000 in
theorem ggL_atDay_X2_atDay : GoodIn wsL_atDay wsX2_atDay := goodIn_ca (goodIn_ca (goodIn_ca (goodIn_ca (goodIn_r _ [7, 8, 9, 10, 6, 11, 12, 13, 14, 15, 16, 17, 18, 19, 20, 21, 22, 23, 24, 25, 26, 27, 28, 29, 30, 31, 32, 33, 34, 35, 36, 37, 38, 39, 40, 41, 42, 43, 44, 45, 46, 47, 48, 49, 50, 51, 52, 53, 54, 55, 56, 57, 58, 59, 60, 61, 62, 63, 64, 65, 66, 67, 68, 69, 70, 71, 72, 73, 74, 75, 76, 77, 78, 79, 80, 81, 82] (by decide +kernel) (by decide +kernel)) (goodIn_sub (fun _ h => List.mem_cons_of_mem _ (List.mem_append_left _ (List.mem_append_left _ (List.mem_append_left _ (List.mem_append_right _ h))))) (by decide +kernel))) (goodIn_sub (fun _ h => List.mem_cons_of_mem _ (List.mem_append_left _ (List.mem_append_left _ (List.mem_append_right _ h)))) (by decide +kernel))) (goodIn_sub (fun _ h => List.mem_cons_of_mem _ (List.mem_append_left _ (List.mem_append_right _ h))) (by decide +kernel))) (goodIn_sub (fun _ h => List.mem_cons_of_mem _ (List.mem_append_right _ h)) (by decide +kernel))
set_option maxRecDepth 20000 in
theorem gL_atDay_X2_atDay : GoodIn wsL_atDay (wsV RL 94 RX2 yX2_atDay wsX2_atDay) := goodIn_app (goodIn_of _ (by decide +kernel)) ggL_atDay_X2_atDay
theorem dL_atDay_0 : decode cL_atDay 0 = .ok (.aload 4, 2) := by decide +kernel
theorem dL_atDay_2 : decode cL_atDay 2 = .ok (.iconst 0, 1) := by decide +kernel
theorem dL_atDay_3 : decode cL_atDay 3 = .ok (.aload_n 0, 1) := by decide +kernel
theorem dL_atDay_4 : decode cL_atDay 4 = .ok (.iload_n 1, 1) := by decide +kernel
theorem dL_atDay_5 : decode cL_atDay 5 = .ok (.iload_n 2, 1) := by decide +kernel
theorem dL_atDay_6 : decode cL_atDay 6 = .ok (.iload_n 3, 1) := by decide +kernel
theorem dL_atDay_7 : decode cL_atDay 7 = .ok (.invokevirtual 94, 3) := by decide +kernel
theorem dL_atDay_10 : decode cL_atDay 10 = .ok (.lastore, 1) := by decide +kernel
theorem dL_atDay_11 : decode cL_atDay 11 = .ok (.goto 11, 3) := by decide +kernel
theorem dL_atDay_14 : decode cL_atDay 14 = .ok (.astore 5, 2) := by decide +kernel
theorem dL_atDay_16 : decode cL_atDay 16 = .ok (.iconst 1, 1) := by decide +kernel
theorem dL_atDay_17 : decode cL_atDay 17 = .ok (.ireturn, 1) := by decide +kernel
theorem dL_atDay_18 : decode cL_atDay 18 = .ok (.astore 5, 2) := by decide +kernel
theorem dL_atDay_20 : decode cL_atDay 20 = .ok (.iconst 2, 1) := by decide +kernel
theorem dL_atDay_21 : decode cL_atDay 21 = .ok (.ireturn, 1) := by decide +kernel
theorem dL_atDay_22 : decode cL_atDay 22 = .ok (.iconst 0, 1) := by decide +kernel
theorem dL_atDay_23 : decode cL_atDay 23 = .ok (.ireturn, 1) := by decide +kernel
set_option maxRecDepth 20000 in
theorem ggL_orderMonths_X2_orderMonths : GoodIn wsL_orderMonths wsX2_orderMonths := goodIn_ca (goodIn_ca (goodIn_r _ [6, 7, 8, 9, 5, 10, 11, 12, 13, 14, 15, 16, 17, 18, 19, 20, 21, 22, 23, 24, 25] (by decide +kernel) (by decide +kernel)) (goodIn_sub (fun _ h => List.mem_cons_of_mem _ (List.mem_append_left _ (List.mem_append_right _ h))) (by decide +kernel))) (goodIn_sub (fun _ h => List.mem_cons_of_mem _ (List.mem_append_right _ h)) (by decide +kernel))
set_option maxRecDepth 20000 in
theorem gL_orderMonths_X2_orderMonths : GoodIn wsL_orderMonths (wsV RL 97 RX2 yX2_orderMonths wsX2_orderMonths) := goodIn_app (goodIn_of _ (by decide +kernel)) ggL_orderMonths_X2_orderMonths
theorem dL_orderMonths_0 : decode cL_orderMonths 0 = .ok (.aload_n 3, 1) := by decide +kernel
theorem dL_orderMonths_1 : decode cL_orderMonths 1 = .ok (.iconst 0, 1) := by decide +kernel
theorem dL_orderMonths_2 : decode cL_orderMonths 2 = .ok (.aload_n 0, 1) := by decide +kernel
theorem dL_orderMonths_3 : decode cL_orderMonths 3 = .ok (.iload_n 1, 1) := by decide +kernel
theorem dL_orderMonths_4 : decode cL_orderMonths 4 = .ok (.iload_n 2, 1) := by decide +kernel
theorem dL_orderMonths_5 : decode cL_orderMonths 5 = .ok (.invokevirtual 97, 3) := by decide +kernel
theorem dL_orderMonths_8 : decode cL_orderMonths 8 = .ok (.i2l, 1) := by decide +kernel
theorem dL_orderMonths_9 : decode cL_orderMonths 9 = .ok (.lastore, 1) := by decide +kernel
theorem dL_orderMonths_10 : decode cL_orderMonths 10 = .ok (.goto 7, 3) := by decide +kernel
theorem dL_orderMonths_13 : decode cL_orderMonths 13 = .ok (.astore 4, 2) := by decide +kernel
theorem dL_orderMonths_15 : decode cL_orderMonths 15 = .ok (.iconst 1, 1) := by decide +kernel
theorem dL_orderMonths_16 : decode cL_orderMonths 16 = .ok (.ireturn, 1) := by decide +kernel
theorem dL_orderMonths_17 : decode cL_orderMonths 17 = .ok (.iconst 0, 1) := by decide +kernel
theorem dL_orderMonths_18 : decode cL_orderMonths 18 = .ok (.ireturn, 1) := by decide +kernel
set_option maxRecDepth 20000 in
theorem ggL_time_X2_time : GoodIn wsL_time wsX2_time := goodIn_ca (goodIn_ca (goodIn_ca (goodIn_r _ [7, 8, 9, 10, 11, 12, 13, 14, 15, 16, 6, 17, 18, 19, 20, 21, 22, 23, 24, 25, 26, 27, 28, 29, 30, 31, 32, 33, 34, 35, 36, 37] (by decide +kernel) (by decide +kernel)) (goodIn_sub (fun _ h => List.mem_cons_of_mem _ (List.mem_append_left _ (List.mem_append_left _ (List.mem_append_right _ h)))) (by decide +kernel))) (goodIn_sub (fun _ h => List.mem_cons_of_mem _ (List.mem_append_left _ (List.mem_append_right _ h))) (by decide +kernel))) (goodIn_sub (fun _ h => List.mem_cons_of_mem _ (List.mem_append_right _ h)) (by decide +kernel))
set_option maxRecDepth 20000 in
theorem gL_time_X2_time : GoodIn wsL_time (wsV RL 100 RX2 yX2_time wsX2_time) := goodIn_app (goodIn_of _ (by decide +kernel)) ggL_time_X2_time
theorem dL_time_0 : decode cL_time 0 = .ok (.aload 6, 2) := by decide +kernel
theorem dL_time_2 : decode cL_time 2 = .ok (.iconst 0, 1) := by decide +kernel
theorem dL_time_3 : decode cL_time 3 = .ok (.aload_n 0, 1) := by decide +kernel
theorem dL_time_4 : decode cL_time 4 = .ok (.iload_n 1, 1) := by decide +kernel
theorem dL_time_5 : decode cL_time 5 = .ok (.iload_n 2, 1) := by decide +kernel
theorem dL_time_6 : decode cL_time 6 = .ok (.iload_n 3, 1) := by decide +kernel
theorem dL_time_7 : decode cL_time 7 = .ok (.iload 4, 2) := by decide +kernel
theorem dL_time_9 : decode cL_time 9 = .ok (.iload 5, 2) := by decide +kernel
theorem dL_time_11 : decode cL_time 11 = .ok (.invokevirtual 100, 3) := by decide +kernel
theorem dL_time_14 : decode cL_time 14 = .ok (.lastore, 1) := by decide +kernel
theorem dL_time_15 : decode cL_time 15 = .ok (.goto 11, 3) := by decide +kernel
theorem dL_time_18 : decode cL_time 18 = .ok (.astore 7, 2) := by decide +kernel
theorem dL_time_20 : decode cL_time 20 = .ok (.iconst 1, 1) := by decide +kernel
theorem dL_time_21 : decode cL_time 21 = .ok (.ireturn, 1) := by decide +kernel
theorem dL_time_22 : decode cL_time 22 = .ok (.astore 7, 2) := by decide +kernel
theorem dL_time_24 : decode cL_time 24 = .ok (.iconst 2, 1) := by decide +kernel
theorem dL_time_25 : decode cL_time 25 = .ok (.ireturn, 1) := by decide +kernel
theorem dL_time_26 : decode cL_time 26 = .ok (.iconst 0, 1) := by decide +kernel
theorem dL_time_27 : decode cL_time 27 = .ok (.ireturn, 1) := by decide +kernel
set_option maxRecDepth 20000 in
theorem ggL_ofBillionths_X2_ofBillionths : GoodIn wsL_ofBillionths wsX2_ofBillionths := goodIn_ca (goodIn_ca (goodIn_ca (goodIn_r _ [7, 8, 9, 10, 11, 12, 6, 13, 14, 15, 16, 17, 18, 19, 20, 21, 22, 23, 24, 25, 26, 27, 28, 29, 30, 31, 32, 33] (by decide +kernel) (by decide +kernel)) (goodIn_sub (fun _ h => List.mem_cons_of_mem _ (List.mem_append_left _ (List.mem_append_left _ (List.mem_append_right _ h)))) (by decide +kernel))) (goodIn_sub (fun _ h => List.mem_cons_of_mem _ (List.mem_append_left _ (List.mem_append_right _ h))) (by decide +kernel))) (goodIn_sub (fun _ h => List.mem_cons_of_mem _ (List.mem_append_right _ h)) (by decide +kernel))
set_option maxRecDepth 20000 in
theorem gL_ofBillionths_X2_ofBillionths : GoodIn wsL_ofBillionths (wsV RL 104 RX2 yX2_ofBillionths wsX2_ofBillionths) := goodIn_app (goodIn_of _ (by decide +kernel)) ggL_ofBillionths_X2_ofBillionths
theorem dL_ofBillionths_0 : decode cL_ofBillionths 0 = .ok (.aload 4, 2) := by decide +kernel
theorem dL_ofBillionths_2 : decode cL_ofBillionths 2 = .ok (.iconst 0, 1) := by decide +kernel
theorem dL_ofBillionths_3 : decode cL_ofBillionths 3 = .ok (.aload_n 0, 1) := by decide +kernel
theorem dL_ofBillionths_4 : decode cL_ofBillionths 4 = .ok (.iload_n 1, 1) := by decide +kernel
theorem dL_ofBillionths_5 : decode cL_ofBillionths 5 = .ok (.lload_n 2, 1) := by decide +kernel
theorem dL_ofBillionths_6 : decode cL_ofBillionths 6 = .ok (.invokevirtual 104, 3) := by decide +kernel
theorem dL_ofBillionths_9 : decode cL_ofBillionths 9 = .ok (.i2l, 1) := by decide +kernel
theorem dL_ofBillionths_10 : decode cL_ofBillionths 10 = .ok (.lastore, 1) := by decide +kernel
theorem dL_ofBillionths_11 : decode cL_ofBillionths 11 = .ok (.goto 11, 3) := by decide +kernel
theorem dL_ofBillionths_14 : decode cL_ofBillionths 14 = .ok (.astore 5, 2) := by decide +kernel
theorem dL_ofBillionths_16 : decode cL_ofBillionths 16 = .ok (.iconst 1, 1) := by decide +kernel
theorem dL_ofBillionths_17 : decode cL_ofBillionths 17 = .ok (.ireturn, 1) := by decide +kernel
theorem dL_ofBillionths_18 : decode cL_ofBillionths 18 = .ok (.astore 5, 2) := by decide +kernel
theorem dL_ofBillionths_20 : decode cL_ofBillionths 20 = .ok (.iconst 2, 1) := by decide +kernel
theorem dL_ofBillionths_21 : decode cL_ofBillionths 21 = .ok (.ireturn, 1) := by decide +kernel
theorem dL_ofBillionths_22 : decode cL_ofBillionths 22 = .ok (.iconst 0, 1) := by decide +kernel
theorem dL_ofBillionths_23 : decode cL_ofBillionths 23 = .ok (.ireturn, 1) := by decide +kernel
set_option maxRecDepth 20000 in
theorem ggL_timePart_X2_timePart : GoodIn wsL_timePart wsX2_timePart := goodIn_ca (goodIn_ca (goodIn_ca (goodIn_r _ [7, 8, 9, 10, 11, 12, 13, 14, 15, 16, 6, 17, 18, 19, 20, 21, 22, 23, 24, 25, 26, 27, 28, 29] (by decide +kernel) (by decide +kernel)) (goodIn_sub (fun _ h => List.mem_cons_of_mem _ (List.mem_append_left _ (List.mem_append_left _ (List.mem_append_right _ h)))) (by decide +kernel))) (goodIn_sub (fun _ h => List.mem_cons_of_mem _ (List.mem_append_left _ (List.mem_append_right _ h))) (by decide +kernel))) (goodIn_sub (fun _ h => List.mem_cons_of_mem _ (List.mem_append_right _ h)) (by decide +kernel))
set_option maxRecDepth 20000 in
theorem gL_timePart_X2_timePart : GoodIn wsL_timePart (wsV RL 107 RX2 yX2_timePart wsX2_timePart) := goodIn_app (goodIn_of _ (by decide +kernel)) ggL_timePart_X2_timePart
theorem dL_timePart_0 : decode cL_timePart 0 = .ok (.aload_n 3, 1) := by decide +kernel
theorem dL_timePart_1 : decode cL_timePart 1 = .ok (.iconst 0, 1) := by decide +kernel
theorem dL_timePart_2 : decode cL_timePart 2 = .ok (.aload_n 0, 1) := by decide +kernel
theorem dL_timePart_3 : decode cL_timePart 3 = .ok (.iload_n 1, 1) := by decide +kernel
theorem dL_timePart_4 : decode cL_timePart 4 = .ok (.iload_n 2, 1) := by decide +kernel
theorem dL_timePart_5 : decode cL_timePart 5 = .ok (.invokevirtual 107, 3) := by decide +kernel
theorem dL_timePart_8 : decode cL_timePart 8 = .ok (.i2l, 1) := by decide +kernel
theorem dL_timePart_9 : decode cL_timePart 9 = .ok (.lastore, 1) := by decide +kernel
theorem dL_timePart_10 : decode cL_timePart 10 = .ok (.goto 11, 3) := by decide +kernel
theorem dL_timePart_13 : decode cL_timePart 13 = .ok (.astore 4, 2) := by decide +kernel
theorem dL_timePart_15 : decode cL_timePart 15 = .ok (.iconst 1, 1) := by decide +kernel
theorem dL_timePart_16 : decode cL_timePart 16 = .ok (.ireturn, 1) := by decide +kernel
