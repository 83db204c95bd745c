theorem dX2_adjust_169 : decode cX2_adjust 169 = .ok (.dup, 1) := by decide +kernel
theorem dX2_adjust_170 : decode cX2_adjust 170 = .ok (.ldc 128, 2) := by decide +kernel
theorem dX2_adjust_172 : decode cX2_adjust 172 = .ok (.invokespecial 105, 3) := by decide +kernel
theorem dX2_adjust_175 : decode cX2_adjust 175 = .ok (.athrow, 1) := by decide +kernel
set_option maxRecDepth 20000 in
theorem ggX2_weekday_X2_checkSlot : GoodIn wsX2_weekday wsX2_checkSlot := goodIn_ca (goodIn_r _ [8, 9, 10] (by decide +kernel) (by decide +kernel)) (goodIn_sub (fun _ h => List.mem_cons_of_mem _ (List.mem_append_left _ (List.mem_append_right _ h))) (by decide +kernel))
set_option maxRecDepth 20000 in
theorem gX2_weekday_X2_checkSlot : GoodIn wsX2_weekday (va_wsS RX2 41 yX2_checkSlot wsX2_checkSlot) := goodIn_app (goodIn_of _ (by decide +kernel)) ggX2_weekday_X2_checkSlot
set_option maxRecDepth 20000 in
theorem ggX2_weekday_X2_isIn : GoodIn wsX2_weekday wsX2_isIn := goodIn_r _ [13] (by decide +kernel) (by decide +kernel)
set_option maxRecDepth 20000 in
theorem gX2_weekday_X2_isIn : GoodIn wsX2_weekday (va_wsS RX2 55 yX2_isIn wsX2_isIn) := goodIn_app (goodIn_of _ (by decide +kernel)) ggX2_weekday_X2_isIn
set_option maxRecDepth 20000 in
theorem ggX2_weekday_X2_checkArgument : GoodIn wsX2_weekday wsX2_checkArgument := goodIn_ca (goodIn_r _ [16, 1, 2] (by decide +kernel) (by decide +kernel)) (goodIn_sub (fun _ h => List.mem_cons_of_mem _ (List.mem_append_left _ (List.mem_append_left _ (List.mem_append_right _ h)))) (by decide +kernel))
set_option maxRecDepth 20000 in
theorem gX2_weekday_X2_checkArgument : GoodIn wsX2_weekday (va_wsS RX2 49 yX2_checkArgument wsX2_checkArgument) := goodIn_app (goodIn_of _ (by decide +kernel)) ggX2_weekday_X2_checkArgument
set_option maxRecDepth 20000 in
theorem ggX2_weekday_X1_monthOfDay : GoodIn wsX2_weekday wsX1_monthOfDay := goodIn_r _ [20, 21, 22, 23, 24, 25, 19, 26, 27, 28, 29, 30, 31, 32, 33, 34, 35, 36, 37, 38, 39, 40, 41, 42, 43, 44, 45, 46, 47, 48] (by decide +kernel) (by decide +kernel)
set_option maxRecDepth 20000 in
theorem gX2_weekday_X1_monthOfDay : GoodIn wsX2_weekday (va_wsS RX2 80 yX1_monthOfDay wsX1_monthOfDay) := goodIn_app (goodIn_of _ (by decide +kernel)) ggX2_weekday_X1_monthOfDay
set_option maxRecDepth 20000 in
theorem ggX2_weekday_X1_weekdayFrom : GoodIn wsX2_weekday wsX1_weekdayFrom := goodIn_r _ [51, 52, 53, 19, 54, 37, 55, 56, 57, 32, 58, 59, 60, 61] (by decide +kernel) (by decide +kernel)
set_option maxRecDepth 20000 in
theorem gX2_weekday_X1_weekdayFrom : GoodIn wsX2_weekday (va_wsS RX2 132 yX1_weekdayFrom wsX1_weekdayFrom) := goodIn_app (goodIn_of _ (by decide +kernel)) ggX2_weekday_X1_weekdayFrom
set_option maxRecDepth 20000 in
theorem ggX2_weekday_X2_keepDate : GoodIn wsX2_weekday wsX2_keepDate := goodIn_ca (goodIn_ca (goodIn_r _ [65, 4, 66, 67, 19, 68, 69, 70, 71, 72, 7, 73, 74, 75, 89, 90, 91, 92, 93, 94, 95, 96, 97, 98] (by decide +kernel) (by decide +kernel)) (goodIn_sub (fun _ h => List.mem_cons_of_mem _ (List.mem_append_left _ (List.mem_append_left _ (List.mem_append_left _ (List.mem_append_right _ h))))) (by decide +kernel))) (goodIn_sub (fun _ h => List.mem_cons_of_mem _ (List.mem_append_right _ h)) (by decide +kernel))
set_option maxRecDepth 20000 in
theorem gX2_weekday_X2_keepDate : GoodIn wsX2_weekday (wsV RX2 73 RX2 yX2_keepDate wsX2_keepDate) := goodIn_app (goodIn_of _ (by decide +kernel)) ggX2_weekday_X2_keepDate
set_option maxRecDepth 20000 in
theorem ggX2_weekday_X1_weekdayUpTo : GoodIn wsX2_weekday wsX1_weekdayUpTo := goodIn_r _ [78, 52, 53, 19, 54, 37, 55, 56, 57, 32, 58, 59, 60, 61] (by decide +kernel) (by decide +kernel)
set_option maxRecDepth 20000 in
theorem gX2_weekday_X1_weekdayUpTo : GoodIn wsX2_weekday (va_wsS RX2 136 yX1_weekdayUpTo wsX1_weekdayUpTo) := goodIn_app (goodIn_of _ (by decide +kernel)) ggX2_weekday_X1_weekdayUpTo
set_option maxRecDepth 20000 in
theorem ggX2_weekday_X1_firstOfMonth : GoodIn wsX2_weekday wsX1_firstOfMonth := goodIn_r _ [81, 82, 83, 84, 19, 85, 21, 30, 31, 32, 33, 86, 87, 88, 56, 57, 58, 43, 44, 45, 38, 40, 27, 34, 35, 36, 37, 39, 41, 42, 28] (by decide +kernel) (by decide +kernel)
set_option maxRecDepth 20000 in
theorem gX2_weekday_X1_firstOfMonth : GoodIn wsX2_weekday (va_wsS RX2 69 yX1_firstOfMonth wsX1_firstOfMonth) := goodIn_app (goodIn_of _ (by decide +kernel)) ggX2_weekday_X1_firstOfMonth
theorem dX2_weekday_0 : decode cX2_weekday 0 = .ok (.iload_n 1, 1) := by decide +kernel
theorem dX2_weekday_1 : decode cX2_weekday 1 = .ok (.bipush 6, 2) := by decide +kernel
theorem dX2_weekday_3 : decode cX2_weekday 3 = .ok (.invokestatic 41, 3) := by decide +kernel
theorem dX2_weekday_6 : decode cX2_weekday 6 = .ok (.iload 4, 2) := by decide +kernel
theorem dX2_weekday_8 : decode cX2_weekday 8 = .ok (.bipush 6, 2) := by decide +kernel
theorem dX2_weekday_10 : decode cX2_weekday 10 = .ok (.invokestatic 41, 3) := by decide +kernel
theorem dX2_weekday_13 : decode cX2_weekday 13 = .ok (.iload_n 3, 1) := by decide +kernel
theorem dX2_weekday_14 : decode cX2_weekday 14 = .ok (.i2l, 1) := by decide +kernel
theorem dX2_weekday_15 : decode cX2_weekday 15 = .ok (.lconst 1, 1) := by decide +kernel
theorem dX2_weekday_16 : decode cX2_weekday 16 = .ok (.ldc2_w 130, 3) := by decide +kernel
theorem dX2_weekday_19 : decode cX2_weekday 19 = .ok (.invokestatic 55, 3) := by decide +kernel
theorem dX2_weekday_22 : decode cX2_weekday 22 = .ok (.invokestatic 49, 3) := by decide +kernel
theorem dX2_weekday_25 : decode cX2_weekday 25 = .ok (.aload_n 0, 1) := by decide +kernel
theorem dX2_weekday_26 : decode cX2_weekday 26 = .ok (.getfield 9, 3) := by decide +kernel
theorem dX2_weekday_29 : decode cX2_weekday 29 = .ok (.iload_n 1, 1) := by decide +kernel
theorem dX2_weekday_30 : decode cX2_weekday 30 = .ok (.laload, 1) := by decide +kernel
theorem dX2_weekday_31 : decode cX2_weekday 31 = .ok (.lstore 5, 2) := by decide +kernel
theorem dX2_weekday_33 : decode cX2_weekday 33 = .ok (.lload 5, 2) := by decide +kernel
theorem dX2_weekday_35 : decode cX2_weekday 35 = .ok (.invokestatic 80, 3) := by decide +kernel
theorem dX2_weekday_38 : decode cX2_weekday 38 = .ok (.lstore 7, 2) := by decide +kernel
theorem dX2_weekday_40 : decode cX2_weekday 40 = .ok (.iload_n 2, 1) := by decide +kernel
theorem dX2_weekday_41 : decode cX2_weekday 41 = .ok (.lookupswitch 151 #[(78, 89), (80, 102), (102, 115), (108, 131), (110, 59), (112, 74)], 59) := by decide +kernel
theorem dX2_weekday_100 : decode cX2_weekday 100 = .ok (.aload_n 0, 1) := by decide +kernel
theorem dX2_weekday_101 : decode cX2_weekday 101 = .ok (.iload 4, 2) := by decide +kernel
theorem dX2_weekday_103 : decode cX2_weekday 103 = .ok (.lload 5, 2) := by decide +kernel
theorem dX2_weekday_105 : decode cX2_weekday 105 = .ok (.lconst 1, 1) := by decide +kernel
theorem dX2_weekday_106 : decode cX2_weekday 106 = .ok (.ladd, 1) := by decide +kernel
theorem dX2_weekday_107 : decode cX2_weekday 107 = .ok (.iload_n 3, 1) := by decide +kernel
theorem dX2_weekday_108 : decode cX2_weekday 108 = .ok (.invokestatic 132, 3) := by decide +kernel
theorem dX2_weekday_111 : decode cX2_weekday 111 = .ok (.invokevirtual 73, 3) := by decide +kernel
theorem dX2_weekday_114 : decode cX2_weekday 114 = .ok (.lreturn, 1) := by decide +kernel
theorem dX2_weekday_115 : decode cX2_weekday 115 = .ok (.aload_n 0, 1) := by decide +kernel
theorem dX2_weekday_116 : decode cX2_weekday 116 = .ok (.iload 4, 2) := by decide +kernel
theorem dX2_weekday_118 : decode cX2_weekday 118 = .ok (.lload 5, 2) := by decide +kernel
theorem dX2_weekday_120 : decode cX2_weekday 120 = .ok (.lconst 1, 1) := by decide +kernel
theorem dX2_weekday_121 : decode cX2_weekday 121 = .ok (.lsub, 1) := by decide +kernel
theorem dX2_weekday_122 : decode cX2_weekday 122 = .ok (.iload_n 3, 1) := by decide +kernel
theorem dX2_weekday_123 : decode cX2_weekday 123 = .ok (.invokestatic 136, 3) := by decide +kernel
theorem dX2_weekday_126 : decode cX2_weekday 126 = .ok (.invokevirtual 73, 3) := by decide +kernel
theorem dX2_weekday_129 : decode cX2_weekday 129 = .ok (.lreturn, 1) := by decide +kernel
theorem dX2_weekday_130 : decode cX2_weekday 130 = .ok (.aload_n 0, 1) := by decide +kernel
theorem dX2_weekday_131 : decode cX2_weekday 131 = .ok (.iload 4, 2) := by decide +kernel
theorem dX2_weekday_133 : decode cX2_weekday 133 = .ok (.lload 5, 2) := by decide +kernel
theorem dX2_weekday_135 : decode cX2_weekday 135 = .ok (.iload_n 3, 1) := by decide +kernel
theorem dX2_weekday_136 : decode cX2_weekday 136 = .ok (.invokestatic 132, 3) := by decide +kernel
theorem dX2_weekday_139 : decode cX2_weekday 139 = .ok (.invokevirtual 73, 3) := by decide +kernel
theorem dX2_weekday_142 : decode cX2_weekday 142 = .ok (.lreturn, 1) := by decide +kernel
theorem dX2_weekday_143 : decode cX2_weekday 143 = .ok (.aload_n 0, 1) := by decide +kernel
theorem dX2_weekday_144 : decode cX2_weekday 144 = .ok (.iload 4, 2) := by decide +kernel
theorem dX2_weekday_146 : decode cX2_weekday 146 = .ok (.lload 5, 2) := by decide +kernel
theorem dX2_weekday_148 : decode cX2_weekday 148 = .ok (.iload_n 3, 1) := by decide +kernel
theorem dX2_weekday_149 : decode cX2_weekday 149 = .ok (.invokestatic 136, 3) := by decide +kernel
theorem dX2_weekday_152 : decode cX2_weekday 152 = .ok (.invokevirtual 73, 3) := by decide +kernel
theorem dX2_weekday_155 : decode cX2_weekday 155 = .ok (.lreturn, 1) := by decide +kernel
theorem dX2_weekday_156 : decode cX2_weekday 156 = .ok (.aload_n 0, 1) := by decide +kernel
theorem dX2_weekday_157 : decode cX2_weekday 157 = .ok (.iload 4, 2) := by decide +kernel
theorem dX2_weekday_159 : decode cX2_weekday 159 = .ok (.lload 7, 2) := by decide +kernel
theorem dX2_weekday_161 : decode cX2_weekday 161 = .ok (.invokestatic 69, 3) := by decide +kernel
theorem dX2_weekday_164 : decode cX2_weekday 164 = .ok (.iload_n 3, 1) := by decide +kernel
theorem dX2_weekday_165 : decode cX2_weekday 165 = .ok (.invokestatic 132, 3) := by decide +kernel
theorem dX2_weekday_168 : decode cX2_weekday 168 = .ok (.invokevirtual 73, 3) := by decide +kernel
theorem dX2_weekday_171 : decode cX2_weekday 171 = .ok (.lreturn, 1) := by decide +kernel
theorem dX2_weekday_172 : decode cX2_weekday 172 = .ok (.aload_n 0, 1) := by decide +kernel
theorem dX2_weekday_173 : decode cX2_weekday 173 = .ok (.iload 4, 2) := by decide +kernel
theorem dX2_weekday_175 : decode cX2_weekday 175 = .ok (.lload 7, 2) := by decide +kernel
theorem dX2_weekday_177 : decode cX2_weekday 177 = .ok (.lconst 1, 1) := by decide +kernel
theorem dX2_weekday_178 : decode cX2_weekday 178 = .ok (.ladd, 1) := by decide +kernel
theorem dX2_weekday_179 : decode cX2_weekday 179 = .ok (.invokestatic 69, 3) := by decide +kernel
theorem dX2_weekday_182 : decode cX2_weekday 182 = .ok (.lconst 1, 1) := by decide +kernel
theorem dX2_weekday_183 : decode cX2_weekday 183 = .ok (.lsub, 1) := by decide +kernel
theorem dX2_weekday_184 : decode cX2_weekday 184 = .ok (.iload_n 3, 1) := by decide +kernel
theorem dX2_weekday_185 : decode cX2_weekday 185 = .ok (.invokestatic 136, 3) := by decide +kernel
theorem dX2_weekday_188 : decode cX2_weekday 188 = .ok (.invokevirtual 73, 3) := by decide +kernel
theorem dX2_weekday_191 : decode cX2_weekday 191 = .ok (.lreturn, 1) := by decide +kernel
theorem dX2_weekday_192 : decode cX2_weekday 192 = .ok (.new 101, 3) := by decide +kernel
theorem dX2_weekday_195 : decode cX2_weekday 195 = .ok (.dup, 1) := by decide +kernel
theorem dX2_weekday_196 : decode cX2_weekday 196 = .ok (.ldc 139, 2) := by decide +kernel
theorem dX2_weekday_198 : decode cX2_weekday 198 = .ok (.invokespecial 105, 3) := by decide +kernel
theorem dX2_weekday_201 : decode cX2_weekday 201 = .ok (.athrow, 1) := by decide +kernel
set_option maxRecDepth 20000 in
theorem ggX2_inMonth_X2_checkSlot : GoodIn wsX2_inMonth wsX2_checkSlot := goodIn_ca (goodIn_r _ [8, 9, 10] (by decide +kernel) (by decide +kernel)) (goodIn_sub (fun _ h => List.mem_cons_of_mem _ (List.mem_append_left _ (List.mem_append_left _ (List.mem_append_right _ h)))) (by decide +kernel))
set_option maxRecDepth 20000 in
theorem gX2_inMonth_X2_checkSlot : GoodIn wsX2_inMonth (va_wsS RX2 41 yX2_checkSlot wsX2_checkSlot) := goodIn_app (goodIn_of _ (by decide +kernel)) ggX2_inMonth_X2_checkSlot
set_option maxRecDepth 20000 in
theorem ggX2_inMonth_X2_isIn : GoodIn wsX2_inMonth wsX2_isIn := goodIn_r _ [13] (by decide +kernel) (by decide +kernel)
set_option maxRecDepth 20000 in
theorem gX2_inMonth_X2_isIn : GoodIn wsX2_inMonth (va_wsS RX2 55 yX2_isIn wsX2_isIn) := goodIn_app (goodIn_of _ (by decide +kernel)) ggX2_inMonth_X2_isIn
set_option maxRecDepth 20000 in
theorem ggX2_inMonth_X2_checkArgument : GoodIn wsX2_inMonth wsX2_checkArgument := goodIn_ca (goodIn_r _ [16, 17, 18] (by decide +kernel) (by decide +kernel)) (goodIn_sub (fun _ h => List.mem_cons_of_mem _ (List.mem_append_left _ (List.mem_append_right _ h))) (by decide +kernel))
set_option maxRecDepth 20000 in
theorem gX2_inMonth_X2_checkArgument : GoodIn wsX2_inMonth (va_wsS RX2 49 yX2_checkArgument wsX2_checkArgument) := goodIn_app (goodIn_of _ (by decide +kernel)) ggX2_inMonth_X2_checkArgument
set_option maxRecDepth 20000 in
theorem ggX2_inMonth_X1_monthOfDay : GoodIn wsX2_inMonth wsX1_monthOfDay := goodIn_r _ [22, 23, 24, 25, 26, 27, 21, 28, 29, 30, 31, 32, 33, 34, 35, 36, 37, 38, 39, 40, 41, 42, 43, 44, 45, 46, 47, 48, 49, 50] (by decide +kernel) (by decide +kernel)
set_option maxRecDepth 20000 in
theorem gX2_inMonth_X1_monthOfDay : GoodIn wsX2_inMonth (va_wsS RX2 80 yX1_monthOfDay wsX1_monthOfDay) := goodIn_app (goodIn_of _ (by decide +kernel)) ggX2_inMonth_X1_monthOfDay
set_option maxRecDepth 20000 in
theorem ggX2_inMonth_X1_firstOfMonth : GoodIn wsX2_inMonth wsX1_firstOfMonth := goodIn_r _ [53, 54, 55, 56, 21, 57, 23, 32, 33, 34, 35, 58, 59, 60, 61, 62, 63, 45, 46, 47, 40, 42, 29, 36, 37, 38, 39, 41, 43, 44, 30] (by decide +kernel) (by decide +kernel)
set_option maxRecDepth 20000 in
theorem gX2_inMonth_X1_firstOfMonth : GoodIn wsX2_inMonth (va_wsS RX2 69 yX1_firstOfMonth wsX1_firstOfMonth) := goodIn_app (goodIn_of _ (by decide +kernel)) ggX2_inMonth_X1_firstOfMonth
set_option maxRecDepth 20000 in
theorem ggX2_inMonth_X1_weekdayUpTo : GoodIn wsX2_inMonth wsX1_weekdayUpTo := goodIn_r _ [66, 67, 68, 21, 69, 39, 70, 61, 62, 34, 63, 71, 72, 73] (by decide +kernel) (by decide +kernel)
set_option maxRecDepth 20000 in
theorem gX2_inMonth_X1_weekdayUpTo : GoodIn wsX2_inMonth (va_wsS RX2 136 yX1_weekdayUpTo wsX1_weekdayUpTo) := goodIn_app (goodIn_of _ (by decide +kernel)) ggX2_inMonth_X1_weekdayUpTo
set_option maxRecDepth 20000 in
theorem ggX2_inMonth_X2_keepDate : GoodIn wsX2_inMonth wsX2_keepDate := goodIn_ca (goodIn_ca (goodIn_r _ [77, 4, 78, 79, 21, 80, 81, 82, 83, 84, 7, 85, 86, 87, 91, 92, 93, 94, 95, 96, 97, 98, 99, 100] (by decide +kernel) (by decide +kernel)) (goodIn_sub (fun _ h => List.mem_cons_of_mem _ (List.mem_append_left _ (List.mem_append_left _ (List.mem_append_left _ (List.mem_append_right _ h))))) (by decide +kernel))) (goodIn_sub (fun _ h => List.mem_cons_of_mem _ (List.mem_append_right _ h)) (by decide +kernel))
set_option maxRecDepth 20000 in
theorem gX2_inMonth_X2_keepDate : GoodIn wsX2_inMonth (wsV RX2 73 RX2 yX2_keepDate wsX2_keepDate) := goodIn_app (goodIn_of _ (by decide +kernel)) ggX2_inMonth_X2_keepDate
set_option maxRecDepth 20000 in
theorem ggX2_inMonth_X1_weekdayFrom : GoodIn wsX2_inMonth wsX1_weekdayFrom := goodIn_r _ [90, 67, 68, 21, 69, 39, 70, 61, 62, 34, 63, 71, 72, 73] (by decide +kernel) (by decide +kernel)
set_option maxRecDepth 20000 in
theorem gX2_inMonth_X1_weekdayFrom : GoodIn wsX2_inMonth (va_wsS RX2 132 yX1_weekdayFrom wsX1_weekdayFrom) := goodIn_app (goodIn_of _ (by decide +kernel)) ggX2_inMonth_X1_weekdayFrom
theorem dX2_inMonth_0 : decode cX2_inMonth 0 = .ok (.iload_n 1, 1) := by decide +kernel
theorem dX2_inMonth_1 : decode cX2_inMonth 1 = .ok (.bipush 6, 2) := by decide +kernel
theorem dX2_inMonth_3 : decode cX2_inMonth 3 = .ok (.invokestatic 41, 3) := by decide +kernel
theorem dX2_inMonth_6 : decode cX2_inMonth 6 = .ok (.iload 4, 2) := by decide +kernel
theorem dX2_inMonth_8 : decode cX2_inMonth 8 = .ok (.bipush 6, 2) := by decide +kernel
theorem dX2_inMonth_10 : decode cX2_inMonth 10 = .ok (.invokestatic 41, 3) := by decide +kernel
theorem dX2_inMonth_13 : decode cX2_inMonth 13 = .ok (.iload_n 2, 1) := by decide +kernel
theorem dX2_inMonth_14 : decode cX2_inMonth 14 = .ok (.i2l, 1) := by decide +kernel
theorem dX2_inMonth_15 : decode cX2_inMonth 15 = .ok (.ldc2_w 141, 3) := by decide +kernel
theorem dX2_inMonth_18 : decode cX2_inMonth 18 = .ok (.ldc2_w 143, 3) := by decide +kernel
theorem dX2_inMonth_21 : decode cX2_inMonth 21 = .ok (.invokestatic 55, 3) := by decide +kernel
theorem dX2_inMonth_24 : decode cX2_inMonth 24 = .ok (.invokestatic 49, 3) := by decide +kernel
theorem dX2_inMonth_27 : decode cX2_inMonth 27 = .ok (.iload_n 3, 1) := by decide +kernel
theorem dX2_inMonth_28 : decode cX2_inMonth 28 = .ok (.i2l, 1) := by decide +kernel
theorem dX2_inMonth_29 : decode cX2_inMonth 29 = .ok (.lconst 1, 1) := by decide +kernel
theorem dX2_inMonth_30 : decode cX2_inMonth 30 = .ok (.ldc2_w 130, 3) := by decide +kernel
theorem dX2_inMonth_33 : decode cX2_inMonth 33 = .ok (.invokestatic 55, 3) := by decide +kernel
theorem dX2_inMonth_36 : decode cX2_inMonth 36 = .ok (.invokestatic 49, 3) := by decide +kernel
theorem dX2_inMonth_39 : decode cX2_inMonth 39 = .ok (.aload_n 0, 1) := by decide +kernel
theorem dX2_inMonth_40 : decode cX2_inMonth 40 = .ok (.getfield 9, 3) := by decide +kernel
theorem dX2_inMonth_43 : decode cX2_inMonth 43 = .ok (.iload_n 1, 1) := by decide +kernel
theorem dX2_inMonth_44 : decode cX2_inMonth 44 = .ok (.laload, 1) := by decide +kernel
theorem dX2_inMonth_45 : decode cX2_inMonth 45 = .ok (.invokestatic 80, 3) := by decide +kernel
theorem dX2_inMonth_48 : decode cX2_inMonth 48 = .ok (.lstore 5, 2) := by decide +kernel
theorem dX2_inMonth_50 : decode cX2_inMonth 50 = .ok (.iload_n 2, 1) := by decide +kernel
theorem dX2_inMonth_51 : decode cX2_inMonth 51 = .ok (.ifCond .ge 35, 3) := by decide +kernel
theorem dX2_inMonth_54 : decode cX2_inMonth 54 = .ok (.lload 5, 2) := by decide +kernel
theorem dX2_inMonth_56 : decode cX2_inMonth 56 = .ok (.lconst 1, 1) := by decide +kernel
theorem dX2_inMonth_57 : decode cX2_inMonth 57 = .ok (.ladd, 1) := by decide +kernel
theorem dX2_inMonth_58 : decode cX2_inMonth 58 = .ok (.invokestatic 69, 3) := by decide +kernel
theorem dX2_inMonth_61 : decode cX2_inMonth 61 = .ok (.lconst 1, 1) := by decide +kernel
theorem dX2_inMonth_62 : decode cX2_inMonth 62 = .ok (.lsub, 1) := by decide +kernel
theorem dX2_inMonth_63 : decode cX2_inMonth 63 = .ok (.iload_n 3, 1) := by decide +kernel
theorem dX2_inMonth_64 : decode cX2_inMonth 64 = .ok (.invokestatic 136, 3) := by decide +kernel
theorem dX2_inMonth_67 : decode cX2_inMonth 67 = .ok (.lstore 7, 2) := by decide +kernel
theorem dX2_inMonth_69 : decode cX2_inMonth 69 = .ok (.aload_n 0, 1) := by decide +kernel
theorem dX2_inMonth_70 : decode cX2_inMonth 70 = .ok (.iload 4, 2) := by decide +kernel
theorem dX2_inMonth_72 : decode cX2_inMonth 72 = .ok (.lload 7, 2) := by decide +kernel
theorem dX2_inMonth_74 : decode cX2_inMonth 74 = .ok (.bipush 7, 2) := by decide +kernel
theorem dX2_inMonth_76 : decode cX2_inMonth 76 = .ok (.iload_n 2, 1) := by decide +kernel
theorem dX2_inMonth_77 : decode cX2_inMonth 77 = .ok (.iconst 1, 1) := by decide +kernel
theorem dX2_inMonth_78 : decode cX2_inMonth 78 = .ok (.iadd, 1) := by decide +kernel
theorem dX2_inMonth_79 : decode cX2_inMonth 79 = .ok (.imul, 1) := by decide +kernel
theorem dX2_inMonth_80 : decode cX2_inMonth 80 = .ok (.i2l, 1) := by decide +kernel
theorem dX2_inMonth_81 : decode cX2_inMonth 81 = .ok (.ladd, 1) := by decide +kernel
theorem dX2_inMonth_82 : decode cX2_inMonth 82 = .ok (.invokevirtual 73, 3) := by decide +kernel
theorem dX2_inMonth_85 : decode cX2_inMonth 85 = .ok (.lreturn, 1) := by decide +kernel
theorem dX2_inMonth_86 : decode cX2_inMonth 86 = .ok (.aload_n 0, 1) := by decide +kernel
theorem dX2_inMonth_87 : decode cX2_inMonth 87 = .ok (.iload 4, 2) := by decide +kernel
theorem dX2_inMonth_89 : decode cX2_inMonth 89 = .ok (.lload 5, 2) := by decide +kernel
theorem dX2_inMonth_91 : decode cX2_inMonth 91 = .ok (.invokestatic 69, 3) := by decide +kernel
theorem dX2_inMonth_94 : decode cX2_inMonth 94 = .ok (.iload_n 3, 1) := by decide +kernel
theorem dX2_inMonth_95 : decode cX2_inMonth 95 = .ok (.invokestatic 132, 3) := by decide +kernel
theorem dX2_inMonth_98 : decode cX2_inMonth 98 = .ok (.bipush 7, 2) := by decide +kernel
theorem dX2_inMonth_100 : decode cX2_inMonth 100 = .ok (.iload_n 2, 1) := by decide +kernel
theorem dX2_inMonth_101 : decode cX2_inMonth 101 = .ok (.iconst 1, 1) := by decide +kernel
theorem dX2_inMonth_102 : decode cX2_inMonth 102 = .ok (.isub, 1) := by decide +kernel
theorem dX2_inMonth_103 : decode cX2_inMonth 103 = .ok (.imul, 1) := by decide +kernel
theorem dX2_inMonth_104 : decode cX2_inMonth 104 = .ok (.i2l, 1) := by decide +kernel
theorem dX2_inMonth_105 : decode cX2_inMonth 105 = .ok (.ladd, 1) := by decide +kernel
theorem dX2_inMonth_106 : decode cX2_inMonth 106 = .ok (.invokevirtual 73, 3) := by decide +kernel
theorem dX2_inMonth_109 : decode cX2_inMonth 109 = .ok (.lreturn, 1) := by decide +kernel
set_option maxRecDepth 20000 in
theorem ggX2_atYear_X2_checkSlot : GoodIn wsX2_atYear wsX2_checkSlot := goodIn_ca (goodIn_r _ [5, 6, 7] (by decide +kernel) (by decide +kernel)) (goodIn_sub (fun _ h => List.mem_cons_of_mem _ (List.mem_append_left _ (List.mem_append_left _ (List.mem_append_left _ (List.mem_append_right _ h))))) (by decide +kernel))
set_option maxRecDepth 20000 in
theorem gX2_atYear_X2_checkSlot : GoodIn wsX2_atYear (va_wsS RX2 41 yX2_checkSlot wsX2_checkSlot) := goodIn_app (goodIn_of _ (by decide +kernel)) ggX2_atYear_X2_checkSlot
set_option maxRecDepth 20000 in
theorem ggX2_atYear_X2_isIn : GoodIn wsX2_atYear wsX2_isIn := goodIn_r _ [10] (by decide +kernel) (by decide +kernel)
set_option maxRecDepth 20000 in
theorem gX2_atYear_X2_isIn : GoodIn wsX2_atYear (va_wsS RX2 55 yX2_isIn wsX2_isIn) := goodIn_app (goodIn_of _ (by decide +kernel)) ggX2_atYear_X2_isIn
set_option maxRecDepth 20000 in
theorem ggX2_atYear_X2_checkArgument : GoodIn wsX2_atYear wsX2_checkArgument := goodIn_ca (goodIn_r _ [13, 14, 15] (by decide +kernel) (by decide +kernel)) (goodIn_sub (fun _ h => List.mem_cons_of_mem _ (List.mem_append_left _ (List.mem_append_left _ (List.mem_append_right _ h)))) (by decide +kernel))
set_option maxRecDepth 20000 in
theorem gX2_atYear_X2_checkArgument : GoodIn wsX2_atYear (va_wsS RX2 49 yX2_checkArgument wsX2_checkArgument) := goodIn_app (goodIn_of _ (by decide +kernel)) ggX2_atYear_X2_checkArgument
set_option maxRecDepth 20000 in
theorem ggX2_atYear_X1_monthIndex : GoodIn wsX2_atYear wsX1_monthIndex := goodIn_r _ [19, 20] (by decide +kernel) (by decide +kernel)
set_option maxRecDepth 20000 in
theorem gX2_atYear_X1_monthIndex : GoodIn wsX2_atYear (va_wsS RX2 59 yX1_monthIndex wsX1_monthIndex) := goodIn_app (goodIn_of _ (by decide +kernel)) ggX2_atYear_X1_monthIndex
set_option maxRecDepth 20000 in
theorem ggX2_atYear_X1_lengthOfMonth : GoodIn wsX2_atYear wsX1_lengthOfMonth := goodIn_r _ [23, 24, 25, 18, 26, 20, 27, 28, 29, 30, 31, 32, 33, 34, 35, 36, 37, 38, 39, 40, 41, 42] (by decide +kernel) (by decide +kernel)
set_option maxRecDepth 20000 in
theorem gX2_atYear_X1_lengthOfMonth : GoodIn wsX2_atYear (va_wsS RX2 65 yX1_lengthOfMonth wsX1_lengthOfMonth) := goodIn_app (goodIn_of _ (by decide +kernel)) ggX2_atYear_X1_lengthOfMonth
set_option maxRecDepth 20000 in
theorem ggX2_atYear_X2_isYear : GoodIn wsX2_atYear wsX2_isYear := goodIn_r _ [45, 46, 47, 8, 9, 4, 10] (by decide +kernel) (by decide +kernel)
set_option maxRecDepth 20000 in
theorem gX2_atYear_X2_isYear : GoodIn wsX2_atYear (va_wsS RX2 45 yX2_isYear wsX2_isYear) := goodIn_app (goodIn_of _ (by decide +kernel)) ggX2_atYear_X2_isYear
set_option maxRecDepth 20000 in
theorem ggX2_atYear_X1_dayOrLast : GoodIn wsX2_atYear wsX1_dayOrLast := goodIn_r _ [50, 51, 52, 53, 54, 55, 56, 18, 57, 58, 31, 32, 33, 20, 34, 35, 29, 36, 24, 25, 26, 27, 28, 30, 37, 38, 39, 40, 41, 42, 59, 60, 61, 62, 63, 64, 65, 66, 67, 22, 23] (by decide +kernel) (by decide +kernel)
set_option maxRecDepth 20000 in
theorem gX2_atYear_X1_dayOrLast : GoodIn wsX2_atYear (va_wsS RX2 145 yX1_dayOrLast wsX1_dayOrLast) := goodIn_app (goodIn_of _ (by decide +kernel)) ggX2_atYear_X1_dayOrLast
set_option maxRecDepth 20000 in
theorem ggX2_atYear_X2_keepDate : GoodIn wsX2_atYear wsX2_keepDate := goodIn_ca (goodIn_ca (goodIn_r _ [71, 72, 73, 74, 18, 75, 76, 77, 78, 79, 4, 80, 81, 82, 83, 84, 85, 86, 87, 88, 89, 90, 91, 92] (by decide +kernel) (by decide +kernel)) (goodIn_sub (fun _ h => List.mem_cons_of_mem _ (List.mem_append_left _ (List.mem_append_right _ h))) (by decide +kernel))) (goodIn_sub (fun _ h => List.mem_cons_of_mem _ (List.mem_append_right _ h)) (by decide +kernel))
set_option maxRecDepth 20000 in
theorem gX2_atYear_X2_keepDate : GoodIn wsX2_atYear (wsV RX2 73 RX2 yX2_keepDate wsX2_keepDate) := goodIn_app (goodIn_of _ (by decide +kernel)) ggX2_atYear_X2_keepDate
theorem dX2_atYear_0 : decode cX2_atYear 0 = .ok (.iload 4, 2) := by decide +kernel
theorem dX2_atYear_2 : decode cX2_atYear 2 = .ok (.bipush 6, 2) := by decide +kernel
theorem dX2_atYear_4 : decode cX2_atYear 4 = .ok (.invokestatic 41, 3) := by decide +kernel
theorem dX2_atYear_7 : decode cX2_atYear 7 = .ok (.iload_n 1, 1) := by decide +kernel
theorem dX2_atYear_8 : decode cX2_atYear 8 = .ok (.i2l, 1) := by decide +kernel
theorem dX2_atYear_9 : decode cX2_atYear 9 = .ok (.lconst 1, 1) := by decide +kernel
theorem dX2_atYear_10 : decode cX2_atYear 10 = .ok (.ldc2_w 53, 3) := by decide +kernel
theorem dX2_atYear_13 : decode cX2_atYear 13 = .ok (.invokestatic 55, 3) := by decide +kernel
theorem dX2_atYear_16 : decode cX2_atYear 16 = .ok (.invokestatic 49, 3) := by decide +kernel
theorem dX2_atYear_19 : decode cX2_atYear 19 = .ok (.iload_n 2, 1) := by decide +kernel
theorem dX2_atYear_20 : decode cX2_atYear 20 = .ok (.i2l, 1) := by decide +kernel
theorem dX2_atYear_21 : decode cX2_atYear 21 = .ok (.lconst 1, 1) := by decide +kernel
theorem dX2_atYear_22 : decode cX2_atYear 22 = .ok (.lconst 0, 1) := by decide +kernel
theorem dX2_atYear_23 : decode cX2_atYear 23 = .ok (.iload_n 1, 1) := by decide +kernel
theorem dX2_atYear_24 : decode cX2_atYear 24 = .ok (.i2l, 1) := by decide +kernel
theorem dX2_atYear_25 : decode cX2_atYear 25 = .ok (.invokestatic 59, 3) := by decide +kernel
theorem dX2_atYear_28 : decode cX2_atYear 28 = .ok (.invokestatic 65, 3) := by decide +kernel
theorem dX2_atYear_31 : decode cX2_atYear 31 = .ok (.i2l, 1) := by decide +kernel
theorem dX2_atYear_32 : decode cX2_atYear 32 = .ok (.invokestatic 55, 3) := by decide +kernel
theorem dX2_atYear_35 : decode cX2_atYear 35 = .ok (.invokestatic 49, 3) := by decide +kernel
theorem dX2_atYear_38 : decode cX2_atYear 38 = .ok (.iload_n 3, 1) := by decide +kernel
theorem dX2_atYear_39 : decode cX2_atYear 39 = .ok (.i2l, 1) := by decide +kernel
theorem dX2_atYear_40 : decode cX2_atYear 40 = .ok (.invokestatic 45, 3) := by decide +kernel
theorem dX2_atYear_43 : decode cX2_atYear 43 = .ok (.invokestatic 49, 3) := by decide +kernel
theorem dX2_atYear_46 : decode cX2_atYear 46 = .ok (.aload_n 0, 1) := by decide +kernel
theorem dX2_atYear_47 : decode cX2_atYear 47 = .ok (.iload 4, 2) := by decide +kernel
theorem dX2_atYear_49 : decode cX2_atYear 49 = .ok (.iload_n 3, 1) := by decide +kernel
theorem dX2_atYear_50 : decode cX2_atYear 50 = .ok (.i2l, 1) := by decide +kernel
theorem dX2_atYear_51 : decode cX2_atYear 51 = .ok (.iload_n 1, 1) := by decide +kernel
theorem dX2_atYear_52 : decode cX2_atYear 52 = .ok (.i2l, 1) := by decide +kernel
theorem dX2_atYear_53 : decode cX2_atYear 53 = .ok (.invokestatic 59, 3) := by decide +kernel
theorem dX2_atYear_56 : decode cX2_atYear 56 = .ok (.iload_n 2, 1) := by decide +kernel
theorem dX2_atYear_57 : decode cX2_atYear 57 = .ok (.i2l, 1) := by decide +kernel
theorem dX2_atYear_58 : decode cX2_atYear 58 = .ok (.invokestatic 145, 3) := by decide +kernel
theorem dX2_atYear_61 : decode cX2_atYear 61 = .ok (.invokevirtual 73, 3) := by decide +kernel
theorem dX2_atYear_64 : decode cX2_atYear 64 = .ok (.lreturn, 1) := by decide +kernel
set_option maxRecDepth 20000 in
theorem ggX2_order_X2_checkSlot : GoodIn wsX2_order wsX2_checkSlot := goodIn_ca (goodIn_r _ [5, 6, 7] (by decide +kernel) (by decide +kernel)) (goodIn_sub (fun _ h => List.mem_cons_of_mem _ (List.mem_append_right _ h)) (by decide +kernel))
set_option maxRecDepth 20000 in
theorem gX2_order_X2_checkSlot : GoodIn wsX2_order (va_wsS RX2 41 yX2_checkSlot wsX2_checkSlot) := goodIn_app (goodIn_of _ (by decide +kernel)) ggX2_order_X2_checkSlot
set_option maxRecDepth 20000 in
theorem ggX2_order_X2_sign : GoodIn wsX2_order wsX2_sign := goodIn_r _ [10] (by decide +kernel) (by decide +kernel)
set_option maxRecDepth 20000 in
theorem gX2_order_X2_sign : GoodIn wsX2_order (va_wsS RX2 148 yX2_sign wsX2_sign) := goodIn_app (goodIn_of _ (by decide +kernel)) ggX2_order_X2_sign
theorem dX2_order_0 : decode cX2_order 0 = .ok (.iload_n 1, 1) := by decide +kernel
theorem dX2_order_1 : decode cX2_order 1 = .ok (.bipush 6, 2) := by decide +kernel
theorem dX2_order_3 : decode cX2_order 3 = .ok (.invokestatic 41, 3) := by decide +kernel
theorem dX2_order_6 : decode cX2_order 6 = .ok (.iload_n 2, 1) := by decide +kernel
theorem dX2_order_7 : decode cX2_order 7 = .ok (.bipush 6, 2) := by decide +kernel
theorem dX2_order_9 : decode cX2_order 9 = .ok (.invokestatic 41, 3) := by decide +kernel
theorem dX2_order_12 : decode cX2_order 12 = .ok (.aload_n 0, 1) := by decide +kernel
theorem dX2_order_13 : decode cX2_order 13 = .ok (.getfield 9, 3) := by decide +kernel
theorem dX2_order_16 : decode cX2_order 16 = .ok (.iload_n 1, 1) := by decide +kernel
theorem dX2_order_17 : decode cX2_order 17 = .ok (.laload, 1) := by decide +kernel
theorem dX2_order_18 : decode cX2_order 18 = .ok (.aload_n 0, 1) := by decide +kernel
theorem dX2_order_19 : decode cX2_order 19 = .ok (.getfield 9, 3) := by decide +kernel
theorem dX2_order_22 : decode cX2_order 22 = .ok (.iload_n 2, 1) := by decide +kernel
theorem dX2_order_23 : decode cX2_order 23 = .ok (.laload, 1) := by decide +kernel
theorem dX2_order_24 : decode cX2_order 24 = .ok (.invokestatic 148, 3) := by decide +kernel
theorem dX2_order_27 : decode cX2_order 27 = .ok (.ireturn, 1) := by decide +kernel
set_option maxRecDepth 20000 in
theorem ggX2_between_X2_checkSlot : GoodIn wsX2_between wsX2_checkSlot := goodIn_ca (goodIn_r _ [9, 10, 11] (by decide +kernel) (by decide +kernel)) (goodIn_sub (fun _ h => List.mem_cons_of_mem _ (List.mem_append_right _ h)) (by decide +kernel))
set_option maxRecDepth 20000 in
theorem gX2_between_X2_checkSlot : GoodIn wsX2_between (va_wsS RX2 41 yX2_checkSlot wsX2_checkSlot) := goodIn_app (goodIn_of _ (by decide +kernel)) ggX2_between_X2_checkSlot
set_option maxRecDepth 20000 in
theorem ggX2_between_X1_wholeMonths : GoodIn wsX2_between wsX1_wholeMonths := goodIn_r _ [15, 16, 17, 18, 19, 20, 21, 22, 23, 24, 14, 25, 26, 27, 28, 29, 30, 31, 32, 33, 34, 35, 36, 37, 38, 39, 40, 41, 42, 43, 44, 45, 46, 47, 48, 49, 50, 51, 52, 53, 54, 55, 56, 57, 58, 59, 60, 61, 62, 63, 64, 65, 66] (by decide +kernel) (by decide +kernel)
set_option maxRecDepth 20000 in
theorem gX2_between_X1_wholeMonths : GoodIn wsX2_between (va_wsS RX2 152 yX1_wholeMonths wsX1_wholeMonths) := goodIn_app (goodIn_of _ (by decide +kernel)) ggX2_between_X1_wholeMonths
theorem dX2_between_0 : decode cX2_between 0 = .ok (.iload_n 1, 1) := by decide +kernel
theorem dX2_between_1 : decode cX2_between 1 = .ok (.bipush 6, 2) := by decide +kernel
theorem dX2_between_3 : decode cX2_between 3 = .ok (.invokestatic 41, 3) := by decide +kernel
theorem dX2_between_6 : decode cX2_between 6 = .ok (.iload_n 2, 1) := by decide +kernel
theorem dX2_between_7 : decode cX2_between 7 = .ok (.bipush 6, 2) := by decide +kernel
theorem dX2_between_9 : decode cX2_between 9 = .ok (.invokestatic 41, 3) := by decide +kernel
theorem dX2_between_12 : decode cX2_between 12 = .ok (.aload_n 0, 1) := by decide +kernel
theorem dX2_between_13 : decode cX2_between 13 = .ok (.getfield 9, 3) := by decide +kernel
theorem dX2_between_16 : decode cX2_between 16 = .ok (.iload_n 1, 1) := by decide +kernel
theorem dX2_between_17 : decode cX2_between 17 = .ok (.laload, 1) := by decide +kernel
theorem dX2_between_18 : decode cX2_between 18 = .ok (.lstore 4, 2) := by decide +kernel
theorem dX2_between_20 : decode cX2_between 20 = .ok (.aload_n 0, 1) := by decide +kernel
theorem dX2_between_21 : decode cX2_between 21 = .ok (.getfield 9, 3) := by decide +kernel
theorem dX2_between_24 : decode cX2_between 24 = .ok (.iload_n 2, 1) := by decide +kernel
theorem dX2_between_25 : decode cX2_between 25 = .ok (.laload, 1) := by decide +kernel
theorem dX2_between_26 : decode cX2_between 26 = .ok (.lstore 6, 2) := by decide +kernel
theorem dX2_between_28 : decode cX2_between 28 = .ok (.iload_n 3, 1) := by decide +kernel
theorem dX2_between_29 : decode cX2_between 29 = .ok (.lookupswitch 79 #[(100, 43), (109, 59), (119, 49), (121, 67)], 43) := by decide +kernel
theorem dX2_between_72 : decode cX2_between 72 = .ok (.lload 6, 2) := by decide +kernel
theorem dX2_between_74 : decode cX2_between 74 = .ok (.lload 4, 2) := by decide +kernel
theorem dX2_between_76 : decode cX2_between 76 = .ok (.lsub, 1) := by decide +kernel
theorem dX2_between_77 : decode cX2_between 77 = .ok (.lreturn, 1) := by decide +kernel
theorem dX2_between_78 : decode cX2_between 78 = .ok (.lload 6, 2) := by decide +kernel
theorem dX2_between_80 : decode cX2_between 80 = .ok (.lload 4, 2) := by decide +kernel
theorem dX2_between_82 : decode cX2_between 82 = .ok (.lsub, 1) := by decide +kernel
theorem dX2_between_83 : decode cX2_between 83 = .ok (.ldc2_w 130, 3) := by decide +kernel
theorem dX2_between_86 : decode cX2_between 86 = .ok (.ldiv, 1) := by decide +kernel
theorem dX2_between_87 : decode cX2_between 87 = .ok (.lreturn, 1) := by decide +kernel
theorem dX2_between_88 : decode cX2_between 88 = .ok (.lload 4, 2) := by decide +kernel
theorem dX2_between_90 : decode cX2_between 90 = .ok (.lload 6, 2) := by decide +kernel
theorem dX2_between_92 : decode cX2_between 92 = .ok (.invokestatic 152, 3) := by decide +kernel
theorem dX2_between_95 : decode cX2_between 95 = .ok (.lreturn, 1) := by decide +kernel
theorem dX2_between_96 : decode cX2_between 96 = .ok (.lload 4, 2) := by decide +kernel
theorem dX2_between_98 : decode cX2_between 98 = .ok (.lload 6, 2) := by decide +kernel
theorem dX2_between_100 : decode cX2_between 100 = .ok (.invokestatic 152, 3) := by decide +kernel
theorem dX2_between_103 : decode cX2_between 103 = .ok (.ldc2_w 53, 3) := by decide +kernel
theorem dX2_between_106 : decode cX2_between 106 = .ok (.ldiv, 1) := by decide +kernel
theorem dX2_between_107 : decode cX2_between 107 = .ok (.lreturn, 1) := by decide +kernel
theorem dX2_between_108 : decode cX2_between 108 = .ok (.new 101, 3) := by decide +kernel
theorem dX2_between_111 : decode cX2_between 111 = .ok (.dup, 1) := by decide +kernel
theorem dX2_between_112 : decode cX2_between 112 = .ok (.ldc 155, 2) := by decide +kernel
theorem dX2_between_114 : decode cX2_between 114 = .ok (.invokespecial 105, 3) := by decide +kernel
theorem dX2_between_117 : decode cX2_between 117 = .ok (.athrow, 1) := by decide +kernel
set_option maxRecDepth 20000 in
theorem ggX2_span_X2_checkSlot : GoodIn wsX2_span wsX2_checkSlot := goodIn_ca (goodIn_r _ [4, 5, 6] (by decide +kernel) (by decide +kernel)) (goodIn_sub (fun _ h => List.mem_cons_of_mem _ (List.mem_append_left _ (List.mem_append_left _ (List.mem_append_left _ (List.mem_append_right _ h))))) (by decide +kernel))
set_option maxRecDepth 20000 in
theorem gX2_span_X2_checkSlot : GoodIn wsX2_span (va_wsS RX2 41 yX2_checkSlot wsX2_checkSlot) := goodIn_app (goodIn_of _ (by decide +kernel)) ggX2_span_X2_checkSlot
set_option maxRecDepth 20000 in
theorem ggX2_span_X2_isSpan : GoodIn wsX2_span wsX2_isSpan := goodIn_r _ [9, 10, 11, 12, 13, 3, 14] (by decide +kernel) (by decide +kernel)
set_option maxRecDepth 20000 in
theorem gX2_span_X2_isSpan : GoodIn wsX2_span (va_wsS RX2 157 yX2_isSpan wsX2_isSpan) := goodIn_app (goodIn_of _ (by decide +kernel)) ggX2_span_X2_isSpan
set_option maxRecDepth 20000 in
theorem ggX2_span_X2_checkArgument : GoodIn wsX2_span wsX2_checkArgument := goodIn_ca (goodIn_r _ [17, 18, 19] (by decide +kernel) (by decide +kernel)) (goodIn_sub (fun _ h => List.mem_cons_of_mem _ (List.mem_append_left _ (List.mem_append_left _ (List.mem_append_right _ h)))) (by decide +kernel))
set_option maxRecDepth 20000 in
theorem gX2_span_X2_checkArgument : GoodIn wsX2_span (va_wsS RX2 49 yX2_checkArgument wsX2_checkArgument) := goodIn_app (goodIn_of _ (by decide +kernel)) ggX2_span_X2_checkArgument
set_option maxRecDepth 20000 in
theorem ggX2_span_X2_keepSpan : GoodIn wsX2_span wsX2_keepSpan := goodIn_ca (goodIn_ca (goodIn_r _ [23, 24, 25, 26, 7, 8, 3, 9, 10, 11, 12, 13, 14, 27, 28, 29, 30, 31, 32, 33, 34, 35, 36, 37, 38, 39, 40, 41, 42, 43, 44, 45, 46] (by decide +kernel) (by decide +kernel)) (goodIn_sub (fun _ h => List.mem_cons_of_mem _ (List.mem_append_left _ (List.mem_append_right _ h))) (by decide +kernel))) (goodIn_sub (fun _ h => List.mem_cons_of_mem _ (List.mem_append_right _ h)) (by decide +kernel))
set_option maxRecDepth 20000 in
theorem gX2_span_X2_keepSpan : GoodIn wsX2_span (wsV RX2 160 RX2 yX2_keepSpan wsX2_keepSpan) := goodIn_app (goodIn_of _ (by decide +kernel)) ggX2_span_X2_keepSpan
theorem dX2_span_0 : decode cX2_span 0 = .ok (.iload_n 1, 1) := by decide +kernel
theorem dX2_span_1 : decode cX2_span 1 = .ok (.iconst 4, 1) := by decide +kernel
theorem dX2_span_2 : decode cX2_span 2 = .ok (.invokestatic 41, 3) := by decide +kernel
theorem dX2_span_5 : decode cX2_span 5 = .ok (.iload_n 2, 1) := by decide +kernel
theorem dX2_span_6 : decode cX2_span 6 = .ok (.i2l, 1) := by decide +kernel
theorem dX2_span_7 : decode cX2_span 7 = .ok (.iload_n 3, 1) := by decide +kernel
theorem dX2_span_8 : decode cX2_span 8 = .ok (.i2l, 1) := by decide +kernel
theorem dX2_span_9 : decode cX2_span 9 = .ok (.iload 4, 2) := by decide +kernel
theorem dX2_span_11 : decode cX2_span 11 = .ok (.i2l, 1) := by decide +kernel
theorem dX2_span_12 : decode cX2_span 12 = .ok (.invokestatic 157, 3) := by decide +kernel
theorem dX2_span_15 : decode cX2_span 15 = .ok (.invokestatic 49, 3) := by decide +kernel
theorem dX2_span_18 : decode cX2_span 18 = .ok (.aload_n 0, 1) := by decide +kernel
theorem dX2_span_19 : decode cX2_span 19 = .ok (.iload_n 1, 1) := by decide +kernel
theorem dX2_span_20 : decode cX2_span 20 = .ok (.iload_n 2, 1) := by decide +kernel
theorem dX2_span_21 : decode cX2_span 21 = .ok (.i2l, 1) := by decide +kernel
theorem dX2_span_22 : decode cX2_span 22 = .ok (.iload_n 3, 1) := by decide +kernel
theorem dX2_span_23 : decode cX2_span 23 = .ok (.i2l, 1) := by decide +kernel
theorem dX2_span_24 : decode cX2_span 24 = .ok (.iload 4, 2) := by decide +kernel
theorem dX2_span_26 : decode cX2_span 26 = .ok (.i2l, 1) := by decide +kernel
theorem dX2_span_27 : decode cX2_span 27 = .ok (.invokevirtual 160, 3) := by decide +kernel
theorem dX2_span_30 : decode cX2_span 30 = .ok (.lreturn, 1) := by decide +kernel
set_option maxRecDepth 20000 in
theorem ggX2_until_X2_checkSlot : GoodIn wsX2_until wsX2_checkSlot := goodIn_ca (goodIn_r _ [6, 7, 8] (by decide +kernel) (by decide +kernel)) (goodIn_sub (fun _ h => List.mem_cons_of_mem _ (List.mem_append_left _ (List.mem_append_right _ h))) (by decide +kernel))
set_option maxRecDepth 20000 in
theorem gX2_until_X2_checkSlot : GoodIn wsX2_until (va_wsS RX2 41 yX2_checkSlot wsX2_checkSlot) := goodIn_app (goodIn_of _ (by decide +kernel)) ggX2_until_X2_checkSlot
set_option maxRecDepth 20000 in
theorem ggX2_until_X2_checkOutcome : GoodIn wsX2_until wsX2_checkOutcome := goodIn_ca (goodIn_r _ [11, 12, 13] (by decide +kernel) (by decide +kernel)) (goodIn_sub (fun _ h => List.mem_cons_of_mem _ (List.mem_append_right _ h)) (by decide +kernel))
set_option maxRecDepth 20000 in
theorem gX2_until_X2_checkOutcome : GoodIn wsX2_until (va_wsS RX2 164 yX2_checkOutcome wsX2_checkOutcome) := goodIn_app (goodIn_of _ (by decide +kernel)) ggX2_until_X2_checkOutcome
set_option maxRecDepth 20000 in
theorem ggX2_until_X1_wholeMonths : GoodIn wsX2_until wsX1_wholeMonths := goodIn_r _ [17, 18, 19, 20, 21, 22, 23, 24, 25, 26, 16, 27, 28, 29, 30, 31, 32, 33, 34, 35, 36, 37, 38, 39, 40, 41, 42, 43, 44, 45, 46, 47, 48, 49, 50, 51, 52, 53, 54, 55, 56, 57, 58, 59, 60, 61, 62, 63, 64, 65, 66, 67, 68] (by decide +kernel) (by decide +kernel)
set_option maxRecDepth 20000 in
theorem gX2_until_X1_wholeMonths : GoodIn wsX2_until (va_wsS RX2 152 yX1_wholeMonths wsX1_wholeMonths) := goodIn_app (goodIn_of _ (by decide +kernel)) ggX2_until_X1_wholeMonths
set_option maxRecDepth 20000 in
theorem ggX2_until_X1_plusMonths : GoodIn wsX2_until wsX1_plusMonths := goodIn_r _ [71, 25, 26, 16, 27, 28, 29, 30, 31, 32, 33, 34, 35, 36, 37, 38, 39, 40, 41, 42, 43, 44, 45, 46, 47, 48, 49, 50, 51, 52, 53, 54, 55, 56, 57, 58, 59, 60, 61, 62, 63, 64, 65, 66, 67, 68, 72, 73, 74, 18, 19, 20, 21, 75, 76, 77] (by decide +kernel) (by decide +kernel)
set_option maxRecDepth 20000 in
theorem gX2_until_X1_plusMonths : GoodIn wsX2_until (va_wsS RX2 123 yX1_plusMonths wsX1_plusMonths) := goodIn_app (goodIn_of _ (by decide +kernel)) ggX2_until_X1_plusMonths
set_option maxRecDepth 20000 in
theorem ggX2_until_X2_keepSpan : GoodIn wsX2_until wsX2_keepSpan := goodIn_ca (goodIn_ca (goodIn_r _ [81, 82, 83, 84, 85, 86, 5, 87, 88, 89, 90, 91, 92, 9, 10, 11, 12, 13, 93, 94, 95, 96, 2, 97, 98, 99, 100, 101, 102, 103, 104, 105, 106] (by decide +kernel) (by decide +kernel)) (goodIn_sub (fun _ h => List.mem_cons_of_mem _ (List.mem_append_left _ (List.mem_append_left _ (List.mem_append_right _ h)))) (by decide +kernel))) (goodIn_sub (fun _ h => List.mem_cons_of_mem _ (List.mem_append_right _ h)) (by decide +kernel))
set_option maxRecDepth 20000 in
theorem gX2_until_X2_keepSpan : GoodIn wsX2_until (wsV RX2 160 RX2 yX2_keepSpan wsX2_keepSpan) := goodIn_app (goodIn_of _ (by decide +kernel)) ggX2_until_X2_keepSpan
theorem dX2_until_0 : decode cX2_until 0 = .ok (.iload_n 1, 1) := by decide +kernel
theorem dX2_until_1 : decode cX2_until 1 = .ok (.bipush 6, 2) := by decide +kernel
theorem dX2_until_3 : decode cX2_until 3 = .ok (.invokestatic 41, 3) := by decide +kernel
theorem dX2_until_6 : decode cX2_until 6 = .ok (.iload_n 2, 1) := by decide +kernel
theorem dX2_until_7 : decode cX2_until 7 = .ok (.bipush 6, 2) := by decide +kernel
theorem dX2_until_9 : decode cX2_until 9 = .ok (.invokestatic 41, 3) := by decide +kernel
theorem dX2_until_12 : decode cX2_until 12 = .ok (.iload_n 3, 1) := by decide +kernel
theorem dX2_until_13 : decode cX2_until 13 = .ok (.iconst 4, 1) := by decide +kernel
theorem dX2_until_14 : decode cX2_until 14 = .ok (.invokestatic 41, 3) := by decide +kernel
theorem dX2_until_17 : decode cX2_until 17 = .ok (.aload_n 0, 1) := by decide +kernel
theorem dX2_until_18 : decode cX2_until 18 = .ok (.getfield 9, 3) := by decide +kernel
theorem dX2_until_21 : decode cX2_until 21 = .ok (.iload_n 1, 1) := by decide +kernel
theorem dX2_until_22 : decode cX2_until 22 = .ok (.laload, 1) := by decide +kernel
theorem dX2_until_23 : decode cX2_until 23 = .ok (.lstore 4, 2) := by decide +kernel
theorem dX2_until_25 : decode cX2_until 25 = .ok (.aload_n 0, 1) := by decide +kernel
theorem dX2_until_26 : decode cX2_until 26 = .ok (.getfield 9, 3) := by decide +kernel
theorem dX2_until_29 : decode cX2_until 29 = .ok (.iload_n 2, 1) := by decide +kernel
theorem dX2_until_30 : decode cX2_until 30 = .ok (.laload, 1) := by decide +kernel
theorem dX2_until_31 : decode cX2_until 31 = .ok (.lstore 6, 2) := by decide +kernel
theorem dX2_until_33 : decode cX2_until 33 = .ok (.lload 4, 2) := by decide +kernel
theorem dX2_until_35 : decode cX2_until 35 = .ok (.lload 6, 2) := by decide +kernel
theorem dX2_until_37 : decode cX2_until 37 = .ok (.lcmp, 1) := by decide +kernel
theorem dX2_until_38 : decode cX2_until 38 = .ok (.ifCond .gt 7, 3) := by decide +kernel
theorem dX2_until_41 : decode cX2_until 41 = .ok (.iconst 1, 1) := by decide +kernel
theorem dX2_until_42 : decode cX2_until 42 = .ok (.goto 4, 3) := by decide +kernel
theorem dX2_until_45 : decode cX2_until 45 = .ok (.iconst 0, 1) := by decide +kernel
theorem dX2_until_46 : decode cX2_until 46 = .ok (.invokestatic 164, 3) := by decide +kernel
theorem dX2_until_49 : decode cX2_until 49 = .ok (.lload 4, 2) := by decide +kernel
theorem dX2_until_51 : decode cX2_until 51 = .ok (.lload 6, 2) := by decide +kernel
theorem dX2_until_53 : decode cX2_until 53 = .ok (.invokestatic 152, 3) := by decide +kernel
theorem dX2_until_56 : decode cX2_until 56 = .ok (.lstore 8, 2) := by decide +kernel
theorem dX2_until_58 : decode cX2_until 58 = .ok (.aload_n 0, 1) := by decide +kernel
theorem dX2_until_59 : decode cX2_until 59 = .ok (.iload_n 3, 1) := by decide +kernel
theorem dX2_until_60 : decode cX2_until 60 = .ok (.lload 8, 2) := by decide +kernel
theorem dX2_until_62 : decode cX2_until 62 = .ok (.ldc2_w 53, 3) := by decide +kernel
theorem dX2_until_65 : decode cX2_until 65 = .ok (.ldiv, 1) := by decide +kernel
theorem dX2_until_66 : decode cX2_until 66 = .ok (.lload 8, 2) := by decide +kernel
theorem dX2_until_68 : decode cX2_until 68 = .ok (.ldc2_w 53, 3) := by decide +kernel
theorem dX2_until_71 : decode cX2_until 71 = .ok (.lrem, 1) := by decide +kernel
theorem dX2_until_72 : decode cX2_until 72 = .ok (.lload 6, 2) := by decide +kernel
theorem dX2_until_74 : decode cX2_until 74 = .ok (.lload 4, 2) := by decide +kernel
theorem dX2_until_76 : decode cX2_until 76 = .ok (.lload 8, 2) := by decide +kernel
theorem dX2_until_78 : decode cX2_until 78 = .ok (.invokestatic 123, 3) := by decide +kernel
theorem dX2_until_81 : decode cX2_until 81 = .ok (.lsub, 1) := by decide +kernel
theorem dX2_until_82 : decode cX2_until 82 = .ok (.invokevirtual 160, 3) := by decide +kernel
theorem dX2_until_85 : decode cX2_until 85 = .ok (.lreturn, 1) := by decide +kernel
set_option maxRecDepth 20000 in
theorem ggX2_go_X2_checkSlot : GoodIn wsX2_go wsX2_checkSlot := goodIn_ca (goodIn_r _ [6, 7, 8] (by decide +kernel) (by decide +kernel)) (goodIn_sub (fun _ h => List.mem_cons_of_mem _ (List.mem_append_left _ (List.mem_append_right _ h))) (by decide +kernel))
set_option maxRecDepth 20000 in
theorem gX2_go_X2_checkSlot : GoodIn wsX2_go (va_wsS RX2 41 yX2_checkSlot wsX2_checkSlot) := goodIn_app (goodIn_of _ (by decide +kernel)) ggX2_go_X2_checkSlot
set_option maxRecDepth 20000 in
theorem ggX2_go_X2_allMonths : GoodIn wsX2_go wsX2_allMonths := goodIn_ca (goodIn_r _ [12, 13, 14, 15, 88, 89, 90, 91, 92, 93, 94, 95, 96, 97] (by decide +kernel) (by decide +kernel)) (goodIn_sub (fun _ h => List.mem_cons_of_mem _ (List.mem_append_left _ (List.mem_append_left _ (List.mem_append_right _ h)))) (by decide +kernel))
set_option maxRecDepth 20000 in
theorem gX2_go_X2_allMonths : GoodIn wsX2_go (wsV RX2 167 RX2 yX2_allMonths wsX2_allMonths) := goodIn_app (goodIn_of _ (by decide +kernel)) ggX2_go_X2_allMonths
set_option maxRecDepth 20000 in
theorem ggX2_go_X1_plusMonths : GoodIn wsX2_go wsX1_plusMonths := goodIn_r _ [19, 20, 21, 18, 22, 23, 24, 25, 26, 27, 28, 29, 30, 31, 32, 33, 34, 35, 36, 37, 38, 39, 40, 41, 42, 43, 44, 45, 46, 47, 48, 49, 50, 51, 52, 53, 54, 55, 56, 57, 58, 59, 60, 61, 62, 63, 64, 65, 66, 67, 68, 69, 70, 71, 72, 73] (by decide +kernel) (by decide +kernel)
set_option maxRecDepth 20000 in
theorem gX2_go_X1_plusMonths : GoodIn wsX2_go (va_wsS RX2 123 yX1_plusMonths wsX1_plusMonths) := goodIn_app (goodIn_of _ (by decide +kernel)) ggX2_go_X1_plusMonths
set_option maxRecDepth 20000 in
theorem ggX2_go_X2_keepDate : GoodIn wsX2_go wsX2_keepDate := goodIn_ca (goodIn_ca (goodIn_r _ [77, 1, 78, 79, 18, 80, 81, 82, 83, 84, 5, 85, 86, 87, 88, 89, 90, 91, 92, 93, 94, 95, 96, 97] (by decide +kernel) (by decide +kernel)) (goodIn_sub (fun _ h => List.mem_cons_of_mem _ (List.mem_append_left _ (List.mem_append_left _ (List.mem_append_right _ h)))) (by decide +kernel))) (goodIn_sub (fun _ h => List.mem_cons_of_mem _ (List.mem_append_right _ h)) (by decide +kernel))
set_option maxRecDepth 20000 in
theorem gX2_go_X2_keepDate : GoodIn wsX2_go (wsV RX2 73 RX2 yX2_keepDate wsX2_keepDate) := goodIn_app (goodIn_of _ (by decide +kernel)) ggX2_go_X2_keepDate
theorem dX2_go_0 : decode cX2_go 0 = .ok (.iload_n 1, 1) := by decide +kernel
theorem dX2_go_1 : decode cX2_go 1 = .ok (.bipush 6, 2) := by decide +kernel
theorem dX2_go_3 : decode cX2_go 3 = .ok (.invokestatic 41, 3) := by decide +kernel
theorem dX2_go_6 : decode cX2_go 6 = .ok (.iload_n 2, 1) := by decide +kernel
theorem dX2_go_7 : decode cX2_go 7 = .ok (.iconst 4, 1) := by decide +kernel
theorem dX2_go_8 : decode cX2_go 8 = .ok (.invokestatic 41, 3) := by decide +kernel
theorem dX2_go_11 : decode cX2_go 11 = .ok (.iload 4, 2) := by decide +kernel
theorem dX2_go_13 : decode cX2_go 13 = .ok (.bipush 6, 2) := by decide +kernel
theorem dX2_go_15 : decode cX2_go 15 = .ok (.invokestatic 41, 3) := by decide +kernel
theorem dX2_go_18 : decode cX2_go 18 = .ok (.iload_n 3, 1) := by decide +kernel
theorem dX2_go_19 : decode cX2_go 19 = .ok (.ifCond .eq 7, 3) := by decide +kernel
theorem dX2_go_22 : decode cX2_go 22 = .ok (.iconst (-1), 1) := by decide +kernel
theorem dX2_go_23 : decode cX2_go 23 = .ok (.goto 4, 3) := by decide +kernel
theorem dX2_go_26 : decode cX2_go 26 = .ok (.iconst 1, 1) := by decide +kernel
theorem dX2_go_27 : decode cX2_go 27 = .ok (.istore 5, 2) := by decide +kernel
theorem dX2_go_29 : decode cX2_go 29 = .ok (.aload_n 0, 1) := by decide +kernel
theorem dX2_go_30 : decode cX2_go 30 = .ok (.getfield 9, 3) := by decide +kernel
theorem dX2_go_33 : decode cX2_go 33 = .ok (.iload_n 1, 1) := by decide +kernel
theorem dX2_go_34 : decode cX2_go 34 = .ok (.laload, 1) := by decide +kernel
theorem dX2_go_35 : decode cX2_go 35 = .ok (.iload 5, 2) := by decide +kernel
theorem dX2_go_37 : decode cX2_go 37 = .ok (.i2l, 1) := by decide +kernel
theorem dX2_go_38 : decode cX2_go 38 = .ok (.aload_n 0, 1) := by decide +kernel
theorem dX2_go_39 : decode cX2_go 39 = .ok (.iload_n 2, 1) := by decide +kernel
theorem dX2_go_40 : decode cX2_go 40 = .ok (.invokevirtual 167, 3) := by decide +kernel
theorem dX2_go_43 : decode cX2_go 43 = .ok (.lmul, 1) := by decide +kernel
theorem dX2_go_44 : decode cX2_go 44 = .ok (.invokestatic 123, 3) := by decide +kernel
theorem dX2_go_47 : decode cX2_go 47 = .ok (.lstore 6, 2) := by decide +kernel
theorem dX2_go_49 : decode cX2_go 49 = .ok (.aload_n 0, 1) := by decide +kernel
theorem dX2_go_50 : decode cX2_go 50 = .ok (.iload 4, 2) := by decide +kernel
theorem dX2_go_52 : decode cX2_go 52 = .ok (.lload 6, 2) := by decide +kernel
theorem dX2_go_54 : decode cX2_go 54 = .ok (.iload 5, 2) := by decide +kernel
theorem dX2_go_56 : decode cX2_go 56 = .ok (.aload_n 0, 1) := by decide +kernel
theorem dX2_go_57 : decode cX2_go 57 = .ok (.getfield 20, 3) := by decide +kernel
theorem dX2_go_60 : decode cX2_go 60 = .ok (.iload_n 2, 1) := by decide +kernel
theorem dX2_go_61 : decode cX2_go 61 = .ok (.iaload, 1) := by decide +kernel
theorem dX2_go_62 : decode cX2_go 62 = .ok (.imul, 1) := by decide +kernel
theorem dX2_go_63 : decode cX2_go 63 = .ok (.i2l, 1) := by decide +kernel
theorem dX2_go_64 : decode cX2_go 64 = .ok (.ladd, 1) := by decide +kernel
theorem dX2_go_65 : decode cX2_go 65 = .ok (.invokevirtual 73, 3) := by decide +kernel
theorem dX2_go_68 : decode cX2_go 68 = .ok (.lreturn, 1) := by decide +kernel
set_option maxRecDepth 20000 in
theorem ggX2_spanPart_X2_checkSlot : GoodIn wsX2_spanPart wsX2_checkSlot := goodIn_ca (goodIn_r _ [9, 10, 11] (by decide +kernel) (by decide +kernel)) (goodIn_sub (fun _ h => List.mem_cons_of_mem _ (List.mem_append_right _ h)) (by decide +kernel))
set_option maxRecDepth 20000 in
theorem gX2_spanPart_X2_checkSlot : GoodIn wsX2_spanPart (va_wsS RX2 41 yX2_checkSlot wsX2_checkSlot) := goodIn_app (goodIn_of _ (by decide +kernel)) ggX2_spanPart_X2_checkSlot
theorem dX2_spanPart_0 : decode cX2_spanPart 0 = .ok (.iload_n 1, 1) := by decide +kernel
theorem dX2_spanPart_1 : decode cX2_spanPart 1 = .ok (.iconst 4, 1) := by decide +kernel
theorem dX2_spanPart_2 : decode cX2_spanPart 2 = .ok (.invokestatic 41, 3) := by decide +kernel
theorem dX2_spanPart_5 : decode cX2_spanPart 5 = .ok (.iload_n 2, 1) := by decide +kernel
theorem dX2_spanPart_6 : decode cX2_spanPart 6 = .ok (.lookupswitch 55 #[(100, 48), (109, 41), (121, 34)], 34) := by decide +kernel
theorem dX2_spanPart_40 : decode cX2_spanPart 40 = .ok (.aload_n 0, 1) := by decide +kernel
theorem dX2_spanPart_41 : decode cX2_spanPart 41 = .ok (.getfield 13, 3) := by decide +kernel
theorem dX2_spanPart_44 : decode cX2_spanPart 44 = .ok (.iload_n 1, 1) := by decide +kernel
theorem dX2_spanPart_45 : decode cX2_spanPart 45 = .ok (.iaload, 1) := by decide +kernel
theorem dX2_spanPart_46 : decode cX2_spanPart 46 = .ok (.ireturn, 1) := by decide +kernel
theorem dX2_spanPart_47 : decode cX2_spanPart 47 = .ok (.aload_n 0, 1) := by decide +kernel
theorem dX2_spanPart_48 : decode cX2_spanPart 48 = .ok (.getfield 17, 3) := by decide +kernel
theorem dX2_spanPart_51 : decode cX2_spanPart 51 = .ok (.iload_n 1, 1) := by decide +kernel
theorem dX2_spanPart_52 : decode cX2_spanPart 52 = .ok (.iaload, 1) := by decide +kernel
theorem dX2_spanPart_53 : decode cX2_spanPart 53 = .ok (.ireturn, 1) := by decide +kernel
theorem dX2_spanPart_54 : decode cX2_spanPart 54 = .ok (.aload_n 0, 1) := by decide +kernel
theorem dX2_spanPart_55 : decode cX2_spanPart 55 = .ok (.getfield 20, 3) := by decide +kernel
theorem dX2_spanPart_58 : decode cX2_spanPart 58 = .ok (.iload_n 1, 1) := by decide +kernel
theorem dX2_spanPart_59 : decode cX2_spanPart 59 = .ok (.iaload, 1) := by decide +kernel
theorem dX2_spanPart_60 : decode cX2_spanPart 60 = .ok (.ireturn, 1) := by decide +kernel
theorem dX2_spanPart_61 : decode cX2_spanPart 61 = .ok (.new 101, 3) := by decide +kernel
theorem dX2_spanPart_64 : decode cX2_spanPart 64 = .ok (.dup, 1) := by decide +kernel
theorem dX2_spanPart_65 : decode cX2_spanPart 65 = .ok (.ldc 171, 2) := by decide +kernel
theorem dX2_spanPart_67 : decode cX2_spanPart 67 = .ok (.invokespecial 105, 3) := by decide +kernel
theorem dX2_spanPart_70 : decode cX2_spanPart 70 = .ok (.athrow, 1) := by decide +kernel
set_option maxRecDepth 20000 in
theorem ggX2_addSpan_X2_checkSlot : GoodIn wsX2_addSpan wsX2_checkSlot := goodIn_ca (goodIn_r _ [8, 9, 10] (by decide +kernel) (by decide +kernel)) (goodIn_sub (fun _ h => List.mem_cons_of_mem _ (List.mem_append_left _ (List.mem_append_right _ h))) (by decide +kernel))
set_option maxRecDepth 20000 in
theorem gX2_addSpan_X2_checkSlot : GoodIn wsX2_addSpan (va_wsS RX2 41 yX2_checkSlot wsX2_checkSlot) := goodIn_app (goodIn_of _ (by decide +kernel)) ggX2_addSpan_X2_checkSlot
set_option maxRecDepth 20000 in
theorem ggX2_addSpan_X2_keepSpan : GoodIn wsX2_addSpan wsX2_keepSpan := goodIn_ca (goodIn_ca (goodIn_r _ [14, 2, 3, 4, 15, 16, 7, 17, 18, 19, 20, 21, 22, 23, 24, 25, 26, 27, 28, 29, 30, 31, 32, 33, 34, 35, 36, 37, 38, 39, 40, 41, 42] (by decide +kernel) (by decide +kernel)) (goodIn_sub (fun _ h => List.mem_cons_of_mem _ (List.mem_append_left _ (List.mem_append_left _ (List.mem_append_right _ h)))) (by decide +kernel))) (goodIn_sub (fun _ h => List.mem_cons_of_mem _ (List.mem_append_right _ h)) (by decide +kernel))
set_option maxRecDepth 20000 in
theorem gX2_addSpan_X2_keepSpan : GoodIn wsX2_addSpan (wsV RX2 160 RX2 yX2_keepSpan wsX2_keepSpan) := goodIn_app (goodIn_of _ (by decide +kernel)) ggX2_addSpan_X2_keepSpan
theorem dX2_addSpan_0 : decode cX2_addSpan 0 = .ok (.iload_n 1, 1) := by decide +kernel
theorem dX2_addSpan_1 : decode cX2_addSpan 1 = .ok (.iconst 4, 1) := by decide +kernel
theorem dX2_addSpan_2 : decode cX2_addSpan 2 = .ok (.invokestatic 41, 3) := by decide +kernel
theorem dX2_addSpan_5 : decode cX2_addSpan 5 = .ok (.iload_n 2, 1) := by decide +kernel
theorem dX2_addSpan_6 : decode cX2_addSpan 6 = .ok (.iconst 4, 1) := by decide +kernel
theorem dX2_addSpan_7 : decode cX2_addSpan 7 = .ok (.invokestatic 41, 3) := by decide +kernel
theorem dX2_addSpan_10 : decode cX2_addSpan 10 = .ok (.iload 4, 2) := by decide +kernel
theorem dX2_addSpan_12 : decode cX2_addSpan 12 = .ok (.iconst 4, 1) := by decide +kernel
theorem dX2_addSpan_13 : decode cX2_addSpan 13 = .ok (.invokestatic 41, 3) := by decide +kernel
theorem dX2_addSpan_16 : decode cX2_addSpan 16 = .ok (.iload_n 3, 1) := by decide +kernel
theorem dX2_addSpan_17 : decode cX2_addSpan 17 = .ok (.ifCond .eq 9, 3) := by decide +kernel
theorem dX2_addSpan_20 : decode cX2_addSpan 20 = .ok (.ldc2_w 173, 3) := by decide +kernel
theorem dX2_addSpan_23 : decode cX2_addSpan 23 = .ok (.goto 4, 3) := by decide +kernel
theorem dX2_addSpan_26 : decode cX2_addSpan 26 = .ok (.lconst 1, 1) := by decide +kernel
theorem dX2_addSpan_27 : decode cX2_addSpan 27 = .ok (.lstore 5, 2) := by decide +kernel
theorem dX2_addSpan_29 : decode cX2_addSpan 29 = .ok (.aload_n 0, 1) := by decide +kernel
theorem dX2_addSpan_30 : decode cX2_addSpan 30 = .ok (.getfield 13, 3) := by decide +kernel
theorem dX2_addSpan_33 : decode cX2_addSpan 33 = .ok (.iload_n 1, 1) := by decide +kernel
theorem dX2_addSpan_34 : decode cX2_addSpan 34 = .ok (.iaload, 1) := by decide +kernel
theorem dX2_addSpan_35 : decode cX2_addSpan 35 = .ok (.i2l, 1) := by decide +kernel
theorem dX2_addSpan_36 : decode cX2_addSpan 36 = .ok (.lload 5, 2) := by decide +kernel
theorem dX2_addSpan_38 : decode cX2_addSpan 38 = .ok (.aload_n 0, 1) := by decide +kernel
theorem dX2_addSpan_39 : decode cX2_addSpan 39 = .ok (.getfield 13, 3) := by decide +kernel
theorem dX2_addSpan_42 : decode cX2_addSpan 42 = .ok (.iload_n 2, 1) := by decide +kernel
theorem dX2_addSpan_43 : decode cX2_addSpan 43 = .ok (.iaload, 1) := by decide +kernel
theorem dX2_addSpan_44 : decode cX2_addSpan 44 = .ok (.i2l, 1) := by decide +kernel
theorem dX2_addSpan_45 : decode cX2_addSpan 45 = .ok (.lmul, 1) := by decide +kernel
theorem dX2_addSpan_46 : decode cX2_addSpan 46 = .ok (.ladd, 1) := by decide +kernel
theorem dX2_addSpan_47 : decode cX2_addSpan 47 = .ok (.lstore 7, 2) := by decide +kernel
theorem dX2_addSpan_49 : decode cX2_addSpan 49 = .ok (.aload_n 0, 1) := by decide +kernel
theorem dX2_addSpan_50 : decode cX2_addSpan 50 = .ok (.getfield 17, 3) := by decide +kernel
theorem dX2_addSpan_53 : decode cX2_addSpan 53 = .ok (.iload_n 1, 1) := by decide +kernel
theorem dX2_addSpan_54 : decode cX2_addSpan 54 = .ok (.iaload, 1) := by decide +kernel
theorem dX2_addSpan_55 : decode cX2_addSpan 55 = .ok (.i2l, 1) := by decide +kernel
theorem dX2_addSpan_56 : decode cX2_addSpan 56 = .ok (.lload 5, 2) := by decide +kernel
theorem dX2_addSpan_58 : decode cX2_addSpan 58 = .ok (.aload_n 0, 1) := by decide +kernel
theorem dX2_addSpan_59 : decode cX2_addSpan 59 = .ok (.getfield 17, 3) := by decide +kernel
theorem dX2_addSpan_62 : decode cX2_addSpan 62 = .ok (.iload_n 2, 1) := by decide +kernel
theorem dX2_addSpan_63 : decode cX2_addSpan 63 = .ok (.iaload, 1) := by decide +kernel
theorem dX2_addSpan_64 : decode cX2_addSpan 64 = .ok (.i2l, 1) := by decide +kernel
theorem dX2_addSpan_65 : decode cX2_addSpan 65 = .ok (.lmul, 1) := by decide +kernel
theorem dX2_addSpan_66 : decode cX2_addSpan 66 = .ok (.ladd, 1) := by decide +kernel
theorem dX2_addSpan_67 : decode cX2_addSpan 67 = .ok (.lstore 9, 2) := by decide +kernel
theorem dX2_addSpan_69 : decode cX2_addSpan 69 = .ok (.aload_n 0, 1) := by decide +kernel
theorem dX2_addSpan_70 : decode cX2_addSpan 70 = .ok (.getfield 20, 3) := by decide +kernel
theorem dX2_addSpan_73 : decode cX2_addSpan 73 = .ok (.iload_n 1, 1) := by decide +kernel
theorem dX2_addSpan_74 : decode cX2_addSpan 74 = .ok (.iaload, 1) := by decide +kernel
theorem dX2_addSpan_75 : decode cX2_addSpan 75 = .ok (.i2l, 1) := by decide +kernel
theorem dX2_addSpan_76 : decode cX2_addSpan 76 = .ok (.lload 5, 2) := by decide +kernel
theorem dX2_addSpan_78 : decode cX2_addSpan 78 = .ok (.aload_n 0, 1) := by decide +kernel
theorem dX2_addSpan_79 : decode cX2_addSpan 79 = .ok (.getfield 20, 3) := by decide +kernel
theorem dX2_addSpan_82 : decode cX2_addSpan 82 = .ok (.iload_n 2, 1) := by decide +kernel
theorem dX2_addSpan_83 : decode cX2_addSpan 83 = .ok (.iaload, 1) := by decide +kernel
theorem dX2_addSpan_84 : decode cX2_addSpan 84 = .ok (.i2l, 1) := by decide +kernel
theorem dX2_addSpan_85 : decode cX2_addSpan 85 = .ok (.lmul, 1) := by decide +kernel
theorem dX2_addSpan_86 : decode cX2_addSpan 86 = .ok (.ladd, 1) := by decide +kernel
theorem dX2_addSpan_87 : decode cX2_addSpan 87 = .ok (.lstore 11, 2) := by decide +kernel
theorem dX2_addSpan_89 : decode cX2_addSpan 89 = .ok (.aload_n 0, 1) := by decide +kernel
theorem dX2_addSpan_90 : decode cX2_addSpan 90 = .ok (.iload 4, 2) := by decide +kernel
theorem dX2_addSpan_92 : decode cX2_addSpan 92 = .ok (.lload 7, 2) := by decide +kernel
theorem dX2_addSpan_94 : decode cX2_addSpan 94 = .ok (.lload 9, 2) := by decide +kernel
theorem dX2_addSpan_96 : decode cX2_addSpan 96 = .ok (.lload 11, 2) := by decide +kernel
theorem dX2_addSpan_98 : decode cX2_addSpan 98 = .ok (.invokevirtual 160, 3) := by decide +kernel
theorem dX2_addSpan_101 : decode cX2_addSpan 101 = .ok (.lreturn, 1) := by decide +kernel
set_option maxRecDepth 20000 in
theorem ggX2_timesSpan_X2_checkSlot : GoodIn wsX2_timesSpan wsX2_checkSlot := goodIn_ca (goodIn_r _ [9, 10, 11] (by decide +kernel) (by decide +kernel)) (goodIn_sub (fun _ h => List.mem_cons_of_mem _ (List.mem_append_left _ (List.mem_append_left _ (List.mem_append_right _ h)))) (by decide +kernel))
set_option maxRecDepth 20000 in
theorem gX2_timesSpan_X2_checkSlot : GoodIn wsX2_timesSpan (va_wsS RX2 41 yX2_checkSlot wsX2_checkSlot) := goodIn_app (goodIn_of _ (by decide +kernel)) ggX2_timesSpan_X2_checkSlot
set_option maxRecDepth 20000 in
theorem ggX2_timesSpan_X2_isIn : GoodIn wsX2_timesSpan wsX2_isIn := goodIn_r _ [14] (by decide +kernel) (by decide +kernel)
set_option maxRecDepth 20000 in
theorem gX2_timesSpan_X2_isIn : GoodIn wsX2_timesSpan (va_wsS RX2 55 yX2_isIn wsX2_isIn) := goodIn_app (goodIn_of _ (by decide +kernel)) ggX2_timesSpan_X2_isIn
set_option maxRecDepth 20000 in
theorem ggX2_timesSpan_X2_checkArgument : GoodIn wsX2_timesSpan wsX2_checkArgument := goodIn_ca (goodIn_r _ [17, 18, 19] (by decide +kernel) (by decide +kernel)) (goodIn_sub (fun _ h => List.mem_cons_of_mem _ (List.mem_append_left _ (List.mem_append_right _ h))) (by decide +kernel))
set_option maxRecDepth 20000 in
theorem gX2_timesSpan_X2_checkArgument : GoodIn wsX2_timesSpan (va_wsS RX2 49 yX2_checkArgument wsX2_checkArgument) := goodIn_app (goodIn_of _ (by decide +kernel)) ggX2_timesSpan_X2_checkArgument
set_option maxRecDepth 20000 in
theorem ggX2_timesSpan_X2_keepSpan : GoodIn wsX2_timesSpan wsX2_keepSpan := goodIn_ca (goodIn_ca (goodIn_r _ [23, 3, 4, 5, 24, 25, 8, 26, 27, 28, 12, 13, 14, 29, 30, 31, 32, 33, 34, 35, 36, 37, 38, 39, 40, 41, 42, 43, 44, 45, 46, 47, 48] (by decide +kernel) (by decide +kernel)) (goodIn_sub (fun _ h => List.mem_cons_of_mem _ (List.mem_append_left _ (List.mem_append_left _ (List.mem_append_left _ (List.mem_append_right _ h))))) (by decide +kernel))) (goodIn_sub (fun _ h => List.mem_cons_of_mem _ (List.mem_append_right _ h)) (by decide +kernel))
set_option maxRecDepth 20000 in
theorem gX2_timesSpan_X2_keepSpan : GoodIn wsX2_timesSpan (wsV RX2 160 RX2 yX2_keepSpan wsX2_keepSpan) := goodIn_app (goodIn_of _ (by decide +kernel)) ggX2_timesSpan_X2_keepSpan
theorem dX2_timesSpan_0 : decode cX2_timesSpan 0 = .ok (.iload_n 1, 1) := by decide +kernel
theorem dX2_timesSpan_1 : decode cX2_timesSpan 1 = .ok (.iconst 4, 1) := by decide +kernel
theorem dX2_timesSpan_2 : decode cX2_timesSpan 2 = .ok (.invokestatic 41, 3) := by decide +kernel
theorem dX2_timesSpan_5 : decode cX2_timesSpan 5 = .ok (.iload_n 3, 1) := by decide +kernel
theorem dX2_timesSpan_6 : decode cX2_timesSpan 6 = .ok (.iconst 4, 1) := by decide +kernel
theorem dX2_timesSpan_7 : decode cX2_timesSpan 7 = .ok (.invokestatic 41, 3) := by decide +kernel
theorem dX2_timesSpan_10 : decode cX2_timesSpan 10 = .ok (.iload_n 2, 1) := by decide +kernel
theorem dX2_timesSpan_11 : decode cX2_timesSpan 11 = .ok (.i2l, 1) := by decide +kernel
theorem dX2_timesSpan_12 : decode cX2_timesSpan 12 = .ok (.ldc2_w 175, 3) := by decide +kernel
theorem dX2_timesSpan_15 : decode cX2_timesSpan 15 = .ok (.ldc2_w 177, 3) := by decide +kernel
theorem dX2_timesSpan_18 : decode cX2_timesSpan 18 = .ok (.invokestatic 55, 3) := by decide +kernel
theorem dX2_timesSpan_21 : decode cX2_timesSpan 21 = .ok (.invokestatic 49, 3) := by decide +kernel
theorem dX2_timesSpan_24 : decode cX2_timesSpan 24 = .ok (.aload_n 0, 1) := by decide +kernel
theorem dX2_timesSpan_25 : decode cX2_timesSpan 25 = .ok (.iload_n 3, 1) := by decide +kernel
theorem dX2_timesSpan_26 : decode cX2_timesSpan 26 = .ok (.iload_n 2, 1) := by decide +kernel
theorem dX2_timesSpan_27 : decode cX2_timesSpan 27 = .ok (.aload_n 0, 1) := by decide +kernel
theorem dX2_timesSpan_28 : decode cX2_timesSpan 28 = .ok (.getfield 13, 3) := by decide +kernel
theorem dX2_timesSpan_31 : decode cX2_timesSpan 31 = .ok (.iload_n 1, 1) := by decide +kernel
theorem dX2_timesSpan_32 : decode cX2_timesSpan 32 = .ok (.iaload, 1) := by decide +kernel
theorem dX2_timesSpan_33 : decode cX2_timesSpan 33 = .ok (.imul, 1) := by decide +kernel
theorem dX2_timesSpan_34 : decode cX2_timesSpan 34 = .ok (.i2l, 1) := by decide +kernel
theorem dX2_timesSpan_35 : decode cX2_timesSpan 35 = .ok (.iload_n 2, 1) := by decide +kernel
theorem dX2_timesSpan_36 : decode cX2_timesSpan 36 = .ok (.aload_n 0, 1) := by decide +kernel
theorem dX2_timesSpan_37 : decode cX2_timesSpan 37 = .ok (.getfield 17, 3) := by decide +kernel
theorem dX2_timesSpan_40 : decode cX2_timesSpan 40 = .ok (.iload_n 1, 1) := by decide +kernel
theorem dX2_timesSpan_41 : decode cX2_timesSpan 41 = .ok (.iaload, 1) := by decide +kernel
theorem dX2_timesSpan_42 : decode cX2_timesSpan 42 = .ok (.imul, 1) := by decide +kernel
theorem dX2_timesSpan_43 : decode cX2_timesSpan 43 = .ok (.i2l, 1) := by decide +kernel
theorem dX2_timesSpan_44 : decode cX2_timesSpan 44 = .ok (.iload_n 2, 1) := by decide +kernel
theorem dX2_timesSpan_45 : decode cX2_timesSpan 45 = .ok (.aload_n 0, 1) := by decide +kernel
theorem dX2_timesSpan_46 : decode cX2_timesSpan 46 = .ok (.getfield 20, 3) := by decide +kernel
theorem dX2_timesSpan_49 : decode cX2_timesSpan 49 = .ok (.iload_n 1, 1) := by decide +kernel
theorem dX2_timesSpan_50 : decode cX2_timesSpan 50 = .ok (.iaload, 1) := by decide +kernel
theorem dX2_timesSpan_51 : decode cX2_timesSpan 51 = .ok (.imul, 1) := by decide +kernel
theorem dX2_timesSpan_52 : decode cX2_timesSpan 52 = .ok (.i2l, 1) := by decide +kernel
theorem dX2_timesSpan_53 : decode cX2_timesSpan 53 = .ok (.invokevirtual 160, 3) := by decide +kernel
theorem dX2_timesSpan_56 : decode cX2_timesSpan 56 = .ok (.lreturn, 1) := by decide +kernel
set_option maxRecDepth 20000 in
theorem ggX2_plainSpan_X2_checkSlot : GoodIn wsX2_plainSpan wsX2_checkSlot := goodIn_ca (goodIn_r _ [6, 7, 8] (by decide +kernel) (by decide +kernel)) (goodIn_sub (fun _ h => List.mem_cons_of_mem _ (List.mem_append_left _ (List.mem_append_right _ h))) (by decide +kernel))
set_option maxRecDepth 20000 in
theorem gX2_plainSpan_X2_checkSlot : GoodIn wsX2_plainSpan (va_wsS RX2 41 yX2_checkSlot wsX2_checkSlot) := goodIn_app (goodIn_of _ (by decide +kernel)) ggX2_plainSpan_X2_checkSlot
set_option maxRecDepth 20000 in
theorem ggX2_plainSpan_X2_allMonths : GoodIn wsX2_plainSpan wsX2_allMonths := goodIn_ca (goodIn_r _ [12, 1, 13, 14, 32, 33, 34, 35, 36, 37, 38, 39, 40, 41] (by decide +kernel) (by decide +kernel)) (goodIn_sub (fun _ h => List.mem_cons_of_mem _ (List.mem_append_left _ (List.mem_append_left _ (List.mem_append_right _ h)))) (by decide +kernel))
set_option maxRecDepth 20000 in
theorem gX2_plainSpan_X2_allMonths : GoodIn wsX2_plainSpan (wsV RX2 167 RX2 yX2_allMonths wsX2_allMonths) := goodIn_app (goodIn_of _ (by decide +kernel)) ggX2_plainSpan_X2_allMonths
set_option maxRecDepth 20000 in
theorem ggX2_plainSpan_X2_keepSpan : GoodIn wsX2_plainSpan wsX2_keepSpan := goodIn_ca (goodIn_ca (goodIn_r _ [18, 13, 14, 2, 19, 20, 5, 21, 22, 23, 24, 25, 26, 27, 28, 29, 30, 31, 9, 10, 11, 12, 1, 32, 33, 34, 35, 36, 37, 38, 39, 40, 41] (by decide +kernel) (by decide +kernel)) (goodIn_sub (fun _ h => List.mem_cons_of_mem _ (List.mem_append_left _ (List.mem_append_left _ (List.mem_append_right _ h)))) (by decide +kernel))) (goodIn_sub (fun _ h => List.mem_cons_of_mem _ (List.mem_append_right _ h)) (by decide +kernel))
set_option maxRecDepth 20000 in
theorem gX2_plainSpan_X2_keepSpan : GoodIn wsX2_plainSpan (wsV RX2 160 RX2 yX2_keepSpan wsX2_keepSpan) := goodIn_app (goodIn_of _ (by decide +kernel)) ggX2_plainSpan_X2_keepSpan
theorem dX2_plainSpan_0 : decode cX2_plainSpan 0 = .ok (.iload_n 1, 1) := by decide +kernel
theorem dX2_plainSpan_1 : decode cX2_plainSpan 1 = .ok (.iconst 4, 1) := by decide +kernel
theorem dX2_plainSpan_2 : decode cX2_plainSpan 2 = .ok (.invokestatic 41, 3) := by decide +kernel
theorem dX2_plainSpan_5 : decode cX2_plainSpan 5 = .ok (.iload_n 2, 1) := by decide +kernel
theorem dX2_plainSpan_6 : decode cX2_plainSpan 6 = .ok (.iconst 4, 1) := by decide +kernel
theorem dX2_plainSpan_7 : decode cX2_plainSpan 7 = .ok (.invokestatic 41, 3) := by decide +kernel
theorem dX2_plainSpan_10 : decode cX2_plainSpan 10 = .ok (.aload_n 0, 1) := by decide +kernel
theorem dX2_plainSpan_11 : decode cX2_plainSpan 11 = .ok (.iload_n 1, 1) := by decide +kernel
theorem dX2_plainSpan_12 : decode cX2_plainSpan 12 = .ok (.invokevirtual 167, 3) := by decide +kernel
theorem dX2_plainSpan_15 : decode cX2_plainSpan 15 = .ok (.lstore_n 3, 1) := by decide +kernel
theorem dX2_plainSpan_16 : decode cX2_plainSpan 16 = .ok (.aload_n 0, 1) := by decide +kernel
theorem dX2_plainSpan_17 : decode cX2_plainSpan 17 = .ok (.iload_n 2, 1) := by decide +kernel
theorem dX2_plainSpan_18 : decode cX2_plainSpan 18 = .ok (.lload_n 3, 1) := by decide +kernel
theorem dX2_plainSpan_19 : decode cX2_plainSpan 19 = .ok (.ldc2_w 53, 3) := by decide +kernel
theorem dX2_plainSpan_22 : decode cX2_plainSpan 22 = .ok (.ldiv, 1) := by decide +kernel
theorem dX2_plainSpan_23 : decode cX2_plainSpan 23 = .ok (.lload_n 3, 1) := by decide +kernel
theorem dX2_plainSpan_24 : decode cX2_plainSpan 24 = .ok (.ldc2_w 53, 3) := by decide +kernel
theorem dX2_plainSpan_27 : decode cX2_plainSpan 27 = .ok (.lrem, 1) := by decide +kernel
theorem dX2_plainSpan_28 : decode cX2_plainSpan 28 = .ok (.aload_n 0, 1) := by decide +kernel
theorem dX2_plainSpan_29 : decode cX2_plainSpan 29 = .ok (.getfield 20, 3) := by decide +kernel
theorem dX2_plainSpan_32 : decode cX2_plainSpan 32 = .ok (.iload_n 1, 1) := by decide +kernel
theorem dX2_plainSpan_33 : decode cX2_plainSpan 33 = .ok (.iaload, 1) := by decide +kernel
theorem dX2_plainSpan_34 : decode cX2_plainSpan 34 = .ok (.i2l, 1) := by decide +kernel
theorem dX2_plainSpan_35 : decode cX2_plainSpan 35 = .ok (.invokevirtual 160, 3) := by decide +kernel
theorem dX2_plainSpan_38 : decode cX2_plainSpan 38 = .ok (.lreturn, 1) := by decide +kernel
set_option maxRecDepth 20000 in
theorem ggX2_month_X2_checkSlot : GoodIn wsX2_month wsX2_checkSlot := goodIn_ca (goodIn_r _ [5, 6, 7] (by decide +kernel) (by decide +kernel)) (goodIn_sub (fun _ h => List.mem_cons_of_mem _ (List.mem_append_left _ (List.mem_append_left _ (List.mem_append_left _ (List.mem_append_right _ h))))) (by decide +kernel))
set_option maxRecDepth 20000 in
theorem gX2_month_X2_checkSlot : GoodIn wsX2_month (va_wsS RX2 41 yX2_checkSlot wsX2_checkSlot) := goodIn_app (goodIn_of _ (by decide +kernel)) ggX2_month_X2_checkSlot
set_option maxRecDepth 20000 in
theorem ggX2_month_X2_isIn : GoodIn wsX2_month wsX2_isIn := goodIn_r _ [10] (by decide +kernel) (by decide +kernel)
set_option maxRecDepth 20000 in
theorem gX2_month_X2_isIn : GoodIn wsX2_month (va_wsS RX2 55 yX2_isIn wsX2_isIn) := goodIn_app (goodIn_of _ (by decide +kernel)) ggX2_month_X2_isIn
set_option maxRecDepth 20000 in
theorem ggX2_month_X2_checkArgument : GoodIn wsX2_month wsX2_checkArgument := goodIn_ca (goodIn_r _ [13, 14, 15] (by decide +kernel) (by decide +kernel)) (goodIn_sub (fun _ h => List.mem_cons_of_mem _ (List.mem_append_left _ (List.mem_append_left _ (List.mem_append_right _ h)))) (by decide +kernel))
set_option maxRecDepth 20000 in
theorem gX2_month_X2_checkArgument : GoodIn wsX2_month (va_wsS RX2 49 yX2_checkArgument wsX2_checkArgument) := goodIn_app (goodIn_of _ (by decide +kernel)) ggX2_month_X2_checkArgument
set_option maxRecDepth 20000 in
theorem ggX2_month_X2_isYear : GoodIn wsX2_month wsX2_isYear := goodIn_r _ [18, 19, 20, 8, 9, 4, 10] (by decide +kernel) (by decide +kernel)
set_option maxRecDepth 20000 in
theorem gX2_month_X2_isYear : GoodIn wsX2_month (va_wsS RX2 45 yX2_isYear wsX2_isYear) := goodIn_app (goodIn_of _ (by decide +kernel)) ggX2_month_X2_isYear
set_option maxRecDepth 20000 in
theorem ggX2_month_X1_monthIndex : GoodIn wsX2_month wsX1_monthIndex := goodIn_r _ [24, 25] (by decide +kernel) (by decide +kernel)
set_option maxRecDepth 20000 in
theorem gX2_month_X1_monthIndex : GoodIn wsX2_month (va_wsS RX2 59 yX1_monthIndex wsX1_monthIndex) := goodIn_app (goodIn_of _ (by decide +kernel)) ggX2_month_X1_monthIndex
set_option maxRecDepth 20000 in
theorem ggX2_month_X2_keepMonth : GoodIn wsX2_month wsX2_keepMonth := goodIn_ca (goodIn_ca (goodIn_r _ [29, 30, 31, 32, 23, 33, 25, 34, 35, 36, 37, 16, 17, 4, 18, 19, 20, 8, 9, 10, 38, 39, 40, 41, 42, 43, 44, 45, 46, 47, 48, 49, 50, 51, 52, 53, 54, 55, 56, 57, 58, 59, 60, 61, 62, 63, 64, 65, 66, 67, 68] (by decide +kernel) (by decide +kernel)) (goodIn_sub (fun _ h => List.mem_cons_of_mem _ (List.mem_append_left _ (List.mem_append_right _ h))) (by decide +kernel))) (goodIn_sub (fun _ h => List.mem_cons_of_mem _ (List.mem_append_right _ h)) (by decide +kernel))
set_option maxRecDepth 20000 in
theorem gX2_month_X2_keepMonth : GoodIn wsX2_month (wsV RX2 179 RX2 yX2_keepMonth wsX2_keepMonth) := goodIn_app (goodIn_of _ (by decide +kernel)) ggX2_month_X2_keepMonth
theorem dX2_month_0 : decode cX2_month 0 = .ok (.iload_n 1, 1) := by decide +kernel
theorem dX2_month_1 : decode cX2_month 1 = .ok (.iconst 4, 1) := by decide +kernel
theorem dX2_month_2 : decode cX2_month 2 = .ok (.invokestatic 41, 3) := by decide +kernel
theorem dX2_month_5 : decode cX2_month 5 = .ok (.iload_n 3, 1) := by decide +kernel
theorem dX2_month_6 : decode cX2_month 6 = .ok (.i2l, 1) := by decide +kernel
theorem dX2_month_7 : decode cX2_month 7 = .ok (.lconst 1, 1) := by decide +kernel
theorem dX2_month_8 : decode cX2_month 8 = .ok (.ldc2_w 53, 3) := by decide +kernel
theorem dX2_month_11 : decode cX2_month 11 = .ok (.invokestatic 55, 3) := by decide +kernel
theorem dX2_month_14 : decode cX2_month 14 = .ok (.invokestatic 49, 3) := by decide +kernel
theorem dX2_month_17 : decode cX2_month 17 = .ok (.iload_n 2, 1) := by decide +kernel
theorem dX2_month_18 : decode cX2_month 18 = .ok (.i2l, 1) := by decide +kernel
theorem dX2_month_19 : decode cX2_month 19 = .ok (.invokestatic 45, 3) := by decide +kernel
theorem dX2_month_22 : decode cX2_month 22 = .ok (.invokestatic 49, 3) := by decide +kernel
theorem dX2_month_25 : decode cX2_month 25 = .ok (.aload_n 0, 1) := by decide +kernel
theorem dX2_month_26 : decode cX2_month 26 = .ok (.iload_n 1, 1) := by decide +kernel
theorem dX2_month_27 : decode cX2_month 27 = .ok (.iload_n 2, 1) := by decide +kernel
theorem dX2_month_28 : decode cX2_month 28 = .ok (.i2l, 1) := by decide +kernel
theorem dX2_month_29 : decode cX2_month 29 = .ok (.iload_n 3, 1) := by decide +kernel
theorem dX2_month_30 : decode cX2_month 30 = .ok (.i2l, 1) := by decide +kernel
theorem dX2_month_31 : decode cX2_month 31 = .ok (.invokestatic 59, 3) := by decide +kernel
theorem dX2_month_34 : decode cX2_month 34 = .ok (.invokevirtual 179, 3) := by decide +kernel
theorem dX2_month_37 : decode cX2_month 37 = .ok (.ireturn, 1) := by decide +kernel
set_option maxRecDepth 20000 in
theorem ggX2_moveMonth_X2_checkSlot : GoodIn wsX2_moveMonth wsX2_checkSlot := goodIn_ca (goodIn_r _ [8, 9, 10] (by decide +kernel) (by decide +kernel)) (goodIn_sub (fun _ h => List.mem_cons_of_mem _ (List.mem_append_left _ (List.mem_append_left _ (List.mem_append_right _ h)))) (by decide +kernel))
set_option maxRecDepth 20000 in
theorem gX2_moveMonth_X2_checkSlot : GoodIn wsX2_moveMonth (va_wsS RX2 41 yX2_checkSlot wsX2_checkSlot) := goodIn_app (goodIn_of _ (by decide +kernel)) ggX2_moveMonth_X2_checkSlot
set_option maxRecDepth 20000 in
theorem ggX2_moveMonth_X2_checkArgument : GoodIn wsX2_moveMonth wsX2_checkArgument := goodIn_ca (goodIn_r _ [13, 14, 15] (by decide +kernel) (by decide +kernel)) (goodIn_sub (fun _ h => List.mem_cons_of_mem _ (List.mem_append_left _ (List.mem_append_right _ h))) (by decide +kernel))
set_option maxRecDepth 20000 in
theorem gX2_moveMonth_X2_checkArgument : GoodIn wsX2_moveMonth (va_wsS RX2 49 yX2_checkArgument wsX2_checkArgument) := goodIn_app (goodIn_of _ (by decide +kernel)) ggX2_moveMonth_X2_checkArgument
set_option maxRecDepth 20000 in
theorem ggX2_moveMonth_X2_isIn : GoodIn wsX2_moveMonth wsX2_isIn := goodIn_r _ [18] (by decide +kernel) (by decide +kernel)
set_option maxRecDepth 20000 in
theorem gX2_moveMonth_X2_isIn : GoodIn wsX2_moveMonth (va_wsS RX2 55 yX2_isIn wsX2_isIn) := goodIn_app (goodIn_of _ (by decide +kernel)) ggX2_moveMonth_X2_isIn
set_option maxRecDepth 20000 in
theorem ggX2_moveMonth_X2_keepMonth : GoodIn wsX2_moveMonth wsX2_keepMonth := goodIn_ca (goodIn_ca (goodIn_r _ [22, 3, 23, 24, 25, 26, 27, 28, 29, 30, 31, 32, 33, 7, 34, 35, 36, 16, 17, 18, 37, 38, 39, 40, 41, 42, 43, 44, 45, 46, 47, 48, 49, 50, 51, 52, 53, 54, 55, 56, 57, 58, 59, 60, 61, 62, 63, 64, 65, 66, 67] (by decide +kernel) (by decide +kernel)) (goodIn_sub (fun _ h => List.mem_cons_of_mem _ (List.mem_append_left _ (List.mem_append_left _ (List.mem_append_left _ (List.mem_append_right _ h))))) (by decide +kernel))) (goodIn_sub (fun _ h => List.mem_cons_of_mem _ (List.mem_append_right _ h)) (by decide +kernel))
set_option maxRecDepth 20000 in
theorem gX2_moveMonth_X2_keepMonth : GoodIn wsX2_moveMonth (wsV RX2 179 RX2 yX2_keepMonth wsX2_keepMonth) := goodIn_app (goodIn_of _ (by decide +kernel)) ggX2_moveMonth_X2_keepMonth
theorem dX2_moveMonth_0 : decode cX2_moveMonth 0 = .ok (.iload_n 1, 1) := by decide +kernel
theorem dX2_moveMonth_1 : decode cX2_moveMonth 1 = .ok (.iconst 4, 1) := by decide +kernel
theorem dX2_moveMonth_2 : decode cX2_moveMonth 2 = .ok (.invokestatic 41, 3) := by decide +kernel
theorem dX2_moveMonth_5 : decode cX2_moveMonth 5 = .ok (.iload 4, 2) := by decide +kernel
theorem dX2_moveMonth_7 : decode cX2_moveMonth 7 = .ok (.iconst 4, 1) := by decide +kernel
theorem dX2_moveMonth_8 : decode cX2_moveMonth 8 = .ok (.invokestatic 41, 3) := by decide +kernel
theorem dX2_moveMonth_11 : decode cX2_moveMonth 11 = .ok (.iload_n 2, 1) := by decide +kernel
theorem dX2_moveMonth_12 : decode cX2_moveMonth 12 = .ok (.bipush 109, 2) := by decide +kernel
theorem dX2_moveMonth_14 : decode cX2_moveMonth 14 = .ok (.if_icmp .eq 9, 3) := by decide +kernel
theorem dX2_moveMonth_17 : decode cX2_moveMonth 17 = .ok (.iload_n 2, 1) := by decide +kernel
theorem dX2_moveMonth_18 : decode cX2_moveMonth 18 = .ok (.bipush 121, 2) := by decide +kernel
theorem dX2_moveMonth_20 : decode cX2_moveMonth 20 = .ok (.if_icmp .ne 7, 3) := by decide +kernel
theorem dX2_moveMonth_23 : decode cX2_moveMonth 23 = .ok (.iconst 1, 1) := by decide +kernel
theorem dX2_moveMonth_24 : decode cX2_moveMonth 24 = .ok (.goto 4, 3) := by decide +kernel
theorem dX2_moveMonth_27 : decode cX2_moveMonth 27 = .ok (.iconst 0, 1) := by decide +kernel
theorem dX2_moveMonth_28 : decode cX2_moveMonth 28 = .ok (.invokestatic 49, 3) := by decide +kernel
theorem dX2_moveMonth_31 : decode cX2_moveMonth 31 = .ok (.iload_n 3, 1) := by decide +kernel
theorem dX2_moveMonth_32 : decode cX2_moveMonth 32 = .ok (.i2l, 1) := by decide +kernel
theorem dX2_moveMonth_33 : decode cX2_moveMonth 33 = .ok (.ldc2_w 112, 3) := by decide +kernel
theorem dX2_moveMonth_36 : decode cX2_moveMonth 36 = .ok (.ldc2_w 114, 3) := by decide +kernel
theorem dX2_moveMonth_39 : decode cX2_moveMonth 39 = .ok (.invokestatic 55, 3) := by decide +kernel
theorem dX2_moveMonth_42 : decode cX2_moveMonth 42 = .ok (.invokestatic 49, 3) := by decide +kernel
theorem dX2_moveMonth_45 : decode cX2_moveMonth 45 = .ok (.aload_n 0, 1) := by decide +kernel
theorem dX2_moveMonth_46 : decode cX2_moveMonth 46 = .ok (.iload 4, 2) := by decide +kernel
theorem dX2_moveMonth_48 : decode cX2_moveMonth 48 = .ok (.aload_n 0, 1) := by decide +kernel
theorem dX2_moveMonth_49 : decode cX2_moveMonth 49 = .ok (.getfield 23, 3) := by decide +kernel
theorem dX2_moveMonth_52 : decode cX2_moveMonth 52 = .ok (.iload_n 1, 1) := by decide +kernel
theorem dX2_moveMonth_53 : decode cX2_moveMonth 53 = .ok (.iaload, 1) := by decide +kernel
theorem dX2_moveMonth_54 : decode cX2_moveMonth 54 = .ok (.i2l, 1) := by decide +kernel
theorem dX2_moveMonth_55 : decode cX2_moveMonth 55 = .ok (.iload_n 2, 1) := by decide +kernel
theorem dX2_moveMonth_56 : decode cX2_moveMonth 56 = .ok (.bipush 121, 2) := by decide +kernel
theorem dX2_moveMonth_58 : decode cX2_moveMonth 58 = .ok (.if_icmp .ne 12, 3) := by decide +kernel
theorem dX2_moveMonth_61 : decode cX2_moveMonth 61 = .ok (.ldc2_w 53, 3) := by decide +kernel
theorem dX2_moveMonth_64 : decode cX2_moveMonth 64 = .ok (.iload_n 3, 1) := by decide +kernel
theorem dX2_moveMonth_65 : decode cX2_moveMonth 65 = .ok (.i2l, 1) := by decide +kernel
theorem dX2_moveMonth_66 : decode cX2_moveMonth 66 = .ok (.lmul, 1) := by decide +kernel
theorem dX2_moveMonth_67 : decode cX2_moveMonth 67 = .ok (.goto 5, 3) := by decide +kernel
theorem dX2_moveMonth_70 : decode cX2_moveMonth 70 = .ok (.iload_n 3, 1) := by decide +kernel
theorem dX2_moveMonth_71 : decode cX2_moveMonth 71 = .ok (.i2l, 1) := by decide +kernel
theorem dX2_moveMonth_72 : decode cX2_moveMonth 72 = .ok (.ladd, 1) := by decide +kernel
theorem dX2_moveMonth_73 : decode cX2_moveMonth 73 = .ok (.invokevirtual 179, 3) := by decide +kernel
theorem dX2_moveMonth_76 : decode cX2_moveMonth 76 = .ok (.ireturn, 1) := by decide +kernel
set_option maxRecDepth 20000 in
theorem ggX2_monthPart_X2_checkSlot : GoodIn wsX2_monthPart wsX2_checkSlot := goodIn_ca (goodIn_r _ [7, 8, 9] (by decide +kernel) (by decide +kernel)) (goodIn_sub (fun _ h => List.mem_cons_of_mem _ (List.mem_append_right _ h)) (by decide +kernel))
set_option maxRecDepth 20000 in
theorem gX2_monthPart_X2_checkSlot : GoodIn wsX2_monthPart (va_wsS RX2 41 yX2_checkSlot wsX2_checkSlot) := goodIn_app (goodIn_of _ (by decide +kernel)) ggX2_monthPart_X2_checkSlot
set_option maxRecDepth 20000 in
theorem ggX2_monthPart_X1_yearOfMonth : GoodIn wsX2_monthPart wsX1_yearOfMonth := goodIn_r _ [13, 14, 15, 16, 17, 18] (by decide +kernel) (by decide +kernel)
set_option maxRecDepth 20000 in
theorem gX2_monthPart_X1_yearOfMonth : GoodIn wsX2_monthPart (va_wsS RX2 120 yX1_yearOfMonth wsX1_yearOfMonth) := goodIn_app (goodIn_of _ (by decide +kernel)) ggX2_monthPart_X1_yearOfMonth
set_option maxRecDepth 20000 in
theorem ggX2_monthPart_X1_monthInYear : GoodIn wsX2_monthPart wsX1_monthInYear := goodIn_r _ [21, 14, 22, 23, 17, 24] (by decide +kernel) (by decide +kernel)
set_option maxRecDepth 20000 in
theorem gX2_monthPart_X1_monthInYear : GoodIn wsX2_monthPart (va_wsS RX2 83 yX1_monthInYear wsX1_monthInYear) := goodIn_app (goodIn_of _ (by decide +kernel)) ggX2_monthPart_X1_monthInYear
set_option maxRecDepth 20000 in
theorem ggX2_monthPart_X1_lengthOfMonth : GoodIn wsX2_monthPart wsX1_lengthOfMonth := goodIn_r _ [27, 28, 20, 12, 21, 14, 22, 23, 17, 24, 29, 11, 13, 15, 16, 18, 30, 31, 32, 33, 34, 35] (by decide +kernel) (by decide +kernel)
set_option maxRecDepth 20000 in
theorem gX2_monthPart_X1_lengthOfMonth : GoodIn wsX2_monthPart (va_wsS RX2 65 yX1_lengthOfMonth wsX1_lengthOfMonth) := goodIn_app (goodIn_of _ (by decide +kernel)) ggX2_monthPart_X1_lengthOfMonth
set_option maxRecDepth 20000 in
theorem ggX2_monthPart_X1_lengthOfYear : GoodIn wsX2_monthPart wsX1_lengthOfYear := goodIn_r _ [38, 30, 31, 12, 32, 33, 34, 35] (by decide +kernel) (by decide +kernel)
set_option maxRecDepth 20000 in
theorem gX2_monthPart_X1_lengthOfYear : GoodIn wsX2_monthPart (va_wsS RX2 95 yX1_lengthOfYear wsX1_lengthOfYear) := goodIn_app (goodIn_of _ (by decide +kernel)) ggX2_monthPart_X1_lengthOfYear
theorem dX2_monthPart_0 : decode cX2_monthPart 0 = .ok (.iload_n 1, 1) := by decide +kernel
theorem dX2_monthPart_1 : decode cX2_monthPart 1 = .ok (.iconst 4, 1) := by decide +kernel
theorem dX2_monthPart_2 : decode cX2_monthPart 2 = .ok (.invokestatic 41, 3) := by decide +kernel
theorem dX2_monthPart_5 : decode cX2_monthPart 5 = .ok (.aload_n 0, 1) := by decide +kernel
theorem dX2_monthPart_6 : decode cX2_monthPart 6 = .ok (.getfield 23, 3) := by decide +kernel
theorem dX2_monthPart_9 : decode cX2_monthPart 9 = .ok (.iload_n 1, 1) := by decide +kernel
theorem dX2_monthPart_10 : decode cX2_monthPart 10 = .ok (.iaload, 1) := by decide +kernel
theorem dX2_monthPart_11 : decode cX2_monthPart 11 = .ok (.i2l, 1) := by decide +kernel
theorem dX2_monthPart_12 : decode cX2_monthPart 12 = .ok (.lstore_n 3, 1) := by decide +kernel
theorem dX2_monthPart_13 : decode cX2_monthPart 13 = .ok (.iload_n 2, 1) := by decide +kernel
theorem dX2_monthPart_14 : decode cX2_monthPart 14 = .ok (.lookupswitch 66 #[(76, 58), (108, 53), (109, 48), (121, 42)], 42) := by decide +kernel
theorem dX2_monthPart_56 : decode cX2_monthPart 56 = .ok (.lload_n 3, 1) := by decide +kernel
theorem dX2_monthPart_57 : decode cX2_monthPart 57 = .ok (.invokestatic 120, 3) := by decide +kernel
theorem dX2_monthPart_60 : decode cX2_monthPart 60 = .ok (.l2i, 1) := by decide +kernel
theorem dX2_monthPart_61 : decode cX2_monthPart 61 = .ok (.ireturn, 1) := by decide +kernel
theorem dX2_monthPart_62 : decode cX2_monthPart 62 = .ok (.lload_n 3, 1) := by decide +kernel
theorem dX2_monthPart_63 : decode cX2_monthPart 63 = .ok (.invokestatic 83, 3) := by decide +kernel
theorem dX2_monthPart_66 : decode cX2_monthPart 66 = .ok (.ireturn, 1) := by decide +kernel
theorem dX2_monthPart_67 : decode cX2_monthPart 67 = .ok (.lload_n 3, 1) := by decide +kernel
theorem dX2_monthPart_68 : decode cX2_monthPart 68 = .ok (.invokestatic 65, 3) := by decide +kernel
theorem dX2_monthPart_71 : decode cX2_monthPart 71 = .ok (.ireturn, 1) := by decide +kernel
theorem dX2_monthPart_72 : decode cX2_monthPart 72 = .ok (.lload_n 3, 1) := by decide +kernel
theorem dX2_monthPart_73 : decode cX2_monthPart 73 = .ok (.invokestatic 120, 3) := by decide +kernel
theorem dX2_monthPart_76 : decode cX2_monthPart 76 = .ok (.invokestatic 95, 3) := by decide +kernel
theorem dX2_monthPart_79 : decode cX2_monthPart 79 = .ok (.ireturn, 1) := by decide +kernel
theorem dX2_monthPart_80 : decode cX2_monthPart 80 = .ok (.new 101, 3) := by decide +kernel
theorem dX2_monthPart_83 : decode cX2_monthPart 83 = .ok (.dup, 1) := by decide +kernel
theorem dX2_monthPart_84 : decode cX2_monthPart 84 = .ok (.ldc 183, 2) := by decide +kernel
theorem dX2_monthPart_86 : decode cX2_monthPart 86 = .ok (.invokespecial 105, 3) := by decide +kernel
theorem dX2_monthPart_89 : decode cX2_monthPart 89 = .ok (.athrow, 1) := by decide +kernel
set_option maxRecDepth 20000 in
theorem ggX2_atDay_X2_checkSlot : GoodIn wsX2_atDay wsX2_checkSlot := goodIn_ca (goodIn_r _ [5, 6, 7] (by decide +kernel) (by decide +kernel)) (goodIn_sub (fun _ h => List.mem_cons_of_mem _ (List.mem_append_left _ (List.mem_append_left _ (List.mem_append_right _ h)))) (by decide +kernel))
set_option maxRecDepth 20000 in
theorem gX2_atDay_X2_checkSlot : GoodIn wsX2_atDay (va_wsS RX2 41 yX2_checkSlot wsX2_checkSlot) := goodIn_app (goodIn_of _ (by decide +kernel)) ggX2_atDay_X2_checkSlot
set_option maxRecDepth 20000 in
theorem ggX2_atDay_X1_lengthOfMonth : GoodIn wsX2_atDay wsX1_lengthOfMonth := goodIn_r _ [11, 12, 13, 10, 14, 15, 16, 17, 18, 19, 20, 21, 22, 23, 24, 25, 26, 27, 28, 29, 30, 31] (by decide +kernel) (by decide +kernel)
set_option maxRecDepth 20000 in
theorem gX2_atDay_X1_lengthOfMonth : GoodIn wsX2_atDay (va_wsS RX2 65 yX1_lengthOfMonth wsX1_lengthOfMonth) := goodIn_app (goodIn_of _ (by decide +kernel)) ggX2_atDay_X1_lengthOfMonth
set_option maxRecDepth 20000 in
theorem ggX2_atDay_X2_isIn : GoodIn wsX2_atDay wsX2_isIn := goodIn_r _ [34] (by decide +kernel) (by decide +kernel)
set_option maxRecDepth 20000 in
theorem gX2_atDay_X2_isIn : GoodIn wsX2_atDay (va_wsS RX2 55 yX2_isIn wsX2_isIn) := goodIn_app (goodIn_of _ (by decide +kernel)) ggX2_atDay_X2_isIn
set_option maxRecDepth 20000 in
theorem ggX2_atDay_X2_checkArgument : GoodIn wsX2_atDay wsX2_checkArgument := goodIn_ca (goodIn_r _ [37, 38, 39] (by decide +kernel) (by decide +kernel)) (goodIn_sub (fun _ h => List.mem_cons_of_mem _ (List.mem_append_left _ (List.mem_append_right _ h))) (by decide +kernel))
set_option maxRecDepth 20000 in
theorem gX2_atDay_X2_checkArgument : GoodIn wsX2_atDay (va_wsS RX2 49 yX2_checkArgument wsX2_checkArgument) := goodIn_app (goodIn_of _ (by decide +kernel)) ggX2_atDay_X2_checkArgument
set_option maxRecDepth 20000 in
theorem ggX2_atDay_X1_firstOfMonth : GoodIn wsX2_atDay wsX1_firstOfMonth := goodIn_r _ [42, 43, 20, 21, 10, 22, 15, 23, 24, 18, 25, 12, 13, 14, 16, 17, 19, 26, 27, 28, 29, 30, 31, 44, 45, 46, 47, 48, 49, 50, 51] (by decide +kernel) (by decide +kernel)
set_option maxRecDepth 20000 in
theorem gX2_atDay_X1_firstOfMonth : GoodIn wsX2_atDay (va_wsS RX2 69 yX1_firstOfMonth wsX1_firstOfMonth) := goodIn_app (goodIn_of _ (by decide +kernel)) ggX2_atDay_X1_firstOfMonth
set_option maxRecDepth 20000 in
theorem ggX2_atDay_X2_keepDate : GoodIn wsX2_atDay wsX2_keepDate := goodIn_ca (goodIn_ca (goodIn_r _ [55, 56, 57, 58, 10, 59, 60, 61, 62, 63, 4, 64, 65, 66, 67, 68, 69, 70, 71, 72, 73, 74, 75, 76] (by decide +kernel) (by decide +kernel)) (goodIn_sub (fun _ h => List.mem_cons_of_mem _ (List.mem_append_left _ (List.mem_append_left _ (List.mem_append_left _ (List.mem_append_right _ h))))) (by decide +kernel))) (goodIn_sub (fun _ h => List.mem_cons_of_mem _ (List.mem_append_right _ h)) (by decide +kernel))
set_option maxRecDepth 20000 in
theorem gX2_atDay_X2_keepDate : GoodIn wsX2_atDay (wsV RX2 73 RX2 yX2_keepDate wsX2_keepDate) := goodIn_app (goodIn_of _ (by decide +kernel)) ggX2_atDay_X2_keepDate
theorem dX2_atDay_0 : decode cX2_atDay 0 = .ok (.iload_n 1, 1) := by decide +kernel
theorem dX2_atDay_1 : decode cX2_atDay 1 = .ok (.iconst 4, 1) := by decide +kernel
theorem dX2_atDay_2 : decode cX2_atDay 2 = .ok (.invokestatic 41, 3) := by decide +kernel
theorem dX2_atDay_5 : decode cX2_atDay 5 = .ok (.iload_n 3, 1) := by decide +kernel
theorem dX2_atDay_6 : decode cX2_atDay 6 = .ok (.bipush 6, 2) := by decide +kernel
theorem dX2_atDay_8 : decode cX2_atDay 8 = .ok (.invokestatic 41, 3) := by decide +kernel
theorem dX2_atDay_11 : decode cX2_atDay 11 = .ok (.aload_n 0, 1) := by decide +kernel
theorem dX2_atDay_12 : decode cX2_atDay 12 = .ok (.getfield 23, 3) := by decide +kernel
theorem dX2_atDay_15 : decode cX2_atDay 15 = .ok (.iload_n 1, 1) := by decide +kernel
theorem dX2_atDay_16 : decode cX2_atDay 16 = .ok (.iaload, 1) := by decide +kernel
theorem dX2_atDay_17 : decode cX2_atDay 17 = .ok (.i2l, 1) := by decide +kernel
theorem dX2_atDay_18 : decode cX2_atDay 18 = .ok (.invokestatic 65, 3) := by decide +kernel
theorem dX2_atDay_21 : decode cX2_atDay 21 = .ok (.istore 4, 2) := by decide +kernel
theorem dX2_atDay_23 : decode cX2_atDay 23 = .ok (.iload_n 2, 1) := by decide +kernel
theorem dX2_atDay_24 : decode cX2_atDay 24 = .ok (.i2l, 1) := by decide +kernel
theorem dX2_atDay_25 : decode cX2_atDay 25 = .ok (.lconst 0, 1) := by decide +kernel
theorem dX2_atDay_26 : decode cX2_atDay 26 = .ok (.iload 4, 2) := by decide +kernel
theorem dX2_atDay_28 : decode cX2_atDay 28 = .ok (.i2l, 1) := by decide +kernel
theorem dX2_atDay_29 : decode cX2_atDay 29 = .ok (.invokestatic 55, 3) := by decide +kernel
theorem dX2_atDay_32 : decode cX2_atDay 32 = .ok (.invokestatic 49, 3) := by decide +kernel
theorem dX2_atDay_35 : decode cX2_atDay 35 = .ok (.aload_n 0, 1) := by decide +kernel
theorem dX2_atDay_36 : decode cX2_atDay 36 = .ok (.iload_n 3, 1) := by decide +kernel
theorem dX2_atDay_37 : decode cX2_atDay 37 = .ok (.aload_n 0, 1) := by decide +kernel
theorem dX2_atDay_38 : decode cX2_atDay 38 = .ok (.getfield 23, 3) := by decide +kernel
theorem dX2_atDay_41 : decode cX2_atDay 41 = .ok (.iload_n 1, 1) := by decide +kernel
theorem dX2_atDay_42 : decode cX2_atDay 42 = .ok (.iaload, 1) := by decide +kernel
theorem dX2_atDay_43 : decode cX2_atDay 43 = .ok (.i2l, 1) := by decide +kernel
theorem dX2_atDay_44 : decode cX2_atDay 44 = .ok (.invokestatic 69, 3) := by decide +kernel
theorem dX2_atDay_47 : decode cX2_atDay 47 = .ok (.iload_n 2, 1) := by decide +kernel
theorem dX2_atDay_48 : decode cX2_atDay 48 = .ok (.ifCond .ne 8, 3) := by decide +kernel
theorem dX2_atDay_51 : decode cX2_atDay 51 = .ok (.iload 4, 2) := by decide +kernel
theorem dX2_atDay_53 : decode cX2_atDay 53 = .ok (.goto 4, 3) := by decide +kernel
theorem dX2_atDay_56 : decode cX2_atDay 56 = .ok (.iload_n 2, 1) := by decide +kernel
theorem dX2_atDay_57 : decode cX2_atDay 57 = .ok (.i2l, 1) := by decide +kernel
theorem dX2_atDay_58 : decode cX2_atDay 58 = .ok (.ladd, 1) := by decide +kernel
theorem dX2_atDay_59 : decode cX2_atDay 59 = .ok (.lconst 1, 1) := by decide +kernel
theorem dX2_atDay_60 : decode cX2_atDay 60 = .ok (.lsub, 1) := by decide +kernel
theorem dX2_atDay_61 : decode cX2_atDay 61 = .ok (.invokevirtual 73, 3) := by decide +kernel
theorem dX2_atDay_64 : decode cX2_atDay 64 = .ok (.lreturn, 1) := by decide +kernel
set_option maxRecDepth 20000 in
theorem ggX2_orderMonths_X2_checkSlot : GoodIn wsX2_orderMonths wsX2_checkSlot := goodIn_ca (goodIn_r _ [5, 6, 7] (by decide +kernel) (by decide +kernel)) (goodIn_sub (fun _ h => List.mem_cons_of_mem _ (List.mem_append_right _ h)) (by decide +kernel))
set_option maxRecDepth 20000 in
theorem gX2_orderMonths_X2_checkSlot : GoodIn wsX2_orderMonths (va_wsS RX2 41 yX2_checkSlot wsX2_checkSlot) := goodIn_app (goodIn_of _ (by decide +kernel)) ggX2_orderMonths_X2_checkSlot
set_option maxRecDepth 20000 in
theorem ggX2_orderMonths_X2_sign : GoodIn wsX2_orderMonths wsX2_sign := goodIn_r _ [10] (by decide +kernel) (by decide +kernel)
set_option maxRecDepth 20000 in
theorem gX2_orderMonths_X2_sign : GoodIn wsX2_orderMonths (va_wsS RX2 148 yX2_sign wsX2_sign) := goodIn_app (goodIn_of _ (by decide +kernel)) ggX2_orderMonths_X2_sign
theorem dX2_orderMonths_0 : decode cX2_orderMonths 0 = .ok (.iload_n 1, 1) := by decide +kernel
theorem dX2_orderMonths_1 : decode cX2_orderMonths 1 = .ok (.iconst 4, 1) := by decide +kernel
theorem dX2_orderMonths_2 : decode cX2_orderMonths 2 = .ok (.invokestatic 41, 3) := by decide +kernel
theorem dX2_orderMonths_5 : decode cX2_orderMonths 5 = .ok (.iload_n 2, 1) := by decide +kernel
theorem dX2_orderMonths_6 : decode cX2_orderMonths 6 = .ok (.iconst 4, 1) := by decide +kernel
theorem dX2_orderMonths_7 : decode cX2_orderMonths 7 = .ok (.invokestatic 41, 3) := by decide +kernel
theorem dX2_orderMonths_10 : decode cX2_orderMonths 10 = .ok (.aload_n 0, 1) := by decide +kernel
theorem dX2_orderMonths_11 : decode cX2_orderMonths 11 = .ok (.getfield 23, 3) := by decide +kernel
theorem dX2_orderMonths_14 : decode cX2_orderMonths 14 = .ok (.iload_n 1, 1) := by decide +kernel
theorem dX2_orderMonths_15 : decode cX2_orderMonths 15 = .ok (.iaload, 1) := by decide +kernel
theorem dX2_orderMonths_16 : decode cX2_orderMonths 16 = .ok (.i2l, 1) := by decide +kernel
theorem dX2_orderMonths_17 : decode cX2_orderMonths 17 = .ok (.aload_n 0, 1) := by decide +kernel
theorem dX2_orderMonths_18 : decode cX2_orderMonths 18 = .ok (.getfield 23, 3) := by decide +kernel
theorem dX2_orderMonths_21 : decode cX2_orderMonths 21 = .ok (.iload_n 2, 1) := by decide +kernel
theorem dX2_orderMonths_22 : decode cX2_orderMonths 22 = .ok (.iaload, 1) := by decide +kernel
theorem dX2_orderMonths_23 : decode cX2_orderMonths 23 = .ok (.i2l, 1) := by decide +kernel
theorem dX2_orderMonths_24 : decode cX2_orderMonths 24 = .ok (.invokestatic 148, 3) := by decide +kernel
theorem dX2_orderMonths_27 : decode cX2_orderMonths 27 = .ok (.ireturn, 1) := by decide +kernel
set_option maxRecDepth 20000 in
theorem ggX2_time_X2_checkSlot : GoodIn wsX2_time wsX2_checkSlot := goodIn_ca (goodIn_r _ [11, 12, 13] (by decide +kernel) (by decide +kernel)) (goodIn_sub (fun _ h => List.mem_cons_of_mem _ (List.mem_append_left _ (List.mem_append_right _ h))) (by decide +kernel))
set_option maxRecDepth 20000 in
theorem gX2_time_X2_checkSlot : GoodIn wsX2_time (va_wsS RX2 41 yX2_checkSlot wsX2_checkSlot) := goodIn_app (goodIn_of _ (by decide +kernel)) ggX2_time_X2_checkSlot
set_option maxRecDepth 20000 in
theorem ggX2_time_X2_isIn : GoodIn wsX2_time wsX2_isIn := goodIn_r _ [16] (by decide +kernel) (by decide +kernel)
set_option maxRecDepth 20000 in
theorem gX2_time_X2_isIn : GoodIn wsX2_time (va_wsS RX2 55 yX2_isIn wsX2_isIn) := goodIn_app (goodIn_of _ (by decide +kernel)) ggX2_time_X2_isIn
set_option maxRecDepth 20000 in
theorem ggX2_time_X2_checkArgument : GoodIn wsX2_time wsX2_checkArgument := goodIn_ca (goodIn_r _ [19, 20, 21] (by decide +kernel) (by decide +kernel)) (goodIn_sub (fun _ h => List.mem_cons_of_mem _ (List.mem_append_right _ h)) (by decide +kernel))
set_option maxRecDepth 20000 in
theorem gX2_time_X2_checkArgument : GoodIn wsX2_time (va_wsS RX2 49 yX2_checkArgument wsX2_checkArgument) := goodIn_app (goodIn_of _ (by decide +kernel)) ggX2_time_X2_checkArgument
theorem dX2_time_0 : decode cX2_time 0 = .ok (.iload_n 1, 1) := by decide +kernel
theorem dX2_time_1 : decode cX2_time 1 = .ok (.iconst 4, 1) := by decide +kernel
theorem dX2_time_2 : decode cX2_time 2 = .ok (.invokestatic 41, 3) := by decide +kernel
theorem dX2_time_5 : decode cX2_time 5 = .ok (.iload_n 2, 1) := by decide +kernel
theorem dX2_time_6 : decode cX2_time 6 = .ok (.i2l, 1) := by decide +kernel
theorem dX2_time_7 : decode cX2_time 7 = .ok (.lconst 0, 1) := by decide +kernel
theorem dX2_time_8 : decode cX2_time 8 = .ok (.ldc2_w 185, 3) := by decide +kernel
theorem dX2_time_11 : decode cX2_time 11 = .ok (.invokestatic 55, 3) := by decide +kernel
theorem dX2_time_14 : decode cX2_time 14 = .ok (.invokestatic 49, 3) := by decide +kernel
theorem dX2_time_17 : decode cX2_time 17 = .ok (.iload_n 3, 1) := by decide +kernel
theorem dX2_time_18 : decode cX2_time 18 = .ok (.i2l, 1) := by decide +kernel
theorem dX2_time_19 : decode cX2_time 19 = .ok (.lconst 0, 1) := by decide +kernel
theorem dX2_time_20 : decode cX2_time 20 = .ok (.ldc2_w 187, 3) := by decide +kernel
theorem dX2_time_23 : decode cX2_time 23 = .ok (.invokestatic 55, 3) := by decide +kernel
theorem dX2_time_26 : decode cX2_time 26 = .ok (.invokestatic 49, 3) := by decide +kernel
theorem dX2_time_29 : decode cX2_time 29 = .ok (.iload 4, 2) := by decide +kernel
theorem dX2_time_31 : decode cX2_time 31 = .ok (.i2l, 1) := by decide +kernel
theorem dX2_time_32 : decode cX2_time 32 = .ok (.lconst 0, 1) := by decide +kernel
theorem dX2_time_33 : decode cX2_time 33 = .ok (.ldc2_w 187, 3) := by decide +kernel
theorem dX2_time_36 : decode cX2_time 36 = .ok (.invokestatic 55, 3) := by decide +kernel
theorem dX2_time_39 : decode cX2_time 39 = .ok (.invokestatic 49, 3) := by decide +kernel
theorem dX2_time_42 : decode cX2_time 42 = .ok (.iload 5, 2) := by decide +kernel
theorem dX2_time_44 : decode cX2_time 44 = .ok (.i2l, 1) := by decide +kernel
theorem dX2_time_45 : decode cX2_time 45 = .ok (.lconst 0, 1) := by decide +kernel
theorem dX2_time_46 : decode cX2_time 46 = .ok (.ldc2_w 191, 3) := by decide +kernel
theorem dX2_time_49 : decode cX2_time 49 = .ok (.invokestatic 55, 3) := by decide +kernel
theorem dX2_time_52 : decode cX2_time 52 = .ok (.invokestatic 49, 3) := by decide +kernel
theorem dX2_time_55 : decode cX2_time 55 = .ok (.aload_n 0, 1) := by decide +kernel
theorem dX2_time_56 : decode cX2_time 56 = .ok (.getfield 26, 3) := by decide +kernel
theorem dX2_time_59 : decode cX2_time 59 = .ok (.iload_n 1, 1) := by decide +kernel
theorem dX2_time_60 : decode cX2_time 60 = .ok (.iload_n 2, 1) := by decide +kernel
theorem dX2_time_61 : decode cX2_time 61 = .ok (.i2l, 1) := by decide +kernel
theorem dX2_time_62 : decode cX2_time 62 = .ok (.ldc2_w 193, 3) := by decide +kernel
theorem dX2_time_65 : decode cX2_time 65 = .ok (.lmul, 1) := by decide +kernel
theorem dX2_time_66 : decode cX2_time 66 = .ok (.iload_n 3, 1) := by decide +kernel
theorem dX2_time_67 : decode cX2_time 67 = .ok (.i2l, 1) := by decide +kernel
theorem dX2_time_68 : decode cX2_time 68 = .ok (.ldc2_w 195, 3) := by decide +kernel
theorem dX2_time_71 : decode cX2_time 71 = .ok (.lmul, 1) := by decide +kernel
theorem dX2_time_72 : decode cX2_time 72 = .ok (.ladd, 1) := by decide +kernel
theorem dX2_time_73 : decode cX2_time 73 = .ok (.iload 4, 2) := by decide +kernel
theorem dX2_time_75 : decode cX2_time 75 = .ok (.i2l, 1) := by decide +kernel
theorem dX2_time_76 : decode cX2_time 76 = .ok (.ldc2_w 197, 3) := by decide +kernel
theorem dX2_time_79 : decode cX2_time 79 = .ok (.lmul, 1) := by decide +kernel
theorem dX2_time_80 : decode cX2_time 80 = .ok (.ladd, 1) := by decide +kernel
theorem dX2_time_81 : decode cX2_time 81 = .ok (.iload 5, 2) := by decide +kernel
theorem dX2_time_83 : decode cX2_time 83 = .ok (.i2l, 1) := by decide +kernel
theorem dX2_time_84 : decode cX2_time 84 = .ok (.ladd, 1) := by decide +kernel
theorem dX2_time_85 : decode cX2_time 85 = .ok (.lastore, 1) := by decide +kernel
theorem dX2_time_86 : decode cX2_time 86 = .ok (.aload_n 0, 1) := by decide +kernel
theorem dX2_time_87 : decode cX2_time 87 = .ok (.getfield 26, 3) := by decide +kernel
theorem dX2_time_90 : decode cX2_time 90 = .ok (.iload_n 1, 1) := by decide +kernel
theorem dX2_time_91 : decode cX2_time 91 = .ok (.laload, 1) := by decide +kernel
theorem dX2_time_92 : decode cX2_time 92 = .ok (.lreturn, 1) := by decide +kernel
set_option maxRecDepth 20000 in
theorem ggX2_ofBillionths_X2_checkSlot : GoodIn wsX2_ofBillionths wsX2_checkSlot := goodIn_ca (goodIn_r _ [7, 8, 9] (by decide +kernel) (by decide +kernel)) (goodIn_sub (fun _ h => List.mem_cons_of_mem _ (List.mem_append_left _ (List.mem_append_right _ h))) (by decide +kernel))
set_option maxRecDepth 20000 in
theorem gX2_ofBillionths_X2_checkSlot : GoodIn wsX2_ofBillionths (va_wsS RX2 41 yX2_checkSlot wsX2_checkSlot) := goodIn_app (goodIn_of _ (by decide +kernel)) ggX2_ofBillionths_X2_checkSlot
set_option maxRecDepth 20000 in
theorem ggX2_ofBillionths_X2_isIn : GoodIn wsX2_ofBillionths wsX2_isIn := goodIn_r _ [12] (by decide +kernel) (by decide +kernel)
set_option maxRecDepth 20000 in
theorem gX2_ofBillionths_X2_isIn : GoodIn wsX2_ofBillionths (va_wsS RX2 55 yX2_isIn wsX2_isIn) := goodIn_app (goodIn_of _ (by decide +kernel)) ggX2_ofBillionths_X2_isIn
set_option maxRecDepth 20000 in
theorem ggX2_ofBillionths_X2_checkArgument : GoodIn wsX2_ofBillionths wsX2_checkArgument := goodIn_ca (goodIn_r _ [15, 16, 17] (by decide +kernel) (by decide +kernel)) (goodIn_sub (fun _ h => List.mem_cons_of_mem _ (List.mem_append_right _ h)) (by decide +kernel))
set_option maxRecDepth 20000 in
theorem gX2_ofBillionths_X2_checkArgument : GoodIn wsX2_ofBillionths (va_wsS RX2 49 yX2_checkArgument wsX2_checkArgument) := goodIn_app (goodIn_of _ (by decide +kernel)) ggX2_ofBillionths_X2_checkArgument
theorem dX2_ofBillionths_0 : decode cX2_ofBillionths 0 = .ok (.iload_n 1, 1) := by decide +kernel
theorem dX2_ofBillionths_1 : decode cX2_ofBillionths 1 = .ok (.iconst 4, 1) := by decide +kernel
theorem dX2_ofBillionths_2 : decode cX2_ofBillionths 2 = .ok (.invokestatic 41, 3) := by decide +kernel
theorem dX2_ofBillionths_5 : decode cX2_ofBillionths 5 = .ok (.lload_n 2, 1) := by decide +kernel
theorem dX2_ofBillionths_6 : decode cX2_ofBillionths 6 = .ok (.lconst 0, 1) := by decide +kernel
theorem dX2_ofBillionths_7 : decode cX2_ofBillionths 7 = .ok (.ldc2_w 199, 3) := by decide +kernel
theorem dX2_ofBillionths_10 : decode cX2_ofBillionths 10 = .ok (.invokestatic 55, 3) := by decide +kernel
theorem dX2_ofBillionths_13 : decode cX2_ofBillionths 13 = .ok (.invokestatic 49, 3) := by decide +kernel
theorem dX2_ofBillionths_16 : decode cX2_ofBillionths 16 = .ok (.aload_n 0, 1) := by decide +kernel
theorem dX2_ofBillionths_17 : decode cX2_ofBillionths 17 = .ok (.getfield 26, 3) := by decide +kernel
theorem dX2_ofBillionths_20 : decode cX2_ofBillionths 20 = .ok (.iload_n 1, 1) := by decide +kernel
theorem dX2_ofBillionths_21 : decode cX2_ofBillionths 21 = .ok (.lload_n 2, 1) := by decide +kernel
theorem dX2_ofBillionths_22 : decode cX2_ofBillionths 22 = .ok (.lastore, 1) := by decide +kernel
theorem dX2_ofBillionths_23 : decode cX2_ofBillionths 23 = .ok (.lload_n 2, 1) := by decide +kernel
theorem dX2_ofBillionths_24 : decode cX2_ofBillionths 24 = .ok (.ldc2_w 193, 3) := by decide +kernel
theorem dX2_ofBillionths_27 : decode cX2_ofBillionths 27 = .ok (.ldiv, 1) := by decide +kernel
theorem dX2_ofBillionths_28 : decode cX2_ofBillionths 28 = .ok (.l2i, 1) := by decide +kernel
theorem dX2_ofBillionths_29 : decode cX2_ofBillionths 29 = .ok (.ireturn, 1) := by decide +kernel
set_option maxRecDepth 20000 in
theorem ggX2_timePart_X2_checkSlot : GoodIn wsX2_timePart wsX2_checkSlot := goodIn_ca (goodIn_r _ [11, 12, 13] (by decide +kernel) (by decide +kernel)) (goodIn_sub (fun _ h => List.mem_cons_of_mem _ (List.mem_append_right _ h)) (by decide +kernel))
set_option maxRecDepth 20000 in
theorem gX2_timePart_X2_checkSlot : GoodIn wsX2_timePart (va_wsS RX2 41 yX2_checkSlot wsX2_checkSlot) := goodIn_app (goodIn_of _ (by decide +kernel)) ggX2_timePart_X2_checkSlot
theorem dX2_timePart_0 : decode cX2_timePart 0 = .ok (.iload_n 1, 1) := by decide +kernel
theorem dX2_timePart_1 : decode cX2_timePart 1 = .ok (.iconst 4, 1) := by decide +kernel
theorem dX2_timePart_2 : decode cX2_timePart 2 = .ok (.invokestatic 41, 3) := by decide +kernel
theorem dX2_timePart_5 : decode cX2_timePart 5 = .ok (.aload_n 0, 1) := by decide +kernel
theorem dX2_timePart_6 : decode cX2_timePart 6 = .ok (.getfield 26, 3) := by decide +kernel
theorem dX2_timePart_9 : decode cX2_timePart 9 = .ok (.iload_n 1, 1) := by decide +kernel
theorem dX2_timePart_10 : decode cX2_timePart 10 = .ok (.laload, 1) := by decide +kernel
theorem dX2_timePart_11 : decode cX2_timePart 11 = .ok (.lstore_n 3, 1) := by decide +kernel
theorem dX2_timePart_12 : decode cX2_timePart 12 = .ok (.iload_n 2, 1) := by decide +kernel
theorem dX2_timePart_13 : decode cX2_timePart 13 = .ok (.lookupswitch 79 #[(104, 43), (109, 50), (110, 72), (115, 61)], 43) := by decide +kernel
theorem dX2_timePart_56 : decode cX2_timePart 56 = .ok (.lload_n 3, 1) := by decide +kernel
theorem dX2_timePart_57 : decode cX2_timePart 57 = .ok (.ldc2_w 193, 3) := by decide +kernel
theorem dX2_timePart_60 : decode cX2_timePart 60 = .ok (.ldiv, 1) := by decide +kernel
theorem dX2_timePart_61 : decode cX2_timePart 61 = .ok (.l2i, 1) := by decide +kernel
theorem dX2_timePart_62 : decode cX2_timePart 62 = .ok (.ireturn, 1) := by decide +kernel
theorem dX2_timePart_63 : decode cX2_timePart 63 = .ok (.lload_n 3, 1) := by decide +kernel
theorem dX2_timePart_64 : decode cX2_timePart 64 = .ok (.ldc2_w 195, 3) := by decide +kernel
theorem dX2_timePart_67 : decode cX2_timePart 67 = .ok (.ldiv, 1) := by decide +kernel
theorem dX2_timePart_68 : decode cX2_timePart 68 = .ok (.ldc2_w 201, 3) := by decide +kernel
theorem dX2_timePart_71 : decode cX2_timePart 71 = .ok (.lrem, 1) := by decide +kernel
theorem dX2_timePart_72 : decode cX2_timePart 72 = .ok (.l2i, 1) := by decide +kernel
theorem dX2_timePart_73 : decode cX2_timePart 73 = .ok (.ireturn, 1) := by decide +kernel
theorem dX2_timePart_74 : decode cX2_timePart 74 = .ok (.lload_n 3, 1) := by decide +kernel
theorem dX2_timePart_75 : decode cX2_timePart 75 = .ok (.ldc2_w 197, 3) := by decide +kernel
theorem dX2_timePart_78 : decode cX2_timePart 78 = .ok (.ldiv, 1) := by decide +kernel
theorem dX2_timePart_79 : decode cX2_timePart 79 = .ok (.ldc2_w 201, 3) := by decide +kernel
theorem dX2_timePart_82 : decode cX2_timePart 82 = .ok (.lrem, 1) := by decide +kernel
theorem dX2_timePart_83 : decode cX2_timePart 83 = .ok (.l2i, 1) := by decide +kernel
theorem dX2_timePart_84 : decode cX2_timePart 84 = .ok (.ireturn, 1) := by decide +kernel
theorem dX2_timePart_85 : decode cX2_timePart 85 = .ok (.lload_n 3, 1) := by decide +kernel
theorem dX2_timePart_86 : decode cX2_timePart 86 = .ok (.ldc2_w 197, 3) := by decide +kernel
theorem dX2_timePart_89 : decode cX2_timePart 89 = .ok (.lrem, 1) := by decide +kernel
theorem dX2_timePart_90 : decode cX2_timePart 90 = .ok (.l2i, 1) := by decide +kernel
theorem dX2_timePart_91 : decode cX2_timePart 91 = .ok (.ireturn, 1) := by decide +kernel
theorem dX2_timePart_92 : decode cX2_timePart 92 = .ok (.new 101, 3) := by decide +kernel
theorem dX2_timePart_95 : decode cX2_timePart 95 = .ok (.dup, 1) := by decide +kernel
theorem dX2_timePart_96 : decode cX2_timePart 96 = .ok (.ldc 203, 2) := by decide +kernel
theorem dX2_timePart_98 : decode cX2_timePart 98 = .ok (.invokespecial 105, 3) := by decide +kernel
theorem dX2_timePart_101 : decode cX2_timePart 101 = .ok (.athrow, 1) := by decide +kernel
set_option maxRecDepth 20000 in
theorem ggX2_moveTime_X2_checkSlot : GoodIn wsX2_moveTime wsX2_checkSlot := goodIn_ca (goodIn_r _ [7, 8, 9] (by decide +kernel) (by decide +kernel)) (goodIn_sub (fun _ h => List.mem_cons_of_mem _ (List.mem_append_left _ (List.mem_append_right _ h))) (by decide +kernel))
set_option maxRecDepth 20000 in
theorem gX2_moveTime_X2_checkSlot : GoodIn wsX2_moveTime (va_wsS RX2 41 yX2_checkSlot wsX2_checkSlot) := goodIn_app (goodIn_of _ (by decide +kernel)) ggX2_moveTime_X2_checkSlot
