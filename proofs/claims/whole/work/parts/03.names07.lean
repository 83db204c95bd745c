set_option maxRecDepth 20000 in
theorem ggX2_moveTime_X2_checkArgument : GoodIn wsX2_moveTime wsX2_checkArgument := goodIn_ca (goodIn_r _ [12, 13, 14] (by decide +kernel) (by decide +kernel)) (goodIn_sub (fun _ h => List.mem_cons_of_mem _ (List.mem_append_right _ h)) (by decide +kernel))
set_option maxRecDepth 20000 in
theorem gX2_moveTime_X2_checkArgument : GoodIn wsX2_moveTime (va_wsS RX2 49 yX2_checkArgument wsX2_checkArgument) := goodIn_app (goodIn_of _ (by decide +kernel)) ggX2_moveTime_X2_checkArgument
set_option maxRecDepth 20000 in
theorem ggX2_moveTime_X0_countInDay : GoodIn wsX2_moveTime wsX0_countInDay := goodIn_r _ [18, 19, 20, 21, 22] (by decide +kernel) (by decide +kernel)
set_option maxRecDepth 20000 in
theorem gX2_moveTime_X0_countInDay : GoodIn wsX2_moveTime (va_wsS RX2 205 yX0_countInDay wsX0_countInDay) := goodIn_app (goodIn_of _ (by decide +kernel)) ggX2_moveTime_X0_countInDay
set_option maxRecDepth 20000 in
theorem ggX2_moveTime_X2_isIn : GoodIn wsX2_moveTime wsX2_isIn := goodIn_r _ [25] (by decide +kernel) (by decide +kernel)
set_option maxRecDepth 20000 in
theorem gX2_moveTime_X2_isIn : GoodIn wsX2_moveTime (va_wsS RX2 55 yX2_isIn wsX2_isIn) := goodIn_app (goodIn_of _ (by decide +kernel)) ggX2_moveTime_X2_isIn
set_option maxRecDepth 20000 in
theorem ggX2_moveTime_X0_restOfDay : GoodIn wsX2_moveTime wsX0_restOfDay := goodIn_r _ [28, 22, 29, 30, 31, 32] (by decide +kernel) (by decide +kernel)
set_option maxRecDepth 20000 in
theorem gX2_moveTime_X0_restOfDay : GoodIn wsX2_moveTime (va_wsS RX2 213 yX0_restOfDay wsX0_restOfDay) := goodIn_app (goodIn_of _ (by decide +kernel)) ggX2_moveTime_X0_restOfDay
set_option maxRecDepth 20000 in
theorem ggX2_moveTime_X0_roundDay : GoodIn wsX2_moveTime wsX0_roundDay := goodIn_r _ [35, 22, 29, 30, 31, 32] (by decide +kernel) (by decide +kernel)
set_option maxRecDepth 20000 in
theorem gX2_moveTime_X0_roundDay : GoodIn wsX2_moveTime (va_wsS RX2 216 yX0_roundDay wsX0_roundDay) := goodIn_app (goodIn_of _ (by decide +kernel)) ggX2_moveTime_X0_roundDay
theorem dX2_moveTime_0 : decode cX2_moveTime 0 = .ok (.iload_n 1, 1) := by decide +kernel
theorem dX2_moveTime_1 : decode cX2_moveTime 1 = .ok (.iconst 4, 1) := by decide +kernel
theorem dX2_moveTime_2 : decode cX2_moveTime 2 = .ok (.invokestatic 41, 3) := by decide +kernel
theorem dX2_moveTime_5 : decode cX2_moveTime 5 = .ok (.iload 5, 2) := by decide +kernel
theorem dX2_moveTime_7 : decode cX2_moveTime 7 = .ok (.iconst 4, 1) := by decide +kernel
theorem dX2_moveTime_8 : decode cX2_moveTime 8 = .ok (.invokestatic 41, 3) := by decide +kernel
theorem dX2_moveTime_11 : decode cX2_moveTime 11 = .ok (.iload_n 2, 1) := by decide +kernel
theorem dX2_moveTime_12 : decode cX2_moveTime 12 = .ok (.bipush 105, 2) := by decide +kernel
theorem dX2_moveTime_14 : decode cX2_moveTime 14 = .ok (.if_icmp .eq 7, 3) := by decide +kernel
theorem dX2_moveTime_17 : decode cX2_moveTime 17 = .ok (.iconst 1, 1) := by decide +kernel
theorem dX2_moveTime_18 : decode cX2_moveTime 18 = .ok (.goto 4, 3) := by decide +kernel
theorem dX2_moveTime_21 : decode cX2_moveTime 21 = .ok (.iconst 0, 1) := by decide +kernel
theorem dX2_moveTime_22 : decode cX2_moveTime 22 = .ok (.invokestatic 49, 3) := by decide +kernel
theorem dX2_moveTime_25 : decode cX2_moveTime 25 = .ok (.iload_n 2, 1) := by decide +kernel
theorem dX2_moveTime_26 : decode cX2_moveTime 26 = .ok (.bipush 109, 2) := by decide +kernel
theorem dX2_moveTime_28 : decode cX2_moveTime 28 = .ok (.if_icmp .ne 8, 3) := by decide +kernel
theorem dX2_moveTime_31 : decode cX2_moveTime 31 = .ok (.bipush 105, 2) := by decide +kernel
theorem dX2_moveTime_33 : decode cX2_moveTime 33 = .ok (.goto 4, 3) := by decide +kernel
theorem dX2_moveTime_36 : decode cX2_moveTime 36 = .ok (.iload_n 2, 1) := by decide +kernel
theorem dX2_moveTime_37 : decode cX2_moveTime 37 = .ok (.invokestatic 205, 3) := by decide +kernel
theorem dX2_moveTime_40 : decode cX2_moveTime 40 = .ok (.lstore 6, 2) := by decide +kernel
theorem dX2_moveTime_42 : decode cX2_moveTime 42 = .ok (.lload 6, 2) := by decide +kernel
theorem dX2_moveTime_44 : decode cX2_moveTime 44 = .ok (.lconst 0, 1) := by decide +kernel
theorem dX2_moveTime_45 : decode cX2_moveTime 45 = .ok (.lcmp, 1) := by decide +kernel
theorem dX2_moveTime_46 : decode cX2_moveTime 46 = .ok (.ifCond .le 7, 3) := by decide +kernel
theorem dX2_moveTime_49 : decode cX2_moveTime 49 = .ok (.iconst 1, 1) := by decide +kernel
theorem dX2_moveTime_50 : decode cX2_moveTime 50 = .ok (.goto 4, 3) := by decide +kernel
theorem dX2_moveTime_53 : decode cX2_moveTime 53 = .ok (.iconst 0, 1) := by decide +kernel
theorem dX2_moveTime_54 : decode cX2_moveTime 54 = .ok (.invokestatic 49, 3) := by decide +kernel
theorem dX2_moveTime_57 : decode cX2_moveTime 57 = .ok (.lload_n 3, 1) := by decide +kernel
theorem dX2_moveTime_58 : decode cX2_moveTime 58 = .ok (.ldc2_w 209, 3) := by decide +kernel
theorem dX2_moveTime_61 : decode cX2_moveTime 61 = .ok (.ldc2_w 211, 3) := by decide +kernel
theorem dX2_moveTime_64 : decode cX2_moveTime 64 = .ok (.invokestatic 55, 3) := by decide +kernel
theorem dX2_moveTime_67 : decode cX2_moveTime 67 = .ok (.invokestatic 49, 3) := by decide +kernel
theorem dX2_moveTime_70 : decode cX2_moveTime 70 = .ok (.aload_n 0, 1) := by decide +kernel
theorem dX2_moveTime_71 : decode cX2_moveTime 71 = .ok (.getfield 26, 3) := by decide +kernel
theorem dX2_moveTime_74 : decode cX2_moveTime 74 = .ok (.iload 5, 2) := by decide +kernel
theorem dX2_moveTime_76 : decode cX2_moveTime 76 = .ok (.aload_n 0, 1) := by decide +kernel
theorem dX2_moveTime_77 : decode cX2_moveTime 77 = .ok (.getfield 26, 3) := by decide +kernel
theorem dX2_moveTime_80 : decode cX2_moveTime 80 = .ok (.iload_n 1, 1) := by decide +kernel
theorem dX2_moveTime_81 : decode cX2_moveTime 81 = .ok (.laload, 1) := by decide +kernel
theorem dX2_moveTime_82 : decode cX2_moveTime 82 = .ok (.lload_n 3, 1) := by decide +kernel
theorem dX2_moveTime_83 : decode cX2_moveTime 83 = .ok (.lload 6, 2) := by decide +kernel
theorem dX2_moveTime_85 : decode cX2_moveTime 85 = .ok (.invokestatic 213, 3) := by decide +kernel
theorem dX2_moveTime_88 : decode cX2_moveTime 88 = .ok (.ladd, 1) := by decide +kernel
theorem dX2_moveTime_89 : decode cX2_moveTime 89 = .ok (.invokestatic 216, 3) := by decide +kernel
theorem dX2_moveTime_92 : decode cX2_moveTime 92 = .ok (.lastore, 1) := by decide +kernel
theorem dX2_moveTime_93 : decode cX2_moveTime 93 = .ok (.aload_n 0, 1) := by decide +kernel
theorem dX2_moveTime_94 : decode cX2_moveTime 94 = .ok (.getfield 26, 3) := by decide +kernel
theorem dX2_moveTime_97 : decode cX2_moveTime 97 = .ok (.iload 5, 2) := by decide +kernel
theorem dX2_moveTime_99 : decode cX2_moveTime 99 = .ok (.laload, 1) := by decide +kernel
theorem dX2_moveTime_100 : decode cX2_moveTime 100 = .ok (.lreturn, 1) := by decide +kernel
set_option maxRecDepth 20000 in
theorem ggX2_cutTime_X2_checkSlot : GoodIn wsX2_cutTime wsX2_checkSlot := goodIn_ca (goodIn_r _ [10, 11, 12] (by decide +kernel) (by decide +kernel)) (goodIn_sub (fun _ h => List.mem_cons_of_mem _ (List.mem_append_right _ h)) (by decide +kernel))
set_option maxRecDepth 20000 in
theorem gX2_cutTime_X2_checkSlot : GoodIn wsX2_cutTime (va_wsS RX2 41 yX2_checkSlot wsX2_checkSlot) := goodIn_app (goodIn_of _ (by decide +kernel)) ggX2_cutTime_X2_checkSlot
theorem dX2_cutTime_0 : decode cX2_cutTime 0 = .ok (.iload_n 1, 1) := by decide +kernel
theorem dX2_cutTime_1 : decode cX2_cutTime 1 = .ok (.iconst 4, 1) := by decide +kernel
theorem dX2_cutTime_2 : decode cX2_cutTime 2 = .ok (.invokestatic 41, 3) := by decide +kernel
theorem dX2_cutTime_5 : decode cX2_cutTime 5 = .ok (.iload_n 3, 1) := by decide +kernel
theorem dX2_cutTime_6 : decode cX2_cutTime 6 = .ok (.iconst 4, 1) := by decide +kernel
theorem dX2_cutTime_7 : decode cX2_cutTime 7 = .ok (.invokestatic 41, 3) := by decide +kernel
theorem dX2_cutTime_10 : decode cX2_cutTime 10 = .ok (.aload_n 0, 1) := by decide +kernel
theorem dX2_cutTime_11 : decode cX2_cutTime 11 = .ok (.getfield 26, 3) := by decide +kernel
theorem dX2_cutTime_14 : decode cX2_cutTime 14 = .ok (.iload_n 1, 1) := by decide +kernel
theorem dX2_cutTime_15 : decode cX2_cutTime 15 = .ok (.laload, 1) := by decide +kernel
theorem dX2_cutTime_16 : decode cX2_cutTime 16 = .ok (.lstore 4, 2) := by decide +kernel
theorem dX2_cutTime_18 : decode cX2_cutTime 18 = .ok (.iload_n 2, 1) := by decide +kernel
theorem dX2_cutTime_19 : decode cX2_cutTime 19 = .ok (.lookupswitch 105 #[(100, 95), (104, 41), (109, 59), (115, 77)], 41) := by decide +kernel
theorem dX2_cutTime_60 : decode cX2_cutTime 60 = .ok (.aload_n 0, 1) := by decide +kernel
theorem dX2_cutTime_61 : decode cX2_cutTime 61 = .ok (.getfield 26, 3) := by decide +kernel
theorem dX2_cutTime_64 : decode cX2_cutTime 64 = .ok (.iload_n 3, 1) := by decide +kernel
theorem dX2_cutTime_65 : decode cX2_cutTime 65 = .ok (.lload 4, 2) := by decide +kernel
theorem dX2_cutTime_67 : decode cX2_cutTime 67 = .ok (.lload 4, 2) := by decide +kernel
theorem dX2_cutTime_69 : decode cX2_cutTime 69 = .ok (.ldc2_w 193, 3) := by decide +kernel
theorem dX2_cutTime_72 : decode cX2_cutTime 72 = .ok (.lrem, 1) := by decide +kernel
theorem dX2_cutTime_73 : decode cX2_cutTime 73 = .ok (.lsub, 1) := by decide +kernel
theorem dX2_cutTime_74 : decode cX2_cutTime 74 = .ok (.lastore, 1) := by decide +kernel
theorem dX2_cutTime_75 : decode cX2_cutTime 75 = .ok (.goto 59, 3) := by decide +kernel
theorem dX2_cutTime_78 : decode cX2_cutTime 78 = .ok (.aload_n 0, 1) := by decide +kernel
theorem dX2_cutTime_79 : decode cX2_cutTime 79 = .ok (.getfield 26, 3) := by decide +kernel
theorem dX2_cutTime_82 : decode cX2_cutTime 82 = .ok (.iload_n 3, 1) := by decide +kernel
theorem dX2_cutTime_83 : decode cX2_cutTime 83 = .ok (.lload 4, 2) := by decide +kernel
theorem dX2_cutTime_85 : decode cX2_cutTime 85 = .ok (.lload 4, 2) := by decide +kernel
theorem dX2_cutTime_87 : decode cX2_cutTime 87 = .ok (.ldc2_w 195, 3) := by decide +kernel
theorem dX2_cutTime_90 : decode cX2_cutTime 90 = .ok (.lrem, 1) := by decide +kernel
theorem dX2_cutTime_91 : decode cX2_cutTime 91 = .ok (.lsub, 1) := by decide +kernel
theorem dX2_cutTime_92 : decode cX2_cutTime 92 = .ok (.lastore, 1) := by decide +kernel
theorem dX2_cutTime_93 : decode cX2_cutTime 93 = .ok (.goto 41, 3) := by decide +kernel
theorem dX2_cutTime_96 : decode cX2_cutTime 96 = .ok (.aload_n 0, 1) := by decide +kernel
theorem dX2_cutTime_97 : decode cX2_cutTime 97 = .ok (.getfield 26, 3) := by decide +kernel
theorem dX2_cutTime_100 : decode cX2_cutTime 100 = .ok (.iload_n 3, 1) := by decide +kernel
theorem dX2_cutTime_101 : decode cX2_cutTime 101 = .ok (.lload 4, 2) := by decide +kernel
theorem dX2_cutTime_103 : decode cX2_cutTime 103 = .ok (.lload 4, 2) := by decide +kernel
theorem dX2_cutTime_105 : decode cX2_cutTime 105 = .ok (.ldc2_w 197, 3) := by decide +kernel
theorem dX2_cutTime_108 : decode cX2_cutTime 108 = .ok (.lrem, 1) := by decide +kernel
theorem dX2_cutTime_109 : decode cX2_cutTime 109 = .ok (.lsub, 1) := by decide +kernel
theorem dX2_cutTime_110 : decode cX2_cutTime 110 = .ok (.lastore, 1) := by decide +kernel
theorem dX2_cutTime_111 : decode cX2_cutTime 111 = .ok (.goto 23, 3) := by decide +kernel
theorem dX2_cutTime_114 : decode cX2_cutTime 114 = .ok (.aload_n 0, 1) := by decide +kernel
theorem dX2_cutTime_115 : decode cX2_cutTime 115 = .ok (.getfield 26, 3) := by decide +kernel
theorem dX2_cutTime_118 : decode cX2_cutTime 118 = .ok (.iload_n 3, 1) := by decide +kernel
theorem dX2_cutTime_119 : decode cX2_cutTime 119 = .ok (.lconst 0, 1) := by decide +kernel
theorem dX2_cutTime_120 : decode cX2_cutTime 120 = .ok (.lastore, 1) := by decide +kernel
theorem dX2_cutTime_121 : decode cX2_cutTime 121 = .ok (.goto 13, 3) := by decide +kernel
theorem dX2_cutTime_124 : decode cX2_cutTime 124 = .ok (.new 101, 3) := by decide +kernel
theorem dX2_cutTime_127 : decode cX2_cutTime 127 = .ok (.dup, 1) := by decide +kernel
theorem dX2_cutTime_128 : decode cX2_cutTime 128 = .ok (.ldc 219, 2) := by decide +kernel
theorem dX2_cutTime_130 : decode cX2_cutTime 130 = .ok (.invokespecial 105, 3) := by decide +kernel
theorem dX2_cutTime_133 : decode cX2_cutTime 133 = .ok (.athrow, 1) := by decide +kernel
theorem dX2_cutTime_134 : decode cX2_cutTime 134 = .ok (.aload_n 0, 1) := by decide +kernel
theorem dX2_cutTime_135 : decode cX2_cutTime 135 = .ok (.getfield 26, 3) := by decide +kernel
theorem dX2_cutTime_138 : decode cX2_cutTime 138 = .ok (.iload_n 3, 1) := by decide +kernel
theorem dX2_cutTime_139 : decode cX2_cutTime 139 = .ok (.laload, 1) := by decide +kernel
theorem dX2_cutTime_140 : decode cX2_cutTime 140 = .ok (.lreturn, 1) := by decide +kernel
set_option maxRecDepth 20000 in
theorem ggX2_goTime_X2_checkSlot : GoodIn wsX2_goTime wsX2_checkSlot := goodIn_ca (goodIn_r _ [8, 9, 10] (by decide +kernel) (by decide +kernel)) (goodIn_sub (fun _ h => List.mem_cons_of_mem _ (List.mem_append_right _ h)) (by decide +kernel))
set_option maxRecDepth 20000 in
theorem gX2_goTime_X2_checkSlot : GoodIn wsX2_goTime (va_wsS RX2 41 yX2_checkSlot wsX2_checkSlot) := goodIn_app (goodIn_of _ (by decide +kernel)) ggX2_goTime_X2_checkSlot
set_option maxRecDepth 20000 in
theorem ggX2_goTime_X0_restOfDay : GoodIn wsX2_goTime wsX0_restOfDay := goodIn_r _ [14, 15, 16, 17, 18, 19] (by decide +kernel) (by decide +kernel)
set_option maxRecDepth 20000 in
theorem gX2_goTime_X0_restOfDay : GoodIn wsX2_goTime (va_wsS RX2 213 yX0_restOfDay wsX0_restOfDay) := goodIn_app (goodIn_of _ (by decide +kernel)) ggX2_goTime_X0_restOfDay
set_option maxRecDepth 20000 in
theorem ggX2_goTime_X0_roundDay : GoodIn wsX2_goTime wsX0_roundDay := goodIn_r _ [22, 15, 16, 17, 18, 19] (by decide +kernel) (by decide +kernel)
set_option maxRecDepth 20000 in
theorem gX2_goTime_X0_roundDay : GoodIn wsX2_goTime (va_wsS RX2 216 yX0_roundDay wsX0_roundDay) := goodIn_app (goodIn_of _ (by decide +kernel)) ggX2_goTime_X0_roundDay
theorem dX2_goTime_0 : decode cX2_goTime 0 = .ok (.iload_n 1, 1) := by decide +kernel
theorem dX2_goTime_1 : decode cX2_goTime 1 = .ok (.iconst 4, 1) := by decide +kernel
theorem dX2_goTime_2 : decode cX2_goTime 2 = .ok (.invokestatic 41, 3) := by decide +kernel
theorem dX2_goTime_5 : decode cX2_goTime 5 = .ok (.iload_n 2, 1) := by decide +kernel
theorem dX2_goTime_6 : decode cX2_goTime 6 = .ok (.iconst 4, 1) := by decide +kernel
theorem dX2_goTime_7 : decode cX2_goTime 7 = .ok (.invokestatic 41, 3) := by decide +kernel
theorem dX2_goTime_10 : decode cX2_goTime 10 = .ok (.iload 4, 2) := by decide +kernel
theorem dX2_goTime_12 : decode cX2_goTime 12 = .ok (.iconst 4, 1) := by decide +kernel
theorem dX2_goTime_13 : decode cX2_goTime 13 = .ok (.invokestatic 41, 3) := by decide +kernel
theorem dX2_goTime_16 : decode cX2_goTime 16 = .ok (.aload_n 0, 1) := by decide +kernel
theorem dX2_goTime_17 : decode cX2_goTime 17 = .ok (.getfield 29, 3) := by decide +kernel
theorem dX2_goTime_20 : decode cX2_goTime 20 = .ok (.iload_n 2, 1) := by decide +kernel
theorem dX2_goTime_21 : decode cX2_goTime 21 = .ok (.laload, 1) := by decide +kernel
theorem dX2_goTime_22 : decode cX2_goTime 22 = .ok (.ldc2_w 221, 3) := by decide +kernel
theorem dX2_goTime_25 : decode cX2_goTime 25 = .ok (.invokestatic 213, 3) := by decide +kernel
theorem dX2_goTime_28 : decode cX2_goTime 28 = .ok (.aload_n 0, 1) := by decide +kernel
theorem dX2_goTime_29 : decode cX2_goTime 29 = .ok (.getfield 32, 3) := by decide +kernel
theorem dX2_goTime_32 : decode cX2_goTime 32 = .ok (.iload_n 2, 1) := by decide +kernel
theorem dX2_goTime_33 : decode cX2_goTime 33 = .ok (.laload, 1) := by decide +kernel
theorem dX2_goTime_34 : decode cX2_goTime 34 = .ok (.ladd, 1) := by decide +kernel
theorem dX2_goTime_35 : decode cX2_goTime 35 = .ok (.lstore 5, 2) := by decide +kernel
theorem dX2_goTime_37 : decode cX2_goTime 37 = .ok (.aload_n 0, 1) := by decide +kernel
theorem dX2_goTime_38 : decode cX2_goTime 38 = .ok (.getfield 26, 3) := by decide +kernel
theorem dX2_goTime_41 : decode cX2_goTime 41 = .ok (.iload 4, 2) := by decide +kernel
theorem dX2_goTime_43 : decode cX2_goTime 43 = .ok (.aload_n 0, 1) := by decide +kernel
theorem dX2_goTime_44 : decode cX2_goTime 44 = .ok (.getfield 26, 3) := by decide +kernel
theorem dX2_goTime_47 : decode cX2_goTime 47 = .ok (.iload_n 1, 1) := by decide +kernel
theorem dX2_goTime_48 : decode cX2_goTime 48 = .ok (.laload, 1) := by decide +kernel
theorem dX2_goTime_49 : decode cX2_goTime 49 = .ok (.iload_n 3, 1) := by decide +kernel
theorem dX2_goTime_50 : decode cX2_goTime 50 = .ok (.ifCond .eq 9, 3) := by decide +kernel
theorem dX2_goTime_53 : decode cX2_goTime 53 = .ok (.lload 5, 2) := by decide +kernel
theorem dX2_goTime_55 : decode cX2_goTime 55 = .ok (.lneg, 1) := by decide +kernel
theorem dX2_goTime_56 : decode cX2_goTime 56 = .ok (.goto 5, 3) := by decide +kernel
theorem dX2_goTime_59 : decode cX2_goTime 59 = .ok (.lload 5, 2) := by decide +kernel
theorem dX2_goTime_61 : decode cX2_goTime 61 = .ok (.ladd, 1) := by decide +kernel
theorem dX2_goTime_62 : decode cX2_goTime 62 = .ok (.invokestatic 216, 3) := by decide +kernel
theorem dX2_goTime_65 : decode cX2_goTime 65 = .ok (.lastore, 1) := by decide +kernel
theorem dX2_goTime_66 : decode cX2_goTime 66 = .ok (.aload_n 0, 1) := by decide +kernel
theorem dX2_goTime_67 : decode cX2_goTime 67 = .ok (.getfield 26, 3) := by decide +kernel
theorem dX2_goTime_70 : decode cX2_goTime 70 = .ok (.iload 4, 2) := by decide +kernel
theorem dX2_goTime_72 : decode cX2_goTime 72 = .ok (.laload, 1) := by decide +kernel
theorem dX2_goTime_73 : decode cX2_goTime 73 = .ok (.lreturn, 1) := by decide +kernel
set_option maxRecDepth 20000 in
theorem ggX2_orderTimes_X2_checkSlot : GoodIn wsX2_orderTimes wsX2_checkSlot := goodIn_ca (goodIn_r _ [5, 6, 7] (by decide +kernel) (by decide +kernel)) (goodIn_sub (fun _ h => List.mem_cons_of_mem _ (List.mem_append_right _ h)) (by decide +kernel))
set_option maxRecDepth 20000 in
theorem gX2_orderTimes_X2_checkSlot : GoodIn wsX2_orderTimes (va_wsS RX2 41 yX2_checkSlot wsX2_checkSlot) := goodIn_app (goodIn_of _ (by decide +kernel)) ggX2_orderTimes_X2_checkSlot
set_option maxRecDepth 20000 in
theorem ggX2_orderTimes_X2_sign : GoodIn wsX2_orderTimes wsX2_sign := goodIn_r _ [10] (by decide +kernel) (by decide +kernel)
set_option maxRecDepth 20000 in
theorem gX2_orderTimes_X2_sign : GoodIn wsX2_orderTimes (va_wsS RX2 148 yX2_sign wsX2_sign) := goodIn_app (goodIn_of _ (by decide +kernel)) ggX2_orderTimes_X2_sign
theorem dX2_orderTimes_0 : decode cX2_orderTimes 0 = .ok (.iload_n 1, 1) := by decide +kernel
theorem dX2_orderTimes_1 : decode cX2_orderTimes 1 = .ok (.iconst 4, 1) := by decide +kernel
theorem dX2_orderTimes_2 : decode cX2_orderTimes 2 = .ok (.invokestatic 41, 3) := by decide +kernel
theorem dX2_orderTimes_5 : decode cX2_orderTimes 5 = .ok (.iload_n 2, 1) := by decide +kernel
theorem dX2_orderTimes_6 : decode cX2_orderTimes 6 = .ok (.iconst 4, 1) := by decide +kernel
theorem dX2_orderTimes_7 : decode cX2_orderTimes 7 = .ok (.invokestatic 41, 3) := by decide +kernel
theorem dX2_orderTimes_10 : decode cX2_orderTimes 10 = .ok (.aload_n 0, 1) := by decide +kernel
theorem dX2_orderTimes_11 : decode cX2_orderTimes 11 = .ok (.getfield 26, 3) := by decide +kernel
theorem dX2_orderTimes_14 : decode cX2_orderTimes 14 = .ok (.iload_n 1, 1) := by decide +kernel
theorem dX2_orderTimes_15 : decode cX2_orderTimes 15 = .ok (.laload, 1) := by decide +kernel
theorem dX2_orderTimes_16 : decode cX2_orderTimes 16 = .ok (.aload_n 0, 1) := by decide +kernel
theorem dX2_orderTimes_17 : decode cX2_orderTimes 17 = .ok (.getfield 26, 3) := by decide +kernel
theorem dX2_orderTimes_20 : decode cX2_orderTimes 20 = .ok (.iload_n 2, 1) := by decide +kernel
theorem dX2_orderTimes_21 : decode cX2_orderTimes 21 = .ok (.laload, 1) := by decide +kernel
theorem dX2_orderTimes_22 : decode cX2_orderTimes 22 = .ok (.invokestatic 148, 3) := by decide +kernel
theorem dX2_orderTimes_25 : decode cX2_orderTimes 25 = .ok (.ireturn, 1) := by decide +kernel
set_option maxRecDepth 20000 in
theorem ggX2_length_X2_checkSlot : GoodIn wsX2_length wsX2_checkSlot := goodIn_ca (goodIn_r _ [8, 9, 10] (by decide +kernel) (by decide +kernel)) (goodIn_sub (fun _ h => List.mem_cons_of_mem _ (List.mem_append_left _ (List.mem_append_left _ (List.mem_append_left _ (List.mem_append_right _ h))))) (by decide +kernel))
set_option maxRecDepth 20000 in
theorem gX2_length_X2_checkSlot : GoodIn wsX2_length (va_wsS RX2 41 yX2_checkSlot wsX2_checkSlot) := goodIn_app (goodIn_of _ (by decide +kernel)) ggX2_length_X2_checkSlot
set_option maxRecDepth 20000 in
theorem ggX2_length_X2_isIn : GoodIn wsX2_length wsX2_isIn := goodIn_r _ [13] (by decide +kernel) (by decide +kernel)
set_option maxRecDepth 20000 in
theorem gX2_length_X2_isIn : GoodIn wsX2_length (va_wsS RX2 55 yX2_isIn wsX2_isIn) := goodIn_app (goodIn_of _ (by decide +kernel)) ggX2_length_X2_isIn
set_option maxRecDepth 20000 in
theorem ggX2_length_X2_checkArgument : GoodIn wsX2_length wsX2_checkArgument := goodIn_ca (goodIn_r _ [16, 17, 18] (by decide +kernel) (by decide +kernel)) (goodIn_sub (fun _ h => List.mem_cons_of_mem _ (List.mem_append_left _ (List.mem_append_left _ (List.mem_append_right _ h)))) (by decide +kernel))
set_option maxRecDepth 20000 in
theorem gX2_length_X2_checkArgument : GoodIn wsX2_length (va_wsS RX2 49 yX2_checkArgument wsX2_checkArgument) := goodIn_app (goodIn_of _ (by decide +kernel)) ggX2_length_X2_checkArgument
set_option maxRecDepth 20000 in
theorem ggX2_length_X2_keepLength : GoodIn wsX2_length wsX2_keepLength := goodIn_ca (goodIn_ca (goodIn_r _ [22, 23, 1, 2, 24, 25, 26, 27, 28, 29, 30, 31, 32, 11, 12, 7, 13, 33, 34, 35, 36, 37, 38, 39, 40, 41, 42, 43, 44, 45, 46, 47] (by decide +kernel) (by decide +kernel)) (goodIn_sub (fun _ h => List.mem_cons_of_mem _ (List.mem_append_left _ (List.mem_append_right _ h))) (by decide +kernel))) (goodIn_sub (fun _ h => List.mem_cons_of_mem _ (List.mem_append_right _ h)) (by decide +kernel))
set_option maxRecDepth 20000 in
theorem gX2_length_X2_keepLength : GoodIn wsX2_length (wsV RX2 227 RX2 yX2_keepLength wsX2_keepLength) := goodIn_app (goodIn_of _ (by decide +kernel)) ggX2_length_X2_keepLength
theorem dX2_length_0 : decode cX2_length 0 = .ok (.iload_n 1, 1) := by decide +kernel
theorem dX2_length_1 : decode cX2_length 1 = .ok (.iconst 4, 1) := by decide +kernel
theorem dX2_length_2 : decode cX2_length 2 = .ok (.invokestatic 41, 3) := by decide +kernel
theorem dX2_length_5 : decode cX2_length 5 = .ok (.lload_n 2, 1) := by decide +kernel
theorem dX2_length_6 : decode cX2_length 6 = .ok (.ldc2_w 223, 3) := by decide +kernel
theorem dX2_length_9 : decode cX2_length 9 = .ok (.ldc2_w 225, 3) := by decide +kernel
theorem dX2_length_12 : decode cX2_length 12 = .ok (.invokestatic 55, 3) := by decide +kernel
theorem dX2_length_15 : decode cX2_length 15 = .ok (.invokestatic 49, 3) := by decide +kernel
theorem dX2_length_18 : decode cX2_length 18 = .ok (.lload 4, 2) := by decide +kernel
theorem dX2_length_20 : decode cX2_length 20 = .ok (.ldc2_w 209, 3) := by decide +kernel
theorem dX2_length_23 : decode cX2_length 23 = .ok (.ldc2_w 211, 3) := by decide +kernel
theorem dX2_length_26 : decode cX2_length 26 = .ok (.invokestatic 55, 3) := by decide +kernel
theorem dX2_length_29 : decode cX2_length 29 = .ok (.invokestatic 49, 3) := by decide +kernel
theorem dX2_length_32 : decode cX2_length 32 = .ok (.aload_n 0, 1) := by decide +kernel
theorem dX2_length_33 : decode cX2_length 33 = .ok (.iload_n 1, 1) := by decide +kernel
theorem dX2_length_34 : decode cX2_length 34 = .ok (.lload_n 2, 1) := by decide +kernel
theorem dX2_length_35 : decode cX2_length 35 = .ok (.lload 4, 2) := by decide +kernel
theorem dX2_length_37 : decode cX2_length 37 = .ok (.invokevirtual 227, 3) := by decide +kernel
theorem dX2_length_40 : decode cX2_length 40 = .ok (.lreturn, 1) := by decide +kernel
set_option maxRecDepth 20000 in
theorem ggX2_lengthPart_X2_checkSlot : GoodIn wsX2_lengthPart wsX2_checkSlot := goodIn_ca (goodIn_r _ [8, 9, 10] (by decide +kernel) (by decide +kernel)) (goodIn_sub (fun _ h => List.mem_cons_of_mem _ (List.mem_append_right _ h)) (by decide +kernel))
set_option maxRecDepth 20000 in
theorem gX2_lengthPart_X2_checkSlot : GoodIn wsX2_lengthPart (va_wsS RX2 41 yX2_checkSlot wsX2_checkSlot) := goodIn_app (goodIn_of _ (by decide +kernel)) ggX2_lengthPart_X2_checkSlot
theorem dX2_lengthPart_0 : decode cX2_lengthPart 0 = .ok (.iload_n 1, 1) := by decide +kernel
theorem dX2_lengthPart_1 : decode cX2_lengthPart 1 = .ok (.iconst 4, 1) := by decide +kernel
theorem dX2_lengthPart_2 : decode cX2_lengthPart 2 = .ok (.invokestatic 41, 3) := by decide +kernel
theorem dX2_lengthPart_5 : decode cX2_lengthPart 5 = .ok (.iload_n 2, 1) := by decide +kernel
theorem dX2_lengthPart_6 : decode cX2_lengthPart 6 = .ok (.lookupswitch 40 #[(110, 33), (115, 26)], 26) := by decide +kernel
theorem dX2_lengthPart_32 : decode cX2_lengthPart 32 = .ok (.aload_n 0, 1) := by decide +kernel
theorem dX2_lengthPart_33 : decode cX2_lengthPart 33 = .ok (.getfield 29, 3) := by decide +kernel
theorem dX2_lengthPart_36 : decode cX2_lengthPart 36 = .ok (.iload_n 1, 1) := by decide +kernel
theorem dX2_lengthPart_37 : decode cX2_lengthPart 37 = .ok (.laload, 1) := by decide +kernel
theorem dX2_lengthPart_38 : decode cX2_lengthPart 38 = .ok (.lreturn, 1) := by decide +kernel
theorem dX2_lengthPart_39 : decode cX2_lengthPart 39 = .ok (.aload_n 0, 1) := by decide +kernel
theorem dX2_lengthPart_40 : decode cX2_lengthPart 40 = .ok (.getfield 32, 3) := by decide +kernel
theorem dX2_lengthPart_43 : decode cX2_lengthPart 43 = .ok (.iload_n 1, 1) := by decide +kernel
theorem dX2_lengthPart_44 : decode cX2_lengthPart 44 = .ok (.laload, 1) := by decide +kernel
theorem dX2_lengthPart_45 : decode cX2_lengthPart 45 = .ok (.lreturn, 1) := by decide +kernel
theorem dX2_lengthPart_46 : decode cX2_lengthPart 46 = .ok (.new 101, 3) := by decide +kernel
theorem dX2_lengthPart_49 : decode cX2_lengthPart 49 = .ok (.dup, 1) := by decide +kernel
theorem dX2_lengthPart_50 : decode cX2_lengthPart 50 = .ok (.ldc 231, 2) := by decide +kernel
theorem dX2_lengthPart_52 : decode cX2_lengthPart 52 = .ok (.invokespecial 105, 3) := by decide +kernel
theorem dX2_lengthPart_55 : decode cX2_lengthPart 55 = .ok (.athrow, 1) := by decide +kernel
set_option maxRecDepth 20000 in
theorem ggX2_addLength_X2_checkSlot : GoodIn wsX2_addLength wsX2_checkSlot := goodIn_ca (goodIn_r _ [6, 7, 8] (by decide +kernel) (by decide +kernel)) (goodIn_sub (fun _ h => List.mem_cons_of_mem _ (List.mem_append_left _ (List.mem_append_right _ h))) (by decide +kernel))
set_option maxRecDepth 20000 in
theorem gX2_addLength_X2_checkSlot : GoodIn wsX2_addLength (va_wsS RX2 41 yX2_checkSlot wsX2_checkSlot) := goodIn_app (goodIn_of _ (by decide +kernel)) ggX2_addLength_X2_checkSlot
set_option maxRecDepth 20000 in
theorem ggX2_addLength_X2_keepLength : GoodIn wsX2_addLength wsX2_keepLength := goodIn_ca (goodIn_ca (goodIn_r _ [12, 13, 14, 15, 1, 2, 16, 17, 18, 19, 20, 21, 22, 23, 24, 5, 25, 26, 27, 28, 29, 30, 31, 32, 33, 34, 35, 36, 37, 38, 39, 40] (by decide +kernel) (by decide +kernel)) (goodIn_sub (fun _ h => List.mem_cons_of_mem _ (List.mem_append_left _ (List.mem_append_left _ (List.mem_append_right _ h)))) (by decide +kernel))) (goodIn_sub (fun _ h => List.mem_cons_of_mem _ (List.mem_append_right _ h)) (by decide +kernel))
set_option maxRecDepth 20000 in
theorem gX2_addLength_X2_keepLength : GoodIn wsX2_addLength (wsV RX2 227 RX2 yX2_keepLength wsX2_keepLength) := goodIn_app (goodIn_of _ (by decide +kernel)) ggX2_addLength_X2_keepLength
theorem dX2_addLength_0 : decode cX2_addLength 0 = .ok (.iload_n 1, 1) := by decide +kernel
theorem dX2_addLength_1 : decode cX2_addLength 1 = .ok (.iconst 4, 1) := by decide +kernel
theorem dX2_addLength_2 : decode cX2_addLength 2 = .ok (.invokestatic 41, 3) := by decide +kernel
theorem dX2_addLength_5 : decode cX2_addLength 5 = .ok (.iload_n 2, 1) := by decide +kernel
theorem dX2_addLength_6 : decode cX2_addLength 6 = .ok (.iconst 4, 1) := by decide +kernel
theorem dX2_addLength_7 : decode cX2_addLength 7 = .ok (.invokestatic 41, 3) := by decide +kernel
theorem dX2_addLength_10 : decode cX2_addLength 10 = .ok (.iload 4, 2) := by decide +kernel
theorem dX2_addLength_12 : decode cX2_addLength 12 = .ok (.iconst 4, 1) := by decide +kernel
theorem dX2_addLength_13 : decode cX2_addLength 13 = .ok (.invokestatic 41, 3) := by decide +kernel
theorem dX2_addLength_16 : decode cX2_addLength 16 = .ok (.iload_n 3, 1) := by decide +kernel
theorem dX2_addLength_17 : decode cX2_addLength 17 = .ok (.ifCond .eq 7, 3) := by decide +kernel
theorem dX2_addLength_20 : decode cX2_addLength 20 = .ok (.iconst (-1), 1) := by decide +kernel
theorem dX2_addLength_21 : decode cX2_addLength 21 = .ok (.goto 4, 3) := by decide +kernel
theorem dX2_addLength_24 : decode cX2_addLength 24 = .ok (.iconst 1, 1) := by decide +kernel
theorem dX2_addLength_25 : decode cX2_addLength 25 = .ok (.istore 5, 2) := by decide +kernel
theorem dX2_addLength_27 : decode cX2_addLength 27 = .ok (.aload_n 0, 1) := by decide +kernel
theorem dX2_addLength_28 : decode cX2_addLength 28 = .ok (.getfield 29, 3) := by decide +kernel
theorem dX2_addLength_31 : decode cX2_addLength 31 = .ok (.iload_n 1, 1) := by decide +kernel
theorem dX2_addLength_32 : decode cX2_addLength 32 = .ok (.laload, 1) := by decide +kernel
theorem dX2_addLength_33 : decode cX2_addLength 33 = .ok (.iload 5, 2) := by decide +kernel
theorem dX2_addLength_35 : decode cX2_addLength 35 = .ok (.i2l, 1) := by decide +kernel
theorem dX2_addLength_36 : decode cX2_addLength 36 = .ok (.aload_n 0, 1) := by decide +kernel
theorem dX2_addLength_37 : decode cX2_addLength 37 = .ok (.getfield 29, 3) := by decide +kernel
theorem dX2_addLength_40 : decode cX2_addLength 40 = .ok (.iload_n 2, 1) := by decide +kernel
theorem dX2_addLength_41 : decode cX2_addLength 41 = .ok (.laload, 1) := by decide +kernel
theorem dX2_addLength_42 : decode cX2_addLength 42 = .ok (.lmul, 1) := by decide +kernel
theorem dX2_addLength_43 : decode cX2_addLength 43 = .ok (.ladd, 1) := by decide +kernel
theorem dX2_addLength_44 : decode cX2_addLength 44 = .ok (.lstore 6, 2) := by decide +kernel
theorem dX2_addLength_46 : decode cX2_addLength 46 = .ok (.aload_n 0, 1) := by decide +kernel
theorem dX2_addLength_47 : decode cX2_addLength 47 = .ok (.iload 4, 2) := by decide +kernel
theorem dX2_addLength_49 : decode cX2_addLength 49 = .ok (.lload 6, 2) := by decide +kernel
theorem dX2_addLength_51 : decode cX2_addLength 51 = .ok (.aload_n 0, 1) := by decide +kernel
theorem dX2_addLength_52 : decode cX2_addLength 52 = .ok (.getfield 32, 3) := by decide +kernel
theorem dX2_addLength_55 : decode cX2_addLength 55 = .ok (.iload_n 1, 1) := by decide +kernel
theorem dX2_addLength_56 : decode cX2_addLength 56 = .ok (.laload, 1) := by decide +kernel
theorem dX2_addLength_57 : decode cX2_addLength 57 = .ok (.iload 5, 2) := by decide +kernel
theorem dX2_addLength_59 : decode cX2_addLength 59 = .ok (.i2l, 1) := by decide +kernel
theorem dX2_addLength_60 : decode cX2_addLength 60 = .ok (.aload_n 0, 1) := by decide +kernel
theorem dX2_addLength_61 : decode cX2_addLength 61 = .ok (.getfield 32, 3) := by decide +kernel
theorem dX2_addLength_64 : decode cX2_addLength 64 = .ok (.iload_n 2, 1) := by decide +kernel
theorem dX2_addLength_65 : decode cX2_addLength 65 = .ok (.laload, 1) := by decide +kernel
theorem dX2_addLength_66 : decode cX2_addLength 66 = .ok (.lmul, 1) := by decide +kernel
theorem dX2_addLength_67 : decode cX2_addLength 67 = .ok (.ladd, 1) := by decide +kernel
theorem dX2_addLength_68 : decode cX2_addLength 68 = .ok (.invokevirtual 227, 3) := by decide +kernel
theorem dX2_addLength_71 : decode cX2_addLength 71 = .ok (.lreturn, 1) := by decide +kernel
set_option maxRecDepth 20000 in
theorem ggX2_timesLength_X2_checkSlot : GoodIn wsX2_timesLength wsX2_checkSlot := goodIn_ca (goodIn_r _ [8, 9, 10] (by decide +kernel) (by decide +kernel)) (goodIn_sub (fun _ h => List.mem_cons_of_mem _ (List.mem_append_left _ (List.mem_append_left _ (List.mem_append_right _ h)))) (by decide +kernel))
set_option maxRecDepth 20000 in
theorem gX2_timesLength_X2_checkSlot : GoodIn wsX2_timesLength (va_wsS RX2 41 yX2_checkSlot wsX2_checkSlot) := goodIn_app (goodIn_of _ (by decide +kernel)) ggX2_timesLength_X2_checkSlot
set_option maxRecDepth 20000 in
theorem ggX2_timesLength_X2_isIn : GoodIn wsX2_timesLength wsX2_isIn := goodIn_r _ [13] (by decide +kernel) (by decide +kernel)
set_option maxRecDepth 20000 in
theorem gX2_timesLength_X2_isIn : GoodIn wsX2_timesLength (va_wsS RX2 55 yX2_isIn wsX2_isIn) := goodIn_app (goodIn_of _ (by decide +kernel)) ggX2_timesLength_X2_isIn
set_option maxRecDepth 20000 in
theorem ggX2_timesLength_X2_checkArgument : GoodIn wsX2_timesLength wsX2_checkArgument := goodIn_ca (goodIn_r _ [16, 17, 18] (by decide +kernel) (by decide +kernel)) (goodIn_sub (fun _ h => List.mem_cons_of_mem _ (List.mem_append_left _ (List.mem_append_right _ h))) (by decide +kernel))
set_option maxRecDepth 20000 in
theorem gX2_timesLength_X2_checkArgument : GoodIn wsX2_timesLength (va_wsS RX2 49 yX2_checkArgument wsX2_checkArgument) := goodIn_app (goodIn_of _ (by decide +kernel)) ggX2_timesLength_X2_checkArgument
set_option maxRecDepth 20000 in
theorem ggX2_timesLength_X2_keepLength : GoodIn wsX2_timesLength wsX2_keepLength := goodIn_ca (goodIn_ca (goodIn_r _ [22, 23, 24, 25, 3, 4, 26, 27, 28, 29, 30, 31, 32, 11, 12, 7, 13, 33, 34, 35, 36, 37, 38, 39, 40, 41, 42, 43, 44, 45, 46, 47] (by decide +kernel) (by decide +kernel)) (goodIn_sub (fun _ h => List.mem_cons_of_mem _ (List.mem_append_left _ (List.mem_append_left _ (List.mem_append_left _ (List.mem_append_right _ h))))) (by decide +kernel))) (goodIn_sub (fun _ h => List.mem_cons_of_mem _ (List.mem_append_right _ h)) (by decide +kernel))
set_option maxRecDepth 20000 in
theorem gX2_timesLength_X2_keepLength : GoodIn wsX2_timesLength (wsV RX2 227 RX2 yX2_keepLength wsX2_keepLength) := goodIn_app (goodIn_of _ (by decide +kernel)) ggX2_timesLength_X2_keepLength
theorem dX2_timesLength_0 : decode cX2_timesLength 0 = .ok (.iload_n 1, 1) := by decide +kernel
theorem dX2_timesLength_1 : decode cX2_timesLength 1 = .ok (.iconst 4, 1) := by decide +kernel
theorem dX2_timesLength_2 : decode cX2_timesLength 2 = .ok (.invokestatic 41, 3) := by decide +kernel
theorem dX2_timesLength_5 : decode cX2_timesLength 5 = .ok (.iload_n 3, 1) := by decide +kernel
theorem dX2_timesLength_6 : decode cX2_timesLength 6 = .ok (.iconst 4, 1) := by decide +kernel
theorem dX2_timesLength_7 : decode cX2_timesLength 7 = .ok (.invokestatic 41, 3) := by decide +kernel
theorem dX2_timesLength_10 : decode cX2_timesLength 10 = .ok (.iload_n 2, 1) := by decide +kernel
theorem dX2_timesLength_11 : decode cX2_timesLength 11 = .ok (.i2l, 1) := by decide +kernel
theorem dX2_timesLength_12 : decode cX2_timesLength 12 = .ok (.ldc2_w 233, 3) := by decide +kernel
theorem dX2_timesLength_15 : decode cX2_timesLength 15 = .ok (.ldc2_w 235, 3) := by decide +kernel
theorem dX2_timesLength_18 : decode cX2_timesLength 18 = .ok (.invokestatic 55, 3) := by decide +kernel
theorem dX2_timesLength_21 : decode cX2_timesLength 21 = .ok (.invokestatic 49, 3) := by decide +kernel
theorem dX2_timesLength_24 : decode cX2_timesLength 24 = .ok (.aload_n 0, 1) := by decide +kernel
theorem dX2_timesLength_25 : decode cX2_timesLength 25 = .ok (.iload_n 3, 1) := by decide +kernel
theorem dX2_timesLength_26 : decode cX2_timesLength 26 = .ok (.iload_n 2, 1) := by decide +kernel
theorem dX2_timesLength_27 : decode cX2_timesLength 27 = .ok (.i2l, 1) := by decide +kernel
theorem dX2_timesLength_28 : decode cX2_timesLength 28 = .ok (.aload_n 0, 1) := by decide +kernel
theorem dX2_timesLength_29 : decode cX2_timesLength 29 = .ok (.getfield 29, 3) := by decide +kernel
theorem dX2_timesLength_32 : decode cX2_timesLength 32 = .ok (.iload_n 1, 1) := by decide +kernel
theorem dX2_timesLength_33 : decode cX2_timesLength 33 = .ok (.laload, 1) := by decide +kernel
theorem dX2_timesLength_34 : decode cX2_timesLength 34 = .ok (.lmul, 1) := by decide +kernel
theorem dX2_timesLength_35 : decode cX2_timesLength 35 = .ok (.iload_n 2, 1) := by decide +kernel
theorem dX2_timesLength_36 : decode cX2_timesLength 36 = .ok (.i2l, 1) := by decide +kernel
theorem dX2_timesLength_37 : decode cX2_timesLength 37 = .ok (.aload_n 0, 1) := by decide +kernel
theorem dX2_timesLength_38 : decode cX2_timesLength 38 = .ok (.getfield 32, 3) := by decide +kernel
theorem dX2_timesLength_41 : decode cX2_timesLength 41 = .ok (.iload_n 1, 1) := by decide +kernel
theorem dX2_timesLength_42 : decode cX2_timesLength 42 = .ok (.laload, 1) := by decide +kernel
theorem dX2_timesLength_43 : decode cX2_timesLength 43 = .ok (.lmul, 1) := by decide +kernel
theorem dX2_timesLength_44 : decode cX2_timesLength 44 = .ok (.invokevirtual 227, 3) := by decide +kernel
theorem dX2_timesLength_47 : decode cX2_timesLength 47 = .ok (.lreturn, 1) := by decide +kernel
set_option maxRecDepth 20000 in
theorem ggX2_lengthOfTimes_X2_checkSlot : GoodIn wsX2_lengthOfTimes wsX2_checkSlot := goodIn_ca (goodIn_r _ [5, 6, 7] (by decide +kernel) (by decide +kernel)) (goodIn_sub (fun _ h => List.mem_cons_of_mem _ (List.mem_append_left _ (List.mem_append_right _ h))) (by decide +kernel))
set_option maxRecDepth 20000 in
theorem gX2_lengthOfTimes_X2_checkSlot : GoodIn wsX2_lengthOfTimes (va_wsS RX2 41 yX2_checkSlot wsX2_checkSlot) := goodIn_app (goodIn_of _ (by decide +kernel)) ggX2_lengthOfTimes_X2_checkSlot
set_option maxRecDepth 20000 in
theorem ggX2_lengthOfTimes_X2_keepLength : GoodIn wsX2_lengthOfTimes wsX2_keepLength := goodIn_ca (goodIn_ca (goodIn_r _ [11, 12, 13, 14, 15, 16, 17, 18, 19, 20, 21, 22, 23, 24, 25, 4, 26, 27, 28, 29, 30, 31, 32, 33, 34, 35, 36, 37, 38, 39, 40, 41] (by decide +kernel) (by decide +kernel)) (goodIn_sub (fun _ h => List.mem_cons_of_mem _ (List.mem_append_left _ (List.mem_append_left _ (List.mem_append_right _ h)))) (by decide +kernel))) (goodIn_sub (fun _ h => List.mem_cons_of_mem _ (List.mem_append_right _ h)) (by decide +kernel))
set_option maxRecDepth 20000 in
theorem gX2_lengthOfTimes_X2_keepLength : GoodIn wsX2_lengthOfTimes (wsV RX2 227 RX2 yX2_keepLength wsX2_keepLength) := goodIn_app (goodIn_of _ (by decide +kernel)) ggX2_lengthOfTimes_X2_keepLength
theorem dX2_lengthOfTimes_0 : decode cX2_lengthOfTimes 0 = .ok (.iload_n 1, 1) := by decide +kernel
theorem dX2_lengthOfTimes_1 : decode cX2_lengthOfTimes 1 = .ok (.iconst 4, 1) := by decide +kernel
theorem dX2_lengthOfTimes_2 : decode cX2_lengthOfTimes 2 = .ok (.invokestatic 41, 3) := by decide +kernel
theorem dX2_lengthOfTimes_5 : decode cX2_lengthOfTimes 5 = .ok (.iload_n 2, 1) := by decide +kernel
theorem dX2_lengthOfTimes_6 : decode cX2_lengthOfTimes 6 = .ok (.iconst 4, 1) := by decide +kernel
theorem dX2_lengthOfTimes_7 : decode cX2_lengthOfTimes 7 = .ok (.invokestatic 41, 3) := by decide +kernel
theorem dX2_lengthOfTimes_10 : decode cX2_lengthOfTimes 10 = .ok (.iload_n 3, 1) := by decide +kernel
theorem dX2_lengthOfTimes_11 : decode cX2_lengthOfTimes 11 = .ok (.iconst 4, 1) := by decide +kernel
theorem dX2_lengthOfTimes_12 : decode cX2_lengthOfTimes 12 = .ok (.invokestatic 41, 3) := by decide +kernel
theorem dX2_lengthOfTimes_15 : decode cX2_lengthOfTimes 15 = .ok (.aload_n 0, 1) := by decide +kernel
theorem dX2_lengthOfTimes_16 : decode cX2_lengthOfTimes 16 = .ok (.iload_n 3, 1) := by decide +kernel
theorem dX2_lengthOfTimes_17 : decode cX2_lengthOfTimes 17 = .ok (.lconst 0, 1) := by decide +kernel
theorem dX2_lengthOfTimes_18 : decode cX2_lengthOfTimes 18 = .ok (.aload_n 0, 1) := by decide +kernel
theorem dX2_lengthOfTimes_19 : decode cX2_lengthOfTimes 19 = .ok (.getfield 26, 3) := by decide +kernel
theorem dX2_lengthOfTimes_22 : decode cX2_lengthOfTimes 22 = .ok (.iload_n 2, 1) := by decide +kernel
theorem dX2_lengthOfTimes_23 : decode cX2_lengthOfTimes 23 = .ok (.laload, 1) := by decide +kernel
theorem dX2_lengthOfTimes_24 : decode cX2_lengthOfTimes 24 = .ok (.aload_n 0, 1) := by decide +kernel
theorem dX2_lengthOfTimes_25 : decode cX2_lengthOfTimes 25 = .ok (.getfield 26, 3) := by decide +kernel
theorem dX2_lengthOfTimes_28 : decode cX2_lengthOfTimes 28 = .ok (.iload_n 1, 1) := by decide +kernel
theorem dX2_lengthOfTimes_29 : decode cX2_lengthOfTimes 29 = .ok (.laload, 1) := by decide +kernel
theorem dX2_lengthOfTimes_30 : decode cX2_lengthOfTimes 30 = .ok (.lsub, 1) := by decide +kernel
theorem dX2_lengthOfTimes_31 : decode cX2_lengthOfTimes 31 = .ok (.invokevirtual 227, 3) := by decide +kernel
theorem dX2_lengthOfTimes_34 : decode cX2_lengthOfTimes 34 = .ok (.lreturn, 1) := by decide +kernel
set_option maxRecDepth 20000 in
theorem ggX2_orderLengths_X2_checkSlot : GoodIn wsX2_orderLengths wsX2_checkSlot := goodIn_ca (goodIn_r _ [6, 7, 8] (by decide +kernel) (by decide +kernel)) (goodIn_sub (fun _ h => List.mem_cons_of_mem _ (List.mem_append_right _ h)) (by decide +kernel))
set_option maxRecDepth 20000 in
theorem gX2_orderLengths_X2_checkSlot : GoodIn wsX2_orderLengths (va_wsS RX2 41 yX2_checkSlot wsX2_checkSlot) := goodIn_app (goodIn_of _ (by decide +kernel)) ggX2_orderLengths_X2_checkSlot
set_option maxRecDepth 20000 in
theorem ggX2_orderLengths_X2_sign : GoodIn wsX2_orderLengths wsX2_sign := goodIn_r _ [11] (by decide +kernel) (by decide +kernel)
set_option maxRecDepth 20000 in
theorem gX2_orderLengths_X2_sign : GoodIn wsX2_orderLengths (va_wsS RX2 148 yX2_sign wsX2_sign) := goodIn_app (goodIn_of _ (by decide +kernel)) ggX2_orderLengths_X2_sign
theorem dX2_orderLengths_0 : decode cX2_orderLengths 0 = .ok (.iload_n 1, 1) := by decide +kernel
theorem dX2_orderLengths_1 : decode cX2_orderLengths 1 = .ok (.iconst 4, 1) := by decide +kernel
theorem dX2_orderLengths_2 : decode cX2_orderLengths 2 = .ok (.invokestatic 41, 3) := by decide +kernel
theorem dX2_orderLengths_5 : decode cX2_orderLengths 5 = .ok (.iload_n 2, 1) := by decide +kernel
theorem dX2_orderLengths_6 : decode cX2_orderLengths 6 = .ok (.iconst 4, 1) := by decide +kernel
theorem dX2_orderLengths_7 : decode cX2_orderLengths 7 = .ok (.invokestatic 41, 3) := by decide +kernel
theorem dX2_orderLengths_10 : decode cX2_orderLengths 10 = .ok (.aload_n 0, 1) := by decide +kernel
theorem dX2_orderLengths_11 : decode cX2_orderLengths 11 = .ok (.getfield 29, 3) := by decide +kernel
theorem dX2_orderLengths_14 : decode cX2_orderLengths 14 = .ok (.iload_n 1, 1) := by decide +kernel
theorem dX2_orderLengths_15 : decode cX2_orderLengths 15 = .ok (.laload, 1) := by decide +kernel
theorem dX2_orderLengths_16 : decode cX2_orderLengths 16 = .ok (.aload_n 0, 1) := by decide +kernel
theorem dX2_orderLengths_17 : decode cX2_orderLengths 17 = .ok (.getfield 29, 3) := by decide +kernel
theorem dX2_orderLengths_20 : decode cX2_orderLengths 20 = .ok (.iload_n 2, 1) := by decide +kernel
theorem dX2_orderLengths_21 : decode cX2_orderLengths 21 = .ok (.laload, 1) := by decide +kernel
theorem dX2_orderLengths_22 : decode cX2_orderLengths 22 = .ok (.invokestatic 148, 3) := by decide +kernel
theorem dX2_orderLengths_25 : decode cX2_orderLengths 25 = .ok (.istore_n 3, 1) := by decide +kernel
theorem dX2_orderLengths_26 : decode cX2_orderLengths 26 = .ok (.iload_n 3, 1) := by decide +kernel
theorem dX2_orderLengths_27 : decode cX2_orderLengths 27 = .ok (.ifCond .eq 7, 3) := by decide +kernel
theorem dX2_orderLengths_30 : decode cX2_orderLengths 30 = .ok (.iload_n 3, 1) := by decide +kernel
theorem dX2_orderLengths_31 : decode cX2_orderLengths 31 = .ok (.goto 18, 3) := by decide +kernel
theorem dX2_orderLengths_34 : decode cX2_orderLengths 34 = .ok (.aload_n 0, 1) := by decide +kernel
theorem dX2_orderLengths_35 : decode cX2_orderLengths 35 = .ok (.getfield 32, 3) := by decide +kernel
theorem dX2_orderLengths_38 : decode cX2_orderLengths 38 = .ok (.iload_n 1, 1) := by decide +kernel
theorem dX2_orderLengths_39 : decode cX2_orderLengths 39 = .ok (.laload, 1) := by decide +kernel
theorem dX2_orderLengths_40 : decode cX2_orderLengths 40 = .ok (.aload_n 0, 1) := by decide +kernel
theorem dX2_orderLengths_41 : decode cX2_orderLengths 41 = .ok (.getfield 32, 3) := by decide +kernel
theorem dX2_orderLengths_44 : decode cX2_orderLengths 44 = .ok (.iload_n 2, 1) := by decide +kernel
theorem dX2_orderLengths_45 : decode cX2_orderLengths 45 = .ok (.laload, 1) := by decide +kernel
theorem dX2_orderLengths_46 : decode cX2_orderLengths 46 = .ok (.invokestatic 148, 3) := by decide +kernel
theorem dX2_orderLengths_49 : decode cX2_orderLengths 49 = .ok (.ireturn, 1) := by decide +kernel
set_option maxRecDepth 20000 in
theorem ggX2_moment_X2_checkSlot : GoodIn wsX2_moment wsX2_checkSlot := goodIn_ca (goodIn_r _ [6, 7, 8] (by decide +kernel) (by decide +kernel)) (goodIn_sub (fun _ h => List.mem_cons_of_mem _ (List.mem_append_left _ (List.mem_append_right _ h))) (by decide +kernel))
set_option maxRecDepth 20000 in
theorem gX2_moment_X2_checkSlot : GoodIn wsX2_moment (va_wsS RX2 41 yX2_checkSlot wsX2_checkSlot) := goodIn_app (goodIn_of _ (by decide +kernel)) ggX2_moment_X2_checkSlot
set_option maxRecDepth 20000 in
theorem ggX2_moment_X2_keepMoment : GoodIn wsX2_moment wsX2_keepMoment := goodIn_ca (goodIn_ca (goodIn_r _ [12, 13, 14, 15, 16, 17, 18, 19, 20, 21, 22, 23, 24, 25, 26, 27, 5, 28, 29, 30, 31, 32, 33, 34, 35, 36, 37, 38, 39, 40, 41, 42, 43, 44, 45, 46, 47, 48] (by decide +kernel) (by decide +kernel)) (goodIn_sub (fun _ h => List.mem_cons_of_mem _ (List.mem_append_left _ (List.mem_append_left _ (List.mem_append_right _ h)))) (by decide +kernel))) (goodIn_sub (fun _ h => List.mem_cons_of_mem _ (List.mem_append_right _ h)) (by decide +kernel))
set_option maxRecDepth 20000 in
theorem gX2_moment_X2_keepMoment : GoodIn wsX2_moment (wsV RX2 237 RX2 yX2_keepMoment wsX2_keepMoment) := goodIn_app (goodIn_of _ (by decide +kernel)) ggX2_moment_X2_keepMoment
theorem dX2_moment_0 : decode cX2_moment 0 = .ok (.iload_n 1, 1) := by decide +kernel
theorem dX2_moment_1 : decode cX2_moment 1 = .ok (.iconst 4, 1) := by decide +kernel
theorem dX2_moment_2 : decode cX2_moment 2 = .ok (.invokestatic 41, 3) := by decide +kernel
theorem dX2_moment_5 : decode cX2_moment 5 = .ok (.iload_n 2, 1) := by decide +kernel
theorem dX2_moment_6 : decode cX2_moment 6 = .ok (.bipush 6, 2) := by decide +kernel
theorem dX2_moment_8 : decode cX2_moment 8 = .ok (.invokestatic 41, 3) := by decide +kernel
theorem dX2_moment_11 : decode cX2_moment 11 = .ok (.iload_n 3, 1) := by decide +kernel
theorem dX2_moment_12 : decode cX2_moment 12 = .ok (.iconst 4, 1) := by decide +kernel
theorem dX2_moment_13 : decode cX2_moment 13 = .ok (.invokestatic 41, 3) := by decide +kernel
theorem dX2_moment_16 : decode cX2_moment 16 = .ok (.aload_n 0, 1) := by decide +kernel
theorem dX2_moment_17 : decode cX2_moment 17 = .ok (.iload_n 1, 1) := by decide +kernel
theorem dX2_moment_18 : decode cX2_moment 18 = .ok (.aload_n 0, 1) := by decide +kernel
theorem dX2_moment_19 : decode cX2_moment 19 = .ok (.getfield 9, 3) := by decide +kernel
theorem dX2_moment_22 : decode cX2_moment 22 = .ok (.iload_n 2, 1) := by decide +kernel
theorem dX2_moment_23 : decode cX2_moment 23 = .ok (.laload, 1) := by decide +kernel
theorem dX2_moment_24 : decode cX2_moment 24 = .ok (.aload_n 0, 1) := by decide +kernel
theorem dX2_moment_25 : decode cX2_moment 25 = .ok (.getfield 26, 3) := by decide +kernel
theorem dX2_moment_28 : decode cX2_moment 28 = .ok (.iload_n 3, 1) := by decide +kernel
theorem dX2_moment_29 : decode cX2_moment 29 = .ok (.laload, 1) := by decide +kernel
theorem dX2_moment_30 : decode cX2_moment 30 = .ok (.invokevirtual 237, 3) := by decide +kernel
theorem dX2_moment_33 : decode cX2_moment 33 = .ok (.lreturn, 1) := by decide +kernel
set_option maxRecDepth 20000 in
theorem ggX2_dateOf_X2_checkSlot : GoodIn wsX2_dateOf wsX2_checkSlot := goodIn_ca (goodIn_r _ [5, 6, 7] (by decide +kernel) (by decide +kernel)) (goodIn_sub (fun _ h => List.mem_cons_of_mem _ (List.mem_append_left _ (List.mem_append_right _ h))) (by decide +kernel))
set_option maxRecDepth 20000 in
theorem gX2_dateOf_X2_checkSlot : GoodIn wsX2_dateOf (va_wsS RX2 41 yX2_checkSlot wsX2_checkSlot) := goodIn_app (goodIn_of _ (by decide +kernel)) ggX2_dateOf_X2_checkSlot
set_option maxRecDepth 20000 in
theorem ggX2_dateOf_X2_keepDate : GoodIn wsX2_dateOf wsX2_keepDate := goodIn_ca (goodIn_ca (goodIn_r _ [11, 12, 13, 14, 15, 16, 17, 18, 19, 20, 4, 21, 22, 23, 24, 25, 26, 27, 28, 29, 30, 31, 32, 33] (by decide +kernel) (by decide +kernel)) (goodIn_sub (fun _ h => List.mem_cons_of_mem _ (List.mem_append_left _ (List.mem_append_left _ (List.mem_append_right _ h)))) (by decide +kernel))) (goodIn_sub (fun _ h => List.mem_cons_of_mem _ (List.mem_append_right _ h)) (by decide +kernel))
set_option maxRecDepth 20000 in
theorem gX2_dateOf_X2_keepDate : GoodIn wsX2_dateOf (wsV RX2 73 RX2 yX2_keepDate wsX2_keepDate) := goodIn_app (goodIn_of _ (by decide +kernel)) ggX2_dateOf_X2_keepDate
theorem dX2_dateOf_0 : decode cX2_dateOf 0 = .ok (.iload_n 1, 1) := by decide +kernel
theorem dX2_dateOf_1 : decode cX2_dateOf 1 = .ok (.iconst 4, 1) := by decide +kernel
theorem dX2_dateOf_2 : decode cX2_dateOf 2 = .ok (.invokestatic 41, 3) := by decide +kernel
theorem dX2_dateOf_5 : decode cX2_dateOf 5 = .ok (.iload_n 2, 1) := by decide +kernel
theorem dX2_dateOf_6 : decode cX2_dateOf 6 = .ok (.bipush 6, 2) := by decide +kernel
theorem dX2_dateOf_8 : decode cX2_dateOf 8 = .ok (.invokestatic 41, 3) := by decide +kernel
theorem dX2_dateOf_11 : decode cX2_dateOf 11 = .ok (.aload_n 0, 1) := by decide +kernel
theorem dX2_dateOf_12 : decode cX2_dateOf 12 = .ok (.iload_n 2, 1) := by decide +kernel
theorem dX2_dateOf_13 : decode cX2_dateOf 13 = .ok (.aload_n 0, 1) := by decide +kernel
theorem dX2_dateOf_14 : decode cX2_dateOf 14 = .ok (.getfield 35, 3) := by decide +kernel
theorem dX2_dateOf_17 : decode cX2_dateOf 17 = .ok (.iload_n 1, 1) := by decide +kernel
theorem dX2_dateOf_18 : decode cX2_dateOf 18 = .ok (.laload, 1) := by decide +kernel
theorem dX2_dateOf_19 : decode cX2_dateOf 19 = .ok (.invokevirtual 73, 3) := by decide +kernel
theorem dX2_dateOf_22 : decode cX2_dateOf 22 = .ok (.lreturn, 1) := by decide +kernel
set_option maxRecDepth 20000 in
theorem ggX2_timeOf_X2_checkSlot : GoodIn wsX2_timeOf wsX2_checkSlot := goodIn_ca (goodIn_r _ [6, 7, 8] (by decide +kernel) (by decide +kernel)) (goodIn_sub (fun _ h => List.mem_cons_of_mem _ (List.mem_append_right _ h)) (by decide +kernel))
set_option maxRecDepth 20000 in
theorem gX2_timeOf_X2_checkSlot : GoodIn wsX2_timeOf (va_wsS RX2 41 yX2_checkSlot wsX2_checkSlot) := goodIn_app (goodIn_of _ (by decide +kernel)) ggX2_timeOf_X2_checkSlot
theorem dX2_timeOf_0 : decode cX2_timeOf 0 = .ok (.iload_n 1, 1) := by decide +kernel
theorem dX2_timeOf_1 : decode cX2_timeOf 1 = .ok (.iconst 4, 1) := by decide +kernel
theorem dX2_timeOf_2 : decode cX2_timeOf 2 = .ok (.invokestatic 41, 3) := by decide +kernel
theorem dX2_timeOf_5 : decode cX2_timeOf 5 = .ok (.iload_n 2, 1) := by decide +kernel
theorem dX2_timeOf_6 : decode cX2_timeOf 6 = .ok (.iconst 4, 1) := by decide +kernel
theorem dX2_timeOf_7 : decode cX2_timeOf 7 = .ok (.invokestatic 41, 3) := by decide +kernel
theorem dX2_timeOf_10 : decode cX2_timeOf 10 = .ok (.aload_n 0, 1) := by decide +kernel
theorem dX2_timeOf_11 : decode cX2_timeOf 11 = .ok (.getfield 26, 3) := by decide +kernel
theorem dX2_timeOf_14 : decode cX2_timeOf 14 = .ok (.iload_n 2, 1) := by decide +kernel
theorem dX2_timeOf_15 : decode cX2_timeOf 15 = .ok (.aload_n 0, 1) := by decide +kernel
theorem dX2_timeOf_16 : decode cX2_timeOf 16 = .ok (.getfield 38, 3) := by decide +kernel
theorem dX2_timeOf_19 : decode cX2_timeOf 19 = .ok (.iload_n 1, 1) := by decide +kernel
theorem dX2_timeOf_20 : decode cX2_timeOf 20 = .ok (.laload, 1) := by decide +kernel
theorem dX2_timeOf_21 : decode cX2_timeOf 21 = .ok (.lastore, 1) := by decide +kernel
theorem dX2_timeOf_22 : decode cX2_timeOf 22 = .ok (.aload_n 0, 1) := by decide +kernel
theorem dX2_timeOf_23 : decode cX2_timeOf 23 = .ok (.getfield 26, 3) := by decide +kernel
theorem dX2_timeOf_26 : decode cX2_timeOf 26 = .ok (.iload_n 2, 1) := by decide +kernel
theorem dX2_timeOf_27 : decode cX2_timeOf 27 = .ok (.laload, 1) := by decide +kernel
theorem dX2_timeOf_28 : decode cX2_timeOf 28 = .ok (.lreturn, 1) := by decide +kernel
set_option maxRecDepth 20000 in
theorem ggX2_moveMoment_X2_checkSlot : GoodIn wsX2_moveMoment wsX2_checkSlot := goodIn_ca (goodIn_r _ [10, 11, 12] (by decide +kernel) (by decide +kernel)) (goodIn_sub (fun _ h => List.mem_cons_of_mem _ (List.mem_append_left _ (List.mem_append_left _ (List.mem_append_right _ h)))) (by decide +kernel))
set_option maxRecDepth 20000 in
theorem gX2_moveMoment_X2_checkSlot : GoodIn wsX2_moveMoment (va_wsS RX2 41 yX2_checkSlot wsX2_checkSlot) := goodIn_app (goodIn_of _ (by decide +kernel)) ggX2_moveMoment_X2_checkSlot
set_option maxRecDepth 20000 in
theorem ggX2_moveMoment_X1_isUnit : GoodIn wsX2_moveMoment wsX1_isUnit := goodIn_r _ [16] (by decide +kernel) (by decide +kernel)
set_option maxRecDepth 20000 in
theorem gX2_moveMoment_X1_isUnit : GoodIn wsX2_moveMoment (va_wsS RX2 108 yX1_isUnit wsX1_isUnit) := goodIn_app (goodIn_of _ (by decide +kernel)) ggX2_moveMoment_X1_isUnit
set_option maxRecDepth 20000 in
theorem ggX2_moveMoment_X2_isIn : GoodIn wsX2_moveMoment wsX2_isIn := goodIn_r _ [19] (by decide +kernel) (by decide +kernel)
set_option maxRecDepth 20000 in
theorem gX2_moveMoment_X2_isIn : GoodIn wsX2_moveMoment (va_wsS RX2 55 yX2_isIn wsX2_isIn) := goodIn_app (goodIn_of _ (by decide +kernel)) ggX2_moveMoment_X2_isIn
set_option maxRecDepth 20000 in
theorem ggX2_moveMoment_X2_checkArgument : GoodIn wsX2_moveMoment wsX2_checkArgument := goodIn_ca (goodIn_r _ [22, 23, 24] (by decide +kernel) (by decide +kernel)) (goodIn_sub (fun _ h => List.mem_cons_of_mem _ (List.mem_append_left _ (List.mem_append_right _ h))) (by decide +kernel))
set_option maxRecDepth 20000 in
theorem gX2_moveMoment_X2_checkArgument : GoodIn wsX2_moveMoment (va_wsS RX2 49 yX2_checkArgument wsX2_checkArgument) := goodIn_app (goodIn_of _ (by decide +kernel)) ggX2_moveMoment_X2_checkArgument
set_option maxRecDepth 20000 in
theorem ggX2_moveMoment_X1_moved : GoodIn wsX2_moveMoment wsX1_moved := goodIn_r _ [27, 28, 29, 30, 31, 15, 32, 33, 34, 35, 36, 37, 38, 39, 40, 41, 42, 43, 44, 45, 46, 47, 48, 49, 50, 51, 52, 53, 54, 55, 56, 57, 58, 59, 60, 61, 62, 63, 64, 65, 66, 67, 68, 69, 70, 71, 72, 73, 74, 75, 76, 77, 78, 79, 80, 81, 82, 83, 84, 85] (by decide +kernel) (by decide +kernel)
set_option maxRecDepth 20000 in
theorem gX2_moveMoment_X1_moved : GoodIn wsX2_moveMoment (va_wsS RX2 116 yX1_moved wsX1_moved) := goodIn_app (goodIn_of _ (by decide +kernel)) ggX2_moveMoment_X1_moved
set_option maxRecDepth 20000 in
theorem ggX2_moveMoment_X2_keepMoment : GoodIn wsX2_moveMoment wsX2_keepMoment := goodIn_ca (goodIn_ca (goodIn_r _ [89, 90, 3, 4, 91, 45, 46, 47, 92, 93, 15, 94, 95, 96, 97, 98, 9, 99, 100, 101, 102, 103, 104, 105, 106, 107, 74, 75, 121, 122, 123, 124, 125, 126, 127, 128, 129, 130] (by decide +kernel) (by decide +kernel)) (goodIn_sub (fun _ h => List.mem_cons_of_mem _ (List.mem_append_left _ (List.mem_append_left _ (List.mem_append_left _ (List.mem_append_right _ h))))) (by decide +kernel))) (goodIn_sub (fun _ h => List.mem_cons_of_mem _ (List.mem_append_right _ h)) (by decide +kernel))
set_option maxRecDepth 20000 in
theorem gX2_moveMoment_X2_keepMoment : GoodIn wsX2_moveMoment (wsV RX2 237 RX2 yX2_keepMoment wsX2_keepMoment) := goodIn_app (goodIn_of _ (by decide +kernel)) ggX2_moveMoment_X2_keepMoment
set_option maxRecDepth 20000 in
theorem ggX2_moveMoment_X0_countInDay : GoodIn wsX2_moveMoment wsX0_countInDay := goodIn_r _ [110, 111, 112, 113, 106] (by decide +kernel) (by decide +kernel)
set_option maxRecDepth 20000 in
theorem gX2_moveMoment_X0_countInDay : GoodIn wsX2_moveMoment (va_wsS RX2 205 yX0_countInDay wsX0_countInDay) := goodIn_app (goodIn_of _ (by decide +kernel)) ggX2_moveMoment_X0_countInDay
set_option maxRecDepth 20000 in
theorem ggX2_moveMoment_X0_daysOf : GoodIn wsX2_moveMoment wsX0_daysOf := goodIn_r _ [116, 117, 45, 46, 47] (by decide +kernel) (by decide +kernel)
set_option maxRecDepth 20000 in
theorem gX2_moveMoment_X0_daysOf : GoodIn wsX2_moveMoment (va_wsS RX2 240 yX0_daysOf wsX0_daysOf) := goodIn_app (goodIn_of _ (by decide +kernel)) ggX2_moveMoment_X0_daysOf
set_option maxRecDepth 20000 in
theorem ggX2_moveMoment_X0_restOfDay : GoodIn wsX2_moveMoment wsX0_restOfDay := goodIn_r _ [120, 106, 107, 74, 46, 75] (by decide +kernel) (by decide +kernel)
set_option maxRecDepth 20000 in
theorem gX2_moveMoment_X0_restOfDay : GoodIn wsX2_moveMoment (va_wsS RX2 213 yX0_restOfDay wsX0_restOfDay) := goodIn_app (goodIn_of _ (by decide +kernel)) ggX2_moveMoment_X0_restOfDay
theorem dX2_moveMoment_0 : decode cX2_moveMoment 0 = .ok (.iload_n 1, 1) := by decide +kernel
theorem dX2_moveMoment_1 : decode cX2_moveMoment 1 = .ok (.iconst 4, 1) := by decide +kernel
theorem dX2_moveMoment_2 : decode cX2_moveMoment 2 = .ok (.invokestatic 41, 3) := by decide +kernel
theorem dX2_moveMoment_5 : decode cX2_moveMoment 5 = .ok (.iload 5, 2) := by decide +kernel
theorem dX2_moveMoment_7 : decode cX2_moveMoment 7 = .ok (.iconst 4, 1) := by decide +kernel
theorem dX2_moveMoment_8 : decode cX2_moveMoment 8 = .ok (.invokestatic 41, 3) := by decide +kernel
theorem dX2_moveMoment_11 : decode cX2_moveMoment 11 = .ok (.iload_n 2, 1) := by decide +kernel
theorem dX2_moveMoment_12 : decode cX2_moveMoment 12 = .ok (.invokestatic 108, 3) := by decide +kernel
theorem dX2_moveMoment_15 : decode cX2_moveMoment 15 = .ok (.ifCond .eq 40, 3) := by decide +kernel
theorem dX2_moveMoment_18 : decode cX2_moveMoment 18 = .ok (.lload_n 3, 1) := by decide +kernel
theorem dX2_moveMoment_19 : decode cX2_moveMoment 19 = .ok (.ldc2_w 112, 3) := by decide +kernel
theorem dX2_moveMoment_22 : decode cX2_moveMoment 22 = .ok (.ldc2_w 114, 3) := by decide +kernel
theorem dX2_moveMoment_25 : decode cX2_moveMoment 25 = .ok (.invokestatic 55, 3) := by decide +kernel
theorem dX2_moveMoment_28 : decode cX2_moveMoment 28 = .ok (.invokestatic 49, 3) := by decide +kernel
theorem dX2_moveMoment_31 : decode cX2_moveMoment 31 = .ok (.aload_n 0, 1) := by decide +kernel
theorem dX2_moveMoment_32 : decode cX2_moveMoment 32 = .ok (.iload 5, 2) := by decide +kernel
theorem dX2_moveMoment_34 : decode cX2_moveMoment 34 = .ok (.aload_n 0, 1) := by decide +kernel
theorem dX2_moveMoment_35 : decode cX2_moveMoment 35 = .ok (.getfield 35, 3) := by decide +kernel
theorem dX2_moveMoment_38 : decode cX2_moveMoment 38 = .ok (.iload_n 1, 1) := by decide +kernel
theorem dX2_moveMoment_39 : decode cX2_moveMoment 39 = .ok (.laload, 1) := by decide +kernel
theorem dX2_moveMoment_40 : decode cX2_moveMoment 40 = .ok (.iload_n 2, 1) := by decide +kernel
theorem dX2_moveMoment_41 : decode cX2_moveMoment 41 = .ok (.lload_n 3, 1) := by decide +kernel
theorem dX2_moveMoment_42 : decode cX2_moveMoment 42 = .ok (.invokestatic 116, 3) := by decide +kernel
theorem dX2_moveMoment_45 : decode cX2_moveMoment 45 = .ok (.aload_n 0, 1) := by decide +kernel
theorem dX2_moveMoment_46 : decode cX2_moveMoment 46 = .ok (.getfield 38, 3) := by decide +kernel
theorem dX2_moveMoment_49 : decode cX2_moveMoment 49 = .ok (.iload_n 1, 1) := by decide +kernel
theorem dX2_moveMoment_50 : decode cX2_moveMoment 50 = .ok (.laload, 1) := by decide +kernel
theorem dX2_moveMoment_51 : decode cX2_moveMoment 51 = .ok (.invokevirtual 237, 3) := by decide +kernel
theorem dX2_moveMoment_54 : decode cX2_moveMoment 54 = .ok (.lreturn, 1) := by decide +kernel
theorem dX2_moveMoment_55 : decode cX2_moveMoment 55 = .ok (.iload_n 2, 1) := by decide +kernel
theorem dX2_moveMoment_56 : decode cX2_moveMoment 56 = .ok (.invokestatic 205, 3) := by decide +kernel
theorem dX2_moveMoment_59 : decode cX2_moveMoment 59 = .ok (.lstore 6, 2) := by decide +kernel
theorem dX2_moveMoment_61 : decode cX2_moveMoment 61 = .ok (.lload 6, 2) := by decide +kernel
theorem dX2_moveMoment_63 : decode cX2_moveMoment 63 = .ok (.lconst 0, 1) := by decide +kernel
theorem dX2_moveMoment_64 : decode cX2_moveMoment 64 = .ok (.lcmp, 1) := by decide +kernel
theorem dX2_moveMoment_65 : decode cX2_moveMoment 65 = .ok (.ifCond .le 7, 3) := by decide +kernel
theorem dX2_moveMoment_68 : decode cX2_moveMoment 68 = .ok (.iconst 1, 1) := by decide +kernel
theorem dX2_moveMoment_69 : decode cX2_moveMoment 69 = .ok (.goto 4, 3) := by decide +kernel
theorem dX2_moveMoment_72 : decode cX2_moveMoment 72 = .ok (.iconst 0, 1) := by decide +kernel
theorem dX2_moveMoment_73 : decode cX2_moveMoment 73 = .ok (.invokestatic 49, 3) := by decide +kernel
theorem dX2_moveMoment_76 : decode cX2_moveMoment 76 = .ok (.lload_n 3, 1) := by decide +kernel
theorem dX2_moveMoment_77 : decode cX2_moveMoment 77 = .ok (.ldc2_w 209, 3) := by decide +kernel
theorem dX2_moveMoment_80 : decode cX2_moveMoment 80 = .ok (.ldc2_w 211, 3) := by decide +kernel
theorem dX2_moveMoment_83 : decode cX2_moveMoment 83 = .ok (.invokestatic 55, 3) := by decide +kernel
theorem dX2_moveMoment_86 : decode cX2_moveMoment 86 = .ok (.invokestatic 49, 3) := by decide +kernel
theorem dX2_moveMoment_89 : decode cX2_moveMoment 89 = .ok (.aload_n 0, 1) := by decide +kernel
theorem dX2_moveMoment_90 : decode cX2_moveMoment 90 = .ok (.getfield 35, 3) := by decide +kernel
theorem dX2_moveMoment_93 : decode cX2_moveMoment 93 = .ok (.iload_n 1, 1) := by decide +kernel
theorem dX2_moveMoment_94 : decode cX2_moveMoment 94 = .ok (.laload, 1) := by decide +kernel
theorem dX2_moveMoment_95 : decode cX2_moveMoment 95 = .ok (.lload_n 3, 1) := by decide +kernel
theorem dX2_moveMoment_96 : decode cX2_moveMoment 96 = .ok (.lload 6, 2) := by decide +kernel
theorem dX2_moveMoment_98 : decode cX2_moveMoment 98 = .ok (.invokestatic 240, 3) := by decide +kernel
theorem dX2_moveMoment_101 : decode cX2_moveMoment 101 = .ok (.ladd, 1) := by decide +kernel
theorem dX2_moveMoment_102 : decode cX2_moveMoment 102 = .ok (.lstore 8, 2) := by decide +kernel
theorem dX2_moveMoment_104 : decode cX2_moveMoment 104 = .ok (.aload_n 0, 1) := by decide +kernel
theorem dX2_moveMoment_105 : decode cX2_moveMoment 105 = .ok (.iload 5, 2) := by decide +kernel
theorem dX2_moveMoment_107 : decode cX2_moveMoment 107 = .ok (.lload 8, 2) := by decide +kernel
theorem dX2_moveMoment_109 : decode cX2_moveMoment 109 = .ok (.aload_n 0, 1) := by decide +kernel
theorem dX2_moveMoment_110 : decode cX2_moveMoment 110 = .ok (.getfield 38, 3) := by decide +kernel
theorem dX2_moveMoment_113 : decode cX2_moveMoment 113 = .ok (.iload_n 1, 1) := by decide +kernel
theorem dX2_moveMoment_114 : decode cX2_moveMoment 114 = .ok (.laload, 1) := by decide +kernel
theorem dX2_moveMoment_115 : decode cX2_moveMoment 115 = .ok (.lload_n 3, 1) := by decide +kernel
theorem dX2_moveMoment_116 : decode cX2_moveMoment 116 = .ok (.lload 6, 2) := by decide +kernel
theorem dX2_moveMoment_118 : decode cX2_moveMoment 118 = .ok (.invokestatic 213, 3) := by decide +kernel
theorem dX2_moveMoment_121 : decode cX2_moveMoment 121 = .ok (.ladd, 1) := by decide +kernel
theorem dX2_moveMoment_122 : decode cX2_moveMoment 122 = .ok (.invokevirtual 237, 3) := by decide +kernel
theorem dX2_moveMoment_125 : decode cX2_moveMoment 125 = .ok (.lreturn, 1) := by decide +kernel
set_option maxRecDepth 20000 in
theorem ggX2_goMoment_X2_checkSlot : GoodIn wsX2_goMoment wsX2_checkSlot := goodIn_ca (goodIn_r _ [9, 10, 11] (by decide +kernel) (by decide +kernel)) (goodIn_sub (fun _ h => List.mem_cons_of_mem _ (List.mem_append_left _ (List.mem_append_right _ h))) (by decide +kernel))
set_option maxRecDepth 20000 in
theorem gX2_goMoment_X2_checkSlot : GoodIn wsX2_goMoment (va_wsS RX2 41 yX2_checkSlot wsX2_checkSlot) := goodIn_app (goodIn_of _ (by decide +kernel)) ggX2_goMoment_X2_checkSlot
set_option maxRecDepth 20000 in
theorem ggX2_goMoment_X0_daysOf : GoodIn wsX2_goMoment wsX0_daysOf := goodIn_r _ [15, 16, 17, 18, 19] (by decide +kernel) (by decide +kernel)
set_option maxRecDepth 20000 in
theorem gX2_goMoment_X0_daysOf : GoodIn wsX2_goMoment (va_wsS RX2 240 yX0_daysOf wsX0_daysOf) := goodIn_app (goodIn_of _ (by decide +kernel)) ggX2_goMoment_X0_daysOf
set_option maxRecDepth 20000 in
theorem ggX2_goMoment_X0_restOfDay : GoodIn wsX2_goMoment wsX0_restOfDay := goodIn_r _ [22, 23, 24, 25, 18, 26] (by decide +kernel) (by decide +kernel)
set_option maxRecDepth 20000 in
theorem gX2_goMoment_X0_restOfDay : GoodIn wsX2_goMoment (va_wsS RX2 213 yX0_restOfDay wsX0_restOfDay) := goodIn_app (goodIn_of _ (by decide +kernel)) ggX2_goMoment_X0_restOfDay
set_option maxRecDepth 20000 in
theorem ggX2_goMoment_X2_keepMoment : GoodIn wsX2_goMoment wsX2_keepMoment := goodIn_ca (goodIn_ca (goodIn_r _ [30, 31, 1, 5, 32, 17, 18, 19, 33, 34, 35, 36, 37, 38, 39, 40, 8, 41, 42, 43, 44, 45, 14, 46, 23, 24, 25, 26, 47, 48, 49, 50, 51, 52, 53, 54, 55, 56] (by decide +kernel) (by decide +kernel)) (goodIn_sub (fun _ h => List.mem_cons_of_mem _ (List.mem_append_left _ (List.mem_append_left _ (List.mem_append_right _ h)))) (by decide +kernel))) (goodIn_sub (fun _ h => List.mem_cons_of_mem _ (List.mem_append_right _ h)) (by decide +kernel))
set_option maxRecDepth 20000 in
theorem gX2_goMoment_X2_keepMoment : GoodIn wsX2_goMoment (wsV RX2 237 RX2 yX2_keepMoment wsX2_keepMoment) := goodIn_app (goodIn_of _ (by decide +kernel)) ggX2_goMoment_X2_keepMoment
theorem dX2_goMoment_0 : decode cX2_goMoment 0 = .ok (.iload_n 1, 1) := by decide +kernel
theorem dX2_goMoment_1 : decode cX2_goMoment 1 = .ok (.iconst 4, 1) := by decide +kernel
theorem dX2_goMoment_2 : decode cX2_goMoment 2 = .ok (.invokestatic 41, 3) := by decide +kernel
theorem dX2_goMoment_5 : decode cX2_goMoment 5 = .ok (.iload_n 2, 1) := by decide +kernel
theorem dX2_goMoment_6 : decode cX2_goMoment 6 = .ok (.iconst 4, 1) := by decide +kernel
theorem dX2_goMoment_7 : decode cX2_goMoment 7 = .ok (.invokestatic 41, 3) := by decide +kernel
theorem dX2_goMoment_10 : decode cX2_goMoment 10 = .ok (.iload 4, 2) := by decide +kernel
theorem dX2_goMoment_12 : decode cX2_goMoment 12 = .ok (.iconst 4, 1) := by decide +kernel
theorem dX2_goMoment_13 : decode cX2_goMoment 13 = .ok (.invokestatic 41, 3) := by decide +kernel
theorem dX2_goMoment_16 : decode cX2_goMoment 16 = .ok (.iload_n 3, 1) := by decide +kernel
theorem dX2_goMoment_17 : decode cX2_goMoment 17 = .ok (.ifCond .eq 7, 3) := by decide +kernel
theorem dX2_goMoment_20 : decode cX2_goMoment 20 = .ok (.iconst (-1), 1) := by decide +kernel
theorem dX2_goMoment_21 : decode cX2_goMoment 21 = .ok (.goto 4, 3) := by decide +kernel
theorem dX2_goMoment_24 : decode cX2_goMoment 24 = .ok (.iconst 1, 1) := by decide +kernel
theorem dX2_goMoment_25 : decode cX2_goMoment 25 = .ok (.istore 5, 2) := by decide +kernel
theorem dX2_goMoment_27 : decode cX2_goMoment 27 = .ok (.aload_n 0, 1) := by decide +kernel
theorem dX2_goMoment_28 : decode cX2_goMoment 28 = .ok (.getfield 35, 3) := by decide +kernel
theorem dX2_goMoment_31 : decode cX2_goMoment 31 = .ok (.iload_n 1, 1) := by decide +kernel
theorem dX2_goMoment_32 : decode cX2_goMoment 32 = .ok (.laload, 1) := by decide +kernel
theorem dX2_goMoment_33 : decode cX2_goMoment 33 = .ok (.iload 5, 2) := by decide +kernel
theorem dX2_goMoment_35 : decode cX2_goMoment 35 = .ok (.i2l, 1) := by decide +kernel
theorem dX2_goMoment_36 : decode cX2_goMoment 36 = .ok (.aload_n 0, 1) := by decide +kernel
theorem dX2_goMoment_37 : decode cX2_goMoment 37 = .ok (.getfield 29, 3) := by decide +kernel
theorem dX2_goMoment_40 : decode cX2_goMoment 40 = .ok (.iload_n 2, 1) := by decide +kernel
theorem dX2_goMoment_41 : decode cX2_goMoment 41 = .ok (.laload, 1) := by decide +kernel
theorem dX2_goMoment_42 : decode cX2_goMoment 42 = .ok (.ldc2_w 221, 3) := by decide +kernel
theorem dX2_goMoment_45 : decode cX2_goMoment 45 = .ok (.invokestatic 240, 3) := by decide +kernel
theorem dX2_goMoment_48 : decode cX2_goMoment 48 = .ok (.lmul, 1) := by decide +kernel
theorem dX2_goMoment_49 : decode cX2_goMoment 49 = .ok (.ladd, 1) := by decide +kernel
theorem dX2_goMoment_50 : decode cX2_goMoment 50 = .ok (.lstore 6, 2) := by decide +kernel
theorem dX2_goMoment_52 : decode cX2_goMoment 52 = .ok (.aload_n 0, 1) := by decide +kernel
theorem dX2_goMoment_53 : decode cX2_goMoment 53 = .ok (.getfield 29, 3) := by decide +kernel
theorem dX2_goMoment_56 : decode cX2_goMoment 56 = .ok (.iload_n 2, 1) := by decide +kernel
theorem dX2_goMoment_57 : decode cX2_goMoment 57 = .ok (.laload, 1) := by decide +kernel
theorem dX2_goMoment_58 : decode cX2_goMoment 58 = .ok (.ldc2_w 221, 3) := by decide +kernel
theorem dX2_goMoment_61 : decode cX2_goMoment 61 = .ok (.invokestatic 213, 3) := by decide +kernel
theorem dX2_goMoment_64 : decode cX2_goMoment 64 = .ok (.aload_n 0, 1) := by decide +kernel
theorem dX2_goMoment_65 : decode cX2_goMoment 65 = .ok (.getfield 32, 3) := by decide +kernel
theorem dX2_goMoment_68 : decode cX2_goMoment 68 = .ok (.iload_n 2, 1) := by decide +kernel
theorem dX2_goMoment_69 : decode cX2_goMoment 69 = .ok (.laload, 1) := by decide +kernel
theorem dX2_goMoment_70 : decode cX2_goMoment 70 = .ok (.ladd, 1) := by decide +kernel
theorem dX2_goMoment_71 : decode cX2_goMoment 71 = .ok (.lstore 8, 2) := by decide +kernel
theorem dX2_goMoment_73 : decode cX2_goMoment 73 = .ok (.aload_n 0, 1) := by decide +kernel
theorem dX2_goMoment_74 : decode cX2_goMoment 74 = .ok (.iload 4, 2) := by decide +kernel
theorem dX2_goMoment_76 : decode cX2_goMoment 76 = .ok (.lload 6, 2) := by decide +kernel
theorem dX2_goMoment_78 : decode cX2_goMoment 78 = .ok (.aload_n 0, 1) := by decide +kernel
theorem dX2_goMoment_79 : decode cX2_goMoment 79 = .ok (.getfield 38, 3) := by decide +kernel
theorem dX2_goMoment_82 : decode cX2_goMoment 82 = .ok (.iload_n 1, 1) := by decide +kernel
theorem dX2_goMoment_83 : decode cX2_goMoment 83 = .ok (.laload, 1) := by decide +kernel
theorem dX2_goMoment_84 : decode cX2_goMoment 84 = .ok (.iload 5, 2) := by decide +kernel
theorem dX2_goMoment_86 : decode cX2_goMoment 86 = .ok (.i2l, 1) := by decide +kernel
theorem dX2_goMoment_87 : decode cX2_goMoment 87 = .ok (.lload 8, 2) := by decide +kernel
theorem dX2_goMoment_89 : decode cX2_goMoment 89 = .ok (.lmul, 1) := by decide +kernel
theorem dX2_goMoment_90 : decode cX2_goMoment 90 = .ok (.ladd, 1) := by decide +kernel
theorem dX2_goMoment_91 : decode cX2_goMoment 91 = .ok (.invokevirtual 237, 3) := by decide +kernel
theorem dX2_goMoment_94 : decode cX2_goMoment 94 = .ok (.lreturn, 1) := by decide +kernel
set_option maxRecDepth 20000 in
theorem ggX2_lengthOfMoments_X2_checkSlot : GoodIn wsX2_lengthOfMoments wsX2_checkSlot := goodIn_ca (goodIn_r _ [7, 8, 9] (by decide +kernel) (by decide +kernel)) (goodIn_sub (fun _ h => List.mem_cons_of_mem _ (List.mem_append_left _ (List.mem_append_right _ h))) (by decide +kernel))
set_option maxRecDepth 20000 in
theorem gX2_lengthOfMoments_X2_checkSlot : GoodIn wsX2_lengthOfMoments (va_wsS RX2 41 yX2_checkSlot wsX2_checkSlot) := goodIn_app (goodIn_of _ (by decide +kernel)) ggX2_lengthOfMoments_X2_checkSlot
set_option maxRecDepth 20000 in
theorem ggX2_lengthOfMoments_X2_keepLength : GoodIn wsX2_lengthOfMoments wsX2_keepLength := goodIn_ca (goodIn_ca (goodIn_r _ [13, 14, 15, 16, 17, 18, 19, 20, 21, 22, 23, 24, 25, 26, 27, 6, 28, 29, 30, 31, 32, 33, 34, 35, 36, 37, 38, 39, 40, 41, 42, 43] (by decide +kernel) (by decide +kernel)) (goodIn_sub (fun _ h => List.mem_cons_of_mem _ (List.mem_append_left _ (List.mem_append_left _ (List.mem_append_right _ h)))) (by decide +kernel))) (goodIn_sub (fun _ h => List.mem_cons_of_mem _ (List.mem_append_right _ h)) (by decide +kernel))
set_option maxRecDepth 20000 in
theorem gX2_lengthOfMoments_X2_keepLength : GoodIn wsX2_lengthOfMoments (wsV RX2 227 RX2 yX2_keepLength wsX2_keepLength) := goodIn_app (goodIn_of _ (by decide +kernel)) ggX2_lengthOfMoments_X2_keepLength
theorem dX2_lengthOfMoments_0 : decode cX2_lengthOfMoments 0 = .ok (.iload_n 1, 1) := by decide +kernel
theorem dX2_lengthOfMoments_1 : decode cX2_lengthOfMoments 1 = .ok (.iconst 4, 1) := by decide +kernel
theorem dX2_lengthOfMoments_2 : decode cX2_lengthOfMoments 2 = .ok (.invokestatic 41, 3) := by decide +kernel
theorem dX2_lengthOfMoments_5 : decode cX2_lengthOfMoments 5 = .ok (.iload_n 2, 1) := by decide +kernel
theorem dX2_lengthOfMoments_6 : decode cX2_lengthOfMoments 6 = .ok (.iconst 4, 1) := by decide +kernel
theorem dX2_lengthOfMoments_7 : decode cX2_lengthOfMoments 7 = .ok (.invokestatic 41, 3) := by decide +kernel
theorem dX2_lengthOfMoments_10 : decode cX2_lengthOfMoments 10 = .ok (.iload_n 3, 1) := by decide +kernel
theorem dX2_lengthOfMoments_11 : decode cX2_lengthOfMoments 11 = .ok (.iconst 4, 1) := by decide +kernel
theorem dX2_lengthOfMoments_12 : decode cX2_lengthOfMoments 12 = .ok (.invokestatic 41, 3) := by decide +kernel
theorem dX2_lengthOfMoments_15 : decode cX2_lengthOfMoments 15 = .ok (.aload_n 0, 1) := by decide +kernel
theorem dX2_lengthOfMoments_16 : decode cX2_lengthOfMoments 16 = .ok (.getfield 35, 3) := by decide +kernel
theorem dX2_lengthOfMoments_19 : decode cX2_lengthOfMoments 19 = .ok (.iload_n 2, 1) := by decide +kernel
theorem dX2_lengthOfMoments_20 : decode cX2_lengthOfMoments 20 = .ok (.laload, 1) := by decide +kernel
theorem dX2_lengthOfMoments_21 : decode cX2_lengthOfMoments 21 = .ok (.aload_n 0, 1) := by decide +kernel
theorem dX2_lengthOfMoments_22 : decode cX2_lengthOfMoments 22 = .ok (.getfield 35, 3) := by decide +kernel
theorem dX2_lengthOfMoments_25 : decode cX2_lengthOfMoments 25 = .ok (.iload_n 1, 1) := by decide +kernel
theorem dX2_lengthOfMoments_26 : decode cX2_lengthOfMoments 26 = .ok (.laload, 1) := by decide +kernel
theorem dX2_lengthOfMoments_27 : decode cX2_lengthOfMoments 27 = .ok (.lsub, 1) := by decide +kernel
theorem dX2_lengthOfMoments_28 : decode cX2_lengthOfMoments 28 = .ok (.lstore 4, 2) := by decide +kernel
theorem dX2_lengthOfMoments_30 : decode cX2_lengthOfMoments 30 = .ok (.aload_n 0, 1) := by decide +kernel
theorem dX2_lengthOfMoments_31 : decode cX2_lengthOfMoments 31 = .ok (.iload_n 3, 1) := by decide +kernel
theorem dX2_lengthOfMoments_32 : decode cX2_lengthOfMoments 32 = .ok (.lload 4, 2) := by decide +kernel
theorem dX2_lengthOfMoments_34 : decode cX2_lengthOfMoments 34 = .ok (.ldc2_w 221, 3) := by decide +kernel
theorem dX2_lengthOfMoments_37 : decode cX2_lengthOfMoments 37 = .ok (.lmul, 1) := by decide +kernel
theorem dX2_lengthOfMoments_38 : decode cX2_lengthOfMoments 38 = .ok (.aload_n 0, 1) := by decide +kernel
theorem dX2_lengthOfMoments_39 : decode cX2_lengthOfMoments 39 = .ok (.getfield 38, 3) := by decide +kernel
theorem dX2_lengthOfMoments_42 : decode cX2_lengthOfMoments 42 = .ok (.iload_n 2, 1) := by decide +kernel
theorem dX2_lengthOfMoments_43 : decode cX2_lengthOfMoments 43 = .ok (.laload, 1) := by decide +kernel
theorem dX2_lengthOfMoments_44 : decode cX2_lengthOfMoments 44 = .ok (.aload_n 0, 1) := by decide +kernel
theorem dX2_lengthOfMoments_45 : decode cX2_lengthOfMoments 45 = .ok (.getfield 38, 3) := by decide +kernel
theorem dX2_lengthOfMoments_48 : decode cX2_lengthOfMoments 48 = .ok (.iload_n 1, 1) := by decide +kernel
theorem dX2_lengthOfMoments_49 : decode cX2_lengthOfMoments 49 = .ok (.laload, 1) := by decide +kernel
theorem dX2_lengthOfMoments_50 : decode cX2_lengthOfMoments 50 = .ok (.lsub, 1) := by decide +kernel
theorem dX2_lengthOfMoments_51 : decode cX2_lengthOfMoments 51 = .ok (.invokevirtual 227, 3) := by decide +kernel
theorem dX2_lengthOfMoments_54 : decode cX2_lengthOfMoments 54 = .ok (.lreturn, 1) := by decide +kernel
set_option maxRecDepth 20000 in
theorem ggX2_whole_X2_checkSlot : GoodIn wsX2_whole wsX2_checkSlot := goodIn_ca (goodIn_r _ [10, 11, 12] (by decide +kernel) (by decide +kernel)) (goodIn_sub (fun _ h => List.mem_cons_of_mem _ (List.mem_append_right _ h)) (by decide +kernel))
set_option maxRecDepth 20000 in
theorem gX2_whole_X2_checkSlot : GoodIn wsX2_whole (va_wsS RX2 41 yX2_checkSlot wsX2_checkSlot) := goodIn_app (goodIn_of _ (by decide +kernel)) ggX2_whole_X2_checkSlot
set_option maxRecDepth 20000 in
theorem ggX2_whole_X0_cut : GoodIn wsX2_whole wsX0_cut := goodIn_r _ [16] (by decide +kernel) (by decide +kernel)
set_option maxRecDepth 20000 in
theorem gX2_whole_X0_cut : GoodIn wsX2_whole (va_wsS RX2 243 yX0_cut wsX0_cut) := goodIn_app (goodIn_of _ (by decide +kernel)) ggX2_whole_X0_cut
set_option maxRecDepth 20000 in
theorem ggX2_whole_X0_wholeSeconds : GoodIn wsX2_whole wsX0_wholeSeconds := goodIn_r _ [19, 20, 21, 22, 14, 15, 16] (by decide +kernel) (by decide +kernel)
set_option maxRecDepth 20000 in
theorem gX2_whole_X0_wholeSeconds : GoodIn wsX2_whole (va_wsS RX2 246 yX0_wholeSeconds wsX0_wholeSeconds) := goodIn_app (goodIn_of _ (by decide +kernel)) ggX2_whole_X0_wholeSeconds
theorem dX2_whole_0 : decode cX2_whole 0 = .ok (.iload_n 1, 1) := by decide +kernel
theorem dX2_whole_1 : decode cX2_whole 1 = .ok (.iconst 4, 1) := by decide +kernel
theorem dX2_whole_2 : decode cX2_whole 2 = .ok (.invokestatic 41, 3) := by decide +kernel
theorem dX2_whole_5 : decode cX2_whole 5 = .ok (.iload_n 2, 1) := by decide +kernel
theorem dX2_whole_6 : decode cX2_whole 6 = .ok (.iconst 4, 1) := by decide +kernel
theorem dX2_whole_7 : decode cX2_whole 7 = .ok (.invokestatic 41, 3) := by decide +kernel
theorem dX2_whole_10 : decode cX2_whole 10 = .ok (.aload_n 0, 1) := by decide +kernel
theorem dX2_whole_11 : decode cX2_whole 11 = .ok (.getfield 35, 3) := by decide +kernel
theorem dX2_whole_14 : decode cX2_whole 14 = .ok (.iload_n 2, 1) := by decide +kernel
theorem dX2_whole_15 : decode cX2_whole 15 = .ok (.laload, 1) := by decide +kernel
theorem dX2_whole_16 : decode cX2_whole 16 = .ok (.aload_n 0, 1) := by decide +kernel
theorem dX2_whole_17 : decode cX2_whole 17 = .ok (.getfield 35, 3) := by decide +kernel
theorem dX2_whole_20 : decode cX2_whole 20 = .ok (.iload_n 1, 1) := by decide +kernel
theorem dX2_whole_21 : decode cX2_whole 21 = .ok (.laload, 1) := by decide +kernel
theorem dX2_whole_22 : decode cX2_whole 22 = .ok (.lsub, 1) := by decide +kernel
theorem dX2_whole_23 : decode cX2_whole 23 = .ok (.lstore 4, 2) := by decide +kernel
theorem dX2_whole_25 : decode cX2_whole 25 = .ok (.aload_n 0, 1) := by decide +kernel
theorem dX2_whole_26 : decode cX2_whole 26 = .ok (.getfield 38, 3) := by decide +kernel
theorem dX2_whole_29 : decode cX2_whole 29 = .ok (.iload_n 2, 1) := by decide +kernel
theorem dX2_whole_30 : decode cX2_whole 30 = .ok (.laload, 1) := by decide +kernel
theorem dX2_whole_31 : decode cX2_whole 31 = .ok (.aload_n 0, 1) := by decide +kernel
theorem dX2_whole_32 : decode cX2_whole 32 = .ok (.getfield 38, 3) := by decide +kernel
theorem dX2_whole_35 : decode cX2_whole 35 = .ok (.iload_n 1, 1) := by decide +kernel
theorem dX2_whole_36 : decode cX2_whole 36 = .ok (.laload, 1) := by decide +kernel
theorem dX2_whole_37 : decode cX2_whole 37 = .ok (.lsub, 1) := by decide +kernel
theorem dX2_whole_38 : decode cX2_whole 38 = .ok (.lstore 6, 2) := by decide +kernel
theorem dX2_whole_40 : decode cX2_whole 40 = .ok (.iload_n 3, 1) := by decide +kernel
theorem dX2_whole_41 : decode cX2_whole 41 = .ok (.lookupswitch 83 #[(100, 43), (104, 51), (105, 63), (115, 75)], 43) := by decide +kernel
theorem dX2_whole_84 : decode cX2_whole 84 = .ok (.lload 4, 2) := by decide +kernel
theorem dX2_whole_86 : decode cX2_whole 86 = .ok (.lload 6, 2) := by decide +kernel
theorem dX2_whole_88 : decode cX2_whole 88 = .ok (.invokestatic 243, 3) := by decide +kernel
theorem dX2_whole_91 : decode cX2_whole 91 = .ok (.lreturn, 1) := by decide +kernel
theorem dX2_whole_92 : decode cX2_whole 92 = .ok (.lload 4, 2) := by decide +kernel
theorem dX2_whole_94 : decode cX2_whole 94 = .ok (.lload 6, 2) := by decide +kernel
theorem dX2_whole_96 : decode cX2_whole 96 = .ok (.invokestatic 246, 3) := by decide +kernel
theorem dX2_whole_99 : decode cX2_whole 99 = .ok (.ldc2_w 249, 3) := by decide +kernel
theorem dX2_whole_102 : decode cX2_whole 102 = .ok (.ldiv, 1) := by decide +kernel
theorem dX2_whole_103 : decode cX2_whole 103 = .ok (.lreturn, 1) := by decide +kernel
theorem dX2_whole_104 : decode cX2_whole 104 = .ok (.lload 4, 2) := by decide +kernel
theorem dX2_whole_106 : decode cX2_whole 106 = .ok (.lload 6, 2) := by decide +kernel
theorem dX2_whole_108 : decode cX2_whole 108 = .ok (.invokestatic 246, 3) := by decide +kernel
theorem dX2_whole_111 : decode cX2_whole 111 = .ok (.ldc2_w 201, 3) := by decide +kernel
theorem dX2_whole_114 : decode cX2_whole 114 = .ok (.ldiv, 1) := by decide +kernel
theorem dX2_whole_115 : decode cX2_whole 115 = .ok (.lreturn, 1) := by decide +kernel
theorem dX2_whole_116 : decode cX2_whole 116 = .ok (.lload 4, 2) := by decide +kernel
theorem dX2_whole_118 : decode cX2_whole 118 = .ok (.lload 6, 2) := by decide +kernel
theorem dX2_whole_120 : decode cX2_whole 120 = .ok (.invokestatic 246, 3) := by decide +kernel
theorem dX2_whole_123 : decode cX2_whole 123 = .ok (.lreturn, 1) := by decide +kernel
theorem dX2_whole_124 : decode cX2_whole 124 = .ok (.new 101, 3) := by decide +kernel
theorem dX2_whole_127 : decode cX2_whole 127 = .ok (.dup, 1) := by decide +kernel
theorem dX2_whole_128 : decode cX2_whole 128 = .ok (.ldc 251, 2) := by decide +kernel
theorem dX2_whole_130 : decode cX2_whole 130 = .ok (.invokespecial 105, 3) := by decide +kernel
theorem dX2_whole_133 : decode cX2_whole 133 = .ok (.athrow, 1) := by decide +kernel
set_option maxRecDepth 20000 in
theorem ggX2_orderMoments_X2_checkSlot : GoodIn wsX2_orderMoments wsX2_checkSlot := goodIn_ca (goodIn_r _ [6, 7, 8] (by decide +kernel) (by decide +kernel)) (goodIn_sub (fun _ h => List.mem_cons_of_mem _ (List.mem_append_right _ h)) (by decide +kernel))
set_option maxRecDepth 20000 in
theorem gX2_orderMoments_X2_checkSlot : GoodIn wsX2_orderMoments (va_wsS RX2 41 yX2_checkSlot wsX2_checkSlot) := goodIn_app (goodIn_of _ (by decide +kernel)) ggX2_orderMoments_X2_checkSlot
set_option maxRecDepth 20000 in
theorem ggX2_orderMoments_X2_sign : GoodIn wsX2_orderMoments wsX2_sign := goodIn_r _ [11] (by decide +kernel) (by decide +kernel)
set_option maxRecDepth 20000 in
theorem gX2_orderMoments_X2_sign : GoodIn wsX2_orderMoments (va_wsS RX2 148 yX2_sign wsX2_sign) := goodIn_app (goodIn_of _ (by decide +kernel)) ggX2_orderMoments_X2_sign
theorem dX2_orderMoments_0 : decode cX2_orderMoments 0 = .ok (.iload_n 1, 1) := by decide +kernel
theorem dX2_orderMoments_1 : decode cX2_orderMoments 1 = .ok (.iconst 4, 1) := by decide +kernel
theorem dX2_orderMoments_2 : decode cX2_orderMoments 2 = .ok (.invokestatic 41, 3) := by decide +kernel
theorem dX2_orderMoments_5 : decode cX2_orderMoments 5 = .ok (.iload_n 2, 1) := by decide +kernel
theorem dX2_orderMoments_6 : decode cX2_orderMoments 6 = .ok (.iconst 4, 1) := by decide +kernel
theorem dX2_orderMoments_7 : decode cX2_orderMoments 7 = .ok (.invokestatic 41, 3) := by decide +kernel
theorem dX2_orderMoments_10 : decode cX2_orderMoments 10 = .ok (.aload_n 0, 1) := by decide +kernel
theorem dX2_orderMoments_11 : decode cX2_orderMoments 11 = .ok (.getfield 35, 3) := by decide +kernel
theorem dX2_orderMoments_14 : decode cX2_orderMoments 14 = .ok (.iload_n 1, 1) := by decide +kernel
theorem dX2_orderMoments_15 : decode cX2_orderMoments 15 = .ok (.laload, 1) := by decide +kernel
theorem dX2_orderMoments_16 : decode cX2_orderMoments 16 = .ok (.aload_n 0, 1) := by decide +kernel
theorem dX2_orderMoments_17 : decode cX2_orderMoments 17 = .ok (.getfield 35, 3) := by decide +kernel
theorem dX2_orderMoments_20 : decode cX2_orderMoments 20 = .ok (.iload_n 2, 1) := by decide +kernel
theorem dX2_orderMoments_21 : decode cX2_orderMoments 21 = .ok (.laload, 1) := by decide +kernel
theorem dX2_orderMoments_22 : decode cX2_orderMoments 22 = .ok (.invokestatic 148, 3) := by decide +kernel
theorem dX2_orderMoments_25 : decode cX2_orderMoments 25 = .ok (.istore_n 3, 1) := by decide +kernel
theorem dX2_orderMoments_26 : decode cX2_orderMoments 26 = .ok (.iload_n 3, 1) := by decide +kernel
theorem dX2_orderMoments_27 : decode cX2_orderMoments 27 = .ok (.ifCond .eq 7, 3) := by decide +kernel
theorem dX2_orderMoments_30 : decode cX2_orderMoments 30 = .ok (.iload_n 3, 1) := by decide +kernel
theorem dX2_orderMoments_31 : decode cX2_orderMoments 31 = .ok (.goto 18, 3) := by decide +kernel
theorem dX2_orderMoments_34 : decode cX2_orderMoments 34 = .ok (.aload_n 0, 1) := by decide +kernel
theorem dX2_orderMoments_35 : decode cX2_orderMoments 35 = .ok (.getfield 38, 3) := by decide +kernel
theorem dX2_orderMoments_38 : decode cX2_orderMoments 38 = .ok (.iload_n 1, 1) := by decide +kernel
theorem dX2_orderMoments_39 : decode cX2_orderMoments 39 = .ok (.laload, 1) := by decide +kernel
theorem dX2_orderMoments_40 : decode cX2_orderMoments 40 = .ok (.aload_n 0, 1) := by decide +kernel
theorem dX2_orderMoments_41 : decode cX2_orderMoments 41 = .ok (.getfield 38, 3) := by decide +kernel
theorem dX2_orderMoments_44 : decode cX2_orderMoments 44 = .ok (.iload_n 2, 1) := by decide +kernel
theorem dX2_orderMoments_45 : decode cX2_orderMoments 45 = .ok (.laload, 1) := by decide +kernel
theorem dX2_orderMoments_46 : decode cX2_orderMoments 46 = .ok (.invokestatic 148, 3) := by decide +kernel
theorem dX2_orderMoments_49 : decode cX2_orderMoments 49 = .ok (.ireturn, 1) := by decide +kernel
set_option maxRecDepth 20000 in
theorem ggX2_longShare_X1_yearOfDay : GoodIn wsX2_longShare wsX1_yearOfDay := goodIn_r _ [6, 7, 8, 9, 10, 11, 12, 13, 14, 15, 5, 16, 17, 18, 19, 20, 21, 22] (by decide +kernel) (by decide +kernel)
set_option maxRecDepth 20000 in
theorem gX2_longShare_X1_yearOfDay : GoodIn wsX2_longShare (va_wsS RX2 77 yX1_yearOfDay wsX1_yearOfDay) := goodIn_app (goodIn_of _ (by decide +kernel)) ggX2_longShare_X1_yearOfDay
set_option maxRecDepth 20000 in
theorem ggX2_longShare_X1_isLongYear : GoodIn wsX2_longShare wsX1_isLongYear := goodIn_r _ [25, 18, 20, 7] (by decide +kernel) (by decide +kernel)
set_option maxRecDepth 20000 in
theorem gX2_longShare_X1_isLongYear : GoodIn wsX2_longShare (va_wsS RX2 98 yX1_isLongYear wsX1_isLongYear) := goodIn_app (goodIn_of _ (by decide +kernel)) ggX2_longShare_X1_isLongYear
theorem dX2_longShare_0 : decode cX2_longShare 0 = .ok (.iconst 0, 1) := by decide +kernel
theorem dX2_longShare_1 : decode cX2_longShare 1 = .ok (.istore_n 1, 1) := by decide +kernel
theorem dX2_longShare_2 : decode cX2_longShare 2 = .ok (.iconst 0, 1) := by decide +kernel
theorem dX2_longShare_3 : decode cX2_longShare 3 = .ok (.istore_n 2, 1) := by decide +kernel
theorem dX2_longShare_4 : decode cX2_longShare 4 = .ok (.iload_n 2, 1) := by decide +kernel
theorem dX2_longShare_5 : decode cX2_longShare 5 = .ok (.bipush 6, 2) := by decide +kernel
theorem dX2_longShare_7 : decode cX2_longShare 7 = .ok (.if_icmp .ge 27, 3) := by decide +kernel
theorem dX2_longShare_10 : decode cX2_longShare 10 = .ok (.aload_n 0, 1) := by decide +kernel
theorem dX2_longShare_11 : decode cX2_longShare 11 = .ok (.getfield 9, 3) := by decide +kernel
theorem dX2_longShare_14 : decode cX2_longShare 14 = .ok (.iload_n 2, 1) := by decide +kernel
theorem dX2_longShare_15 : decode cX2_longShare 15 = .ok (.laload, 1) := by decide +kernel
theorem dX2_longShare_16 : decode cX2_longShare 16 = .ok (.invokestatic 77, 3) := by decide +kernel
theorem dX2_longShare_19 : decode cX2_longShare 19 = .ok (.invokestatic 98, 3) := by decide +kernel
theorem dX2_longShare_22 : decode cX2_longShare 22 = .ok (.ifCond .eq 6, 3) := by decide +kernel
theorem dX2_longShare_25 : decode cX2_longShare 25 = .ok (.iinc 1 1, 3) := by decide +kernel
theorem dX2_longShare_28 : decode cX2_longShare 28 = .ok (.iinc 2 1, 3) := by decide +kernel
theorem dX2_longShare_31 : decode cX2_longShare 31 = .ok (.goto (-27), 3) := by decide +kernel
theorem dX2_longShare_34 : decode cX2_longShare 34 = .ok (.iload_n 1, 1) := by decide +kernel
theorem dX2_longShare_35 : decode cX2_longShare 35 = .ok (.i2f, 1) := by decide +kernel
theorem dX2_longShare_36 : decode cX2_longShare 36 = .ok (.ldc 253, 2) := by decide +kernel
theorem dX2_longShare_38 : decode cX2_longShare 38 = .ok (.fdiv, 1) := by decide +kernel
theorem dX2_longShare_39 : decode cX2_longShare 39 = .ok (.freturn, 1) := by decide +kernel
theorem dX2_meanDay_0 : decode cX2_meanDay 0 = .ok (.lconst 0, 1) := by decide +kernel
theorem dX2_meanDay_1 : decode cX2_meanDay 1 = .ok (.lstore_n 1, 1) := by decide +kernel
theorem dX2_meanDay_2 : decode cX2_meanDay 2 = .ok (.iconst 0, 1) := by decide +kernel
theorem dX2_meanDay_3 : decode cX2_meanDay 3 = .ok (.istore_n 3, 1) := by decide +kernel
theorem dX2_meanDay_4 : decode cX2_meanDay 4 = .ok (.iload_n 3, 1) := by decide +kernel
theorem dX2_meanDay_5 : decode cX2_meanDay 5 = .ok (.bipush 6, 2) := by decide +kernel
theorem dX2_meanDay_7 : decode cX2_meanDay 7 = .ok (.if_icmp .ge 18, 3) := by decide +kernel
theorem dX2_meanDay_10 : decode cX2_meanDay 10 = .ok (.lload_n 1, 1) := by decide +kernel
theorem dX2_meanDay_11 : decode cX2_meanDay 11 = .ok (.aload_n 0, 1) := by decide +kernel
theorem dX2_meanDay_12 : decode cX2_meanDay 12 = .ok (.getfield 9, 3) := by decide +kernel
theorem dX2_meanDay_15 : decode cX2_meanDay 15 = .ok (.iload_n 3, 1) := by decide +kernel
theorem dX2_meanDay_16 : decode cX2_meanDay 16 = .ok (.laload, 1) := by decide +kernel
theorem dX2_meanDay_17 : decode cX2_meanDay 17 = .ok (.ladd, 1) := by decide +kernel
theorem dX2_meanDay_18 : decode cX2_meanDay 18 = .ok (.lstore_n 1, 1) := by decide +kernel
theorem dX2_meanDay_19 : decode cX2_meanDay 19 = .ok (.iinc 3 1, 3) := by decide +kernel
theorem dX2_meanDay_22 : decode cX2_meanDay 22 = .ok (.goto (-18), 3) := by decide +kernel
theorem dX2_meanDay_25 : decode cX2_meanDay 25 = .ok (.lload_n 1, 1) := by decide +kernel
theorem dX2_meanDay_26 : decode cX2_meanDay 26 = .ok (.l2d, 1) := by decide +kernel
theorem dX2_meanDay_27 : decode cX2_meanDay 27 = .ok (.ldc2_w 254, 3) := by decide +kernel
theorem dX2_meanDay_30 : decode cX2_meanDay 30 = .ok (.ddiv, 1) := by decide +kernel
theorem dX2_meanDay_31 : decode cX2_meanDay 31 = .ok (.dreturn, 1) := by decide +kernel
set_option maxRecDepth 20000 in
theorem ggX2_checksum_X1_yearOfMonth : GoodIn wsX2_checksum wsX1_yearOfMonth := goodIn_r _ [16, 17, 18, 19, 20, 21] (by decide +kernel) (by decide +kernel)
set_option maxRecDepth 20000 in
theorem gX2_checksum_X1_yearOfMonth : GoodIn wsX2_checksum (va_wsS RX2 120 yX1_yearOfMonth wsX1_yearOfMonth) := goodIn_app (goodIn_of _ (by decide +kernel)) ggX2_checksum_X1_yearOfMonth
set_option maxRecDepth 20000 in
theorem ggX2_checksum_X1_monthInYear : GoodIn wsX2_checksum wsX1_monthInYear := goodIn_r _ [24, 17, 25, 26, 20, 27] (by decide +kernel) (by decide +kernel)
set_option maxRecDepth 20000 in
theorem gX2_checksum_X1_monthInYear : GoodIn wsX2_checksum (va_wsS RX2 83 yX1_monthInYear wsX1_monthInYear) := goodIn_app (goodIn_of _ (by decide +kernel)) ggX2_checksum_X1_monthInYear
theorem dX2_checksum_0 : decode cX2_checksum 0 = .ok (.ldc2_w 130, 3) := by decide +kernel
theorem dX2_checksum_3 : decode cX2_checksum 3 = .ok (.lstore_n 1, 1) := by decide +kernel
theorem dX2_checksum_4 : decode cX2_checksum 4 = .ok (.iconst 0, 1) := by decide +kernel
theorem dX2_checksum_5 : decode cX2_checksum 5 = .ok (.istore_n 3, 1) := by decide +kernel
theorem dX2_checksum_6 : decode cX2_checksum 6 = .ok (.iload_n 3, 1) := by decide +kernel
theorem dX2_checksum_7 : decode cX2_checksum 7 = .ok (.bipush 6, 2) := by decide +kernel
theorem dX2_checksum_9 : decode cX2_checksum 9 = .ok (.if_icmp .ge 22, 3) := by decide +kernel
theorem dX2_checksum_12 : decode cX2_checksum 12 = .ok (.ldc2_w 256, 3) := by decide +kernel
theorem dX2_checksum_15 : decode cX2_checksum 15 = .ok (.lload_n 1, 1) := by decide +kernel
theorem dX2_checksum_16 : decode cX2_checksum 16 = .ok (.lmul, 1) := by decide +kernel
theorem dX2_checksum_17 : decode cX2_checksum 17 = .ok (.aload_n 0, 1) := by decide +kernel
theorem dX2_checksum_18 : decode cX2_checksum 18 = .ok (.getfield 9, 3) := by decide +kernel
theorem dX2_checksum_21 : decode cX2_checksum 21 = .ok (.iload_n 3, 1) := by decide +kernel
theorem dX2_checksum_22 : decode cX2_checksum 22 = .ok (.laload, 1) := by decide +kernel
theorem dX2_checksum_23 : decode cX2_checksum 23 = .ok (.ladd, 1) := by decide +kernel
theorem dX2_checksum_24 : decode cX2_checksum 24 = .ok (.lstore_n 1, 1) := by decide +kernel
theorem dX2_checksum_25 : decode cX2_checksum 25 = .ok (.iinc 3 1, 3) := by decide +kernel
theorem dX2_checksum_28 : decode cX2_checksum 28 = .ok (.goto (-22), 3) := by decide +kernel
theorem dX2_checksum_31 : decode cX2_checksum 31 = .ok (.iconst 0, 1) := by decide +kernel
theorem dX2_checksum_32 : decode cX2_checksum 32 = .ok (.istore_n 3, 1) := by decide +kernel
theorem dX2_checksum_33 : decode cX2_checksum 33 = .ok (.iload_n 3, 1) := by decide +kernel
theorem dX2_checksum_34 : decode cX2_checksum 34 = .ok (.iconst 4, 1) := by decide +kernel
theorem dX2_checksum_35 : decode cX2_checksum 35 = .ok (.if_icmp .ge 51, 3) := by decide +kernel
theorem dX2_checksum_38 : decode cX2_checksum 38 = .ok (.ldc2_w 256, 3) := by decide +kernel
theorem dX2_checksum_41 : decode cX2_checksum 41 = .ok (.lload_n 1, 1) := by decide +kernel
theorem dX2_checksum_42 : decode cX2_checksum 42 = .ok (.lmul, 1) := by decide +kernel
theorem dX2_checksum_43 : decode cX2_checksum 43 = .ok (.aload_n 0, 1) := by decide +kernel
theorem dX2_checksum_44 : decode cX2_checksum 44 = .ok (.getfield 13, 3) := by decide +kernel
theorem dX2_checksum_47 : decode cX2_checksum 47 = .ok (.iload_n 3, 1) := by decide +kernel
theorem dX2_checksum_48 : decode cX2_checksum 48 = .ok (.iaload, 1) := by decide +kernel
theorem dX2_checksum_49 : decode cX2_checksum 49 = .ok (.i2l, 1) := by decide +kernel
theorem dX2_checksum_50 : decode cX2_checksum 50 = .ok (.ladd, 1) := by decide +kernel
theorem dX2_checksum_51 : decode cX2_checksum 51 = .ok (.lstore_n 1, 1) := by decide +kernel
theorem dX2_checksum_52 : decode cX2_checksum 52 = .ok (.ldc2_w 256, 3) := by decide +kernel
theorem dX2_checksum_55 : decode cX2_checksum 55 = .ok (.lload_n 1, 1) := by decide +kernel
theorem dX2_checksum_56 : decode cX2_checksum 56 = .ok (.lmul, 1) := by decide +kernel
theorem dX2_checksum_57 : decode cX2_checksum 57 = .ok (.aload_n 0, 1) := by decide +kernel
theorem dX2_checksum_58 : decode cX2_checksum 58 = .ok (.getfield 17, 3) := by decide +kernel
theorem dX2_checksum_61 : decode cX2_checksum 61 = .ok (.iload_n 3, 1) := by decide +kernel
theorem dX2_checksum_62 : decode cX2_checksum 62 = .ok (.iaload, 1) := by decide +kernel
theorem dX2_checksum_63 : decode cX2_checksum 63 = .ok (.i2l, 1) := by decide +kernel
theorem dX2_checksum_64 : decode cX2_checksum 64 = .ok (.ladd, 1) := by decide +kernel
theorem dX2_checksum_65 : decode cX2_checksum 65 = .ok (.lstore_n 1, 1) := by decide +kernel
theorem dX2_checksum_66 : decode cX2_checksum 66 = .ok (.ldc2_w 256, 3) := by decide +kernel
theorem dX2_checksum_69 : decode cX2_checksum 69 = .ok (.lload_n 1, 1) := by decide +kernel
theorem dX2_checksum_70 : decode cX2_checksum 70 = .ok (.lmul, 1) := by decide +kernel
theorem dX2_checksum_71 : decode cX2_checksum 71 = .ok (.aload_n 0, 1) := by decide +kernel
theorem dX2_checksum_72 : decode cX2_checksum 72 = .ok (.getfield 20, 3) := by decide +kernel
theorem dX2_checksum_75 : decode cX2_checksum 75 = .ok (.iload_n 3, 1) := by decide +kernel
theorem dX2_checksum_76 : decode cX2_checksum 76 = .ok (.iaload, 1) := by decide +kernel
theorem dX2_checksum_77 : decode cX2_checksum 77 = .ok (.i2l, 1) := by decide +kernel
theorem dX2_checksum_78 : decode cX2_checksum 78 = .ok (.ladd, 1) := by decide +kernel
theorem dX2_checksum_79 : decode cX2_checksum 79 = .ok (.lstore_n 1, 1) := by decide +kernel
theorem dX2_checksum_80 : decode cX2_checksum 80 = .ok (.iinc 3 1, 3) := by decide +kernel
theorem dX2_checksum_83 : decode cX2_checksum 83 = .ok (.goto (-50), 3) := by decide +kernel
theorem dX2_checksum_86 : decode cX2_checksum 86 = .ok (.iconst 0, 1) := by decide +kernel
theorem dX2_checksum_87 : decode cX2_checksum 87 = .ok (.istore_n 3, 1) := by decide +kernel
theorem dX2_checksum_88 : decode cX2_checksum 88 = .ok (.iload_n 3, 1) := by decide +kernel
theorem dX2_checksum_89 : decode cX2_checksum 89 = .ok (.iconst 4, 1) := by decide +kernel
theorem dX2_checksum_90 : decode cX2_checksum 90 = .ok (.if_icmp .ge 44, 3) := by decide +kernel
theorem dX2_checksum_93 : decode cX2_checksum 93 = .ok (.ldc2_w 256, 3) := by decide +kernel
theorem dX2_checksum_96 : decode cX2_checksum 96 = .ok (.lload_n 1, 1) := by decide +kernel
theorem dX2_checksum_97 : decode cX2_checksum 97 = .ok (.lmul, 1) := by decide +kernel
theorem dX2_checksum_98 : decode cX2_checksum 98 = .ok (.aload_n 0, 1) := by decide +kernel
theorem dX2_checksum_99 : decode cX2_checksum 99 = .ok (.getfield 23, 3) := by decide +kernel
theorem dX2_checksum_102 : decode cX2_checksum 102 = .ok (.iload_n 3, 1) := by decide +kernel
theorem dX2_checksum_103 : decode cX2_checksum 103 = .ok (.iaload, 1) := by decide +kernel
theorem dX2_checksum_104 : decode cX2_checksum 104 = .ok (.i2l, 1) := by decide +kernel
theorem dX2_checksum_105 : decode cX2_checksum 105 = .ok (.invokestatic 120, 3) := by decide +kernel
theorem dX2_checksum_108 : decode cX2_checksum 108 = .ok (.ladd, 1) := by decide +kernel
theorem dX2_checksum_109 : decode cX2_checksum 109 = .ok (.lstore_n 1, 1) := by decide +kernel
theorem dX2_checksum_110 : decode cX2_checksum 110 = .ok (.ldc2_w 256, 3) := by decide +kernel
theorem dX2_checksum_113 : decode cX2_checksum 113 = .ok (.lload_n 1, 1) := by decide +kernel
theorem dX2_checksum_114 : decode cX2_checksum 114 = .ok (.lmul, 1) := by decide +kernel
theorem dX2_checksum_115 : decode cX2_checksum 115 = .ok (.aload_n 0, 1) := by decide +kernel
theorem dX2_checksum_116 : decode cX2_checksum 116 = .ok (.getfield 23, 3) := by decide +kernel
theorem dX2_checksum_119 : decode cX2_checksum 119 = .ok (.iload_n 3, 1) := by decide +kernel
theorem dX2_checksum_120 : decode cX2_checksum 120 = .ok (.iaload, 1) := by decide +kernel
theorem dX2_checksum_121 : decode cX2_checksum 121 = .ok (.i2l, 1) := by decide +kernel
theorem dX2_checksum_122 : decode cX2_checksum 122 = .ok (.invokestatic 83, 3) := by decide +kernel
theorem dX2_checksum_125 : decode cX2_checksum 125 = .ok (.i2l, 1) := by decide +kernel
theorem dX2_checksum_126 : decode cX2_checksum 126 = .ok (.ladd, 1) := by decide +kernel
theorem dX2_checksum_127 : decode cX2_checksum 127 = .ok (.lstore_n 1, 1) := by decide +kernel
theorem dX2_checksum_128 : decode cX2_checksum 128 = .ok (.iinc 3 1, 3) := by decide +kernel
theorem dX2_checksum_131 : decode cX2_checksum 131 = .ok (.goto (-43), 3) := by decide +kernel
theorem dX2_checksum_134 : decode cX2_checksum 134 = .ok (.iconst 0, 1) := by decide +kernel
theorem dX2_checksum_135 : decode cX2_checksum 135 = .ok (.istore_n 3, 1) := by decide +kernel
theorem dX2_checksum_136 : decode cX2_checksum 136 = .ok (.iload_n 3, 1) := by decide +kernel
theorem dX2_checksum_137 : decode cX2_checksum 137 = .ok (.iconst 4, 1) := by decide +kernel
theorem dX2_checksum_138 : decode cX2_checksum 138 = .ok (.if_icmp .ge 22, 3) := by decide +kernel
theorem dX2_checksum_141 : decode cX2_checksum 141 = .ok (.ldc2_w 256, 3) := by decide +kernel
theorem dX2_checksum_144 : decode cX2_checksum 144 = .ok (.lload_n 1, 1) := by decide +kernel
theorem dX2_checksum_145 : decode cX2_checksum 145 = .ok (.lmul, 1) := by decide +kernel
theorem dX2_checksum_146 : decode cX2_checksum 146 = .ok (.aload_n 0, 1) := by decide +kernel
theorem dX2_checksum_147 : decode cX2_checksum 147 = .ok (.getfield 26, 3) := by decide +kernel
theorem dX2_checksum_150 : decode cX2_checksum 150 = .ok (.iload_n 3, 1) := by decide +kernel
theorem dX2_checksum_151 : decode cX2_checksum 151 = .ok (.laload, 1) := by decide +kernel
theorem dX2_checksum_152 : decode cX2_checksum 152 = .ok (.ladd, 1) := by decide +kernel
theorem dX2_checksum_153 : decode cX2_checksum 153 = .ok (.lstore_n 1, 1) := by decide +kernel
theorem dX2_checksum_154 : decode cX2_checksum 154 = .ok (.iinc 3 1, 3) := by decide +kernel
theorem dX2_checksum_157 : decode cX2_checksum 157 = .ok (.goto (-21), 3) := by decide +kernel
theorem dX2_checksum_160 : decode cX2_checksum 160 = .ok (.iconst 0, 1) := by decide +kernel
theorem dX2_checksum_161 : decode cX2_checksum 161 = .ok (.istore_n 3, 1) := by decide +kernel
theorem dX2_checksum_162 : decode cX2_checksum 162 = .ok (.iload_n 3, 1) := by decide +kernel
theorem dX2_checksum_163 : decode cX2_checksum 163 = .ok (.iconst 4, 1) := by decide +kernel
theorem dX2_checksum_164 : decode cX2_checksum 164 = .ok (.if_icmp .ge 35, 3) := by decide +kernel
theorem dX2_checksum_167 : decode cX2_checksum 167 = .ok (.ldc2_w 256, 3) := by decide +kernel
theorem dX2_checksum_170 : decode cX2_checksum 170 = .ok (.lload_n 1, 1) := by decide +kernel
theorem dX2_checksum_171 : decode cX2_checksum 171 = .ok (.lmul, 1) := by decide +kernel
theorem dX2_checksum_172 : decode cX2_checksum 172 = .ok (.aload_n 0, 1) := by decide +kernel
theorem dX2_checksum_173 : decode cX2_checksum 173 = .ok (.getfield 29, 3) := by decide +kernel
theorem dX2_checksum_176 : decode cX2_checksum 176 = .ok (.iload_n 3, 1) := by decide +kernel
theorem dX2_checksum_177 : decode cX2_checksum 177 = .ok (.laload, 1) := by decide +kernel
theorem dX2_checksum_178 : decode cX2_checksum 178 = .ok (.ladd, 1) := by decide +kernel
theorem dX2_checksum_179 : decode cX2_checksum 179 = .ok (.lstore_n 1, 1) := by decide +kernel
theorem dX2_checksum_180 : decode cX2_checksum 180 = .ok (.ldc2_w 256, 3) := by decide +kernel
theorem dX2_checksum_183 : decode cX2_checksum 183 = .ok (.lload_n 1, 1) := by decide +kernel
theorem dX2_checksum_184 : decode cX2_checksum 184 = .ok (.lmul, 1) := by decide +kernel
theorem dX2_checksum_185 : decode cX2_checksum 185 = .ok (.aload_n 0, 1) := by decide +kernel
theorem dX2_checksum_186 : decode cX2_checksum 186 = .ok (.getfield 32, 3) := by decide +kernel
theorem dX2_checksum_189 : decode cX2_checksum 189 = .ok (.iload_n 3, 1) := by decide +kernel
theorem dX2_checksum_190 : decode cX2_checksum 190 = .ok (.laload, 1) := by decide +kernel
theorem dX2_checksum_191 : decode cX2_checksum 191 = .ok (.ladd, 1) := by decide +kernel
theorem dX2_checksum_192 : decode cX2_checksum 192 = .ok (.lstore_n 1, 1) := by decide +kernel
theorem dX2_checksum_193 : decode cX2_checksum 193 = .ok (.iinc 3 1, 3) := by decide +kernel
theorem dX2_checksum_196 : decode cX2_checksum 196 = .ok (.goto (-34), 3) := by decide +kernel
theorem dX2_checksum_199 : decode cX2_checksum 199 = .ok (.iconst 0, 1) := by decide +kernel
theorem dX2_checksum_200 : decode cX2_checksum 200 = .ok (.istore_n 3, 1) := by decide +kernel
theorem dX2_checksum_201 : decode cX2_checksum 201 = .ok (.iload_n 3, 1) := by decide +kernel
theorem dX2_checksum_202 : decode cX2_checksum 202 = .ok (.iconst 4, 1) := by decide +kernel
theorem dX2_checksum_203 : decode cX2_checksum 203 = .ok (.if_icmp .ge 35, 3) := by decide +kernel
theorem dX2_checksum_206 : decode cX2_checksum 206 = .ok (.ldc2_w 256, 3) := by decide +kernel
theorem dX2_checksum_209 : decode cX2_checksum 209 = .ok (.lload_n 1, 1) := by decide +kernel
theorem dX2_checksum_210 : decode cX2_checksum 210 = .ok (.lmul, 1) := by decide +kernel
theorem dX2_checksum_211 : decode cX2_checksum 211 = .ok (.aload_n 0, 1) := by decide +kernel
theorem dX2_checksum_212 : decode cX2_checksum 212 = .ok (.getfield 35, 3) := by decide +kernel
theorem dX2_checksum_215 : decode cX2_checksum 215 = .ok (.iload_n 3, 1) := by decide +kernel
theorem dX2_checksum_216 : decode cX2_checksum 216 = .ok (.laload, 1) := by decide +kernel
theorem dX2_checksum_217 : decode cX2_checksum 217 = .ok (.ladd, 1) := by decide +kernel
theorem dX2_checksum_218 : decode cX2_checksum 218 = .ok (.lstore_n 1, 1) := by decide +kernel
theorem dX2_checksum_219 : decode cX2_checksum 219 = .ok (.ldc2_w 256, 3) := by decide +kernel
theorem dX2_checksum_222 : decode cX2_checksum 222 = .ok (.lload_n 1, 1) := by decide +kernel
theorem dX2_checksum_223 : decode cX2_checksum 223 = .ok (.lmul, 1) := by decide +kernel
theorem dX2_checksum_224 : decode cX2_checksum 224 = .ok (.aload_n 0, 1) := by decide +kernel
theorem dX2_checksum_225 : decode cX2_checksum 225 = .ok (.getfield 38, 3) := by decide +kernel
theorem dX2_checksum_228 : decode cX2_checksum 228 = .ok (.iload_n 3, 1) := by decide +kernel
theorem dX2_checksum_229 : decode cX2_checksum 229 = .ok (.laload, 1) := by decide +kernel
theorem dX2_checksum_230 : decode cX2_checksum 230 = .ok (.ladd, 1) := by decide +kernel
theorem dX2_checksum_231 : decode cX2_checksum 231 = .ok (.lstore_n 1, 1) := by decide +kernel
theorem dX2_checksum_232 : decode cX2_checksum 232 = .ok (.iinc 3 1, 3) := by decide +kernel
theorem dX2_checksum_235 : decode cX2_checksum 235 = .ok (.goto (-34), 3) := by decide +kernel
theorem dX2_checksum_238 : decode cX2_checksum 238 = .ok (.lload_n 1, 1) := by decide +kernel
theorem dX2_checksum_239 : decode cX2_checksum 239 = .ok (.lreturn, 1) := by decide +kernel
set_option maxRecDepth 20000 in
theorem ggX2_isSound_X2_isSoundDay : GoodIn wsX2_isSound wsX2_isSoundDay := goodIn_r _ [7, 8, 9, 10, 11, 12, 13, 14, 15, 16, 17, 18, 19, 20, 21, 22, 23, 24, 25, 26, 27, 28, 29, 30, 31, 32, 33, 34, 35, 36, 37, 38, 39, 40, 41, 42, 43, 44, 45, 46, 47, 48, 49, 50, 51, 52, 53, 54, 55, 56, 57, 58, 59, 60, 61, 62, 63, 64, 65, 66, 67, 68, 69, 70, 71, 6, 72, 73, 74, 75, 76, 77, 78, 79, 80, 81, 82, 83, 84, 85, 86, 87, 88] (by decide +kernel) (by decide +kernel)
set_option maxRecDepth 20000 in
theorem gX2_isSound_X2_isSoundDay : GoodIn wsX2_isSound (va_wsS RX2 258 yX2_isSoundDay wsX2_isSoundDay) := goodIn_app (goodIn_of _ (by decide +kernel)) ggX2_isSound_X2_isSoundDay
set_option maxRecDepth 20000 in
theorem ggX2_isSound_X2_isSoundWay : GoodIn wsX2_isSound wsX2_isSoundWay := goodIn_r _ [91, 92, 93, 94, 15, 95, 84, 85, 10, 86, 96, 97, 98, 48, 14, 16, 17, 18, 19, 20, 21, 22, 23, 24, 25, 26, 27, 28, 29, 30, 31, 32, 33, 34, 35, 36, 37, 38, 39, 40, 41, 42, 43, 44, 49, 50, 51, 52, 53, 54, 55, 56, 57, 58, 59, 60, 61, 78, 79, 80, 81, 82, 83, 87, 63, 64] (by decide +kernel) (by decide +kernel)
set_option maxRecDepth 20000 in
theorem gX2_isSound_X2_isSoundWay : GoodIn wsX2_isSound (va_wsS RX2 261 yX2_isSoundWay wsX2_isSoundWay) := goodIn_app (goodIn_of _ (by decide +kernel)) ggX2_isSound_X2_isSoundWay
set_option maxRecDepth 20000 in
theorem ggX2_isSound_X2_isSoundTimeWay : GoodIn wsX2_isSound wsX2_isSoundTimeWay := goodIn_r _ [101, 102, 103, 104, 27, 28, 29, 105, 60, 61, 106, 107, 108, 109, 110, 111, 112, 113, 114] (by decide +kernel) (by decide +kernel)
set_option maxRecDepth 20000 in
theorem gX2_isSound_X2_isSoundTimeWay : GoodIn wsX2_isSound (va_wsS RX2 265 yX2_isSoundTimeWay wsX2_isSoundTimeWay) := goodIn_app (goodIn_of _ (by decide +kernel)) ggX2_isSound_X2_isSoundTimeWay
set_option maxRecDepth 20000 in
theorem ggX2_isSound_X2_isSoundMomentWay : GoodIn wsX2_isSound wsX2_isSoundMomentWay := goodIn_ca (goodIn_r _ [118, 2, 119, 103, 102, 120, 104, 27, 28, 29, 121, 122, 108, 123, 124, 106, 107, 109, 110, 111, 60, 61, 105, 112, 113, 114, 125, 126, 127, 128, 129, 130, 131, 132, 133, 134] (by decide +kernel) (by decide +kernel)) (goodIn_sub (fun _ h => List.mem_cons_of_mem _ (List.mem_append_right _ h)) (by decide +kernel))
set_option maxRecDepth 20000 in
theorem gX2_isSound_X2_isSoundMomentWay : GoodIn wsX2_isSound (wsV RX2 268 RX2 yX2_isSoundMomentWay wsX2_isSoundMomentWay) := goodIn_app (goodIn_of _ (by decide +kernel)) ggX2_isSound_X2_isSoundMomentWay
theorem dX2_isSound_0 : decode cX2_isSound 0 = .ok (.iconst 1, 1) := by decide +kernel
theorem dX2_isSound_1 : decode cX2_isSound 1 = .ok (.istore_n 1, 1) := by decide +kernel
theorem dX2_isSound_2 : decode cX2_isSound 2 = .ok (.iconst 0, 1) := by decide +kernel
theorem dX2_isSound_3 : decode cX2_isSound 3 = .ok (.istore_n 2, 1) := by decide +kernel
theorem dX2_isSound_4 : decode cX2_isSound 4 = .ok (.iload_n 2, 1) := by decide +kernel
theorem dX2_isSound_5 : decode cX2_isSound 5 = .ok (.bipush 6, 2) := by decide +kernel
theorem dX2_isSound_7 : decode cX2_isSound 7 = .ok (.if_icmp .ge 73, 3) := by decide +kernel
theorem dX2_isSound_10 : decode cX2_isSound 10 = .ok (.iload_n 1, 1) := by decide +kernel
theorem dX2_isSound_11 : decode cX2_isSound 11 = .ok (.ifCond .eq 19, 3) := by decide +kernel
theorem dX2_isSound_14 : decode cX2_isSound 14 = .ok (.aload_n 0, 1) := by decide +kernel
theorem dX2_isSound_15 : decode cX2_isSound 15 = .ok (.getfield 9, 3) := by decide +kernel
theorem dX2_isSound_18 : decode cX2_isSound 18 = .ok (.iload_n 2, 1) := by decide +kernel
theorem dX2_isSound_19 : decode cX2_isSound 19 = .ok (.laload, 1) := by decide +kernel
theorem dX2_isSound_20 : decode cX2_isSound 20 = .ok (.invokestatic 258, 3) := by decide +kernel
theorem dX2_isSound_23 : decode cX2_isSound 23 = .ok (.ifCond .eq 7, 3) := by decide +kernel
theorem dX2_isSound_26 : decode cX2_isSound 26 = .ok (.iconst 1, 1) := by decide +kernel
theorem dX2_isSound_27 : decode cX2_isSound 27 = .ok (.goto 4, 3) := by decide +kernel
theorem dX2_isSound_30 : decode cX2_isSound 30 = .ok (.iconst 0, 1) := by decide +kernel
theorem dX2_isSound_31 : decode cX2_isSound 31 = .ok (.istore_n 1, 1) := by decide +kernel
theorem dX2_isSound_32 : decode cX2_isSound 32 = .ok (.iconst 0, 1) := by decide +kernel
theorem dX2_isSound_33 : decode cX2_isSound 33 = .ok (.istore_n 3, 1) := by decide +kernel
theorem dX2_isSound_34 : decode cX2_isSound 34 = .ok (.iload_n 3, 1) := by decide +kernel
theorem dX2_isSound_35 : decode cX2_isSound 35 = .ok (.bipush 6, 2) := by decide +kernel
theorem dX2_isSound_37 : decode cX2_isSound 37 = .ok (.if_icmp .ge 37, 3) := by decide +kernel
theorem dX2_isSound_40 : decode cX2_isSound 40 = .ok (.iload_n 1, 1) := by decide +kernel
theorem dX2_isSound_41 : decode cX2_isSound 41 = .ok (.ifCond .eq 25, 3) := by decide +kernel
theorem dX2_isSound_44 : decode cX2_isSound 44 = .ok (.aload_n 0, 1) := by decide +kernel
theorem dX2_isSound_45 : decode cX2_isSound 45 = .ok (.getfield 9, 3) := by decide +kernel
theorem dX2_isSound_48 : decode cX2_isSound 48 = .ok (.iload_n 2, 1) := by decide +kernel
