theorem dX2_isSound_49 : decode cX2_isSound 49 = .ok (.laload, 1) := by decide +kernel
theorem dX2_isSound_50 : decode cX2_isSound 50 = .ok (.aload_n 0, 1) := by decide +kernel
theorem dX2_isSound_51 : decode cX2_isSound 51 = .ok (.getfield 9, 3) := by decide +kernel
theorem dX2_isSound_54 : decode cX2_isSound 54 = .ok (.iload_n 3, 1) := by decide +kernel
theorem dX2_isSound_55 : decode cX2_isSound 55 = .ok (.laload, 1) := by decide +kernel
theorem dX2_isSound_56 : decode cX2_isSound 56 = .ok (.invokestatic 261, 3) := by decide +kernel
theorem dX2_isSound_59 : decode cX2_isSound 59 = .ok (.ifCond .eq 7, 3) := by decide +kernel
theorem dX2_isSound_62 : decode cX2_isSound 62 = .ok (.iconst 1, 1) := by decide +kernel
theorem dX2_isSound_63 : decode cX2_isSound 63 = .ok (.goto 4, 3) := by decide +kernel
theorem dX2_isSound_66 : decode cX2_isSound 66 = .ok (.iconst 0, 1) := by decide +kernel
theorem dX2_isSound_67 : decode cX2_isSound 67 = .ok (.istore_n 1, 1) := by decide +kernel
theorem dX2_isSound_68 : decode cX2_isSound 68 = .ok (.iinc 3 1, 3) := by decide +kernel
theorem dX2_isSound_71 : decode cX2_isSound 71 = .ok (.goto (-37), 3) := by decide +kernel
theorem dX2_isSound_74 : decode cX2_isSound 74 = .ok (.iinc 2 1, 3) := by decide +kernel
theorem dX2_isSound_77 : decode cX2_isSound 77 = .ok (.goto (-73), 3) := by decide +kernel
theorem dX2_isSound_80 : decode cX2_isSound 80 = .ok (.iconst 0, 1) := by decide +kernel
theorem dX2_isSound_81 : decode cX2_isSound 81 = .ok (.istore_n 2, 1) := by decide +kernel
theorem dX2_isSound_82 : decode cX2_isSound 82 = .ok (.iload_n 2, 1) := by decide +kernel
theorem dX2_isSound_83 : decode cX2_isSound 83 = .ok (.iconst 4, 1) := by decide +kernel
theorem dX2_isSound_84 : decode cX2_isSound 84 = .ok (.if_icmp .ge 81, 3) := by decide +kernel
theorem dX2_isSound_87 : decode cX2_isSound 87 = .ok (.iload_n 1, 1) := by decide +kernel
theorem dX2_isSound_88 : decode cX2_isSound 88 = .ok (.ifCond .eq 19, 3) := by decide +kernel
theorem dX2_isSound_91 : decode cX2_isSound 91 = .ok (.aload_n 0, 1) := by decide +kernel
theorem dX2_isSound_92 : decode cX2_isSound 92 = .ok (.getfield 35, 3) := by decide +kernel
theorem dX2_isSound_95 : decode cX2_isSound 95 = .ok (.iload_n 2, 1) := by decide +kernel
theorem dX2_isSound_96 : decode cX2_isSound 96 = .ok (.laload, 1) := by decide +kernel
theorem dX2_isSound_97 : decode cX2_isSound 97 = .ok (.invokestatic 258, 3) := by decide +kernel
theorem dX2_isSound_100 : decode cX2_isSound 100 = .ok (.ifCond .eq 7, 3) := by decide +kernel
theorem dX2_isSound_103 : decode cX2_isSound 103 = .ok (.iconst 1, 1) := by decide +kernel
theorem dX2_isSound_104 : decode cX2_isSound 104 = .ok (.goto 4, 3) := by decide +kernel
theorem dX2_isSound_107 : decode cX2_isSound 107 = .ok (.iconst 0, 1) := by decide +kernel
theorem dX2_isSound_108 : decode cX2_isSound 108 = .ok (.istore_n 1, 1) := by decide +kernel
theorem dX2_isSound_109 : decode cX2_isSound 109 = .ok (.iconst 0, 1) := by decide +kernel
theorem dX2_isSound_110 : decode cX2_isSound 110 = .ok (.istore_n 3, 1) := by decide +kernel
theorem dX2_isSound_111 : decode cX2_isSound 111 = .ok (.iload_n 3, 1) := by decide +kernel
theorem dX2_isSound_112 : decode cX2_isSound 112 = .ok (.iconst 4, 1) := by decide +kernel
theorem dX2_isSound_113 : decode cX2_isSound 113 = .ok (.if_icmp .ge 46, 3) := by decide +kernel
theorem dX2_isSound_116 : decode cX2_isSound 116 = .ok (.iload_n 1, 1) := by decide +kernel
theorem dX2_isSound_117 : decode cX2_isSound 117 = .ok (.ifCond .eq 34, 3) := by decide +kernel
theorem dX2_isSound_120 : decode cX2_isSound 120 = .ok (.aload_n 0, 1) := by decide +kernel
theorem dX2_isSound_121 : decode cX2_isSound 121 = .ok (.getfield 26, 3) := by decide +kernel
theorem dX2_isSound_124 : decode cX2_isSound 124 = .ok (.iload_n 2, 1) := by decide +kernel
theorem dX2_isSound_125 : decode cX2_isSound 125 = .ok (.laload, 1) := by decide +kernel
theorem dX2_isSound_126 : decode cX2_isSound 126 = .ok (.aload_n 0, 1) := by decide +kernel
theorem dX2_isSound_127 : decode cX2_isSound 127 = .ok (.getfield 26, 3) := by decide +kernel
theorem dX2_isSound_130 : decode cX2_isSound 130 = .ok (.iload_n 3, 1) := by decide +kernel
theorem dX2_isSound_131 : decode cX2_isSound 131 = .ok (.laload, 1) := by decide +kernel
theorem dX2_isSound_132 : decode cX2_isSound 132 = .ok (.invokestatic 265, 3) := by decide +kernel
theorem dX2_isSound_135 : decode cX2_isSound 135 = .ok (.ifCond .eq 16, 3) := by decide +kernel
theorem dX2_isSound_138 : decode cX2_isSound 138 = .ok (.aload_n 0, 1) := by decide +kernel
theorem dX2_isSound_139 : decode cX2_isSound 139 = .ok (.iload_n 2, 1) := by decide +kernel
theorem dX2_isSound_140 : decode cX2_isSound 140 = .ok (.iload_n 3, 1) := by decide +kernel
theorem dX2_isSound_141 : decode cX2_isSound 141 = .ok (.invokevirtual 268, 3) := by decide +kernel
theorem dX2_isSound_144 : decode cX2_isSound 144 = .ok (.ifCond .eq 7, 3) := by decide +kernel
theorem dX2_isSound_147 : decode cX2_isSound 147 = .ok (.iconst 1, 1) := by decide +kernel
theorem dX2_isSound_148 : decode cX2_isSound 148 = .ok (.goto 4, 3) := by decide +kernel
theorem dX2_isSound_151 : decode cX2_isSound 151 = .ok (.iconst 0, 1) := by decide +kernel
theorem dX2_isSound_152 : decode cX2_isSound 152 = .ok (.istore_n 1, 1) := by decide +kernel
theorem dX2_isSound_153 : decode cX2_isSound 153 = .ok (.iinc 3 1, 3) := by decide +kernel
theorem dX2_isSound_156 : decode cX2_isSound 156 = .ok (.goto (-45), 3) := by decide +kernel
theorem dX2_isSound_159 : decode cX2_isSound 159 = .ok (.iinc 2 1, 3) := by decide +kernel
theorem dX2_isSound_162 : decode cX2_isSound 162 = .ok (.goto (-80), 3) := by decide +kernel
theorem dX2_isSound_165 : decode cX2_isSound 165 = .ok (.iload_n 1, 1) := by decide +kernel
theorem dX2_isSound_166 : decode cX2_isSound 166 = .ok (.ireturn, 1) := by decide +kernel
set_option maxRecDepth 20000 in
theorem ggX2_isSoundDay_X1_monthOfDay : GoodIn wsX2_isSoundDay wsX1_monthOfDay := goodIn_r _ [9, 10, 11, 12, 13, 14, 8, 15, 16, 17, 18, 19, 20, 21, 22, 23, 24, 25, 26, 27, 28, 29, 30, 31, 32, 33, 34, 35, 36, 37] (by decide +kernel) (by decide +kernel)
set_option maxRecDepth 20000 in
theorem gX2_isSoundDay_X1_monthOfDay : GoodIn wsX2_isSoundDay (va_wsS RX2 80 yX1_monthOfDay wsX1_monthOfDay) := goodIn_app (goodIn_of _ (by decide +kernel)) ggX2_isSoundDay_X1_monthOfDay
set_option maxRecDepth 20000 in
theorem ggX2_isSoundDay_X1_dayInMonth : GoodIn wsX2_isSoundDay wsX1_dayInMonth := goodIn_r _ [40, 41, 7, 8, 9, 10, 11, 12, 13, 14, 15, 16, 17, 18, 19, 20, 21, 22, 23, 24, 25, 26, 27, 28, 29, 30, 31, 32, 33, 34, 35, 36, 37, 42, 43, 44, 45, 46, 47, 48, 49, 50, 51, 52, 53, 54] (by decide +kernel) (by decide +kernel)
set_option maxRecDepth 20000 in
theorem gX2_isSoundDay_X1_dayInMonth : GoodIn wsX2_isSoundDay (va_wsS RX2 86 yX1_dayInMonth wsX1_dayInMonth) := goodIn_app (goodIn_of _ (by decide +kernel)) ggX2_isSoundDay_X1_dayInMonth
set_option maxRecDepth 20000 in
theorem ggX2_isSoundDay_X1_lengthOfMonth : GoodIn wsX2_isSoundDay wsX1_lengthOfMonth := goodIn_r _ [57, 49, 50, 8, 51, 10, 52, 53, 21, 54, 46, 47, 48, 19, 20, 22, 32, 33, 34, 27, 29, 16] (by decide +kernel) (by decide +kernel)
set_option maxRecDepth 20000 in
theorem gX2_isSoundDay_X1_lengthOfMonth : GoodIn wsX2_isSoundDay (va_wsS RX2 65 yX1_lengthOfMonth wsX1_lengthOfMonth) := goodIn_app (goodIn_of _ (by decide +kernel)) ggX2_isSoundDay_X1_lengthOfMonth
set_option maxRecDepth 20000 in
theorem ggX2_isSoundDay_X1_isDay : GoodIn wsX2_isSoundDay wsX1_isDay := goodIn_r _ [60, 61, 62] (by decide +kernel) (by decide +kernel)
set_option maxRecDepth 20000 in
theorem gX2_isSoundDay_X1_isDay : GoodIn wsX2_isSoundDay (va_wsS RX2 272 yX1_isDay wsX1_isDay) := goodIn_app (goodIn_of _ (by decide +kernel)) ggX2_isSoundDay_X1_isDay
set_option maxRecDepth 20000 in
theorem ggX2_isSoundDay_X2_isIn : GoodIn wsX2_isSoundDay wsX2_isIn := goodIn_r _ [66] (by decide +kernel) (by decide +kernel)
set_option maxRecDepth 20000 in
theorem gX2_isSoundDay_X2_isIn : GoodIn wsX2_isSoundDay (va_wsS RX2 55 yX2_isIn wsX2_isIn) := goodIn_app (goodIn_of _ (by decide +kernel)) ggX2_isSoundDay_X2_isIn
set_option maxRecDepth 20000 in
theorem ggX2_isSoundDay_X1_firstOfMonth : GoodIn wsX2_isSoundDay wsX1_firstOfMonth := goodIn_r _ [44, 45, 46, 47, 8, 48, 10, 19, 20, 21, 22, 49, 50, 51, 52, 53, 54, 32, 33, 34, 27, 29, 16, 23, 24, 25, 26, 28, 30, 31, 17] (by decide +kernel) (by decide +kernel)
set_option maxRecDepth 20000 in
theorem gX2_isSoundDay_X1_firstOfMonth : GoodIn wsX2_isSoundDay (va_wsS RX2 69 yX1_firstOfMonth wsX1_firstOfMonth) := goodIn_app (goodIn_of _ (by decide +kernel)) ggX2_isSoundDay_X1_firstOfMonth
set_option maxRecDepth 20000 in
theorem ggX2_isSoundDay_X1_weekdayOf : GoodIn wsX2_isSoundDay wsX1_weekdayOf := goodIn_r _ [70, 26, 71, 52, 53, 21, 54] (by decide +kernel) (by decide +kernel)
set_option maxRecDepth 20000 in
theorem gX2_isSoundDay_X1_weekdayOf : GoodIn wsX2_isSoundDay (va_wsS RX2 92 yX1_weekdayOf wsX1_weekdayOf) := goodIn_app (goodIn_of _ (by decide +kernel)) ggX2_isSoundDay_X1_weekdayOf
set_option maxRecDepth 20000 in
theorem ggX2_isSoundDay_X1_plusMonths : GoodIn wsX2_isSoundDay wsX1_plusMonths := goodIn_r _ [74, 41, 7, 8, 9, 10, 11, 12, 13, 14, 15, 16, 17, 18, 19, 20, 21, 22, 23, 24, 25, 26, 27, 28, 29, 30, 31, 32, 33, 34, 35, 36, 37, 42, 43, 44, 45, 46, 47, 48, 49, 50, 51, 52, 53, 54, 75, 76, 77, 78, 79, 3, 80, 81, 56, 57] (by decide +kernel) (by decide +kernel)
set_option maxRecDepth 20000 in
theorem gX2_isSoundDay_X1_plusMonths : GoodIn wsX2_isSoundDay (va_wsS RX2 123 yX1_plusMonths wsX1_plusMonths) := goodIn_app (goodIn_of _ (by decide +kernel)) ggX2_isSoundDay_X1_plusMonths
set_option maxRecDepth 20000 in
theorem ggX2_isSoundDay_X1_dayOrLast : GoodIn wsX2_isSoundDay wsX1_dayOrLast := goodIn_r _ [77, 78, 79, 3, 80, 42, 43, 8, 44, 45, 46, 47, 48, 10, 19, 20, 21, 22, 49, 50, 51, 52, 53, 54, 32, 33, 34, 27, 29, 16, 23, 24, 25, 26, 28, 30, 31, 17, 81, 56, 57] (by decide +kernel) (by decide +kernel)
set_option maxRecDepth 20000 in
theorem gX2_isSoundDay_X1_dayOrLast : GoodIn wsX2_isSoundDay (va_wsS RX2 145 yX1_dayOrLast wsX1_dayOrLast) := goodIn_app (goodIn_of _ (by decide +kernel)) ggX2_isSoundDay_X1_dayOrLast
theorem dX2_isSoundDay_0 : decode cX2_isSoundDay 0 = .ok (.lload_n 0, 1) := by decide +kernel
theorem dX2_isSoundDay_1 : decode cX2_isSoundDay 1 = .ok (.invokestatic 80, 3) := by decide +kernel
theorem dX2_isSoundDay_4 : decode cX2_isSoundDay 4 = .ok (.lstore_n 2, 1) := by decide +kernel
theorem dX2_isSoundDay_5 : decode cX2_isSoundDay 5 = .ok (.lload_n 0, 1) := by decide +kernel
theorem dX2_isSoundDay_6 : decode cX2_isSoundDay 6 = .ok (.invokestatic 86, 3) := by decide +kernel
theorem dX2_isSoundDay_9 : decode cX2_isSoundDay 9 = .ok (.istore 4, 2) := by decide +kernel
theorem dX2_isSoundDay_11 : decode cX2_isSoundDay 11 = .ok (.iload 4, 2) := by decide +kernel
theorem dX2_isSoundDay_13 : decode cX2_isSoundDay 13 = .ok (.lload_n 2, 1) := by decide +kernel
theorem dX2_isSoundDay_14 : decode cX2_isSoundDay 14 = .ok (.invokestatic 65, 3) := by decide +kernel
theorem dX2_isSoundDay_17 : decode cX2_isSoundDay 17 = .ok (.if_icmp .ne 7, 3) := by decide +kernel
theorem dX2_isSoundDay_20 : decode cX2_isSoundDay 20 = .ok (.iconst 1, 1) := by decide +kernel
theorem dX2_isSoundDay_21 : decode cX2_isSoundDay 21 = .ok (.goto 4, 3) := by decide +kernel
theorem dX2_isSoundDay_24 : decode cX2_isSoundDay 24 = .ok (.iconst 0, 1) := by decide +kernel
theorem dX2_isSoundDay_25 : decode cX2_isSoundDay 25 = .ok (.istore 5, 2) := by decide +kernel
theorem dX2_isSoundDay_27 : decode cX2_isSoundDay 27 = .ok (.lload_n 0, 1) := by decide +kernel
theorem dX2_isSoundDay_28 : decode cX2_isSoundDay 28 = .ok (.invokestatic 272, 3) := by decide +kernel
theorem dX2_isSoundDay_31 : decode cX2_isSoundDay 31 = .ok (.ifCond .eq 37, 3) := by decide +kernel
theorem dX2_isSoundDay_34 : decode cX2_isSoundDay 34 = .ok (.iload 4, 2) := by decide +kernel
theorem dX2_isSoundDay_36 : decode cX2_isSoundDay 36 = .ok (.i2l, 1) := by decide +kernel
theorem dX2_isSoundDay_37 : decode cX2_isSoundDay 37 = .ok (.lconst 1, 1) := by decide +kernel
theorem dX2_isSoundDay_38 : decode cX2_isSoundDay 38 = .ok (.lload_n 2, 1) := by decide +kernel
theorem dX2_isSoundDay_39 : decode cX2_isSoundDay 39 = .ok (.invokestatic 65, 3) := by decide +kernel
theorem dX2_isSoundDay_42 : decode cX2_isSoundDay 42 = .ok (.i2l, 1) := by decide +kernel
theorem dX2_isSoundDay_43 : decode cX2_isSoundDay 43 = .ok (.invokestatic 55, 3) := by decide +kernel
theorem dX2_isSoundDay_46 : decode cX2_isSoundDay 46 = .ok (.ifCond .eq 22, 3) := by decide +kernel
theorem dX2_isSoundDay_49 : decode cX2_isSoundDay 49 = .ok (.lload_n 2, 1) := by decide +kernel
theorem dX2_isSoundDay_50 : decode cX2_isSoundDay 50 = .ok (.invokestatic 69, 3) := by decide +kernel
theorem dX2_isSoundDay_53 : decode cX2_isSoundDay 53 = .ok (.iload 4, 2) := by decide +kernel
theorem dX2_isSoundDay_55 : decode cX2_isSoundDay 55 = .ok (.i2l, 1) := by decide +kernel
theorem dX2_isSoundDay_56 : decode cX2_isSoundDay 56 = .ok (.ladd, 1) := by decide +kernel
theorem dX2_isSoundDay_57 : decode cX2_isSoundDay 57 = .ok (.lconst 1, 1) := by decide +kernel
theorem dX2_isSoundDay_58 : decode cX2_isSoundDay 58 = .ok (.lsub, 1) := by decide +kernel
theorem dX2_isSoundDay_59 : decode cX2_isSoundDay 59 = .ok (.lload_n 0, 1) := by decide +kernel
theorem dX2_isSoundDay_60 : decode cX2_isSoundDay 60 = .ok (.lcmp, 1) := by decide +kernel
theorem dX2_isSoundDay_61 : decode cX2_isSoundDay 61 = .ok (.ifCond .ne 7, 3) := by decide +kernel
theorem dX2_isSoundDay_64 : decode cX2_isSoundDay 64 = .ok (.iconst 1, 1) := by decide +kernel
theorem dX2_isSoundDay_65 : decode cX2_isSoundDay 65 = .ok (.goto 4, 3) := by decide +kernel
theorem dX2_isSoundDay_68 : decode cX2_isSoundDay 68 = .ok (.iconst 0, 1) := by decide +kernel
theorem dX2_isSoundDay_69 : decode cX2_isSoundDay 69 = .ok (.istore 6, 2) := by decide +kernel
theorem dX2_isSoundDay_71 : decode cX2_isSoundDay 71 = .ok (.lload_n 0, 1) := by decide +kernel
theorem dX2_isSoundDay_72 : decode cX2_isSoundDay 72 = .ok (.lconst 1, 1) := by decide +kernel
theorem dX2_isSoundDay_73 : decode cX2_isSoundDay 73 = .ok (.ladd, 1) := by decide +kernel
theorem dX2_isSoundDay_74 : decode cX2_isSoundDay 74 = .ok (.invokestatic 80, 3) := by decide +kernel
theorem dX2_isSoundDay_77 : decode cX2_isSoundDay 77 = .ok (.iload 5, 2) := by decide +kernel
theorem dX2_isSoundDay_79 : decode cX2_isSoundDay 79 = .ok (.ifCond .eq 9, 3) := by decide +kernel
theorem dX2_isSoundDay_82 : decode cX2_isSoundDay 82 = .ok (.lload_n 2, 1) := by decide +kernel
theorem dX2_isSoundDay_83 : decode cX2_isSoundDay 83 = .ok (.lconst 1, 1) := by decide +kernel
theorem dX2_isSoundDay_84 : decode cX2_isSoundDay 84 = .ok (.ladd, 1) := by decide +kernel
theorem dX2_isSoundDay_85 : decode cX2_isSoundDay 85 = .ok (.goto 4, 3) := by decide +kernel
theorem dX2_isSoundDay_88 : decode cX2_isSoundDay 88 = .ok (.lload_n 2, 1) := by decide +kernel
theorem dX2_isSoundDay_89 : decode cX2_isSoundDay 89 = .ok (.lcmp, 1) := by decide +kernel
theorem dX2_isSoundDay_90 : decode cX2_isSoundDay 90 = .ok (.ifCond .ne 47, 3) := by decide +kernel
theorem dX2_isSoundDay_93 : decode cX2_isSoundDay 93 = .ok (.lload_n 0, 1) := by decide +kernel
theorem dX2_isSoundDay_94 : decode cX2_isSoundDay 94 = .ok (.lconst 1, 1) := by decide +kernel
theorem dX2_isSoundDay_95 : decode cX2_isSoundDay 95 = .ok (.ladd, 1) := by decide +kernel
theorem dX2_isSoundDay_96 : decode cX2_isSoundDay 96 = .ok (.invokestatic 86, 3) := by decide +kernel
theorem dX2_isSoundDay_99 : decode cX2_isSoundDay 99 = .ok (.iload 5, 2) := by decide +kernel
theorem dX2_isSoundDay_101 : decode cX2_isSoundDay 101 = .ok (.ifCond .eq 7, 3) := by decide +kernel
theorem dX2_isSoundDay_104 : decode cX2_isSoundDay 104 = .ok (.iconst 1, 1) := by decide +kernel
theorem dX2_isSoundDay_105 : decode cX2_isSoundDay 105 = .ok (.goto 7, 3) := by decide +kernel
theorem dX2_isSoundDay_108 : decode cX2_isSoundDay 108 = .ok (.iload 4, 2) := by decide +kernel
theorem dX2_isSoundDay_110 : decode cX2_isSoundDay 110 = .ok (.iconst 1, 1) := by decide +kernel
theorem dX2_isSoundDay_111 : decode cX2_isSoundDay 111 = .ok (.iadd, 1) := by decide +kernel
theorem dX2_isSoundDay_112 : decode cX2_isSoundDay 112 = .ok (.if_icmp .ne 25, 3) := by decide +kernel
theorem dX2_isSoundDay_115 : decode cX2_isSoundDay 115 = .ok (.lload_n 0, 1) := by decide +kernel
theorem dX2_isSoundDay_116 : decode cX2_isSoundDay 116 = .ok (.lconst 1, 1) := by decide +kernel
theorem dX2_isSoundDay_117 : decode cX2_isSoundDay 117 = .ok (.ladd, 1) := by decide +kernel
theorem dX2_isSoundDay_118 : decode cX2_isSoundDay 118 = .ok (.invokestatic 92, 3) := by decide +kernel
theorem dX2_isSoundDay_121 : decode cX2_isSoundDay 121 = .ok (.lload_n 0, 1) := by decide +kernel
theorem dX2_isSoundDay_122 : decode cX2_isSoundDay 122 = .ok (.invokestatic 92, 3) := by decide +kernel
theorem dX2_isSoundDay_125 : decode cX2_isSoundDay 125 = .ok (.bipush 7, 2) := by decide +kernel
theorem dX2_isSoundDay_127 : decode cX2_isSoundDay 127 = .ok (.irem, 1) := by decide +kernel
theorem dX2_isSoundDay_128 : decode cX2_isSoundDay 128 = .ok (.iconst 1, 1) := by decide +kernel
theorem dX2_isSoundDay_129 : decode cX2_isSoundDay 129 = .ok (.iadd, 1) := by decide +kernel
theorem dX2_isSoundDay_130 : decode cX2_isSoundDay 130 = .ok (.if_icmp .ne 7, 3) := by decide +kernel
theorem dX2_isSoundDay_133 : decode cX2_isSoundDay 133 = .ok (.iconst 1, 1) := by decide +kernel
theorem dX2_isSoundDay_134 : decode cX2_isSoundDay 134 = .ok (.goto 4, 3) := by decide +kernel
theorem dX2_isSoundDay_137 : decode cX2_isSoundDay 137 = .ok (.iconst 0, 1) := by decide +kernel
theorem dX2_isSoundDay_138 : decode cX2_isSoundDay 138 = .ok (.istore 7, 2) := by decide +kernel
theorem dX2_isSoundDay_140 : decode cX2_isSoundDay 140 = .ok (.lload_n 0, 1) := by decide +kernel
theorem dX2_isSoundDay_141 : decode cX2_isSoundDay 141 = .ok (.lconst 1, 1) := by decide +kernel
theorem dX2_isSoundDay_142 : decode cX2_isSoundDay 142 = .ok (.invokestatic 123, 3) := by decide +kernel
theorem dX2_isSoundDay_145 : decode cX2_isSoundDay 145 = .ok (.lstore 8, 2) := by decide +kernel
theorem dX2_isSoundDay_147 : decode cX2_isSoundDay 147 = .ok (.lload_n 2, 1) := by decide +kernel
theorem dX2_isSoundDay_148 : decode cX2_isSoundDay 148 = .ok (.iload 4, 2) := by decide +kernel
theorem dX2_isSoundDay_150 : decode cX2_isSoundDay 150 = .ok (.lload_n 2, 1) := by decide +kernel
theorem dX2_isSoundDay_151 : decode cX2_isSoundDay 151 = .ok (.lconst 1, 1) := by decide +kernel
theorem dX2_isSoundDay_152 : decode cX2_isSoundDay 152 = .ok (.ladd, 1) := by decide +kernel
theorem dX2_isSoundDay_153 : decode cX2_isSoundDay 153 = .ok (.invokestatic 65, 3) := by decide +kernel
theorem dX2_isSoundDay_156 : decode cX2_isSoundDay 156 = .ok (.invokestatic 275, 3) := by decide +kernel
theorem dX2_isSoundDay_159 : decode cX2_isSoundDay 159 = .ok (.i2l, 1) := by decide +kernel
theorem dX2_isSoundDay_160 : decode cX2_isSoundDay 160 = .ok (.invokestatic 145, 3) := by decide +kernel
theorem dX2_isSoundDay_163 : decode cX2_isSoundDay 163 = .ok (.lstore 10, 2) := by decide +kernel
theorem dX2_isSoundDay_165 : decode cX2_isSoundDay 165 = .ok (.iload 6, 2) := by decide +kernel
theorem dX2_isSoundDay_167 : decode cX2_isSoundDay 167 = .ok (.ifCond .eq 26, 3) := by decide +kernel
theorem dX2_isSoundDay_170 : decode cX2_isSoundDay 170 = .ok (.iload 7, 2) := by decide +kernel
theorem dX2_isSoundDay_172 : decode cX2_isSoundDay 172 = .ok (.ifCond .eq 21, 3) := by decide +kernel
theorem dX2_isSoundDay_175 : decode cX2_isSoundDay 175 = .ok (.lload 8, 2) := by decide +kernel
theorem dX2_isSoundDay_177 : decode cX2_isSoundDay 177 = .ok (.ldc2_w 173, 3) := by decide +kernel
theorem dX2_isSoundDay_180 : decode cX2_isSoundDay 180 = .ok (.invokestatic 123, 3) := by decide +kernel
theorem dX2_isSoundDay_183 : decode cX2_isSoundDay 183 = .ok (.lload 10, 2) := by decide +kernel
theorem dX2_isSoundDay_185 : decode cX2_isSoundDay 185 = .ok (.lcmp, 1) := by decide +kernel
theorem dX2_isSoundDay_186 : decode cX2_isSoundDay 186 = .ok (.ifCond .ne 7, 3) := by decide +kernel
theorem dX2_isSoundDay_189 : decode cX2_isSoundDay 189 = .ok (.iconst 1, 1) := by decide +kernel
theorem dX2_isSoundDay_190 : decode cX2_isSoundDay 190 = .ok (.goto 4, 3) := by decide +kernel
theorem dX2_isSoundDay_193 : decode cX2_isSoundDay 193 = .ok (.iconst 0, 1) := by decide +kernel
theorem dX2_isSoundDay_194 : decode cX2_isSoundDay 194 = .ok (.ireturn, 1) := by decide +kernel
set_option maxRecDepth 20000 in
theorem ggX2_isSoundWay_X1_wholeMonths : GoodIn wsX2_isSoundWay wsX1_wholeMonths := goodIn_r _ [5, 6, 7, 8, 9, 10, 11, 12, 13, 14, 4, 15, 16, 17, 18, 19, 20, 21, 22, 23, 24, 25, 26, 27, 28, 29, 30, 31, 32, 33, 34, 35, 36, 37, 38, 39, 40, 41, 42, 43, 44, 45, 46, 47, 48, 49, 50, 51, 52, 53, 54, 55, 56] (by decide +kernel) (by decide +kernel)
set_option maxRecDepth 20000 in
theorem gX2_isSoundWay_X1_wholeMonths : GoodIn wsX2_isSoundWay (va_wsS RX2 152 yX1_wholeMonths wsX1_wholeMonths) := goodIn_app (goodIn_of _ (by decide +kernel)) ggX2_isSoundWay_X1_wholeMonths
set_option maxRecDepth 20000 in
theorem ggX2_isSoundWay_X1_plusMonths : GoodIn wsX2_isSoundWay wsX1_plusMonths := goodIn_r _ [59, 13, 14, 4, 15, 16, 17, 18, 19, 20, 21, 22, 23, 24, 25, 26, 27, 28, 29, 30, 31, 32, 33, 34, 35, 36, 37, 38, 39, 40, 41, 42, 43, 44, 45, 46, 47, 48, 49, 50, 51, 52, 53, 54, 55, 56, 60, 61, 62, 6, 7, 8, 9, 63, 64, 65] (by decide +kernel) (by decide +kernel)
set_option maxRecDepth 20000 in
theorem gX2_isSoundWay_X1_plusMonths : GoodIn wsX2_isSoundWay (va_wsS RX2 123 yX1_plusMonths wsX1_plusMonths) := goodIn_app (goodIn_of _ (by decide +kernel)) ggX2_isSoundWay_X1_plusMonths
theorem dX2_isSoundWay_0 : decode cX2_isSoundWay 0 = .ok (.lload_n 0, 1) := by decide +kernel
theorem dX2_isSoundWay_1 : decode cX2_isSoundWay 1 = .ok (.lload_n 2, 1) := by decide +kernel
theorem dX2_isSoundWay_2 : decode cX2_isSoundWay 2 = .ok (.invokestatic 152, 3) := by decide +kernel
theorem dX2_isSoundWay_5 : decode cX2_isSoundWay 5 = .ok (.lstore 4, 2) := by decide +kernel
theorem dX2_isSoundWay_7 : decode cX2_isSoundWay 7 = .ok (.lload_n 2, 1) := by decide +kernel
theorem dX2_isSoundWay_8 : decode cX2_isSoundWay 8 = .ok (.lload_n 0, 1) := by decide +kernel
theorem dX2_isSoundWay_9 : decode cX2_isSoundWay 9 = .ok (.lcmp, 1) := by decide +kernel
theorem dX2_isSoundWay_10 : decode cX2_isSoundWay 10 = .ok (.ifCond .ge 28, 3) := by decide +kernel
theorem dX2_isSoundWay_13 : decode cX2_isSoundWay 13 = .ok (.lload 4, 2) := by decide +kernel
theorem dX2_isSoundWay_15 : decode cX2_isSoundWay 15 = .ok (.lconst 0, 1) := by decide +kernel
theorem dX2_isSoundWay_16 : decode cX2_isSoundWay 16 = .ok (.lcmp, 1) := by decide +kernel
theorem dX2_isSoundWay_17 : decode cX2_isSoundWay 17 = .ok (.ifCond .gt 19, 3) := by decide +kernel
theorem dX2_isSoundWay_20 : decode cX2_isSoundWay 20 = .ok (.lload 4, 2) := by decide +kernel
theorem dX2_isSoundWay_22 : decode cX2_isSoundWay 22 = .ok (.lload_n 2, 1) := by decide +kernel
theorem dX2_isSoundWay_23 : decode cX2_isSoundWay 23 = .ok (.lload_n 0, 1) := by decide +kernel
theorem dX2_isSoundWay_24 : decode cX2_isSoundWay 24 = .ok (.invokestatic 152, 3) := by decide +kernel
theorem dX2_isSoundWay_27 : decode cX2_isSoundWay 27 = .ok (.lneg, 1) := by decide +kernel
theorem dX2_isSoundWay_28 : decode cX2_isSoundWay 28 = .ok (.lcmp, 1) := by decide +kernel
theorem dX2_isSoundWay_29 : decode cX2_isSoundWay 29 = .ok (.ifCond .ne 7, 3) := by decide +kernel
theorem dX2_isSoundWay_32 : decode cX2_isSoundWay 32 = .ok (.iconst 1, 1) := by decide +kernel
theorem dX2_isSoundWay_33 : decode cX2_isSoundWay 33 = .ok (.goto 4, 3) := by decide +kernel
theorem dX2_isSoundWay_36 : decode cX2_isSoundWay 36 = .ok (.iconst 0, 1) := by decide +kernel
theorem dX2_isSoundWay_37 : decode cX2_isSoundWay 37 = .ok (.ireturn, 1) := by decide +kernel
theorem dX2_isSoundWay_38 : decode cX2_isSoundWay 38 = .ok (.lload_n 0, 1) := by decide +kernel
theorem dX2_isSoundWay_39 : decode cX2_isSoundWay 39 = .ok (.lload 4, 2) := by decide +kernel
theorem dX2_isSoundWay_41 : decode cX2_isSoundWay 41 = .ok (.invokestatic 123, 3) := by decide +kernel
theorem dX2_isSoundWay_44 : decode cX2_isSoundWay 44 = .ok (.lstore 6, 2) := by decide +kernel
theorem dX2_isSoundWay_46 : decode cX2_isSoundWay 46 = .ok (.lload 4, 2) := by decide +kernel
theorem dX2_isSoundWay_48 : decode cX2_isSoundWay 48 = .ok (.lconst 0, 1) := by decide +kernel
theorem dX2_isSoundWay_49 : decode cX2_isSoundWay 49 = .ok (.lcmp, 1) := by decide +kernel
theorem dX2_isSoundWay_50 : decode cX2_isSoundWay 50 = .ok (.ifCond .lt 25, 3) := by decide +kernel
theorem dX2_isSoundWay_53 : decode cX2_isSoundWay 53 = .ok (.lload 6, 2) := by decide +kernel
theorem dX2_isSoundWay_55 : decode cX2_isSoundWay 55 = .ok (.lload_n 2, 1) := by decide +kernel
theorem dX2_isSoundWay_56 : decode cX2_isSoundWay 56 = .ok (.lcmp, 1) := by decide +kernel
theorem dX2_isSoundWay_57 : decode cX2_isSoundWay 57 = .ok (.ifCond .gt 18, 3) := by decide +kernel
theorem dX2_isSoundWay_60 : decode cX2_isSoundWay 60 = .ok (.lload_n 2, 1) := by decide +kernel
theorem dX2_isSoundWay_61 : decode cX2_isSoundWay 61 = .ok (.lload 6, 2) := by decide +kernel
theorem dX2_isSoundWay_63 : decode cX2_isSoundWay 63 = .ok (.lsub, 1) := by decide +kernel
theorem dX2_isSoundWay_64 : decode cX2_isSoundWay 64 = .ok (.ldc2_w 256, 3) := by decide +kernel
theorem dX2_isSoundWay_67 : decode cX2_isSoundWay 67 = .ok (.lcmp, 1) := by decide +kernel
theorem dX2_isSoundWay_68 : decode cX2_isSoundWay 68 = .ok (.ifCond .ge 7, 3) := by decide +kernel
theorem dX2_isSoundWay_71 : decode cX2_isSoundWay 71 = .ok (.iconst 1, 1) := by decide +kernel
theorem dX2_isSoundWay_72 : decode cX2_isSoundWay 72 = .ok (.goto 4, 3) := by decide +kernel
theorem dX2_isSoundWay_75 : decode cX2_isSoundWay 75 = .ok (.iconst 0, 1) := by decide +kernel
theorem dX2_isSoundWay_76 : decode cX2_isSoundWay 76 = .ok (.ireturn, 1) := by decide +kernel
set_option maxRecDepth 20000 in
theorem ggX2_isSoundTimeWay_J9_floorDiv_f86c9 : GoodIn wsX2_isSoundTimeWay wsJ9_floorDiv_f86c9 := goodIn_r _ [6] (by decide +kernel) (by decide +kernel)
set_option maxRecDepth 20000 in
theorem gX2_isSoundTimeWay_J9_floorDiv_f86c9 : GoodIn wsX2_isSoundTimeWay (va_wsS RX2 281 yJ9_floorDiv_f86c9 wsJ9_floorDiv_f86c9) := goodIn_app (goodIn_of _ (by decide +kernel)) ggX2_isSoundTimeWay_J9_floorDiv_f86c9
set_option maxRecDepth 20000 in
theorem ggX2_isSoundTimeWay_J9_floorMod_f86c9 : GoodIn wsX2_isSoundTimeWay wsJ9_floorMod_f86c9 := goodIn_r _ [9] (by decide +kernel) (by decide +kernel)
set_option maxRecDepth 20000 in
theorem gX2_isSoundTimeWay_J9_floorMod_f86c9 : GoodIn wsX2_isSoundTimeWay (va_wsS RX2 284 yJ9_floorMod_f86c9 wsJ9_floorMod_f86c9) := goodIn_app (goodIn_of _ (by decide +kernel)) ggX2_isSoundTimeWay_J9_floorMod_f86c9
set_option maxRecDepth 20000 in
theorem ggX2_isSoundTimeWay_X0_restOfDay : GoodIn wsX2_isSoundTimeWay wsX0_restOfDay := goodIn_r _ [13, 14, 15, 8, 5, 9] (by decide +kernel) (by decide +kernel)
set_option maxRecDepth 20000 in
theorem gX2_isSoundTimeWay_X0_restOfDay : GoodIn wsX2_isSoundTimeWay (va_wsS RX2 213 yX0_restOfDay wsX0_restOfDay) := goodIn_app (goodIn_of _ (by decide +kernel)) ggX2_isSoundTimeWay_X0_restOfDay
set_option maxRecDepth 20000 in
theorem ggX2_isSoundTimeWay_X0_roundDay : GoodIn wsX2_isSoundTimeWay wsX0_roundDay := goodIn_r _ [18, 14, 15, 8, 5, 9] (by decide +kernel) (by decide +kernel)
set_option maxRecDepth 20000 in
theorem gX2_isSoundTimeWay_X0_roundDay : GoodIn wsX2_isSoundTimeWay (va_wsS RX2 216 yX0_roundDay wsX0_roundDay) := goodIn_app (goodIn_of _ (by decide +kernel)) ggX2_isSoundTimeWay_X0_roundDay
theorem dX2_isSoundTimeWay_0 : decode cX2_isSoundTimeWay 0 = .ok (.lload_n 2, 1) := by decide +kernel
theorem dX2_isSoundTimeWay_1 : decode cX2_isSoundTimeWay 1 = .ok (.lload_n 0, 1) := by decide +kernel
theorem dX2_isSoundTimeWay_2 : decode cX2_isSoundTimeWay 2 = .ok (.lsub, 1) := by decide +kernel
theorem dX2_isSoundTimeWay_3 : decode cX2_isSoundTimeWay 3 = .ok (.ldc2_w 197, 3) := by decide +kernel
theorem dX2_isSoundTimeWay_6 : decode cX2_isSoundTimeWay 6 = .ok (.invokestatic 281, 3) := by decide +kernel
theorem dX2_isSoundTimeWay_9 : decode cX2_isSoundTimeWay 9 = .ok (.lstore 4, 2) := by decide +kernel
theorem dX2_isSoundTimeWay_11 : decode cX2_isSoundTimeWay 11 = .ok (.lload_n 2, 1) := by decide +kernel
theorem dX2_isSoundTimeWay_12 : decode cX2_isSoundTimeWay 12 = .ok (.lload_n 0, 1) := by decide +kernel
theorem dX2_isSoundTimeWay_13 : decode cX2_isSoundTimeWay 13 = .ok (.lsub, 1) := by decide +kernel
theorem dX2_isSoundTimeWay_14 : decode cX2_isSoundTimeWay 14 = .ok (.ldc2_w 197, 3) := by decide +kernel
theorem dX2_isSoundTimeWay_17 : decode cX2_isSoundTimeWay 17 = .ok (.invokestatic 284, 3) := by decide +kernel
theorem dX2_isSoundTimeWay_20 : decode cX2_isSoundTimeWay 20 = .ok (.lstore 6, 2) := by decide +kernel
theorem dX2_isSoundTimeWay_22 : decode cX2_isSoundTimeWay 22 = .ok (.lload_n 0, 1) := by decide +kernel
theorem dX2_isSoundTimeWay_23 : decode cX2_isSoundTimeWay 23 = .ok (.lload 4, 2) := by decide +kernel
theorem dX2_isSoundTimeWay_25 : decode cX2_isSoundTimeWay 25 = .ok (.ldc2_w 221, 3) := by decide +kernel
theorem dX2_isSoundTimeWay_28 : decode cX2_isSoundTimeWay 28 = .ok (.invokestatic 213, 3) := by decide +kernel
theorem dX2_isSoundTimeWay_31 : decode cX2_isSoundTimeWay 31 = .ok (.ladd, 1) := by decide +kernel
theorem dX2_isSoundTimeWay_32 : decode cX2_isSoundTimeWay 32 = .ok (.lload 6, 2) := by decide +kernel
theorem dX2_isSoundTimeWay_34 : decode cX2_isSoundTimeWay 34 = .ok (.ladd, 1) := by decide +kernel
theorem dX2_isSoundTimeWay_35 : decode cX2_isSoundTimeWay 35 = .ok (.invokestatic 216, 3) := by decide +kernel
theorem dX2_isSoundTimeWay_38 : decode cX2_isSoundTimeWay 38 = .ok (.lload_n 2, 1) := by decide +kernel
theorem dX2_isSoundTimeWay_39 : decode cX2_isSoundTimeWay 39 = .ok (.lcmp, 1) := by decide +kernel
theorem dX2_isSoundTimeWay_40 : decode cX2_isSoundTimeWay 40 = .ok (.ifCond .ne 7, 3) := by decide +kernel
theorem dX2_isSoundTimeWay_43 : decode cX2_isSoundTimeWay 43 = .ok (.iconst 1, 1) := by decide +kernel
theorem dX2_isSoundTimeWay_44 : decode cX2_isSoundTimeWay 44 = .ok (.goto 4, 3) := by decide +kernel
theorem dX2_isSoundTimeWay_47 : decode cX2_isSoundTimeWay 47 = .ok (.iconst 0, 1) := by decide +kernel
theorem dX2_isSoundTimeWay_48 : decode cX2_isSoundTimeWay 48 = .ok (.ireturn, 1) := by decide +kernel
set_option maxRecDepth 20000 in
theorem ggX2_isSoundMomentWay_J9_floorDiv_f86c9 : GoodIn wsX2_isSoundMomentWay wsJ9_floorDiv_f86c9 := goodIn_r _ [9] (by decide +kernel) (by decide +kernel)
set_option maxRecDepth 20000 in
theorem gX2_isSoundMomentWay_J9_floorDiv_f86c9 : GoodIn wsX2_isSoundMomentWay (va_wsS RX2 281 yJ9_floorDiv_f86c9 wsJ9_floorDiv_f86c9) := goodIn_app (goodIn_of _ (by decide +kernel)) ggX2_isSoundMomentWay_J9_floorDiv_f86c9
set_option maxRecDepth 20000 in
theorem ggX2_isSoundMomentWay_X0_daysOf : GoodIn wsX2_isSoundMomentWay wsX0_daysOf := goodIn_r _ [13, 14, 7, 8, 9] (by decide +kernel) (by decide +kernel)
set_option maxRecDepth 20000 in
theorem gX2_isSoundMomentWay_X0_daysOf : GoodIn wsX2_isSoundMomentWay (va_wsS RX2 240 yX0_daysOf wsX0_daysOf) := goodIn_app (goodIn_of _ (by decide +kernel)) ggX2_isSoundMomentWay_X0_daysOf
set_option maxRecDepth 20000 in
theorem ggX2_isSoundMomentWay_X0_restOfDay : GoodIn wsX2_isSoundMomentWay wsX0_restOfDay := goodIn_r _ [17, 18, 19, 20, 8, 21] (by decide +kernel) (by decide +kernel)
set_option maxRecDepth 20000 in
theorem gX2_isSoundMomentWay_X0_restOfDay : GoodIn wsX2_isSoundMomentWay (va_wsS RX2 213 yX0_restOfDay wsX0_restOfDay) := goodIn_app (goodIn_of _ (by decide +kernel)) ggX2_isSoundMomentWay_X0_restOfDay
set_option maxRecDepth 20000 in
theorem ggX2_isSoundMomentWay_J9_floorMod_f86c9 : GoodIn wsX2_isSoundMomentWay wsJ9_floorMod_f86c9 := goodIn_r _ [21] (by decide +kernel) (by decide +kernel)
set_option maxRecDepth 20000 in
theorem gX2_isSoundMomentWay_J9_floorMod_f86c9 : GoodIn wsX2_isSoundMomentWay (va_wsS RX2 284 yJ9_floorMod_f86c9 wsJ9_floorMod_f86c9) := goodIn_app (goodIn_of _ (by decide +kernel)) ggX2_isSoundMomentWay_J9_floorMod_f86c9
set_option maxRecDepth 20000 in
theorem ggX2_isSoundMomentWay_X0_roundDay : GoodIn wsX2_isSoundMomentWay wsX0_roundDay := goodIn_r _ [25, 18, 19, 20, 8, 21] (by decide +kernel) (by decide +kernel)
set_option maxRecDepth 20000 in
theorem gX2_isSoundMomentWay_X0_roundDay : GoodIn wsX2_isSoundMomentWay (va_wsS RX2 216 yX0_roundDay wsX0_roundDay) := goodIn_app (goodIn_of _ (by decide +kernel)) ggX2_isSoundMomentWay_X0_roundDay
theorem dX2_isSoundMomentWay_0 : decode cX2_isSoundMomentWay 0 = .ok (.aload_n 0, 1) := by decide +kernel
theorem dX2_isSoundMomentWay_1 : decode cX2_isSoundMomentWay 1 = .ok (.getfield 35, 3) := by decide +kernel
theorem dX2_isSoundMomentWay_4 : decode cX2_isSoundMomentWay 4 = .ok (.iload_n 2, 1) := by decide +kernel
theorem dX2_isSoundMomentWay_5 : decode cX2_isSoundMomentWay 5 = .ok (.laload, 1) := by decide +kernel
theorem dX2_isSoundMomentWay_6 : decode cX2_isSoundMomentWay 6 = .ok (.aload_n 0, 1) := by decide +kernel
theorem dX2_isSoundMomentWay_7 : decode cX2_isSoundMomentWay 7 = .ok (.getfield 35, 3) := by decide +kernel
theorem dX2_isSoundMomentWay_10 : decode cX2_isSoundMomentWay 10 = .ok (.iload_n 1, 1) := by decide +kernel
theorem dX2_isSoundMomentWay_11 : decode cX2_isSoundMomentWay 11 = .ok (.laload, 1) := by decide +kernel
theorem dX2_isSoundMomentWay_12 : decode cX2_isSoundMomentWay 12 = .ok (.lsub, 1) := by decide +kernel
theorem dX2_isSoundMomentWay_13 : decode cX2_isSoundMomentWay 13 = .ok (.lstore_n 3, 1) := by decide +kernel
theorem dX2_isSoundMomentWay_14 : decode cX2_isSoundMomentWay 14 = .ok (.aload_n 0, 1) := by decide +kernel
theorem dX2_isSoundMomentWay_15 : decode cX2_isSoundMomentWay 15 = .ok (.getfield 38, 3) := by decide +kernel
theorem dX2_isSoundMomentWay_18 : decode cX2_isSoundMomentWay 18 = .ok (.iload_n 2, 1) := by decide +kernel
theorem dX2_isSoundMomentWay_19 : decode cX2_isSoundMomentWay 19 = .ok (.laload, 1) := by decide +kernel
theorem dX2_isSoundMomentWay_20 : decode cX2_isSoundMomentWay 20 = .ok (.aload_n 0, 1) := by decide +kernel
theorem dX2_isSoundMomentWay_21 : decode cX2_isSoundMomentWay 21 = .ok (.getfield 38, 3) := by decide +kernel
theorem dX2_isSoundMomentWay_24 : decode cX2_isSoundMomentWay 24 = .ok (.iload_n 1, 1) := by decide +kernel
theorem dX2_isSoundMomentWay_25 : decode cX2_isSoundMomentWay 25 = .ok (.laload, 1) := by decide +kernel
theorem dX2_isSoundMomentWay_26 : decode cX2_isSoundMomentWay 26 = .ok (.lsub, 1) := by decide +kernel
theorem dX2_isSoundMomentWay_27 : decode cX2_isSoundMomentWay 27 = .ok (.lstore 5, 2) := by decide +kernel
theorem dX2_isSoundMomentWay_29 : decode cX2_isSoundMomentWay 29 = .ok (.lload_n 3, 1) := by decide +kernel
theorem dX2_isSoundMomentWay_30 : decode cX2_isSoundMomentWay 30 = .ok (.ldc2_w 221, 3) := by decide +kernel
theorem dX2_isSoundMomentWay_33 : decode cX2_isSoundMomentWay 33 = .ok (.lmul, 1) := by decide +kernel
theorem dX2_isSoundMomentWay_34 : decode cX2_isSoundMomentWay 34 = .ok (.lload 5, 2) := by decide +kernel
theorem dX2_isSoundMomentWay_36 : decode cX2_isSoundMomentWay 36 = .ok (.ldc2_w 197, 3) := by decide +kernel
theorem dX2_isSoundMomentWay_39 : decode cX2_isSoundMomentWay 39 = .ok (.invokestatic 281, 3) := by decide +kernel
theorem dX2_isSoundMomentWay_42 : decode cX2_isSoundMomentWay 42 = .ok (.ladd, 1) := by decide +kernel
theorem dX2_isSoundMomentWay_43 : decode cX2_isSoundMomentWay 43 = .ok (.lstore 7, 2) := by decide +kernel
theorem dX2_isSoundMomentWay_45 : decode cX2_isSoundMomentWay 45 = .ok (.aload_n 0, 1) := by decide +kernel
theorem dX2_isSoundMomentWay_46 : decode cX2_isSoundMomentWay 46 = .ok (.getfield 35, 3) := by decide +kernel
theorem dX2_isSoundMomentWay_49 : decode cX2_isSoundMomentWay 49 = .ok (.iload_n 1, 1) := by decide +kernel
theorem dX2_isSoundMomentWay_50 : decode cX2_isSoundMomentWay 50 = .ok (.laload, 1) := by decide +kernel
theorem dX2_isSoundMomentWay_51 : decode cX2_isSoundMomentWay 51 = .ok (.lload 7, 2) := by decide +kernel
theorem dX2_isSoundMomentWay_53 : decode cX2_isSoundMomentWay 53 = .ok (.ldc2_w 221, 3) := by decide +kernel
theorem dX2_isSoundMomentWay_56 : decode cX2_isSoundMomentWay 56 = .ok (.invokestatic 240, 3) := by decide +kernel
theorem dX2_isSoundMomentWay_59 : decode cX2_isSoundMomentWay 59 = .ok (.ladd, 1) := by decide +kernel
theorem dX2_isSoundMomentWay_60 : decode cX2_isSoundMomentWay 60 = .ok (.lstore 9, 2) := by decide +kernel
theorem dX2_isSoundMomentWay_62 : decode cX2_isSoundMomentWay 62 = .ok (.aload_n 0, 1) := by decide +kernel
theorem dX2_isSoundMomentWay_63 : decode cX2_isSoundMomentWay 63 = .ok (.getfield 38, 3) := by decide +kernel
theorem dX2_isSoundMomentWay_66 : decode cX2_isSoundMomentWay 66 = .ok (.iload_n 1, 1) := by decide +kernel
theorem dX2_isSoundMomentWay_67 : decode cX2_isSoundMomentWay 67 = .ok (.laload, 1) := by decide +kernel
theorem dX2_isSoundMomentWay_68 : decode cX2_isSoundMomentWay 68 = .ok (.lload 7, 2) := by decide +kernel
theorem dX2_isSoundMomentWay_70 : decode cX2_isSoundMomentWay 70 = .ok (.ldc2_w 221, 3) := by decide +kernel
theorem dX2_isSoundMomentWay_73 : decode cX2_isSoundMomentWay 73 = .ok (.invokestatic 213, 3) := by decide +kernel
theorem dX2_isSoundMomentWay_76 : decode cX2_isSoundMomentWay 76 = .ok (.ladd, 1) := by decide +kernel
theorem dX2_isSoundMomentWay_77 : decode cX2_isSoundMomentWay 77 = .ok (.lload 5, 2) := by decide +kernel
theorem dX2_isSoundMomentWay_79 : decode cX2_isSoundMomentWay 79 = .ok (.ldc2_w 197, 3) := by decide +kernel
theorem dX2_isSoundMomentWay_82 : decode cX2_isSoundMomentWay 82 = .ok (.invokestatic 284, 3) := by decide +kernel
theorem dX2_isSoundMomentWay_85 : decode cX2_isSoundMomentWay 85 = .ok (.ladd, 1) := by decide +kernel
theorem dX2_isSoundMomentWay_86 : decode cX2_isSoundMomentWay 86 = .ok (.lstore 11, 2) := by decide +kernel
theorem dX2_isSoundMomentWay_88 : decode cX2_isSoundMomentWay 88 = .ok (.lload 9, 2) := by decide +kernel
theorem dX2_isSoundMomentWay_90 : decode cX2_isSoundMomentWay 90 = .ok (.lload 11, 2) := by decide +kernel
theorem dX2_isSoundMomentWay_92 : decode cX2_isSoundMomentWay 92 = .ok (.ldc2_w 287, 3) := by decide +kernel
theorem dX2_isSoundMomentWay_95 : decode cX2_isSoundMomentWay 95 = .ok (.invokestatic 281, 3) := by decide +kernel
theorem dX2_isSoundMomentWay_98 : decode cX2_isSoundMomentWay 98 = .ok (.ladd, 1) := by decide +kernel
theorem dX2_isSoundMomentWay_99 : decode cX2_isSoundMomentWay 99 = .ok (.aload_n 0, 1) := by decide +kernel
theorem dX2_isSoundMomentWay_100 : decode cX2_isSoundMomentWay 100 = .ok (.getfield 35, 3) := by decide +kernel
theorem dX2_isSoundMomentWay_103 : decode cX2_isSoundMomentWay 103 = .ok (.iload_n 2, 1) := by decide +kernel
theorem dX2_isSoundMomentWay_104 : decode cX2_isSoundMomentWay 104 = .ok (.laload, 1) := by decide +kernel
theorem dX2_isSoundMomentWay_105 : decode cX2_isSoundMomentWay 105 = .ok (.lcmp, 1) := by decide +kernel
theorem dX2_isSoundMomentWay_106 : decode cX2_isSoundMomentWay 106 = .ok (.ifCond .ne 22, 3) := by decide +kernel
theorem dX2_isSoundMomentWay_109 : decode cX2_isSoundMomentWay 109 = .ok (.lload 11, 2) := by decide +kernel
theorem dX2_isSoundMomentWay_111 : decode cX2_isSoundMomentWay 111 = .ok (.invokestatic 216, 3) := by decide +kernel
theorem dX2_isSoundMomentWay_114 : decode cX2_isSoundMomentWay 114 = .ok (.aload_n 0, 1) := by decide +kernel
theorem dX2_isSoundMomentWay_115 : decode cX2_isSoundMomentWay 115 = .ok (.getfield 38, 3) := by decide +kernel
theorem dX2_isSoundMomentWay_118 : decode cX2_isSoundMomentWay 118 = .ok (.iload_n 2, 1) := by decide +kernel
theorem dX2_isSoundMomentWay_119 : decode cX2_isSoundMomentWay 119 = .ok (.laload, 1) := by decide +kernel
theorem dX2_isSoundMomentWay_120 : decode cX2_isSoundMomentWay 120 = .ok (.lcmp, 1) := by decide +kernel
theorem dX2_isSoundMomentWay_121 : decode cX2_isSoundMomentWay 121 = .ok (.ifCond .ne 7, 3) := by decide +kernel
theorem dX2_isSoundMomentWay_124 : decode cX2_isSoundMomentWay 124 = .ok (.iconst 1, 1) := by decide +kernel
theorem dX2_isSoundMomentWay_125 : decode cX2_isSoundMomentWay 125 = .ok (.goto 4, 3) := by decide +kernel
theorem dX2_isSoundMomentWay_128 : decode cX2_isSoundMomentWay 128 = .ok (.iconst 0, 1) := by decide +kernel
theorem dX2_isSoundMomentWay_129 : decode cX2_isSoundMomentWay 129 = .ok (.ireturn, 1) := by decide +kernel
theorem dX2_checkSlot_0 : decode cX2_checkSlot 0 = .ok (.iload_n 0, 1) := by decide +kernel
theorem dX2_checkSlot_1 : decode cX2_checkSlot 1 = .ok (.ifCond .lt 8, 3) := by decide +kernel
theorem dX2_checkSlot_4 : decode cX2_checkSlot 4 = .ok (.iload_n 0, 1) := by decide +kernel
theorem dX2_checkSlot_5 : decode cX2_checkSlot 5 = .ok (.iload_n 1, 1) := by decide +kernel
theorem dX2_checkSlot_6 : decode cX2_checkSlot 6 = .ok (.if_icmp .lt 14, 3) := by decide +kernel
theorem dX2_checkSlot_9 : decode cX2_checkSlot 9 = .ok (.new 289, 3) := by decide +kernel
theorem dX2_checkSlot_12 : decode cX2_checkSlot 12 = .ok (.dup, 1) := by decide +kernel
theorem dX2_checkSlot_13 : decode cX2_checkSlot 13 = .ok (.ldc_w 291, 3) := by decide +kernel
theorem dX2_checkSlot_16 : decode cX2_checkSlot 16 = .ok (.invokespecial 293, 3) := by decide +kernel
theorem dX2_checkSlot_19 : decode cX2_checkSlot 19 = .ok (.athrow, 1) := by decide +kernel
theorem dX2_checkSlot_20 : decode cX2_checkSlot 20 = .ok (.return_, 1) := by decide +kernel
theorem dX2_checkArgument_0 : decode cX2_checkArgument 0 = .ok (.iload_n 0, 1) := by decide +kernel
theorem dX2_checkArgument_1 : decode cX2_checkArgument 1 = .ok (.ifCond .ne 14, 3) := by decide +kernel
theorem dX2_checkArgument_4 : decode cX2_checkArgument 4 = .ok (.new 101, 3) := by decide +kernel
theorem dX2_checkArgument_7 : decode cX2_checkArgument 7 = .ok (.dup, 1) := by decide +kernel
theorem dX2_checkArgument_8 : decode cX2_checkArgument 8 = .ok (.ldc_w 294, 3) := by decide +kernel
theorem dX2_checkArgument_11 : decode cX2_checkArgument 11 = .ok (.invokespecial 105, 3) := by decide +kernel
theorem dX2_checkArgument_14 : decode cX2_checkArgument 14 = .ok (.athrow, 1) := by decide +kernel
theorem dX2_checkArgument_15 : decode cX2_checkArgument 15 = .ok (.return_, 1) := by decide +kernel
theorem dX2_checkOutcome_0 : decode cX2_checkOutcome 0 = .ok (.iload_n 0, 1) := by decide +kernel
theorem dX2_checkOutcome_1 : decode cX2_checkOutcome 1 = .ok (.ifCond .ne 14, 3) := by decide +kernel
theorem dX2_checkOutcome_4 : decode cX2_checkOutcome 4 = .ok (.new 296, 3) := by decide +kernel
theorem dX2_checkOutcome_7 : decode cX2_checkOutcome 7 = .ok (.dup, 1) := by decide +kernel
theorem dX2_checkOutcome_8 : decode cX2_checkOutcome 8 = .ok (.ldc_w 298, 3) := by decide +kernel
theorem dX2_checkOutcome_11 : decode cX2_checkOutcome 11 = .ok (.invokespecial 300, 3) := by decide +kernel
theorem dX2_checkOutcome_14 : decode cX2_checkOutcome 14 = .ok (.athrow, 1) := by decide +kernel
theorem dX2_checkOutcome_15 : decode cX2_checkOutcome 15 = .ok (.return_, 1) := by decide +kernel
theorem dX2_isIn_0 : decode cX2_isIn 0 = .ok (.lload_n 2, 1) := by decide +kernel
theorem dX2_isIn_1 : decode cX2_isIn 1 = .ok (.lload_n 0, 1) := by decide +kernel
theorem dX2_isIn_2 : decode cX2_isIn 2 = .ok (.lcmp, 1) := by decide +kernel
theorem dX2_isIn_3 : decode cX2_isIn 3 = .ok (.ifCond .gt 14, 3) := by decide +kernel
theorem dX2_isIn_6 : decode cX2_isIn 6 = .ok (.lload_n 0, 1) := by decide +kernel
theorem dX2_isIn_7 : decode cX2_isIn 7 = .ok (.lload 4, 2) := by decide +kernel
theorem dX2_isIn_9 : decode cX2_isIn 9 = .ok (.lcmp, 1) := by decide +kernel
theorem dX2_isIn_10 : decode cX2_isIn 10 = .ok (.ifCond .gt 7, 3) := by decide +kernel
theorem dX2_isIn_13 : decode cX2_isIn 13 = .ok (.iconst 1, 1) := by decide +kernel
theorem dX2_isIn_14 : decode cX2_isIn 14 = .ok (.goto 4, 3) := by decide +kernel
theorem dX2_isIn_17 : decode cX2_isIn 17 = .ok (.iconst 0, 1) := by decide +kernel
theorem dX2_isIn_18 : decode cX2_isIn 18 = .ok (.ireturn, 1) := by decide +kernel
set_option maxRecDepth 20000 in
theorem ggX2_isYear_X2_isIn : GoodIn wsX2_isYear wsX2_isIn := goodIn_r _ [6] (by decide +kernel) (by decide +kernel)
set_option maxRecDepth 20000 in
theorem gX2_isYear_X2_isIn : GoodIn wsX2_isYear (va_wsS RX2 55 yX2_isIn wsX2_isIn) := goodIn_app (goodIn_of _ (by decide +kernel)) ggX2_isYear_X2_isIn
theorem dX2_isYear_0 : decode cX2_isYear 0 = .ok (.lload_n 0, 1) := by decide +kernel
theorem dX2_isYear_1 : decode cX2_isYear 1 = .ok (.ldc2_w 301, 3) := by decide +kernel
theorem dX2_isYear_4 : decode cX2_isYear 4 = .ok (.ldc2_w 303, 3) := by decide +kernel
theorem dX2_isYear_7 : decode cX2_isYear 7 = .ok (.invokestatic 55, 3) := by decide +kernel
theorem dX2_isYear_10 : decode cX2_isYear 10 = .ok (.ireturn, 1) := by decide +kernel
set_option maxRecDepth 20000 in
theorem ggX2_isSpan_X2_isIn : GoodIn wsX2_isSpan wsX2_isIn := goodIn_r _ [6] (by decide +kernel) (by decide +kernel)
set_option maxRecDepth 20000 in
theorem gX2_isSpan_X2_isIn : GoodIn wsX2_isSpan (va_wsS RX2 55 yX2_isIn wsX2_isIn) := goodIn_app (goodIn_of _ (by decide +kernel)) ggX2_isSpan_X2_isIn
theorem dX2_isSpan_0 : decode cX2_isSpan 0 = .ok (.lload_n 0, 1) := by decide +kernel
theorem dX2_isSpan_1 : decode cX2_isSpan 1 = .ok (.ldc2_w 112, 3) := by decide +kernel
theorem dX2_isSpan_4 : decode cX2_isSpan 4 = .ok (.ldc2_w 114, 3) := by decide +kernel
theorem dX2_isSpan_7 : decode cX2_isSpan 7 = .ok (.invokestatic 55, 3) := by decide +kernel
theorem dX2_isSpan_10 : decode cX2_isSpan 10 = .ok (.ifCond .eq 34, 3) := by decide +kernel
theorem dX2_isSpan_13 : decode cX2_isSpan 13 = .ok (.lload_n 2, 1) := by decide +kernel
theorem dX2_isSpan_14 : decode cX2_isSpan 14 = .ok (.ldc2_w 112, 3) := by decide +kernel
theorem dX2_isSpan_17 : decode cX2_isSpan 17 = .ok (.ldc2_w 114, 3) := by decide +kernel
theorem dX2_isSpan_20 : decode cX2_isSpan 20 = .ok (.invokestatic 55, 3) := by decide +kernel
theorem dX2_isSpan_23 : decode cX2_isSpan 23 = .ok (.ifCond .eq 21, 3) := by decide +kernel
theorem dX2_isSpan_26 : decode cX2_isSpan 26 = .ok (.lload 4, 2) := by decide +kernel
theorem dX2_isSpan_28 : decode cX2_isSpan 28 = .ok (.ldc2_w 112, 3) := by decide +kernel
theorem dX2_isSpan_31 : decode cX2_isSpan 31 = .ok (.ldc2_w 114, 3) := by decide +kernel
theorem dX2_isSpan_34 : decode cX2_isSpan 34 = .ok (.invokestatic 55, 3) := by decide +kernel
theorem dX2_isSpan_37 : decode cX2_isSpan 37 = .ok (.ifCond .eq 7, 3) := by decide +kernel
theorem dX2_isSpan_40 : decode cX2_isSpan 40 = .ok (.iconst 1, 1) := by decide +kernel
theorem dX2_isSpan_41 : decode cX2_isSpan 41 = .ok (.goto 4, 3) := by decide +kernel
theorem dX2_isSpan_44 : decode cX2_isSpan 44 = .ok (.iconst 0, 1) := by decide +kernel
theorem dX2_isSpan_45 : decode cX2_isSpan 45 = .ok (.ireturn, 1) := by decide +kernel
theorem dX2_sign_0 : decode cX2_sign 0 = .ok (.lload_n 0, 1) := by decide +kernel
theorem dX2_sign_1 : decode cX2_sign 1 = .ok (.lload_n 2, 1) := by decide +kernel
theorem dX2_sign_2 : decode cX2_sign 2 = .ok (.lcmp, 1) := by decide +kernel
theorem dX2_sign_3 : decode cX2_sign 3 = .ok (.ifCond .ge 7, 3) := by decide +kernel
theorem dX2_sign_6 : decode cX2_sign 6 = .ok (.iconst (-1), 1) := by decide +kernel
theorem dX2_sign_7 : decode cX2_sign 7 = .ok (.goto 14, 3) := by decide +kernel
theorem dX2_sign_10 : decode cX2_sign 10 = .ok (.lload_n 0, 1) := by decide +kernel
theorem dX2_sign_11 : decode cX2_sign 11 = .ok (.lload_n 2, 1) := by decide +kernel
theorem dX2_sign_12 : decode cX2_sign 12 = .ok (.lcmp, 1) := by decide +kernel
theorem dX2_sign_13 : decode cX2_sign 13 = .ok (.ifCond .ne 7, 3) := by decide +kernel
theorem dX2_sign_16 : decode cX2_sign 16 = .ok (.iconst 0, 1) := by decide +kernel
theorem dX2_sign_17 : decode cX2_sign 17 = .ok (.goto 4, 3) := by decide +kernel
theorem dX2_sign_20 : decode cX2_sign 20 = .ok (.iconst 1, 1) := by decide +kernel
theorem dX2_sign_21 : decode cX2_sign 21 = .ok (.ireturn, 1) := by decide +kernel
theorem dX2_allMonths_0 : decode cX2_allMonths 0 = .ok (.ldc2_w 53, 3) := by decide +kernel
theorem dX2_allMonths_3 : decode cX2_allMonths 3 = .ok (.aload_n 0, 1) := by decide +kernel
theorem dX2_allMonths_4 : decode cX2_allMonths 4 = .ok (.getfield 13, 3) := by decide +kernel
theorem dX2_allMonths_7 : decode cX2_allMonths 7 = .ok (.iload_n 1, 1) := by decide +kernel
theorem dX2_allMonths_8 : decode cX2_allMonths 8 = .ok (.iaload, 1) := by decide +kernel
theorem dX2_allMonths_9 : decode cX2_allMonths 9 = .ok (.i2l, 1) := by decide +kernel
theorem dX2_allMonths_10 : decode cX2_allMonths 10 = .ok (.lmul, 1) := by decide +kernel
theorem dX2_allMonths_11 : decode cX2_allMonths 11 = .ok (.aload_n 0, 1) := by decide +kernel
theorem dX2_allMonths_12 : decode cX2_allMonths 12 = .ok (.getfield 17, 3) := by decide +kernel
theorem dX2_allMonths_15 : decode cX2_allMonths 15 = .ok (.iload_n 1, 1) := by decide +kernel
theorem dX2_allMonths_16 : decode cX2_allMonths 16 = .ok (.iaload, 1) := by decide +kernel
theorem dX2_allMonths_17 : decode cX2_allMonths 17 = .ok (.i2l, 1) := by decide +kernel
theorem dX2_allMonths_18 : decode cX2_allMonths 18 = .ok (.ladd, 1) := by decide +kernel
theorem dX2_allMonths_19 : decode cX2_allMonths 19 = .ok (.lreturn, 1) := by decide +kernel
set_option maxRecDepth 20000 in
theorem ggX2_keepDate_X1_isDay : GoodIn wsX2_keepDate wsX1_isDay := goodIn_r _ [5, 6, 7] (by decide +kernel) (by decide +kernel)
set_option maxRecDepth 20000 in
theorem gX2_keepDate_X1_isDay : GoodIn wsX2_keepDate (va_wsS RX2 272 yX1_isDay wsX1_isDay) := goodIn_app (goodIn_of _ (by decide +kernel)) ggX2_keepDate_X1_isDay
set_option maxRecDepth 20000 in
theorem ggX2_keepDate_X2_checkOutcome : GoodIn wsX2_keepDate wsX2_checkOutcome := goodIn_ca (goodIn_r _ [11, 12, 13] (by decide +kernel) (by decide +kernel)) (goodIn_sub (fun _ h => List.mem_cons_of_mem _ (List.mem_append_right _ h)) (by decide +kernel))
set_option maxRecDepth 20000 in
theorem gX2_keepDate_X2_checkOutcome : GoodIn wsX2_keepDate (va_wsS RX2 164 yX2_checkOutcome wsX2_checkOutcome) := goodIn_app (goodIn_of _ (by decide +kernel)) ggX2_keepDate_X2_checkOutcome
theorem dX2_keepDate_0 : decode cX2_keepDate 0 = .ok (.lload_n 2, 1) := by decide +kernel
theorem dX2_keepDate_1 : decode cX2_keepDate 1 = .ok (.invokestatic 272, 3) := by decide +kernel
theorem dX2_keepDate_4 : decode cX2_keepDate 4 = .ok (.invokestatic 164, 3) := by decide +kernel
theorem dX2_keepDate_7 : decode cX2_keepDate 7 = .ok (.aload_n 0, 1) := by decide +kernel
theorem dX2_keepDate_8 : decode cX2_keepDate 8 = .ok (.getfield 9, 3) := by decide +kernel
theorem dX2_keepDate_11 : decode cX2_keepDate 11 = .ok (.iload_n 1, 1) := by decide +kernel
theorem dX2_keepDate_12 : decode cX2_keepDate 12 = .ok (.lload_n 2, 1) := by decide +kernel
theorem dX2_keepDate_13 : decode cX2_keepDate 13 = .ok (.lastore, 1) := by decide +kernel
theorem dX2_keepDate_14 : decode cX2_keepDate 14 = .ok (.lload_n 2, 1) := by decide +kernel
theorem dX2_keepDate_15 : decode cX2_keepDate 15 = .ok (.lreturn, 1) := by decide +kernel
set_option maxRecDepth 20000 in
theorem ggX2_keepSpan_X2_isSpan : GoodIn wsX2_keepSpan wsX2_isSpan := goodIn_r _ [7, 8, 9, 10, 11, 6, 12] (by decide +kernel) (by decide +kernel)
set_option maxRecDepth 20000 in
theorem gX2_keepSpan_X2_isSpan : GoodIn wsX2_keepSpan (va_wsS RX2 157 yX2_isSpan wsX2_isSpan) := goodIn_app (goodIn_of _ (by decide +kernel)) ggX2_keepSpan_X2_isSpan
set_option maxRecDepth 20000 in
theorem ggX2_keepSpan_X2_checkOutcome : GoodIn wsX2_keepSpan wsX2_checkOutcome := goodIn_ca (goodIn_r _ [15, 16, 17] (by decide +kernel) (by decide +kernel)) (goodIn_sub (fun _ h => List.mem_cons_of_mem _ (List.mem_append_right _ h)) (by decide +kernel))
set_option maxRecDepth 20000 in
theorem gX2_keepSpan_X2_checkOutcome : GoodIn wsX2_keepSpan (va_wsS RX2 164 yX2_checkOutcome wsX2_checkOutcome) := goodIn_app (goodIn_of _ (by decide +kernel)) ggX2_keepSpan_X2_checkOutcome
set_option maxRecDepth 20000 in
theorem ggX2_keepSpan_X2_allMonths : GoodIn wsX2_keepSpan wsX2_allMonths := goodIn_ca (goodIn_r _ [21, 22, 1, 2, 23, 24, 25, 26, 27, 28, 29, 30, 31, 32] (by decide +kernel) (by decide +kernel)) (goodIn_sub (fun _ h => List.mem_cons_of_mem _ (List.mem_append_left _ (List.mem_append_right _ h))) (by decide +kernel))
set_option maxRecDepth 20000 in
theorem gX2_keepSpan_X2_allMonths : GoodIn wsX2_keepSpan (wsV RX2 167 RX2 yX2_allMonths wsX2_allMonths) := goodIn_app (goodIn_of _ (by decide +kernel)) ggX2_keepSpan_X2_allMonths
theorem dX2_keepSpan_0 : decode cX2_keepSpan 0 = .ok (.lload_n 2, 1) := by decide +kernel
theorem dX2_keepSpan_1 : decode cX2_keepSpan 1 = .ok (.lload 4, 2) := by decide +kernel
theorem dX2_keepSpan_3 : decode cX2_keepSpan 3 = .ok (.lload 6, 2) := by decide +kernel
theorem dX2_keepSpan_5 : decode cX2_keepSpan 5 = .ok (.invokestatic 157, 3) := by decide +kernel
theorem dX2_keepSpan_8 : decode cX2_keepSpan 8 = .ok (.invokestatic 164, 3) := by decide +kernel
theorem dX2_keepSpan_11 : decode cX2_keepSpan 11 = .ok (.aload_n 0, 1) := by decide +kernel
theorem dX2_keepSpan_12 : decode cX2_keepSpan 12 = .ok (.getfield 13, 3) := by decide +kernel
theorem dX2_keepSpan_15 : decode cX2_keepSpan 15 = .ok (.iload_n 1, 1) := by decide +kernel
theorem dX2_keepSpan_16 : decode cX2_keepSpan 16 = .ok (.lload_n 2, 1) := by decide +kernel
theorem dX2_keepSpan_17 : decode cX2_keepSpan 17 = .ok (.l2i, 1) := by decide +kernel
theorem dX2_keepSpan_18 : decode cX2_keepSpan 18 = .ok (.iastore, 1) := by decide +kernel
theorem dX2_keepSpan_19 : decode cX2_keepSpan 19 = .ok (.aload_n 0, 1) := by decide +kernel
theorem dX2_keepSpan_20 : decode cX2_keepSpan 20 = .ok (.getfield 17, 3) := by decide +kernel
theorem dX2_keepSpan_23 : decode cX2_keepSpan 23 = .ok (.iload_n 1, 1) := by decide +kernel
theorem dX2_keepSpan_24 : decode cX2_keepSpan 24 = .ok (.lload 4, 2) := by decide +kernel
theorem dX2_keepSpan_26 : decode cX2_keepSpan 26 = .ok (.l2i, 1) := by decide +kernel
theorem dX2_keepSpan_27 : decode cX2_keepSpan 27 = .ok (.iastore, 1) := by decide +kernel
theorem dX2_keepSpan_28 : decode cX2_keepSpan 28 = .ok (.aload_n 0, 1) := by decide +kernel
theorem dX2_keepSpan_29 : decode cX2_keepSpan 29 = .ok (.getfield 20, 3) := by decide +kernel
theorem dX2_keepSpan_32 : decode cX2_keepSpan 32 = .ok (.iload_n 1, 1) := by decide +kernel
theorem dX2_keepSpan_33 : decode cX2_keepSpan 33 = .ok (.lload 6, 2) := by decide +kernel
theorem dX2_keepSpan_35 : decode cX2_keepSpan 35 = .ok (.l2i, 1) := by decide +kernel
theorem dX2_keepSpan_36 : decode cX2_keepSpan 36 = .ok (.iastore, 1) := by decide +kernel
theorem dX2_keepSpan_37 : decode cX2_keepSpan 37 = .ok (.aload_n 0, 1) := by decide +kernel
theorem dX2_keepSpan_38 : decode cX2_keepSpan 38 = .ok (.iload_n 1, 1) := by decide +kernel
theorem dX2_keepSpan_39 : decode cX2_keepSpan 39 = .ok (.invokevirtual 167, 3) := by decide +kernel
theorem dX2_keepSpan_42 : decode cX2_keepSpan 42 = .ok (.lreturn, 1) := by decide +kernel
set_option maxRecDepth 20000 in
theorem ggX2_keepMonth_X1_yearOfMonth : GoodIn wsX2_keepMonth wsX1_yearOfMonth := goodIn_r _ [5, 6, 7, 8, 9, 10] (by decide +kernel) (by decide +kernel)
set_option maxRecDepth 20000 in
theorem gX2_keepMonth_X1_yearOfMonth : GoodIn wsX2_keepMonth (va_wsS RX2 120 yX1_yearOfMonth wsX1_yearOfMonth) := goodIn_app (goodIn_of _ (by decide +kernel)) ggX2_keepMonth_X1_yearOfMonth
set_option maxRecDepth 20000 in
theorem ggX2_keepMonth_X2_isYear : GoodIn wsX2_keepMonth wsX2_isYear := goodIn_r _ [14, 15, 16, 17, 18, 13, 19] (by decide +kernel) (by decide +kernel)
set_option maxRecDepth 20000 in
theorem gX2_keepMonth_X2_isYear : GoodIn wsX2_keepMonth (va_wsS RX2 45 yX2_isYear wsX2_isYear) := goodIn_app (goodIn_of _ (by decide +kernel)) ggX2_keepMonth_X2_isYear
set_option maxRecDepth 20000 in
theorem ggX2_keepMonth_X2_checkOutcome : GoodIn wsX2_keepMonth wsX2_checkOutcome := goodIn_ca (goodIn_r _ [22, 23, 24] (by decide +kernel) (by decide +kernel)) (goodIn_sub (fun _ h => List.mem_cons_of_mem _ (List.mem_append_right _ h)) (by decide +kernel))
set_option maxRecDepth 20000 in
theorem gX2_keepMonth_X2_checkOutcome : GoodIn wsX2_keepMonth (va_wsS RX2 164 yX2_checkOutcome wsX2_checkOutcome) := goodIn_app (goodIn_of _ (by decide +kernel)) ggX2_keepMonth_X2_checkOutcome
set_option maxRecDepth 20000 in
theorem ggX2_keepMonth_X1_lengthOfMonth : GoodIn wsX2_keepMonth wsX1_lengthOfMonth := goodIn_r _ [27, 28, 29, 4, 30, 6, 31, 32, 9, 33, 34, 3, 5, 7, 8, 10, 35, 36, 37, 38, 39, 40] (by decide +kernel) (by decide +kernel)
set_option maxRecDepth 20000 in
theorem gX2_keepMonth_X1_lengthOfMonth : GoodIn wsX2_keepMonth (va_wsS RX2 65 yX1_lengthOfMonth wsX1_lengthOfMonth) := goodIn_app (goodIn_of _ (by decide +kernel)) ggX2_keepMonth_X1_lengthOfMonth
theorem dX2_keepMonth_0 : decode cX2_keepMonth 0 = .ok (.lload_n 2, 1) := by decide +kernel
theorem dX2_keepMonth_1 : decode cX2_keepMonth 1 = .ok (.invokestatic 120, 3) := by decide +kernel
theorem dX2_keepMonth_4 : decode cX2_keepMonth 4 = .ok (.invokestatic 45, 3) := by decide +kernel
theorem dX2_keepMonth_7 : decode cX2_keepMonth 7 = .ok (.invokestatic 164, 3) := by decide +kernel
theorem dX2_keepMonth_10 : decode cX2_keepMonth 10 = .ok (.aload_n 0, 1) := by decide +kernel
theorem dX2_keepMonth_11 : decode cX2_keepMonth 11 = .ok (.getfield 23, 3) := by decide +kernel
theorem dX2_keepMonth_14 : decode cX2_keepMonth 14 = .ok (.iload_n 1, 1) := by decide +kernel
theorem dX2_keepMonth_15 : decode cX2_keepMonth 15 = .ok (.lload_n 2, 1) := by decide +kernel
theorem dX2_keepMonth_16 : decode cX2_keepMonth 16 = .ok (.l2i, 1) := by decide +kernel
theorem dX2_keepMonth_17 : decode cX2_keepMonth 17 = .ok (.iastore, 1) := by decide +kernel
theorem dX2_keepMonth_18 : decode cX2_keepMonth 18 = .ok (.lload_n 2, 1) := by decide +kernel
theorem dX2_keepMonth_19 : decode cX2_keepMonth 19 = .ok (.invokestatic 65, 3) := by decide +kernel
theorem dX2_keepMonth_22 : decode cX2_keepMonth 22 = .ok (.ireturn, 1) := by decide +kernel
set_option maxRecDepth 20000 in
theorem ggX2_keepLength_J9_floorDiv_f86c9 : GoodIn wsX2_keepLength wsJ9_floorDiv_f86c9 := goodIn_r _ [9] (by decide +kernel) (by decide +kernel)
set_option maxRecDepth 20000 in
theorem gX2_keepLength_J9_floorDiv_f86c9 : GoodIn wsX2_keepLength (va_wsS RX2 281 yJ9_floorDiv_f86c9 wsJ9_floorDiv_f86c9) := goodIn_app (goodIn_of _ (by decide +kernel)) ggX2_keepLength_J9_floorDiv_f86c9
set_option maxRecDepth 20000 in
theorem ggX2_keepLength_J9_floorMod_f86c9 : GoodIn wsX2_keepLength wsJ9_floorMod_f86c9 := goodIn_r _ [12] (by decide +kernel) (by decide +kernel)
set_option maxRecDepth 20000 in
theorem gX2_keepLength_J9_floorMod_f86c9 : GoodIn wsX2_keepLength (va_wsS RX2 284 yJ9_floorMod_f86c9 wsJ9_floorMod_f86c9) := goodIn_app (goodIn_of _ (by decide +kernel)) ggX2_keepLength_J9_floorMod_f86c9
set_option maxRecDepth 20000 in
theorem ggX2_keepLength_X2_isIn : GoodIn wsX2_keepLength wsX2_isIn := goodIn_r _ [16] (by decide +kernel) (by decide +kernel)
set_option maxRecDepth 20000 in
theorem gX2_keepLength_X2_isIn : GoodIn wsX2_keepLength (va_wsS RX2 55 yX2_isIn wsX2_isIn) := goodIn_app (goodIn_of _ (by decide +kernel)) ggX2_keepLength_X2_isIn
set_option maxRecDepth 20000 in
theorem ggX2_keepLength_X2_checkOutcome : GoodIn wsX2_keepLength wsX2_checkOutcome := goodIn_ca (goodIn_r _ [19, 20, 21] (by decide +kernel) (by decide +kernel)) (goodIn_sub (fun _ h => List.mem_cons_of_mem _ (List.mem_append_right _ h)) (by decide +kernel))
set_option maxRecDepth 20000 in
theorem gX2_keepLength_X2_checkOutcome : GoodIn wsX2_keepLength (va_wsS RX2 164 yX2_checkOutcome wsX2_checkOutcome) := goodIn_app (goodIn_of _ (by decide +kernel)) ggX2_keepLength_X2_checkOutcome
theorem dX2_keepLength_0 : decode cX2_keepLength 0 = .ok (.lload_n 2, 1) := by decide +kernel
theorem dX2_keepLength_1 : decode cX2_keepLength 1 = .ok (.lload 4, 2) := by decide +kernel
theorem dX2_keepLength_3 : decode cX2_keepLength 3 = .ok (.ldc2_w 197, 3) := by decide +kernel
theorem dX2_keepLength_6 : decode cX2_keepLength 6 = .ok (.invokestatic 281, 3) := by decide +kernel
theorem dX2_keepLength_9 : decode cX2_keepLength 9 = .ok (.ladd, 1) := by decide +kernel
theorem dX2_keepLength_10 : decode cX2_keepLength 10 = .ok (.lstore 6, 2) := by decide +kernel
theorem dX2_keepLength_12 : decode cX2_keepLength 12 = .ok (.lload 4, 2) := by decide +kernel
theorem dX2_keepLength_14 : decode cX2_keepLength 14 = .ok (.ldc2_w 197, 3) := by decide +kernel
theorem dX2_keepLength_17 : decode cX2_keepLength 17 = .ok (.invokestatic 284, 3) := by decide +kernel
theorem dX2_keepLength_20 : decode cX2_keepLength 20 = .ok (.lstore 8, 2) := by decide +kernel
theorem dX2_keepLength_22 : decode cX2_keepLength 22 = .ok (.lload 6, 2) := by decide +kernel
theorem dX2_keepLength_24 : decode cX2_keepLength 24 = .ok (.ldc2_w 223, 3) := by decide +kernel
theorem dX2_keepLength_27 : decode cX2_keepLength 27 = .ok (.ldc2_w 225, 3) := by decide +kernel
theorem dX2_keepLength_30 : decode cX2_keepLength 30 = .ok (.invokestatic 55, 3) := by decide +kernel
theorem dX2_keepLength_33 : decode cX2_keepLength 33 = .ok (.ifCond .eq 23, 3) := by decide +kernel
theorem dX2_keepLength_36 : decode cX2_keepLength 36 = .ok (.lload 6, 2) := by decide +kernel
theorem dX2_keepLength_38 : decode cX2_keepLength 38 = .ok (.ldc2_w 225, 3) := by decide +kernel
theorem dX2_keepLength_41 : decode cX2_keepLength 41 = .ok (.lcmp, 1) := by decide +kernel
theorem dX2_keepLength_42 : decode cX2_keepLength 42 = .ok (.ifCond .lt 10, 3) := by decide +kernel
theorem dX2_keepLength_45 : decode cX2_keepLength 45 = .ok (.lload 8, 2) := by decide +kernel
theorem dX2_keepLength_47 : decode cX2_keepLength 47 = .ok (.lconst 0, 1) := by decide +kernel
theorem dX2_keepLength_48 : decode cX2_keepLength 48 = .ok (.lcmp, 1) := by decide +kernel
theorem dX2_keepLength_49 : decode cX2_keepLength 49 = .ok (.ifCond .ne 7, 3) := by decide +kernel
theorem dX2_keepLength_52 : decode cX2_keepLength 52 = .ok (.iconst 1, 1) := by decide +kernel
theorem dX2_keepLength_53 : decode cX2_keepLength 53 = .ok (.goto 4, 3) := by decide +kernel
theorem dX2_keepLength_56 : decode cX2_keepLength 56 = .ok (.iconst 0, 1) := by decide +kernel
theorem dX2_keepLength_57 : decode cX2_keepLength 57 = .ok (.invokestatic 164, 3) := by decide +kernel
theorem dX2_keepLength_60 : decode cX2_keepLength 60 = .ok (.aload_n 0, 1) := by decide +kernel
theorem dX2_keepLength_61 : decode cX2_keepLength 61 = .ok (.getfield 29, 3) := by decide +kernel
theorem dX2_keepLength_64 : decode cX2_keepLength 64 = .ok (.iload_n 1, 1) := by decide +kernel
theorem dX2_keepLength_65 : decode cX2_keepLength 65 = .ok (.lload 6, 2) := by decide +kernel
theorem dX2_keepLength_67 : decode cX2_keepLength 67 = .ok (.lastore, 1) := by decide +kernel
theorem dX2_keepLength_68 : decode cX2_keepLength 68 = .ok (.aload_n 0, 1) := by decide +kernel
theorem dX2_keepLength_69 : decode cX2_keepLength 69 = .ok (.getfield 32, 3) := by decide +kernel
theorem dX2_keepLength_72 : decode cX2_keepLength 72 = .ok (.iload_n 1, 1) := by decide +kernel
theorem dX2_keepLength_73 : decode cX2_keepLength 73 = .ok (.lload 8, 2) := by decide +kernel
theorem dX2_keepLength_75 : decode cX2_keepLength 75 = .ok (.lastore, 1) := by decide +kernel
theorem dX2_keepLength_76 : decode cX2_keepLength 76 = .ok (.lload 6, 2) := by decide +kernel
theorem dX2_keepLength_78 : decode cX2_keepLength 78 = .ok (.lreturn, 1) := by decide +kernel
set_option maxRecDepth 20000 in
theorem ggX2_keepMoment_J9_floorDiv_f86c9 : GoodIn wsX2_keepMoment wsJ9_floorDiv_f86c9 := goodIn_r _ [7] (by decide +kernel) (by decide +kernel)
set_option maxRecDepth 20000 in
theorem gX2_keepMoment_J9_floorDiv_f86c9 : GoodIn wsX2_keepMoment (va_wsS RX2 281 yJ9_floorDiv_f86c9 wsJ9_floorDiv_f86c9) := goodIn_app (goodIn_of _ (by decide +kernel)) ggX2_keepMoment_J9_floorDiv_f86c9
set_option maxRecDepth 20000 in
theorem ggX2_keepMoment_X1_isDay : GoodIn wsX2_keepMoment wsX1_isDay := goodIn_r _ [11, 12, 13] (by decide +kernel) (by decide +kernel)
set_option maxRecDepth 20000 in
theorem gX2_keepMoment_X1_isDay : GoodIn wsX2_keepMoment (va_wsS RX2 272 yX1_isDay wsX1_isDay) := goodIn_app (goodIn_of _ (by decide +kernel)) ggX2_keepMoment_X1_isDay
set_option maxRecDepth 20000 in
theorem ggX2_keepMoment_X2_checkOutcome : GoodIn wsX2_keepMoment wsX2_checkOutcome := goodIn_ca (goodIn_r _ [17, 18, 19] (by decide +kernel) (by decide +kernel)) (goodIn_sub (fun _ h => List.mem_cons_of_mem _ (List.mem_append_right _ h)) (by decide +kernel))
set_option maxRecDepth 20000 in
theorem gX2_keepMoment_X2_checkOutcome : GoodIn wsX2_keepMoment (va_wsS RX2 164 yX2_checkOutcome wsX2_checkOutcome) := goodIn_app (goodIn_of _ (by decide +kernel)) ggX2_keepMoment_X2_checkOutcome
set_option maxRecDepth 20000 in
theorem ggX2_keepMoment_X0_roundDay : GoodIn wsX2_keepMoment wsX0_roundDay := goodIn_r _ [23, 24, 25, 26, 6, 27] (by decide +kernel) (by decide +kernel)
set_option maxRecDepth 20000 in
theorem gX2_keepMoment_X0_roundDay : GoodIn wsX2_keepMoment (va_wsS RX2 216 yX0_roundDay wsX0_roundDay) := goodIn_app (goodIn_of _ (by decide +kernel)) ggX2_keepMoment_X0_roundDay
theorem dX2_keepMoment_0 : decode cX2_keepMoment 0 = .ok (.lload_n 2, 1) := by decide +kernel
theorem dX2_keepMoment_1 : decode cX2_keepMoment 1 = .ok (.lload 4, 2) := by decide +kernel
theorem dX2_keepMoment_3 : decode cX2_keepMoment 3 = .ok (.ldc2_w 287, 3) := by decide +kernel
theorem dX2_keepMoment_6 : decode cX2_keepMoment 6 = .ok (.invokestatic 281, 3) := by decide +kernel
theorem dX2_keepMoment_9 : decode cX2_keepMoment 9 = .ok (.ladd, 1) := by decide +kernel
theorem dX2_keepMoment_10 : decode cX2_keepMoment 10 = .ok (.lstore 6, 2) := by decide +kernel
theorem dX2_keepMoment_12 : decode cX2_keepMoment 12 = .ok (.lload 6, 2) := by decide +kernel
theorem dX2_keepMoment_14 : decode cX2_keepMoment 14 = .ok (.invokestatic 272, 3) := by decide +kernel
theorem dX2_keepMoment_17 : decode cX2_keepMoment 17 = .ok (.invokestatic 164, 3) := by decide +kernel
theorem dX2_keepMoment_20 : decode cX2_keepMoment 20 = .ok (.aload_n 0, 1) := by decide +kernel
theorem dX2_keepMoment_21 : decode cX2_keepMoment 21 = .ok (.getfield 35, 3) := by decide +kernel
theorem dX2_keepMoment_24 : decode cX2_keepMoment 24 = .ok (.iload_n 1, 1) := by decide +kernel
theorem dX2_keepMoment_25 : decode cX2_keepMoment 25 = .ok (.lload 6, 2) := by decide +kernel
theorem dX2_keepMoment_27 : decode cX2_keepMoment 27 = .ok (.lastore, 1) := by decide +kernel
theorem dX2_keepMoment_28 : decode cX2_keepMoment 28 = .ok (.aload_n 0, 1) := by decide +kernel
theorem dX2_keepMoment_29 : decode cX2_keepMoment 29 = .ok (.getfield 38, 3) := by decide +kernel
theorem dX2_keepMoment_32 : decode cX2_keepMoment 32 = .ok (.iload_n 1, 1) := by decide +kernel
theorem dX2_keepMoment_33 : decode cX2_keepMoment 33 = .ok (.lload 4, 2) := by decide +kernel
theorem dX2_keepMoment_35 : decode cX2_keepMoment 35 = .ok (.invokestatic 216, 3) := by decide +kernel
theorem dX2_keepMoment_38 : decode cX2_keepMoment 38 = .ok (.lastore, 1) := by decide +kernel
theorem dX2_keepMoment_39 : decode cX2_keepMoment 39 = .ok (.lload 6, 2) := by decide +kernel
theorem dX2_keepMoment_41 : decode cX2_keepMoment 41 = .ok (.lreturn, 1) := by decide +kernel
theorem dX3_thrown_0 : decode cX3_thrown 0 = .ok (.aload_n 0, 1) := by decide +kernel
theorem dX3_thrown_1 : decode cX3_thrown 1 = .ok (.getfield 1, 3) := by decide +kernel
theorem dX3_thrown_4 : decode cX3_thrown 4 = .ok (.ireturn, 1) := by decide +kernel
theorem dX3_fails_0 : decode cX3_fails 0 = .ok (.aload_n 0, 1) := by decide +kernel
theorem dX3_fails_1 : decode cX3_fails 1 = .ok (.iload_n 1, 1) := by decide +kernel
theorem dX3_fails_2 : decode cX3_fails 2 = .ok (.putfield 1, 3) := by decide +kernel
theorem dX3_fails_5 : decode cX3_fails 5 = .ok (.iload_n 1, 1) := by decide +kernel
theorem dX3_fails_6 : decode cX3_fails 6 = .ok (.ifCond .le 7, 3) := by decide +kernel
theorem dX3_fails_9 : decode cX3_fails 9 = .ok (.iconst 1, 1) := by decide +kernel
theorem dX3_fails_10 : decode cX3_fails 10 = .ok (.goto 4, 3) := by decide +kernel
theorem dX3_fails_13 : decode cX3_fails 13 = .ok (.iconst 0, 1) := by decide +kernel
theorem dX3_fails_14 : decode cX3_fails 14 = .ok (.ireturn, 1) := by decide +kernel
theorem dX3_in_0 : decode cX3_in 0 = .ok (.lload_n 0, 1) := by decide +kernel
theorem dX3_in_1 : decode cX3_in 1 = .ok (.lload_n 2, 1) := by decide +kernel
theorem dX3_in_2 : decode cX3_in 2 = .ok (.lcmp, 1) := by decide +kernel
theorem dX3_in_3 : decode cX3_in 3 = .ok (.ifCond .lt 14, 3) := by decide +kernel
theorem dX3_in_6 : decode cX3_in 6 = .ok (.lload_n 0, 1) := by decide +kernel
theorem dX3_in_7 : decode cX3_in 7 = .ok (.lload 4, 2) := by decide +kernel
theorem dX3_in_9 : decode cX3_in 9 = .ok (.lcmp, 1) := by decide +kernel
theorem dX3_in_10 : decode cX3_in 10 = .ok (.ifCond .gt 7, 3) := by decide +kernel
theorem dX3_in_13 : decode cX3_in 13 = .ok (.iconst 1, 1) := by decide +kernel
theorem dX3_in_14 : decode cX3_in 14 = .ok (.goto 4, 3) := by decide +kernel
theorem dX3_in_17 : decode cX3_in 17 = .ok (.iconst 0, 1) := by decide +kernel
theorem dX3_in_18 : decode cX3_in 18 = .ok (.ireturn, 1) := by decide +kernel
theorem dX3_init_0 : decode cX3_init 0 = .ok (.aload_n 0, 1) := by decide +kernel
theorem dX3_init_1 : decode cX3_init 1 = .ok (.invokespecial 7, 3) := by decide +kernel
theorem dX3_init_4 : decode cX3_init 4 = .ok (.aload_n 0, 1) := by decide +kernel
theorem dX3_init_5 : decode cX3_init 5 = .ok (.bipush 6, 2) := by decide +kernel
theorem dX3_init_7 : decode cX3_init 7 = .ok (.newarray .long, 2) := by decide +kernel
theorem dX3_init_9 : decode cX3_init 9 = .ok (.putfield 13, 3) := by decide +kernel
theorem dX3_init_12 : decode cX3_init 12 = .ok (.aload_n 0, 1) := by decide +kernel
theorem dX3_init_13 : decode cX3_init 13 = .ok (.iconst 4, 1) := by decide +kernel
theorem dX3_init_14 : decode cX3_init 14 = .ok (.newarray .long, 2) := by decide +kernel
theorem dX3_init_16 : decode cX3_init 16 = .ok (.putfield 17, 3) := by decide +kernel
theorem dX3_init_19 : decode cX3_init 19 = .ok (.aload_n 0, 1) := by decide +kernel
theorem dX3_init_20 : decode cX3_init 20 = .ok (.iconst 4, 1) := by decide +kernel
theorem dX3_init_21 : decode cX3_init 21 = .ok (.newarray .long, 2) := by decide +kernel
theorem dX3_init_23 : decode cX3_init 23 = .ok (.putfield 20, 3) := by decide +kernel
theorem dX3_init_26 : decode cX3_init 26 = .ok (.aload_n 0, 1) := by decide +kernel
theorem dX3_init_27 : decode cX3_init 27 = .ok (.iconst 4, 1) := by decide +kernel
theorem dX3_init_28 : decode cX3_init 28 = .ok (.newarray .long, 2) := by decide +kernel
theorem dX3_init_30 : decode cX3_init 30 = .ok (.putfield 23, 3) := by decide +kernel
theorem dX3_init_33 : decode cX3_init 33 = .ok (.aload_n 0, 1) := by decide +kernel
theorem dX3_init_34 : decode cX3_init 34 = .ok (.iconst 4, 1) := by decide +kernel
theorem dX3_init_35 : decode cX3_init 35 = .ok (.newarray .long, 2) := by decide +kernel
theorem dX3_init_37 : decode cX3_init 37 = .ok (.putfield 26, 3) := by decide +kernel
theorem dX3_init_40 : decode cX3_init 40 = .ok (.aload_n 0, 1) := by decide +kernel
theorem dX3_init_41 : decode cX3_init 41 = .ok (.iconst 4, 1) := by decide +kernel
theorem dX3_init_42 : decode cX3_init 42 = .ok (.newarray .long, 2) := by decide +kernel
theorem dX3_init_44 : decode cX3_init 44 = .ok (.putfield 29, 3) := by decide +kernel
theorem dX3_init_47 : decode cX3_init 47 = .ok (.aload_n 0, 1) := by decide +kernel
theorem dX3_init_48 : decode cX3_init 48 = .ok (.iconst 4, 1) := by decide +kernel
theorem dX3_init_49 : decode cX3_init 49 = .ok (.newarray .long, 2) := by decide +kernel
theorem dX3_init_51 : decode cX3_init 51 = .ok (.putfield 32, 3) := by decide +kernel
theorem dX3_init_54 : decode cX3_init 54 = .ok (.aload_n 0, 1) := by decide +kernel
theorem dX3_init_55 : decode cX3_init 55 = .ok (.iconst 4, 1) := by decide +kernel
theorem dX3_init_56 : decode cX3_init 56 = .ok (.newarray .long, 2) := by decide +kernel
theorem dX3_init_58 : decode cX3_init 58 = .ok (.putfield 35, 3) := by decide +kernel
theorem dX3_init_61 : decode cX3_init 61 = .ok (.aload_n 0, 1) := by decide +kernel
theorem dX3_init_62 : decode cX3_init 62 = .ok (.iconst 4, 1) := by decide +kernel
theorem dX3_init_63 : decode cX3_init 63 = .ok (.newarray .long, 2) := by decide +kernel
theorem dX3_init_65 : decode cX3_init 65 = .ok (.putfield 38, 3) := by decide +kernel
theorem dX3_init_68 : decode cX3_init 68 = .ok (.aload_n 0, 1) := by decide +kernel
theorem dX3_init_69 : decode cX3_init 69 = .ok (.iconst 4, 1) := by decide +kernel
theorem dX3_init_70 : decode cX3_init 70 = .ok (.newarray .long, 2) := by decide +kernel
theorem dX3_init_72 : decode cX3_init 72 = .ok (.putfield 41, 3) := by decide +kernel
theorem dX3_init_75 : decode cX3_init 75 = .ok (.iconst 0, 1) := by decide +kernel
theorem dX3_init_76 : decode cX3_init 76 = .ok (.istore_n 1, 1) := by decide +kernel
theorem dX3_init_77 : decode cX3_init 77 = .ok (.iload_n 1, 1) := by decide +kernel
theorem dX3_init_78 : decode cX3_init 78 = .ok (.iconst 4, 1) := by decide +kernel
theorem dX3_init_79 : decode cX3_init 79 = .ok (.if_icmp .ge 18, 3) := by decide +kernel
theorem dX3_init_82 : decode cX3_init 82 = .ok (.aload_n 0, 1) := by decide +kernel
theorem dX3_init_83 : decode cX3_init 83 = .ok (.getfield 41, 3) := by decide +kernel
theorem dX3_init_86 : decode cX3_init 86 = .ok (.iload_n 1, 1) := by decide +kernel
theorem dX3_init_87 : decode cX3_init 87 = .ok (.ldc2_w 44, 3) := by decide +kernel
theorem dX3_init_90 : decode cX3_init 90 = .ok (.lastore, 1) := by decide +kernel
theorem dX3_init_91 : decode cX3_init 91 = .ok (.iinc 1 1, 3) := by decide +kernel
theorem dX3_init_94 : decode cX3_init 94 = .ok (.goto (-17), 3) := by decide +kernel
theorem dX3_init_97 : decode cX3_init 97 = .ok (.return_, 1) := by decide +kernel
theorem dX3_floor_0 : decode cX3_floor 0 = .ok (.lload_n 0, 1) := by decide +kernel
theorem dX3_floor_1 : decode cX3_floor 1 = .ok (.lconst 0, 1) := by decide +kernel
theorem dX3_floor_2 : decode cX3_floor 2 = .ok (.lcmp, 1) := by decide +kernel
theorem dX3_floor_3 : decode cX3_floor 3 = .ok (.ifCond .lt 9, 3) := by decide +kernel
theorem dX3_floor_6 : decode cX3_floor 6 = .ok (.lload_n 0, 1) := by decide +kernel
theorem dX3_floor_7 : decode cX3_floor 7 = .ok (.lload_n 2, 1) := by decide +kernel
theorem dX3_floor_8 : decode cX3_floor 8 = .ok (.ldiv, 1) := by decide +kernel
theorem dX3_floor_9 : decode cX3_floor 9 = .ok (.goto 11, 3) := by decide +kernel
theorem dX3_floor_12 : decode cX3_floor 12 = .ok (.lload_n 2, 1) := by decide +kernel
theorem dX3_floor_13 : decode cX3_floor 13 = .ok (.lconst 1, 1) := by decide +kernel
theorem dX3_floor_14 : decode cX3_floor 14 = .ok (.lsub, 1) := by decide +kernel
theorem dX3_floor_15 : decode cX3_floor 15 = .ok (.lload_n 0, 1) := by decide +kernel
theorem dX3_floor_16 : decode cX3_floor 16 = .ok (.lsub, 1) := by decide +kernel
theorem dX3_floor_17 : decode cX3_floor 17 = .ok (.lload_n 2, 1) := by decide +kernel
theorem dX3_floor_18 : decode cX3_floor 18 = .ok (.ldiv, 1) := by decide +kernel
theorem dX3_floor_19 : decode cX3_floor 19 = .ok (.lneg, 1) := by decide +kernel
theorem dX3_floor_20 : decode cX3_floor 20 = .ok (.lreturn, 1) := by decide +kernel
set_option maxRecDepth 20000 in
theorem ggX3_rest_X3_floor : GoodIn wsX3_rest wsX3_floor := goodIn_r _ [4] (by decide +kernel) (by decide +kernel)
set_option maxRecDepth 20000 in
theorem gX3_rest_X3_floor : GoodIn wsX3_rest (va_wsS RX3 46 yX3_floor wsX3_floor) := goodIn_app (goodIn_of _ (by decide +kernel)) ggX3_rest_X3_floor
theorem dX3_rest_0 : decode cX3_rest 0 = .ok (.lload_n 0, 1) := by decide +kernel
theorem dX3_rest_1 : decode cX3_rest 1 = .ok (.lload_n 2, 1) := by decide +kernel
theorem dX3_rest_2 : decode cX3_rest 2 = .ok (.lload_n 0, 1) := by decide +kernel
theorem dX3_rest_3 : decode cX3_rest 3 = .ok (.lload_n 2, 1) := by decide +kernel
theorem dX3_rest_4 : decode cX3_rest 4 = .ok (.invokestatic 46, 3) := by decide +kernel
theorem dX3_rest_7 : decode cX3_rest 7 = .ok (.lmul, 1) := by decide +kernel
theorem dX3_rest_8 : decode cX3_rest 8 = .ok (.lsub, 1) := by decide +kernel
theorem dX3_rest_9 : decode cX3_rest 9 = .ok (.lreturn, 1) := by decide +kernel
set_option maxRecDepth 20000 in
theorem ggX3_isLong_X3_rest : GoodIn wsX3_isLong wsX3_rest := goodIn_r _ [7, 8, 9, 6, 10] (by decide +kernel) (by decide +kernel)
set_option maxRecDepth 20000 in
theorem gX3_isLong_X3_rest : GoodIn wsX3_isLong (va_wsS RX3 52 yX3_rest wsX3_rest) := goodIn_app (goodIn_of _ (by decide +kernel)) ggX3_isLong_X3_rest
theorem dX3_isLong_0 : decode cX3_isLong 0 = .ok (.lload_n 0, 1) := by decide +kernel
theorem dX3_isLong_1 : decode cX3_isLong 1 = .ok (.ldc2_w 50, 3) := by decide +kernel
theorem dX3_isLong_4 : decode cX3_isLong 4 = .ok (.invokestatic 52, 3) := by decide +kernel
theorem dX3_isLong_7 : decode cX3_isLong 7 = .ok (.lconst 0, 1) := by decide +kernel
theorem dX3_isLong_8 : decode cX3_isLong 8 = .ok (.lcmp, 1) := by decide +kernel
theorem dX3_isLong_9 : decode cX3_isLong 9 = .ok (.ifCond .ne 15, 3) := by decide +kernel
theorem dX3_isLong_12 : decode cX3_isLong 12 = .ok (.lload_n 0, 1) := by decide +kernel
theorem dX3_isLong_13 : decode cX3_isLong 13 = .ok (.ldc2_w 55, 3) := by decide +kernel
theorem dX3_isLong_16 : decode cX3_isLong 16 = .ok (.invokestatic 52, 3) := by decide +kernel
theorem dX3_isLong_19 : decode cX3_isLong 19 = .ok (.lconst 0, 1) := by decide +kernel
theorem dX3_isLong_20 : decode cX3_isLong 20 = .ok (.lcmp, 1) := by decide +kernel
theorem dX3_isLong_21 : decode cX3_isLong 21 = .ok (.ifCond .ne 15, 3) := by decide +kernel
theorem dX3_isLong_24 : decode cX3_isLong 24 = .ok (.lload_n 0, 1) := by decide +kernel
theorem dX3_isLong_25 : decode cX3_isLong 25 = .ok (.ldc2_w 57, 3) := by decide +kernel
theorem dX3_isLong_28 : decode cX3_isLong 28 = .ok (.invokestatic 52, 3) := by decide +kernel
theorem dX3_isLong_31 : decode cX3_isLong 31 = .ok (.lconst 0, 1) := by decide +kernel
theorem dX3_isLong_32 : decode cX3_isLong 32 = .ok (.lcmp, 1) := by decide +kernel
theorem dX3_isLong_33 : decode cX3_isLong 33 = .ok (.ifCond .ne 7, 3) := by decide +kernel
theorem dX3_isLong_36 : decode cX3_isLong 36 = .ok (.iconst 1, 1) := by decide +kernel
theorem dX3_isLong_37 : decode cX3_isLong 37 = .ok (.goto 4, 3) := by decide +kernel
theorem dX3_isLong_40 : decode cX3_isLong 40 = .ok (.iconst 0, 1) := by decide +kernel
theorem dX3_isLong_41 : decode cX3_isLong 41 = .ok (.ireturn, 1) := by decide +kernel
set_option maxRecDepth 20000 in
theorem ggX3_ahead_X3_floor : GoodIn wsX3_ahead wsX3_floor := goodIn_r _ [11] (by decide +kernel) (by decide +kernel)
set_option maxRecDepth 20000 in
theorem gX3_ahead_X3_floor : GoodIn wsX3_ahead (va_wsS RX3 46 yX3_floor wsX3_floor) := goodIn_app (goodIn_of _ (by decide +kernel)) ggX3_ahead_X3_floor
theorem dX3_ahead_0 : decode cX3_ahead 0 = .ok (.ldc2_w 59, 3) := by decide +kernel
theorem dX3_ahead_3 : decode cX3_ahead 3 = .ok (.lload_n 0, 1) := by decide +kernel
theorem dX3_ahead_4 : decode cX3_ahead 4 = .ok (.lmul, 1) := by decide +kernel
theorem dX3_ahead_5 : decode cX3_ahead 5 = .ok (.lload_n 0, 1) := by decide +kernel
theorem dX3_ahead_6 : decode cX3_ahead 6 = .ok (.ldc2_w 61, 3) := by decide +kernel
theorem dX3_ahead_9 : decode cX3_ahead 9 = .ok (.ladd, 1) := by decide +kernel
theorem dX3_ahead_10 : decode cX3_ahead 10 = .ok (.ldc2_w 50, 3) := by decide +kernel
theorem dX3_ahead_13 : decode cX3_ahead 13 = .ok (.invokestatic 46, 3) := by decide +kernel
theorem dX3_ahead_16 : decode cX3_ahead 16 = .ok (.ladd, 1) := by decide +kernel
theorem dX3_ahead_17 : decode cX3_ahead 17 = .ok (.lload_n 0, 1) := by decide +kernel
theorem dX3_ahead_18 : decode cX3_ahead 18 = .ok (.ldc2_w 63, 3) := by decide +kernel
theorem dX3_ahead_21 : decode cX3_ahead 21 = .ok (.ladd, 1) := by decide +kernel
theorem dX3_ahead_22 : decode cX3_ahead 22 = .ok (.ldc2_w 55, 3) := by decide +kernel
theorem dX3_ahead_25 : decode cX3_ahead 25 = .ok (.invokestatic 46, 3) := by decide +kernel
theorem dX3_ahead_28 : decode cX3_ahead 28 = .ok (.lsub, 1) := by decide +kernel
theorem dX3_ahead_29 : decode cX3_ahead 29 = .ok (.lload_n 0, 1) := by decide +kernel
theorem dX3_ahead_30 : decode cX3_ahead 30 = .ok (.ldc2_w 65, 3) := by decide +kernel
theorem dX3_ahead_33 : decode cX3_ahead 33 = .ok (.ladd, 1) := by decide +kernel
theorem dX3_ahead_34 : decode cX3_ahead 34 = .ok (.ldc2_w 57, 3) := by decide +kernel
theorem dX3_ahead_37 : decode cX3_ahead 37 = .ok (.invokestatic 46, 3) := by decide +kernel
theorem dX3_ahead_40 : decode cX3_ahead 40 = .ok (.ladd, 1) := by decide +kernel
theorem dX3_ahead_41 : decode cX3_ahead 41 = .ok (.lreturn, 1) := by decide +kernel
set_option maxRecDepth 20000 in
theorem ggX3_first_X3_ahead : GoodIn wsX3_first wsX3_ahead := goodIn_r _ [5, 6, 7, 8, 9, 10, 11, 12, 13, 14, 4, 15] (by decide +kernel) (by decide +kernel)
set_option maxRecDepth 20000 in
theorem gX3_first_X3_ahead : GoodIn wsX3_first (va_wsS RX3 67 yX3_ahead wsX3_ahead) := goodIn_app (goodIn_of _ (by decide +kernel)) ggX3_first_X3_ahead
theorem dX3_first_0 : decode cX3_first 0 = .ok (.lload_n 0, 1) := by decide +kernel
theorem dX3_first_1 : decode cX3_first 1 = .ok (.invokestatic 67, 3) := by decide +kernel
theorem dX3_first_4 : decode cX3_first 4 = .ok (.ldc2_w 71, 3) := by decide +kernel
theorem dX3_first_7 : decode cX3_first 7 = .ok (.invokestatic 67, 3) := by decide +kernel
theorem dX3_first_10 : decode cX3_first 10 = .ok (.lsub, 1) := by decide +kernel
theorem dX3_first_11 : decode cX3_first 11 = .ok (.lreturn, 1) := by decide +kernel
set_option maxRecDepth 20000 in
theorem ggX3_many_X3_isLong : GoodIn wsX3_many wsX3_isLong := goodIn_r _ [4, 5, 6, 7, 8, 9, 3, 10, 11, 12, 13] (by decide +kernel) (by decide +kernel)
set_option maxRecDepth 20000 in
theorem gX3_many_X3_isLong : GoodIn wsX3_many (va_wsS RX3 73 yX3_isLong wsX3_isLong) := goodIn_app (goodIn_of _ (by decide +kernel)) ggX3_many_X3_isLong
theorem dX3_many_0 : decode cX3_many 0 = .ok (.iload_n 2, 1) := by decide +kernel
theorem dX3_many_1 : decode cX3_many 1 = .ok (.iconst 2, 1) := by decide +kernel
theorem dX3_many_2 : decode cX3_many 2 = .ok (.if_icmp .ne 20, 3) := by decide +kernel
theorem dX3_many_5 : decode cX3_many 5 = .ok (.lload_n 0, 1) := by decide +kernel
theorem dX3_many_6 : decode cX3_many 6 = .ok (.invokestatic 73, 3) := by decide +kernel
theorem dX3_many_9 : decode cX3_many 9 = .ok (.ifCond .eq 8, 3) := by decide +kernel
theorem dX3_many_12 : decode cX3_many 12 = .ok (.bipush 29, 2) := by decide +kernel
theorem dX3_many_14 : decode cX3_many 14 = .ok (.goto 38, 3) := by decide +kernel
theorem dX3_many_17 : decode cX3_many 17 = .ok (.bipush 28, 2) := by decide +kernel
theorem dX3_many_19 : decode cX3_many 19 = .ok (.goto 33, 3) := by decide +kernel
theorem dX3_many_22 : decode cX3_many 22 = .ok (.iload_n 2, 1) := by decide +kernel
theorem dX3_many_23 : decode cX3_many 23 = .ok (.iconst 4, 1) := by decide +kernel
theorem dX3_many_24 : decode cX3_many 24 = .ok (.if_icmp .eq 21, 3) := by decide +kernel
theorem dX3_many_27 : decode cX3_many 27 = .ok (.iload_n 2, 1) := by decide +kernel
theorem dX3_many_28 : decode cX3_many 28 = .ok (.bipush 6, 2) := by decide +kernel
theorem dX3_many_30 : decode cX3_many 30 = .ok (.if_icmp .eq 15, 3) := by decide +kernel
theorem dX3_many_33 : decode cX3_many 33 = .ok (.iload_n 2, 1) := by decide +kernel
theorem dX3_many_34 : decode cX3_many 34 = .ok (.bipush 9, 2) := by decide +kernel
theorem dX3_many_36 : decode cX3_many 36 = .ok (.if_icmp .eq 9, 3) := by decide +kernel
theorem dX3_many_39 : decode cX3_many 39 = .ok (.iload_n 2, 1) := by decide +kernel
theorem dX3_many_40 : decode cX3_many 40 = .ok (.bipush 11, 2) := by decide +kernel
theorem dX3_many_42 : decode cX3_many 42 = .ok (.if_icmp .ne 8, 3) := by decide +kernel
theorem dX3_many_45 : decode cX3_many 45 = .ok (.bipush 30, 2) := by decide +kernel
theorem dX3_many_47 : decode cX3_many 47 = .ok (.goto 5, 3) := by decide +kernel
theorem dX3_many_50 : decode cX3_many 50 = .ok (.bipush 31, 2) := by decide +kernel
theorem dX3_many_52 : decode cX3_many 52 = .ok (.ireturn, 1) := by decide +kernel
set_option maxRecDepth 20000 in
theorem ggX3_number_X3_first : GoodIn wsX3_number wsX3_first := goodIn_r _ [4, 5, 6, 7, 3, 8, 9, 10, 11, 12, 13, 14, 15, 16, 17, 18] (by decide +kernel) (by decide +kernel)
set_option maxRecDepth 20000 in
theorem gX3_number_X3_first : GoodIn wsX3_number (va_wsS RX3 77 yX3_first wsX3_first) := goodIn_app (goodIn_of _ (by decide +kernel)) ggX3_number_X3_first
set_option maxRecDepth 20000 in
theorem ggX3_number_X3_many : GoodIn wsX3_number wsX3_many := goodIn_r _ [21, 22, 23, 3, 24, 11, 13, 15, 25, 26, 27, 16, 17, 18] (by decide +kernel) (by decide +kernel)
set_option maxRecDepth 20000 in
theorem gX3_number_X3_many : GoodIn wsX3_number (va_wsS RX3 80 yX3_many wsX3_many) := goodIn_app (goodIn_of _ (by decide +kernel)) ggX3_number_X3_many
theorem dX3_number_0 : decode cX3_number 0 = .ok (.lload_n 0, 1) := by decide +kernel
theorem dX3_number_1 : decode cX3_number 1 = .ok (.invokestatic 77, 3) := by decide +kernel
theorem dX3_number_4 : decode cX3_number 4 = .ok (.iload_n 3, 1) := by decide +kernel
theorem dX3_number_5 : decode cX3_number 5 = .ok (.i2l, 1) := by decide +kernel
theorem dX3_number_6 : decode cX3_number 6 = .ok (.ladd, 1) := by decide +kernel
theorem dX3_number_7 : decode cX3_number 7 = .ok (.lconst 1, 1) := by decide +kernel
theorem dX3_number_8 : decode cX3_number 8 = .ok (.lsub, 1) := by decide +kernel
theorem dX3_number_9 : decode cX3_number 9 = .ok (.lstore 4, 2) := by decide +kernel
theorem dX3_number_11 : decode cX3_number 11 = .ok (.iconst 1, 1) := by decide +kernel
theorem dX3_number_12 : decode cX3_number 12 = .ok (.istore 6, 2) := by decide +kernel
theorem dX3_number_14 : decode cX3_number 14 = .ok (.iload 6, 2) := by decide +kernel
theorem dX3_number_16 : decode cX3_number 16 = .ok (.iload_n 2, 1) := by decide +kernel
theorem dX3_number_17 : decode cX3_number 17 = .ok (.if_icmp .ge 21, 3) := by decide +kernel
theorem dX3_number_20 : decode cX3_number 20 = .ok (.lload 4, 2) := by decide +kernel
theorem dX3_number_22 : decode cX3_number 22 = .ok (.lload_n 0, 1) := by decide +kernel
theorem dX3_number_23 : decode cX3_number 23 = .ok (.iload 6, 2) := by decide +kernel
theorem dX3_number_25 : decode cX3_number 25 = .ok (.invokestatic 80, 3) := by decide +kernel
theorem dX3_number_28 : decode cX3_number 28 = .ok (.i2l, 1) := by decide +kernel
theorem dX3_number_29 : decode cX3_number 29 = .ok (.ladd, 1) := by decide +kernel
theorem dX3_number_30 : decode cX3_number 30 = .ok (.lstore 4, 2) := by decide +kernel
theorem dX3_number_32 : decode cX3_number 32 = .ok (.iinc 6 1, 3) := by decide +kernel
theorem dX3_number_35 : decode cX3_number 35 = .ok (.goto (-21), 3) := by decide +kernel
theorem dX3_number_38 : decode cX3_number 38 = .ok (.lload 4, 2) := by decide +kernel
theorem dX3_number_40 : decode cX3_number 40 = .ok (.lreturn, 1) := by decide +kernel
set_option maxRecDepth 20000 in
theorem ggX3_parts_X3_floor : GoodIn wsX3_parts wsX3_floor := goodIn_r _ [10] (by decide +kernel) (by decide +kernel)
set_option maxRecDepth 20000 in
theorem gX3_parts_X3_floor : GoodIn wsX3_parts (va_wsS RX3 46 yX3_floor wsX3_floor) := goodIn_app (goodIn_of _ (by decide +kernel)) ggX3_parts_X3_floor
set_option maxRecDepth 20000 in
theorem ggX3_parts_X3_first : GoodIn wsX3_parts wsX3_first := goodIn_r _ [13, 1, 14, 15, 9, 16, 17, 18, 19, 20, 21, 22, 2, 7, 8, 10] (by decide +kernel) (by decide +kernel)
set_option maxRecDepth 20000 in
theorem gX3_parts_X3_first : GoodIn wsX3_parts (va_wsS RX3 77 yX3_first wsX3_first) := goodIn_app (goodIn_of _ (by decide +kernel)) ggX3_parts_X3_first
set_option maxRecDepth 20000 in
theorem ggX3_parts_X3_many : GoodIn wsX3_parts wsX3_many := goodIn_r _ [25, 26, 27, 9, 28, 19, 21, 2, 29, 30, 31, 7, 8, 10] (by decide +kernel) (by decide +kernel)
set_option maxRecDepth 20000 in
theorem gX3_parts_X3_many : GoodIn wsX3_parts (va_wsS RX3 80 yX3_many wsX3_many) := goodIn_app (goodIn_of _ (by decide +kernel)) ggX3_parts_X3_many
theorem dX3_parts_0 : decode cX3_parts 0 = .ok (.aload_n 0, 1) := by decide +kernel
theorem dX3_parts_1 : decode cX3_parts 1 = .ok (.ldc2_w 71, 3) := by decide +kernel
theorem dX3_parts_4 : decode cX3_parts 4 = .ok (.lload_n 1, 1) := by decide +kernel
theorem dX3_parts_5 : decode cX3_parts 5 = .ok (.ldc2_w 57, 3) := by decide +kernel
theorem dX3_parts_8 : decode cX3_parts 8 = .ok (.lmul, 1) := by decide +kernel
theorem dX3_parts_9 : decode cX3_parts 9 = .ok (.ldc2_w 84, 3) := by decide +kernel
theorem dX3_parts_12 : decode cX3_parts 12 = .ok (.invokestatic 46, 3) := by decide +kernel
theorem dX3_parts_15 : decode cX3_parts 15 = .ok (.ladd, 1) := by decide +kernel
theorem dX3_parts_16 : decode cX3_parts 16 = .ok (.putfield 86, 3) := by decide +kernel
theorem dX3_parts_19 : decode cX3_parts 19 = .ok (.aload_n 0, 1) := by decide +kernel
theorem dX3_parts_20 : decode cX3_parts 20 = .ok (.getfield 86, 3) := by decide +kernel
theorem dX3_parts_23 : decode cX3_parts 23 = .ok (.invokestatic 77, 3) := by decide +kernel
theorem dX3_parts_26 : decode cX3_parts 26 = .ok (.lload_n 1, 1) := by decide +kernel
theorem dX3_parts_27 : decode cX3_parts 27 = .ok (.lcmp, 1) := by decide +kernel
theorem dX3_parts_28 : decode cX3_parts 28 = .ok (.ifCond .le 16, 3) := by decide +kernel
theorem dX3_parts_31 : decode cX3_parts 31 = .ok (.aload_n 0, 1) := by decide +kernel
theorem dX3_parts_32 : decode cX3_parts 32 = .ok (.dup, 1) := by decide +kernel
theorem dX3_parts_33 : decode cX3_parts 33 = .ok (.getfield 86, 3) := by decide +kernel
theorem dX3_parts_36 : decode cX3_parts 36 = .ok (.lconst 1, 1) := by decide +kernel
theorem dX3_parts_37 : decode cX3_parts 37 = .ok (.lsub, 1) := by decide +kernel
theorem dX3_parts_38 : decode cX3_parts 38 = .ok (.putfield 86, 3) := by decide +kernel
theorem dX3_parts_41 : decode cX3_parts 41 = .ok (.goto (-22), 3) := by decide +kernel
theorem dX3_parts_44 : decode cX3_parts 44 = .ok (.aload_n 0, 1) := by decide +kernel
theorem dX3_parts_45 : decode cX3_parts 45 = .ok (.getfield 86, 3) := by decide +kernel
theorem dX3_parts_48 : decode cX3_parts 48 = .ok (.lconst 1, 1) := by decide +kernel
theorem dX3_parts_49 : decode cX3_parts 49 = .ok (.ladd, 1) := by decide +kernel
theorem dX3_parts_50 : decode cX3_parts 50 = .ok (.invokestatic 77, 3) := by decide +kernel
theorem dX3_parts_53 : decode cX3_parts 53 = .ok (.lload_n 1, 1) := by decide +kernel
theorem dX3_parts_54 : decode cX3_parts 54 = .ok (.lcmp, 1) := by decide +kernel
theorem dX3_parts_55 : decode cX3_parts 55 = .ok (.ifCond .gt 16, 3) := by decide +kernel
theorem dX3_parts_58 : decode cX3_parts 58 = .ok (.aload_n 0, 1) := by decide +kernel
theorem dX3_parts_59 : decode cX3_parts 59 = .ok (.dup, 1) := by decide +kernel
theorem dX3_parts_60 : decode cX3_parts 60 = .ok (.getfield 86, 3) := by decide +kernel
theorem dX3_parts_63 : decode cX3_parts 63 = .ok (.lconst 1, 1) := by decide +kernel
theorem dX3_parts_64 : decode cX3_parts 64 = .ok (.ladd, 1) := by decide +kernel
theorem dX3_parts_65 : decode cX3_parts 65 = .ok (.putfield 86, 3) := by decide +kernel
theorem dX3_parts_68 : decode cX3_parts 68 = .ok (.goto (-24), 3) := by decide +kernel
theorem dX3_parts_71 : decode cX3_parts 71 = .ok (.lload_n 1, 1) := by decide +kernel
theorem dX3_parts_72 : decode cX3_parts 72 = .ok (.aload_n 0, 1) := by decide +kernel
theorem dX3_parts_73 : decode cX3_parts 73 = .ok (.getfield 86, 3) := by decide +kernel
theorem dX3_parts_76 : decode cX3_parts 76 = .ok (.invokestatic 77, 3) := by decide +kernel
theorem dX3_parts_79 : decode cX3_parts 79 = .ok (.lsub, 1) := by decide +kernel
theorem dX3_parts_80 : decode cX3_parts 80 = .ok (.lstore_n 3, 1) := by decide +kernel
theorem dX3_parts_81 : decode cX3_parts 81 = .ok (.aload_n 0, 1) := by decide +kernel
theorem dX3_parts_82 : decode cX3_parts 82 = .ok (.iconst 1, 1) := by decide +kernel
theorem dX3_parts_83 : decode cX3_parts 83 = .ok (.putfield 90, 3) := by decide +kernel
theorem dX3_parts_86 : decode cX3_parts 86 = .ok (.lload_n 3, 1) := by decide +kernel
theorem dX3_parts_87 : decode cX3_parts 87 = .ok (.aload_n 0, 1) := by decide +kernel
theorem dX3_parts_88 : decode cX3_parts 88 = .ok (.getfield 86, 3) := by decide +kernel
theorem dX3_parts_91 : decode cX3_parts 91 = .ok (.aload_n 0, 1) := by decide +kernel
theorem dX3_parts_92 : decode cX3_parts 92 = .ok (.getfield 90, 3) := by decide +kernel
theorem dX3_parts_95 : decode cX3_parts 95 = .ok (.invokestatic 80, 3) := by decide +kernel
theorem dX3_parts_98 : decode cX3_parts 98 = .ok (.i2l, 1) := by decide +kernel
theorem dX3_parts_99 : decode cX3_parts 99 = .ok (.lcmp, 1) := by decide +kernel
theorem dX3_parts_100 : decode cX3_parts 100 = .ok (.ifCond .lt 31, 3) := by decide +kernel
theorem dX3_parts_103 : decode cX3_parts 103 = .ok (.lload_n 3, 1) := by decide +kernel
theorem dX3_parts_104 : decode cX3_parts 104 = .ok (.aload_n 0, 1) := by decide +kernel
theorem dX3_parts_105 : decode cX3_parts 105 = .ok (.getfield 86, 3) := by decide +kernel
theorem dX3_parts_108 : decode cX3_parts 108 = .ok (.aload_n 0, 1) := by decide +kernel
theorem dX3_parts_109 : decode cX3_parts 109 = .ok (.getfield 90, 3) := by decide +kernel
theorem dX3_parts_112 : decode cX3_parts 112 = .ok (.invokestatic 80, 3) := by decide +kernel
theorem dX3_parts_115 : decode cX3_parts 115 = .ok (.i2l, 1) := by decide +kernel
theorem dX3_parts_116 : decode cX3_parts 116 = .ok (.lsub, 1) := by decide +kernel
theorem dX3_parts_117 : decode cX3_parts 117 = .ok (.lstore_n 3, 1) := by decide +kernel
theorem dX3_parts_118 : decode cX3_parts 118 = .ok (.aload_n 0, 1) := by decide +kernel
theorem dX3_parts_119 : decode cX3_parts 119 = .ok (.dup, 1) := by decide +kernel
theorem dX3_parts_120 : decode cX3_parts 120 = .ok (.getfield 90, 3) := by decide +kernel
theorem dX3_parts_123 : decode cX3_parts 123 = .ok (.iconst 1, 1) := by decide +kernel
theorem dX3_parts_124 : decode cX3_parts 124 = .ok (.iadd, 1) := by decide +kernel
theorem dX3_parts_125 : decode cX3_parts 125 = .ok (.putfield 90, 3) := by decide +kernel
theorem dX3_parts_128 : decode cX3_parts 128 = .ok (.goto (-42), 3) := by decide +kernel
theorem dX3_parts_131 : decode cX3_parts 131 = .ok (.aload_n 0, 1) := by decide +kernel
theorem dX3_parts_132 : decode cX3_parts 132 = .ok (.lload_n 3, 1) := by decide +kernel
theorem dX3_parts_133 : decode cX3_parts 133 = .ok (.l2i, 1) := by decide +kernel
theorem dX3_parts_134 : decode cX3_parts 134 = .ok (.iconst 1, 1) := by decide +kernel
theorem dX3_parts_135 : decode cX3_parts 135 = .ok (.iadd, 1) := by decide +kernel
theorem dX3_parts_136 : decode cX3_parts 136 = .ok (.putfield 93, 3) := by decide +kernel
theorem dX3_parts_139 : decode cX3_parts 139 = .ok (.return_, 1) := by decide +kernel
set_option maxRecDepth 20000 in
theorem ggX3_isYear_X3_in : GoodIn wsX3_isYear wsX3_in := goodIn_r _ [6] (by decide +kernel) (by decide +kernel)
set_option maxRecDepth 20000 in
theorem gX3_isYear_X3_in : GoodIn wsX3_isYear (va_wsS RX3 100 yX3_in wsX3_in) := goodIn_app (goodIn_of _ (by decide +kernel)) ggX3_isYear_X3_in
theorem dX3_isYear_0 : decode cX3_isYear 0 = .ok (.lload_n 0, 1) := by decide +kernel
theorem dX3_isYear_1 : decode cX3_isYear 1 = .ok (.ldc2_w 96, 3) := by decide +kernel
theorem dX3_isYear_4 : decode cX3_isYear 4 = .ok (.ldc2_w 98, 3) := by decide +kernel
theorem dX3_isYear_7 : decode cX3_isYear 7 = .ok (.invokestatic 100, 3) := by decide +kernel
theorem dX3_isYear_10 : decode cX3_isYear 10 = .ok (.ireturn, 1) := by decide +kernel
set_option maxRecDepth 20000 in
theorem ggX3_isKept_X3_parts : GoodIn wsX3_isKept wsX3_parts := goodIn_r _ [6, 7, 8, 9, 1, 10, 11, 12, 13, 5, 14, 15, 16, 17, 18, 19, 20, 21, 22, 23, 24, 25, 26, 27, 28, 29, 30, 31, 32, 33, 34, 35, 44, 45, 46, 47, 48, 49, 50, 51, 52, 53, 54, 55, 56, 57] (by decide +kernel) (by decide +kernel)
set_option maxRecDepth 20000 in
theorem gX3_isKept_X3_parts : GoodIn wsX3_isKept (wsV RX3 104 RX3 yX3_parts wsX3_parts) := goodIn_app (goodIn_of _ (by decide +kernel)) ggX3_isKept_X3_parts
set_option maxRecDepth 20000 in
theorem ggX3_isKept_X3_isYear : GoodIn wsX3_isKept wsX3_isYear := goodIn_r _ [38, 39, 40, 41, 42, 5, 43] (by decide +kernel) (by decide +kernel)
set_option maxRecDepth 20000 in
theorem gX3_isKept_X3_isYear : GoodIn wsX3_isKept (va_wsS RX3 108 yX3_isYear wsX3_isYear) := goodIn_app (goodIn_of _ (by decide +kernel)) ggX3_isKept_X3_isYear
theorem dX3_isKept_0 : decode cX3_isKept 0 = .ok (.aload_n 0, 1) := by decide +kernel
theorem dX3_isKept_1 : decode cX3_isKept 1 = .ok (.lload_n 1, 1) := by decide +kernel
theorem dX3_isKept_2 : decode cX3_isKept 2 = .ok (.invokevirtual 104, 3) := by decide +kernel
theorem dX3_isKept_5 : decode cX3_isKept 5 = .ok (.aload_n 0, 1) := by decide +kernel
theorem dX3_isKept_6 : decode cX3_isKept 6 = .ok (.getfield 86, 3) := by decide +kernel
theorem dX3_isKept_9 : decode cX3_isKept 9 = .ok (.invokestatic 108, 3) := by decide +kernel
theorem dX3_isKept_12 : decode cX3_isKept 12 = .ok (.ireturn, 1) := by decide +kernel
set_option maxRecDepth 20000 in
theorem ggX3_weekdayOf_X3_rest : GoodIn wsX3_weekdayOf wsX3_rest := goodIn_r _ [6, 7, 8, 5, 9] (by decide +kernel) (by decide +kernel)
set_option maxRecDepth 20000 in
theorem gX3_weekdayOf_X3_rest : GoodIn wsX3_weekdayOf (va_wsS RX3 52 yX3_rest wsX3_rest) := goodIn_app (goodIn_of _ (by decide +kernel)) ggX3_weekdayOf_X3_rest
theorem dX3_weekdayOf_0 : decode cX3_weekdayOf 0 = .ok (.iconst 1, 1) := by decide +kernel
theorem dX3_weekdayOf_1 : decode cX3_weekdayOf 1 = .ok (.lload_n 0, 1) := by decide +kernel
theorem dX3_weekdayOf_2 : decode cX3_weekdayOf 2 = .ok (.ldc2_w 61, 3) := by decide +kernel
theorem dX3_weekdayOf_5 : decode cX3_weekdayOf 5 = .ok (.ladd, 1) := by decide +kernel
theorem dX3_weekdayOf_6 : decode cX3_weekdayOf 6 = .ok (.ldc2_w 111, 3) := by decide +kernel
theorem dX3_weekdayOf_9 : decode cX3_weekdayOf 9 = .ok (.invokestatic 52, 3) := by decide +kernel
theorem dX3_weekdayOf_12 : decode cX3_weekdayOf 12 = .ok (.l2i, 1) := by decide +kernel
theorem dX3_weekdayOf_13 : decode cX3_weekdayOf 13 = .ok (.iadd, 1) := by decide +kernel
theorem dX3_weekdayOf_14 : decode cX3_weekdayOf 14 = .ok (.ireturn, 1) := by decide +kernel
set_option maxRecDepth 20000 in
theorem ggX3_byMonths_X3_parts : GoodIn wsX3_byMonths wsX3_parts := goodIn_r _ [9, 10, 11, 12, 2, 3, 4, 13, 14, 8, 15, 16, 17, 18, 19, 20, 21, 22, 23, 24, 25, 26, 27, 28, 29, 30, 31, 32, 33, 34, 35, 36, 40, 41, 42, 43, 44, 45, 46, 47, 48, 49, 50, 51, 52, 53] (by decide +kernel) (by decide +kernel)
set_option maxRecDepth 20000 in
theorem gX3_byMonths_X3_parts : GoodIn wsX3_byMonths (wsV RX3 104 RX3 yX3_parts wsX3_parts) := goodIn_app (goodIn_of _ (by decide +kernel)) ggX3_byMonths_X3_parts
set_option maxRecDepth 20000 in
theorem ggX3_byMonths_X3_floor : GoodIn wsX3_byMonths wsX3_floor := goodIn_r _ [15] (by decide +kernel) (by decide +kernel)
set_option maxRecDepth 20000 in
theorem gX3_byMonths_X3_floor : GoodIn wsX3_byMonths (va_wsS RX3 46 yX3_floor wsX3_floor) := goodIn_app (goodIn_of _ (by decide +kernel)) ggX3_byMonths_X3_floor
set_option maxRecDepth 20000 in
theorem ggX3_byMonths_X3_rest : GoodIn wsX3_byMonths wsX3_rest := goodIn_r _ [36, 13, 14, 8, 15] (by decide +kernel) (by decide +kernel)
set_option maxRecDepth 20000 in
theorem gX3_byMonths_X3_rest : GoodIn wsX3_byMonths (va_wsS RX3 52 yX3_rest wsX3_rest) := goodIn_app (goodIn_of _ (by decide +kernel)) ggX3_byMonths_X3_rest
set_option maxRecDepth 20000 in
theorem ggX3_byMonths_X3_many : GoodIn wsX3_byMonths wsX3_many := goodIn_r _ [30, 31, 32, 8, 33, 24, 26, 11, 34, 35, 36, 13, 14, 15] (by decide +kernel) (by decide +kernel)
set_option maxRecDepth 20000 in
theorem gX3_byMonths_X3_many : GoodIn wsX3_byMonths (va_wsS RX3 80 yX3_many wsX3_many) := goodIn_app (goodIn_of _ (by decide +kernel)) ggX3_byMonths_X3_many
set_option maxRecDepth 20000 in
theorem ggX3_byMonths_X3_number : GoodIn wsX3_byMonths wsX3_number := goodIn_r _ [39, 16, 17, 8, 18, 10, 19, 20, 21, 22, 23, 24, 25, 26, 27, 11, 13, 14, 15, 28, 29, 30, 31, 32, 33, 34, 35, 36] (by decide +kernel) (by decide +kernel)
set_option maxRecDepth 20000 in
theorem gX3_byMonths_X3_number : GoodIn wsX3_byMonths (va_wsS RX3 115 yX3_number wsX3_number) := goodIn_app (goodIn_of _ (by decide +kernel)) ggX3_byMonths_X3_number
theorem dX3_byMonths_0 : decode cX3_byMonths 0 = .ok (.aload_n 0, 1) := by decide +kernel
theorem dX3_byMonths_1 : decode cX3_byMonths 1 = .ok (.lload_n 1, 1) := by decide +kernel
theorem dX3_byMonths_2 : decode cX3_byMonths 2 = .ok (.invokevirtual 104, 3) := by decide +kernel
theorem dX3_byMonths_5 : decode cX3_byMonths 5 = .ok (.ldc2_w 113, 3) := by decide +kernel
theorem dX3_byMonths_8 : decode cX3_byMonths 8 = .ok (.aload_n 0, 1) := by decide +kernel
theorem dX3_byMonths_9 : decode cX3_byMonths 9 = .ok (.getfield 86, 3) := by decide +kernel
theorem dX3_byMonths_12 : decode cX3_byMonths 12 = .ok (.lmul, 1) := by decide +kernel
theorem dX3_byMonths_13 : decode cX3_byMonths 13 = .ok (.aload_n 0, 1) := by decide +kernel
theorem dX3_byMonths_14 : decode cX3_byMonths 14 = .ok (.getfield 90, 3) := by decide +kernel
theorem dX3_byMonths_17 : decode cX3_byMonths 17 = .ok (.i2l, 1) := by decide +kernel
theorem dX3_byMonths_18 : decode cX3_byMonths 18 = .ok (.ladd, 1) := by decide +kernel
theorem dX3_byMonths_19 : decode cX3_byMonths 19 = .ok (.lconst 1, 1) := by decide +kernel
theorem dX3_byMonths_20 : decode cX3_byMonths 20 = .ok (.lsub, 1) := by decide +kernel
theorem dX3_byMonths_21 : decode cX3_byMonths 21 = .ok (.lload_n 3, 1) := by decide +kernel
theorem dX3_byMonths_22 : decode cX3_byMonths 22 = .ok (.ladd, 1) := by decide +kernel
theorem dX3_byMonths_23 : decode cX3_byMonths 23 = .ok (.lstore 5, 2) := by decide +kernel
theorem dX3_byMonths_25 : decode cX3_byMonths 25 = .ok (.lload 5, 2) := by decide +kernel
theorem dX3_byMonths_27 : decode cX3_byMonths 27 = .ok (.ldc2_w 113, 3) := by decide +kernel
theorem dX3_byMonths_30 : decode cX3_byMonths 30 = .ok (.invokestatic 46, 3) := by decide +kernel
theorem dX3_byMonths_33 : decode cX3_byMonths 33 = .ok (.lstore 7, 2) := by decide +kernel
theorem dX3_byMonths_35 : decode cX3_byMonths 35 = .ok (.iconst 1, 1) := by decide +kernel
theorem dX3_byMonths_36 : decode cX3_byMonths 36 = .ok (.lload 5, 2) := by decide +kernel
theorem dX3_byMonths_38 : decode cX3_byMonths 38 = .ok (.ldc2_w 113, 3) := by decide +kernel
theorem dX3_byMonths_41 : decode cX3_byMonths 41 = .ok (.invokestatic 52, 3) := by decide +kernel
theorem dX3_byMonths_44 : decode cX3_byMonths 44 = .ok (.l2i, 1) := by decide +kernel
theorem dX3_byMonths_45 : decode cX3_byMonths 45 = .ok (.iadd, 1) := by decide +kernel
theorem dX3_byMonths_46 : decode cX3_byMonths 46 = .ok (.istore 9, 2) := by decide +kernel
theorem dX3_byMonths_48 : decode cX3_byMonths 48 = .ok (.lload 7, 2) := by decide +kernel
theorem dX3_byMonths_50 : decode cX3_byMonths 50 = .ok (.iload 9, 2) := by decide +kernel
theorem dX3_byMonths_52 : decode cX3_byMonths 52 = .ok (.aload_n 0, 1) := by decide +kernel
theorem dX3_byMonths_53 : decode cX3_byMonths 53 = .ok (.getfield 93, 3) := by decide +kernel
theorem dX3_byMonths_56 : decode cX3_byMonths 56 = .ok (.lload 7, 2) := by decide +kernel
theorem dX3_byMonths_58 : decode cX3_byMonths 58 = .ok (.iload 9, 2) := by decide +kernel
theorem dX3_byMonths_60 : decode cX3_byMonths 60 = .ok (.invokestatic 80, 3) := by decide +kernel
theorem dX3_byMonths_63 : decode cX3_byMonths 63 = .ok (.if_icmp .le 13, 3) := by decide +kernel
theorem dX3_byMonths_66 : decode cX3_byMonths 66 = .ok (.lload 7, 2) := by decide +kernel
theorem dX3_byMonths_68 : decode cX3_byMonths 68 = .ok (.iload 9, 2) := by decide +kernel
theorem dX3_byMonths_70 : decode cX3_byMonths 70 = .ok (.invokestatic 80, 3) := by decide +kernel
theorem dX3_byMonths_73 : decode cX3_byMonths 73 = .ok (.goto 7, 3) := by decide +kernel
theorem dX3_byMonths_76 : decode cX3_byMonths 76 = .ok (.aload_n 0, 1) := by decide +kernel
theorem dX3_byMonths_77 : decode cX3_byMonths 77 = .ok (.getfield 93, 3) := by decide +kernel
theorem dX3_byMonths_80 : decode cX3_byMonths 80 = .ok (.invokestatic 115, 3) := by decide +kernel
theorem dX3_byMonths_83 : decode cX3_byMonths 83 = .ok (.lreturn, 1) := by decide +kernel
set_option maxRecDepth 20000 in
theorem ggX3_isDate_X3_in : GoodIn wsX3_isDate wsX3_in := goodIn_r _ [5] (by decide +kernel) (by decide +kernel)
set_option maxRecDepth 20000 in
theorem gX3_isDate_X3_in : GoodIn wsX3_isDate (va_wsS RX3 100 yX3_in wsX3_in) := goodIn_app (goodIn_of _ (by decide +kernel)) ggX3_isDate_X3_in
theorem dX3_isDate_0 : decode cX3_isDate 0 = .ok (.iload_n 0, 1) := by decide +kernel
theorem dX3_isDate_1 : decode cX3_isDate 1 = .ok (.i2l, 1) := by decide +kernel
theorem dX3_isDate_2 : decode cX3_isDate 2 = .ok (.lconst 0, 1) := by decide +kernel
theorem dX3_isDate_3 : decode cX3_isDate 3 = .ok (.ldc2_w 119, 3) := by decide +kernel
theorem dX3_isDate_6 : decode cX3_isDate 6 = .ok (.invokestatic 100, 3) := by decide +kernel
theorem dX3_isDate_9 : decode cX3_isDate 9 = .ok (.ireturn, 1) := by decide +kernel
set_option maxRecDepth 20000 in
theorem ggX3_isSlot_X3_in : GoodIn wsX3_isSlot wsX3_in := goodIn_r _ [5] (by decide +kernel) (by decide +kernel)
set_option maxRecDepth 20000 in
theorem gX3_isSlot_X3_in : GoodIn wsX3_isSlot (va_wsS RX3 100 yX3_in wsX3_in) := goodIn_app (goodIn_of _ (by decide +kernel)) ggX3_isSlot_X3_in
theorem dX3_isSlot_0 : decode cX3_isSlot 0 = .ok (.iload_n 0, 1) := by decide +kernel
theorem dX3_isSlot_1 : decode cX3_isSlot 1 = .ok (.i2l, 1) := by decide +kernel
theorem dX3_isSlot_2 : decode cX3_isSlot 2 = .ok (.lconst 0, 1) := by decide +kernel
theorem dX3_isSlot_3 : decode cX3_isSlot 3 = .ok (.ldc2_w 61, 3) := by decide +kernel
theorem dX3_isSlot_6 : decode cX3_isSlot 6 = .ok (.invokestatic 100, 3) := by decide +kernel
theorem dX3_isSlot_9 : decode cX3_isSlot 9 = .ok (.ireturn, 1) := by decide +kernel
set_option maxRecDepth 20000 in
theorem ggX3_date_X3_isDate : GoodIn wsX3_date wsX3_isDate := goodIn_r _ [6, 7, 8, 9, 5, 10] (by decide +kernel) (by decide +kernel)
set_option maxRecDepth 20000 in
theorem gX3_date_X3_isDate : GoodIn wsX3_date (va_wsS RX3 121 yX3_isDate wsX3_isDate) := goodIn_app (goodIn_of _ (by decide +kernel)) ggX3_date_X3_isDate
set_option maxRecDepth 20000 in
theorem ggX3_date_X3_isYear : GoodIn wsX3_date wsX3_isYear := goodIn_r _ [13, 14, 15, 8, 9, 5, 10] (by decide +kernel) (by decide +kernel)
set_option maxRecDepth 20000 in
theorem gX3_date_X3_isYear : GoodIn wsX3_date (va_wsS RX3 108 yX3_isYear wsX3_isYear) := goodIn_app (goodIn_of _ (by decide +kernel)) ggX3_date_X3_isYear
set_option maxRecDepth 20000 in
theorem ggX3_date_X3_in : GoodIn wsX3_date wsX3_in := goodIn_r _ [10] (by decide +kernel) (by decide +kernel)
set_option maxRecDepth 20000 in
theorem gX3_date_X3_in : GoodIn wsX3_date (va_wsS RX3 100 yX3_in wsX3_in) := goodIn_app (goodIn_of _ (by decide +kernel)) ggX3_date_X3_in
set_option maxRecDepth 20000 in
theorem ggX3_date_X3_many : GoodIn wsX3_date wsX3_many := goodIn_r _ [18, 19, 20, 5, 21, 22, 23, 24, 25, 26, 27, 28, 29, 30] (by decide +kernel) (by decide +kernel)
set_option maxRecDepth 20000 in
theorem gX3_date_X3_many : GoodIn wsX3_date (va_wsS RX3 80 yX3_many wsX3_many) := goodIn_app (goodIn_of _ (by decide +kernel)) ggX3_date_X3_many
set_option maxRecDepth 20000 in
theorem ggX3_date_X3_fails : GoodIn wsX3_date wsX3_fails := goodIn_r _ [34, 35, 50, 51, 52, 53, 54, 55, 56, 57, 58, 59, 60, 61, 62, 63] (by decide +kernel) (by decide +kernel)
set_option maxRecDepth 20000 in
theorem gX3_date_X3_fails : GoodIn wsX3_date (wsV RX3 125 RX3 yX3_fails wsX3_fails) := goodIn_app (goodIn_of _ (by decide +kernel)) ggX3_date_X3_fails
set_option maxRecDepth 20000 in
theorem ggX3_date_X3_number : GoodIn wsX3_date wsX3_number := goodIn_r _ [38, 39, 40, 5, 41, 42, 43, 44, 45, 46, 47, 22, 48, 23, 49, 24, 28, 29, 30, 16, 17, 18, 19, 20, 21, 25, 26, 27] (by decide +kernel) (by decide +kernel)
set_option maxRecDepth 20000 in
theorem gX3_date_X3_number : GoodIn wsX3_date (va_wsS RX3 115 yX3_number wsX3_number) := goodIn_app (goodIn_of _ (by decide +kernel)) ggX3_date_X3_number
theorem dX3_date_0 : decode cX3_date 0 = .ok (.aload_n 0, 1) := by decide +kernel
theorem dX3_date_1 : decode cX3_date 1 = .ok (.iload_n 1, 1) := by decide +kernel
theorem dX3_date_2 : decode cX3_date 2 = .ok (.invokestatic 121, 3) := by decide +kernel
theorem dX3_date_5 : decode cX3_date 5 = .ok (.ifCond .ne 7, 3) := by decide +kernel
theorem dX3_date_8 : decode cX3_date 8 = .ok (.iconst 1, 1) := by decide +kernel
theorem dX3_date_9 : decode cX3_date 9 = .ok (.goto 61, 3) := by decide +kernel
theorem dX3_date_12 : decode cX3_date 12 = .ok (.iload_n 2, 1) := by decide +kernel
theorem dX3_date_13 : decode cX3_date 13 = .ok (.i2l, 1) := by decide +kernel
theorem dX3_date_14 : decode cX3_date 14 = .ok (.invokestatic 108, 3) := by decide +kernel
theorem dX3_date_17 : decode cX3_date 17 = .ok (.ifCond .eq 52, 3) := by decide +kernel
theorem dX3_date_20 : decode cX3_date 20 = .ok (.iload_n 3, 1) := by decide +kernel
theorem dX3_date_21 : decode cX3_date 21 = .ok (.i2l, 1) := by decide +kernel
theorem dX3_date_22 : decode cX3_date 22 = .ok (.lconst 1, 1) := by decide +kernel
theorem dX3_date_23 : decode cX3_date 23 = .ok (.ldc2_w 113, 3) := by decide +kernel
theorem dX3_date_26 : decode cX3_date 26 = .ok (.invokestatic 100, 3) := by decide +kernel
theorem dX3_date_29 : decode cX3_date 29 = .ok (.ifCond .eq 40, 3) := by decide +kernel
theorem dX3_date_32 : decode cX3_date 32 = .ok (.iload 4, 2) := by decide +kernel
theorem dX3_date_34 : decode cX3_date 34 = .ok (.i2l, 1) := by decide +kernel
theorem dX3_date_35 : decode cX3_date 35 = .ok (.lconst 1, 1) := by decide +kernel
theorem dX3_date_36 : decode cX3_date 36 = .ok (.iload_n 3, 1) := by decide +kernel
theorem dX3_date_37 : decode cX3_date 37 = .ok (.i2l, 1) := by decide +kernel
theorem dX3_date_38 : decode cX3_date 38 = .ok (.lconst 1, 1) := by decide +kernel
theorem dX3_date_39 : decode cX3_date 39 = .ok (.ldc2_w 113, 3) := by decide +kernel
theorem dX3_date_42 : decode cX3_date 42 = .ok (.invokestatic 100, 3) := by decide +kernel
theorem dX3_date_45 : decode cX3_date 45 = .ok (.ifCond .eq 13, 3) := by decide +kernel
theorem dX3_date_48 : decode cX3_date 48 = .ok (.iload_n 2, 1) := by decide +kernel
theorem dX3_date_49 : decode cX3_date 49 = .ok (.i2l, 1) := by decide +kernel
theorem dX3_date_50 : decode cX3_date 50 = .ok (.iload_n 3, 1) := by decide +kernel
theorem dX3_date_51 : decode cX3_date 51 = .ok (.invokestatic 80, 3) := by decide +kernel
theorem dX3_date_54 : decode cX3_date 54 = .ok (.i2l, 1) := by decide +kernel
theorem dX3_date_55 : decode cX3_date 55 = .ok (.goto 4, 3) := by decide +kernel
theorem dX3_date_58 : decode cX3_date 58 = .ok (.lconst 0, 1) := by decide +kernel
theorem dX3_date_59 : decode cX3_date 59 = .ok (.invokestatic 100, 3) := by decide +kernel
theorem dX3_date_62 : decode cX3_date 62 = .ok (.ifCond .eq 7, 3) := by decide +kernel
