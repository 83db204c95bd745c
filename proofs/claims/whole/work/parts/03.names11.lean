set_option maxRecDepth 20000 in
theorem gX3_moveTime_X3_rest : GoodIn wsX3_moveTime (va_wsS RX3 52 yX3_rest wsX3_rest) := goodIn_app (goodIn_of _ (by decide +kernel)) ggX3_moveTime_X3_rest
theorem dX3_moveTime_0 : decode cX3_moveTime 0 = .ok (.aload_n 0, 1) := by decide +kernel
theorem dX3_moveTime_1 : decode cX3_moveTime 1 = .ok (.iload_n 1, 1) := by decide +kernel
theorem dX3_moveTime_2 : decode cX3_moveTime 2 = .ok (.invokestatic 174, 3) := by decide +kernel
theorem dX3_moveTime_5 : decode cX3_moveTime 5 = .ok (.ifCond .eq 11, 3) := by decide +kernel
theorem dX3_moveTime_8 : decode cX3_moveTime 8 = .ok (.iload 5, 2) := by decide +kernel
theorem dX3_moveTime_10 : decode cX3_moveTime 10 = .ok (.invokestatic 174, 3) := by decide +kernel
theorem dX3_moveTime_13 : decode cX3_moveTime 13 = .ok (.ifCond .ne 7, 3) := by decide +kernel
theorem dX3_moveTime_16 : decode cX3_moveTime 16 = .ok (.iconst 1, 1) := by decide +kernel
theorem dX3_moveTime_17 : decode cX3_moveTime 17 = .ok (.goto 45, 3) := by decide +kernel
theorem dX3_moveTime_20 : decode cX3_moveTime 20 = .ok (.iload_n 2, 1) := by decide +kernel
theorem dX3_moveTime_21 : decode cX3_moveTime 21 = .ok (.bipush 104, 2) := by decide +kernel
theorem dX3_moveTime_23 : decode cX3_moveTime 23 = .ok (.if_icmp .eq 21, 3) := by decide +kernel
theorem dX3_moveTime_26 : decode cX3_moveTime 26 = .ok (.iload_n 2, 1) := by decide +kernel
theorem dX3_moveTime_27 : decode cX3_moveTime 27 = .ok (.bipush 109, 2) := by decide +kernel
theorem dX3_moveTime_29 : decode cX3_moveTime 29 = .ok (.if_icmp .eq 15, 3) := by decide +kernel
theorem dX3_moveTime_32 : decode cX3_moveTime 32 = .ok (.iload_n 2, 1) := by decide +kernel
theorem dX3_moveTime_33 : decode cX3_moveTime 33 = .ok (.bipush 115, 2) := by decide +kernel
theorem dX3_moveTime_35 : decode cX3_moveTime 35 = .ok (.if_icmp .eq 9, 3) := by decide +kernel
theorem dX3_moveTime_38 : decode cX3_moveTime 38 = .ok (.iload_n 2, 1) := by decide +kernel
theorem dX3_moveTime_39 : decode cX3_moveTime 39 = .ok (.bipush 110, 2) := by decide +kernel
theorem dX3_moveTime_41 : decode cX3_moveTime 41 = .ok (.if_icmp .ne 20, 3) := by decide +kernel
theorem dX3_moveTime_44 : decode cX3_moveTime 44 = .ok (.lload_n 3, 1) := by decide +kernel
theorem dX3_moveTime_45 : decode cX3_moveTime 45 = .ok (.ldc2_w 207, 3) := by decide +kernel
theorem dX3_moveTime_48 : decode cX3_moveTime 48 = .ok (.ldc2_w 209, 3) := by decide +kernel
theorem dX3_moveTime_51 : decode cX3_moveTime 51 = .ok (.invokestatic 100, 3) := by decide +kernel
theorem dX3_moveTime_54 : decode cX3_moveTime 54 = .ok (.ifCond .eq 7, 3) := by decide +kernel
theorem dX3_moveTime_57 : decode cX3_moveTime 57 = .ok (.iconst 0, 1) := by decide +kernel
theorem dX3_moveTime_58 : decode cX3_moveTime 58 = .ok (.goto 4, 3) := by decide +kernel
theorem dX3_moveTime_61 : decode cX3_moveTime 61 = .ok (.iconst 2, 1) := by decide +kernel
theorem dX3_moveTime_62 : decode cX3_moveTime 62 = .ok (.invokevirtual 125, 3) := by decide +kernel
theorem dX3_moveTime_65 : decode cX3_moveTime 65 = .ok (.ifCond .eq 5, 3) := by decide +kernel
theorem dX3_moveTime_68 : decode cX3_moveTime 68 = .ok (.lconst 0, 1) := by decide +kernel
theorem dX3_moveTime_69 : decode cX3_moveTime 69 = .ok (.lreturn, 1) := by decide +kernel
theorem dX3_moveTime_70 : decode cX3_moveTime 70 = .ok (.aload_n 0, 1) := by decide +kernel
theorem dX3_moveTime_71 : decode cX3_moveTime 71 = .ok (.getfield 17, 3) := by decide +kernel
theorem dX3_moveTime_74 : decode cX3_moveTime 74 = .ok (.iload 5, 2) := by decide +kernel
theorem dX3_moveTime_76 : decode cX3_moveTime 76 = .ok (.aload_n 0, 1) := by decide +kernel
theorem dX3_moveTime_77 : decode cX3_moveTime 77 = .ok (.getfield 17, 3) := by decide +kernel
theorem dX3_moveTime_80 : decode cX3_moveTime 80 = .ok (.iload_n 1, 1) := by decide +kernel
theorem dX3_moveTime_81 : decode cX3_moveTime 81 = .ok (.laload, 1) := by decide +kernel
theorem dX3_moveTime_82 : decode cX3_moveTime 82 = .ok (.lload_n 3, 1) := by decide +kernel
theorem dX3_moveTime_83 : decode cX3_moveTime 83 = .ok (.iload_n 2, 1) := by decide +kernel
theorem dX3_moveTime_84 : decode cX3_moveTime 84 = .ok (.bipush 104, 2) := by decide +kernel
theorem dX3_moveTime_86 : decode cX3_moveTime 86 = .ok (.if_icmp .ne 9, 3) := by decide +kernel
theorem dX3_moveTime_89 : decode cX3_moveTime 89 = .ok (.ldc2_w 203, 3) := by decide +kernel
theorem dX3_moveTime_92 : decode cX3_moveTime 92 = .ok (.goto 28, 3) := by decide +kernel
theorem dX3_moveTime_95 : decode cX3_moveTime 95 = .ok (.iload_n 2, 1) := by decide +kernel
theorem dX3_moveTime_96 : decode cX3_moveTime 96 = .ok (.bipush 109, 2) := by decide +kernel
theorem dX3_moveTime_98 : decode cX3_moveTime 98 = .ok (.if_icmp .ne 9, 3) := by decide +kernel
theorem dX3_moveTime_101 : decode cX3_moveTime 101 = .ok (.ldc2_w 211, 3) := by decide +kernel
theorem dX3_moveTime_104 : decode cX3_moveTime 104 = .ok (.goto 16, 3) := by decide +kernel
theorem dX3_moveTime_107 : decode cX3_moveTime 107 = .ok (.iload_n 2, 1) := by decide +kernel
theorem dX3_moveTime_108 : decode cX3_moveTime 108 = .ok (.bipush 115, 2) := by decide +kernel
theorem dX3_moveTime_110 : decode cX3_moveTime 110 = .ok (.if_icmp .ne 9, 3) := by decide +kernel
theorem dX3_moveTime_113 : decode cX3_moveTime 113 = .ok (.ldc2_w 199, 3) := by decide +kernel
theorem dX3_moveTime_116 : decode cX3_moveTime 116 = .ok (.goto 4, 3) := by decide +kernel
theorem dX3_moveTime_119 : decode cX3_moveTime 119 = .ok (.lconst 1, 1) := by decide +kernel
theorem dX3_moveTime_120 : decode cX3_moveTime 120 = .ok (.invokestatic 213, 3) := by decide +kernel
theorem dX3_moveTime_123 : decode cX3_moveTime 123 = .ok (.ladd, 1) := by decide +kernel
theorem dX3_moveTime_124 : decode cX3_moveTime 124 = .ok (.ldc2_w 205, 3) := by decide +kernel
theorem dX3_moveTime_127 : decode cX3_moveTime 127 = .ok (.invokestatic 52, 3) := by decide +kernel
theorem dX3_moveTime_130 : decode cX3_moveTime 130 = .ok (.lastore, 1) := by decide +kernel
theorem dX3_moveTime_131 : decode cX3_moveTime 131 = .ok (.aload_n 0, 1) := by decide +kernel
theorem dX3_moveTime_132 : decode cX3_moveTime 132 = .ok (.getfield 17, 3) := by decide +kernel
theorem dX3_moveTime_135 : decode cX3_moveTime 135 = .ok (.iload 5, 2) := by decide +kernel
theorem dX3_moveTime_137 : decode cX3_moveTime 137 = .ok (.laload, 1) := by decide +kernel
theorem dX3_moveTime_138 : decode cX3_moveTime 138 = .ok (.lreturn, 1) := by decide +kernel
set_option maxRecDepth 20000 in
theorem ggX3_cutTime_X3_isSlot : GoodIn wsX3_cutTime wsX3_isSlot := goodIn_r _ [9, 10, 11, 12, 8, 13] (by decide +kernel) (by decide +kernel)
set_option maxRecDepth 20000 in
theorem gX3_cutTime_X3_isSlot : GoodIn wsX3_cutTime (va_wsS RX3 174 yX3_isSlot wsX3_isSlot) := goodIn_app (goodIn_of _ (by decide +kernel)) ggX3_cutTime_X3_isSlot
set_option maxRecDepth 20000 in
theorem ggX3_cutTime_X3_fails : GoodIn wsX3_cutTime wsX3_fails := goodIn_r _ [17, 18, 19, 20, 21, 22, 23, 24, 25, 26, 27, 28, 29, 30, 31, 32] (by decide +kernel) (by decide +kernel)
set_option maxRecDepth 20000 in
theorem gX3_cutTime_X3_fails : GoodIn wsX3_cutTime (wsV RX3 125 RX3 yX3_fails wsX3_fails) := goodIn_app (goodIn_of _ (by decide +kernel)) ggX3_cutTime_X3_fails
theorem dX3_cutTime_0 : decode cX3_cutTime 0 = .ok (.aload_n 0, 1) := by decide +kernel
theorem dX3_cutTime_1 : decode cX3_cutTime 1 = .ok (.iload_n 1, 1) := by decide +kernel
theorem dX3_cutTime_2 : decode cX3_cutTime 2 = .ok (.invokestatic 174, 3) := by decide +kernel
theorem dX3_cutTime_5 : decode cX3_cutTime 5 = .ok (.ifCond .eq 10, 3) := by decide +kernel
theorem dX3_cutTime_8 : decode cX3_cutTime 8 = .ok (.iload_n 3, 1) := by decide +kernel
theorem dX3_cutTime_9 : decode cX3_cutTime 9 = .ok (.invokestatic 174, 3) := by decide +kernel
theorem dX3_cutTime_12 : decode cX3_cutTime 12 = .ok (.ifCond .ne 7, 3) := by decide +kernel
theorem dX3_cutTime_15 : decode cX3_cutTime 15 = .ok (.iconst 1, 1) := by decide +kernel
theorem dX3_cutTime_16 : decode cX3_cutTime 16 = .ok (.goto 32, 3) := by decide +kernel
theorem dX3_cutTime_19 : decode cX3_cutTime 19 = .ok (.iload_n 2, 1) := by decide +kernel
theorem dX3_cutTime_20 : decode cX3_cutTime 20 = .ok (.bipush 104, 2) := by decide +kernel
theorem dX3_cutTime_22 : decode cX3_cutTime 22 = .ok (.if_icmp .eq 21, 3) := by decide +kernel
theorem dX3_cutTime_25 : decode cX3_cutTime 25 = .ok (.iload_n 2, 1) := by decide +kernel
theorem dX3_cutTime_26 : decode cX3_cutTime 26 = .ok (.bipush 109, 2) := by decide +kernel
theorem dX3_cutTime_28 : decode cX3_cutTime 28 = .ok (.if_icmp .eq 15, 3) := by decide +kernel
theorem dX3_cutTime_31 : decode cX3_cutTime 31 = .ok (.iload_n 2, 1) := by decide +kernel
theorem dX3_cutTime_32 : decode cX3_cutTime 32 = .ok (.bipush 115, 2) := by decide +kernel
theorem dX3_cutTime_34 : decode cX3_cutTime 34 = .ok (.if_icmp .eq 9, 3) := by decide +kernel
theorem dX3_cutTime_37 : decode cX3_cutTime 37 = .ok (.iload_n 2, 1) := by decide +kernel
theorem dX3_cutTime_38 : decode cX3_cutTime 38 = .ok (.bipush 100, 2) := by decide +kernel
theorem dX3_cutTime_40 : decode cX3_cutTime 40 = .ok (.if_icmp .ne 7, 3) := by decide +kernel
theorem dX3_cutTime_43 : decode cX3_cutTime 43 = .ok (.iconst 0, 1) := by decide +kernel
theorem dX3_cutTime_44 : decode cX3_cutTime 44 = .ok (.goto 4, 3) := by decide +kernel
theorem dX3_cutTime_47 : decode cX3_cutTime 47 = .ok (.iconst 2, 1) := by decide +kernel
theorem dX3_cutTime_48 : decode cX3_cutTime 48 = .ok (.invokevirtual 125, 3) := by decide +kernel
theorem dX3_cutTime_51 : decode cX3_cutTime 51 = .ok (.ifCond .eq 5, 3) := by decide +kernel
theorem dX3_cutTime_54 : decode cX3_cutTime 54 = .ok (.lconst 0, 1) := by decide +kernel
theorem dX3_cutTime_55 : decode cX3_cutTime 55 = .ok (.lreturn, 1) := by decide +kernel
theorem dX3_cutTime_56 : decode cX3_cutTime 56 = .ok (.iload_n 2, 1) := by decide +kernel
theorem dX3_cutTime_57 : decode cX3_cutTime 57 = .ok (.bipush 104, 2) := by decide +kernel
theorem dX3_cutTime_59 : decode cX3_cutTime 59 = .ok (.if_icmp .ne 9, 3) := by decide +kernel
theorem dX3_cutTime_62 : decode cX3_cutTime 62 = .ok (.ldc2_w 203, 3) := by decide +kernel
theorem dX3_cutTime_65 : decode cX3_cutTime 65 = .ok (.goto 30, 3) := by decide +kernel
theorem dX3_cutTime_68 : decode cX3_cutTime 68 = .ok (.iload_n 2, 1) := by decide +kernel
theorem dX3_cutTime_69 : decode cX3_cutTime 69 = .ok (.bipush 109, 2) := by decide +kernel
theorem dX3_cutTime_71 : decode cX3_cutTime 71 = .ok (.if_icmp .ne 9, 3) := by decide +kernel
theorem dX3_cutTime_74 : decode cX3_cutTime 74 = .ok (.ldc2_w 211, 3) := by decide +kernel
theorem dX3_cutTime_77 : decode cX3_cutTime 77 = .ok (.goto 18, 3) := by decide +kernel
theorem dX3_cutTime_80 : decode cX3_cutTime 80 = .ok (.iload_n 2, 1) := by decide +kernel
theorem dX3_cutTime_81 : decode cX3_cutTime 81 = .ok (.bipush 115, 2) := by decide +kernel
theorem dX3_cutTime_83 : decode cX3_cutTime 83 = .ok (.if_icmp .ne 9, 3) := by decide +kernel
theorem dX3_cutTime_86 : decode cX3_cutTime 86 = .ok (.ldc2_w 199, 3) := by decide +kernel
theorem dX3_cutTime_89 : decode cX3_cutTime 89 = .ok (.goto 6, 3) := by decide +kernel
theorem dX3_cutTime_92 : decode cX3_cutTime 92 = .ok (.ldc2_w 205, 3) := by decide +kernel
theorem dX3_cutTime_95 : decode cX3_cutTime 95 = .ok (.lstore 4, 2) := by decide +kernel
theorem dX3_cutTime_97 : decode cX3_cutTime 97 = .ok (.aload_n 0, 1) := by decide +kernel
theorem dX3_cutTime_98 : decode cX3_cutTime 98 = .ok (.getfield 17, 3) := by decide +kernel
theorem dX3_cutTime_101 : decode cX3_cutTime 101 = .ok (.iload_n 3, 1) := by decide +kernel
theorem dX3_cutTime_102 : decode cX3_cutTime 102 = .ok (.aload_n 0, 1) := by decide +kernel
theorem dX3_cutTime_103 : decode cX3_cutTime 103 = .ok (.getfield 17, 3) := by decide +kernel
theorem dX3_cutTime_106 : decode cX3_cutTime 106 = .ok (.iload_n 1, 1) := by decide +kernel
theorem dX3_cutTime_107 : decode cX3_cutTime 107 = .ok (.laload, 1) := by decide +kernel
theorem dX3_cutTime_108 : decode cX3_cutTime 108 = .ok (.aload_n 0, 1) := by decide +kernel
theorem dX3_cutTime_109 : decode cX3_cutTime 109 = .ok (.getfield 17, 3) := by decide +kernel
theorem dX3_cutTime_112 : decode cX3_cutTime 112 = .ok (.iload_n 1, 1) := by decide +kernel
theorem dX3_cutTime_113 : decode cX3_cutTime 113 = .ok (.laload, 1) := by decide +kernel
theorem dX3_cutTime_114 : decode cX3_cutTime 114 = .ok (.lload 4, 2) := by decide +kernel
theorem dX3_cutTime_116 : decode cX3_cutTime 116 = .ok (.lrem, 1) := by decide +kernel
theorem dX3_cutTime_117 : decode cX3_cutTime 117 = .ok (.lsub, 1) := by decide +kernel
theorem dX3_cutTime_118 : decode cX3_cutTime 118 = .ok (.lastore, 1) := by decide +kernel
theorem dX3_cutTime_119 : decode cX3_cutTime 119 = .ok (.aload_n 0, 1) := by decide +kernel
theorem dX3_cutTime_120 : decode cX3_cutTime 120 = .ok (.getfield 17, 3) := by decide +kernel
theorem dX3_cutTime_123 : decode cX3_cutTime 123 = .ok (.iload_n 3, 1) := by decide +kernel
theorem dX3_cutTime_124 : decode cX3_cutTime 124 = .ok (.laload, 1) := by decide +kernel
theorem dX3_cutTime_125 : decode cX3_cutTime 125 = .ok (.lreturn, 1) := by decide +kernel
set_option maxRecDepth 20000 in
theorem ggX3_goTime_X3_isSlot : GoodIn wsX3_goTime wsX3_isSlot := goodIn_r _ [9, 10, 11, 12, 8, 13] (by decide +kernel) (by decide +kernel)
set_option maxRecDepth 20000 in
theorem gX3_goTime_X3_isSlot : GoodIn wsX3_goTime (va_wsS RX3 174 yX3_isSlot wsX3_isSlot) := goodIn_app (goodIn_of _ (by decide +kernel)) ggX3_goTime_X3_isSlot
set_option maxRecDepth 20000 in
theorem ggX3_goTime_X3_fails : GoodIn wsX3_goTime wsX3_fails := goodIn_r _ [17, 18, 28, 29, 30, 31, 32, 33, 34, 35, 36, 37, 38, 39, 40, 41] (by decide +kernel) (by decide +kernel)
set_option maxRecDepth 20000 in
theorem gX3_goTime_X3_fails : GoodIn wsX3_goTime (wsV RX3 125 RX3 yX3_fails wsX3_fails) := goodIn_app (goodIn_of _ (by decide +kernel)) ggX3_goTime_X3_fails
set_option maxRecDepth 20000 in
theorem ggX3_goTime_X3_round : GoodIn wsX3_goTime wsX3_round := goodIn_r _ [21, 5, 22, 23, 8, 24, 25, 26, 27] (by decide +kernel) (by decide +kernel)
set_option maxRecDepth 20000 in
theorem gX3_goTime_X3_round : GoodIn wsX3_goTime (va_wsS RX3 213 yX3_round wsX3_round) := goodIn_app (goodIn_of _ (by decide +kernel)) ggX3_goTime_X3_round
set_option maxRecDepth 20000 in
theorem ggX3_goTime_X3_rest : GoodIn wsX3_goTime wsX3_rest := goodIn_r _ [24, 25, 26, 8, 27] (by decide +kernel) (by decide +kernel)
set_option maxRecDepth 20000 in
theorem gX3_goTime_X3_rest : GoodIn wsX3_goTime (va_wsS RX3 52 yX3_rest wsX3_rest) := goodIn_app (goodIn_of _ (by decide +kernel)) ggX3_goTime_X3_rest
theorem dX3_goTime_0 : decode cX3_goTime 0 = .ok (.aload_n 0, 1) := by decide +kernel
theorem dX3_goTime_1 : decode cX3_goTime 1 = .ok (.iload_n 1, 1) := by decide +kernel
theorem dX3_goTime_2 : decode cX3_goTime 2 = .ok (.invokestatic 174, 3) := by decide +kernel
theorem dX3_goTime_5 : decode cX3_goTime 5 = .ok (.ifCond .eq 22, 3) := by decide +kernel
theorem dX3_goTime_8 : decode cX3_goTime 8 = .ok (.iload_n 2, 1) := by decide +kernel
theorem dX3_goTime_9 : decode cX3_goTime 9 = .ok (.invokestatic 174, 3) := by decide +kernel
theorem dX3_goTime_12 : decode cX3_goTime 12 = .ok (.ifCond .eq 15, 3) := by decide +kernel
theorem dX3_goTime_15 : decode cX3_goTime 15 = .ok (.iload 4, 2) := by decide +kernel
theorem dX3_goTime_17 : decode cX3_goTime 17 = .ok (.invokestatic 174, 3) := by decide +kernel
theorem dX3_goTime_20 : decode cX3_goTime 20 = .ok (.ifCond .eq 7, 3) := by decide +kernel
theorem dX3_goTime_23 : decode cX3_goTime 23 = .ok (.iconst 0, 1) := by decide +kernel
theorem dX3_goTime_24 : decode cX3_goTime 24 = .ok (.goto 4, 3) := by decide +kernel
theorem dX3_goTime_27 : decode cX3_goTime 27 = .ok (.iconst 1, 1) := by decide +kernel
theorem dX3_goTime_28 : decode cX3_goTime 28 = .ok (.invokevirtual 125, 3) := by decide +kernel
theorem dX3_goTime_31 : decode cX3_goTime 31 = .ok (.ifCond .eq 5, 3) := by decide +kernel
theorem dX3_goTime_34 : decode cX3_goTime 34 = .ok (.lconst 0, 1) := by decide +kernel
theorem dX3_goTime_35 : decode cX3_goTime 35 = .ok (.lreturn, 1) := by decide +kernel
theorem dX3_goTime_36 : decode cX3_goTime 36 = .ok (.aload_n 0, 1) := by decide +kernel
theorem dX3_goTime_37 : decode cX3_goTime 37 = .ok (.getfield 20, 3) := by decide +kernel
theorem dX3_goTime_40 : decode cX3_goTime 40 = .ok (.iload_n 2, 1) := by decide +kernel
theorem dX3_goTime_41 : decode cX3_goTime 41 = .ok (.laload, 1) := by decide +kernel
theorem dX3_goTime_42 : decode cX3_goTime 42 = .ok (.ldc2_w 199, 3) := by decide +kernel
theorem dX3_goTime_45 : decode cX3_goTime 45 = .ok (.invokestatic 213, 3) := by decide +kernel
theorem dX3_goTime_48 : decode cX3_goTime 48 = .ok (.aload_n 0, 1) := by decide +kernel
theorem dX3_goTime_49 : decode cX3_goTime 49 = .ok (.getfield 23, 3) := by decide +kernel
theorem dX3_goTime_52 : decode cX3_goTime 52 = .ok (.iload_n 2, 1) := by decide +kernel
theorem dX3_goTime_53 : decode cX3_goTime 53 = .ok (.laload, 1) := by decide +kernel
theorem dX3_goTime_54 : decode cX3_goTime 54 = .ok (.ladd, 1) := by decide +kernel
theorem dX3_goTime_55 : decode cX3_goTime 55 = .ok (.lstore 5, 2) := by decide +kernel
theorem dX3_goTime_57 : decode cX3_goTime 57 = .ok (.aload_n 0, 1) := by decide +kernel
theorem dX3_goTime_58 : decode cX3_goTime 58 = .ok (.getfield 17, 3) := by decide +kernel
theorem dX3_goTime_61 : decode cX3_goTime 61 = .ok (.iload 4, 2) := by decide +kernel
theorem dX3_goTime_63 : decode cX3_goTime 63 = .ok (.aload_n 0, 1) := by decide +kernel
theorem dX3_goTime_64 : decode cX3_goTime 64 = .ok (.getfield 17, 3) := by decide +kernel
theorem dX3_goTime_67 : decode cX3_goTime 67 = .ok (.iload_n 1, 1) := by decide +kernel
theorem dX3_goTime_68 : decode cX3_goTime 68 = .ok (.laload, 1) := by decide +kernel
theorem dX3_goTime_69 : decode cX3_goTime 69 = .ok (.iload_n 3, 1) := by decide +kernel
theorem dX3_goTime_70 : decode cX3_goTime 70 = .ok (.ifCond .eq 9, 3) := by decide +kernel
theorem dX3_goTime_73 : decode cX3_goTime 73 = .ok (.lload 5, 2) := by decide +kernel
theorem dX3_goTime_75 : decode cX3_goTime 75 = .ok (.lneg, 1) := by decide +kernel
theorem dX3_goTime_76 : decode cX3_goTime 76 = .ok (.goto 5, 3) := by decide +kernel
theorem dX3_goTime_79 : decode cX3_goTime 79 = .ok (.lload 5, 2) := by decide +kernel
theorem dX3_goTime_81 : decode cX3_goTime 81 = .ok (.ladd, 1) := by decide +kernel
theorem dX3_goTime_82 : decode cX3_goTime 82 = .ok (.ldc2_w 205, 3) := by decide +kernel
theorem dX3_goTime_85 : decode cX3_goTime 85 = .ok (.invokestatic 52, 3) := by decide +kernel
theorem dX3_goTime_88 : decode cX3_goTime 88 = .ok (.lastore, 1) := by decide +kernel
theorem dX3_goTime_89 : decode cX3_goTime 89 = .ok (.aload_n 0, 1) := by decide +kernel
theorem dX3_goTime_90 : decode cX3_goTime 90 = .ok (.getfield 17, 3) := by decide +kernel
theorem dX3_goTime_93 : decode cX3_goTime 93 = .ok (.iload 4, 2) := by decide +kernel
theorem dX3_goTime_95 : decode cX3_goTime 95 = .ok (.laload, 1) := by decide +kernel
theorem dX3_goTime_96 : decode cX3_goTime 96 = .ok (.lreturn, 1) := by decide +kernel
set_option maxRecDepth 20000 in
theorem ggX3_orderTimes_X3_isSlot : GoodIn wsX3_orderTimes wsX3_isSlot := goodIn_r _ [5, 6, 7, 8, 4, 9] (by decide +kernel) (by decide +kernel)
set_option maxRecDepth 20000 in
theorem gX3_orderTimes_X3_isSlot : GoodIn wsX3_orderTimes (va_wsS RX3 174 yX3_isSlot wsX3_isSlot) := goodIn_app (goodIn_of _ (by decide +kernel)) ggX3_orderTimes_X3_isSlot
set_option maxRecDepth 20000 in
theorem ggX3_orderTimes_X3_fails : GoodIn wsX3_orderTimes wsX3_fails := goodIn_r _ [13, 14, 18, 19, 20, 21, 22, 23, 24, 25, 26, 27, 28, 29, 30, 31] (by decide +kernel) (by decide +kernel)
set_option maxRecDepth 20000 in
theorem gX3_orderTimes_X3_fails : GoodIn wsX3_orderTimes (wsV RX3 125 RX3 yX3_fails wsX3_fails) := goodIn_app (goodIn_of _ (by decide +kernel)) ggX3_orderTimes_X3_fails
set_option maxRecDepth 20000 in
theorem ggX3_orderTimes_X3_ordered : GoodIn wsX3_orderTimes wsX3_ordered := goodIn_r _ [17] (by decide +kernel) (by decide +kernel)
set_option maxRecDepth 20000 in
theorem gX3_orderTimes_X3_ordered : GoodIn wsX3_orderTimes (va_wsS RX3 163 yX3_ordered wsX3_ordered) := goodIn_app (goodIn_of _ (by decide +kernel)) ggX3_orderTimes_X3_ordered
theorem dX3_orderTimes_0 : decode cX3_orderTimes 0 = .ok (.aload_n 0, 1) := by decide +kernel
theorem dX3_orderTimes_1 : decode cX3_orderTimes 1 = .ok (.iload_n 1, 1) := by decide +kernel
theorem dX3_orderTimes_2 : decode cX3_orderTimes 2 = .ok (.invokestatic 174, 3) := by decide +kernel
theorem dX3_orderTimes_5 : decode cX3_orderTimes 5 = .ok (.ifCond .eq 14, 3) := by decide +kernel
theorem dX3_orderTimes_8 : decode cX3_orderTimes 8 = .ok (.iload_n 2, 1) := by decide +kernel
theorem dX3_orderTimes_9 : decode cX3_orderTimes 9 = .ok (.invokestatic 174, 3) := by decide +kernel
theorem dX3_orderTimes_12 : decode cX3_orderTimes 12 = .ok (.ifCond .eq 7, 3) := by decide +kernel
theorem dX3_orderTimes_15 : decode cX3_orderTimes 15 = .ok (.iconst 0, 1) := by decide +kernel
theorem dX3_orderTimes_16 : decode cX3_orderTimes 16 = .ok (.goto 4, 3) := by decide +kernel
theorem dX3_orderTimes_19 : decode cX3_orderTimes 19 = .ok (.iconst 1, 1) := by decide +kernel
theorem dX3_orderTimes_20 : decode cX3_orderTimes 20 = .ok (.invokevirtual 125, 3) := by decide +kernel
theorem dX3_orderTimes_23 : decode cX3_orderTimes 23 = .ok (.ifCond .eq 7, 3) := by decide +kernel
theorem dX3_orderTimes_26 : decode cX3_orderTimes 26 = .ok (.iconst 0, 1) := by decide +kernel
theorem dX3_orderTimes_27 : decode cX3_orderTimes 27 = .ok (.goto 18, 3) := by decide +kernel
theorem dX3_orderTimes_30 : decode cX3_orderTimes 30 = .ok (.aload_n 0, 1) := by decide +kernel
theorem dX3_orderTimes_31 : decode cX3_orderTimes 31 = .ok (.getfield 17, 3) := by decide +kernel
theorem dX3_orderTimes_34 : decode cX3_orderTimes 34 = .ok (.iload_n 1, 1) := by decide +kernel
theorem dX3_orderTimes_35 : decode cX3_orderTimes 35 = .ok (.laload, 1) := by decide +kernel
theorem dX3_orderTimes_36 : decode cX3_orderTimes 36 = .ok (.aload_n 0, 1) := by decide +kernel
theorem dX3_orderTimes_37 : decode cX3_orderTimes 37 = .ok (.getfield 17, 3) := by decide +kernel
theorem dX3_orderTimes_40 : decode cX3_orderTimes 40 = .ok (.iload_n 2, 1) := by decide +kernel
theorem dX3_orderTimes_41 : decode cX3_orderTimes 41 = .ok (.laload, 1) := by decide +kernel
theorem dX3_orderTimes_42 : decode cX3_orderTimes 42 = .ok (.invokestatic 163, 3) := by decide +kernel
theorem dX3_orderTimes_45 : decode cX3_orderTimes 45 = .ok (.ireturn, 1) := by decide +kernel
set_option maxRecDepth 20000 in
theorem ggX3_lasts_X3_floor : GoodIn wsX3_lasts wsX3_floor := goodIn_r _ [9] (by decide +kernel) (by decide +kernel)
set_option maxRecDepth 20000 in
theorem gX3_lasts_X3_floor : GoodIn wsX3_lasts (va_wsS RX3 46 yX3_floor wsX3_floor) := goodIn_app (goodIn_of _ (by decide +kernel)) ggX3_lasts_X3_floor
set_option maxRecDepth 20000 in
theorem ggX3_lasts_X3_rest : GoodIn wsX3_lasts wsX3_rest := goodIn_r _ [12, 6, 7, 8, 9] (by decide +kernel) (by decide +kernel)
set_option maxRecDepth 20000 in
theorem gX3_lasts_X3_rest : GoodIn wsX3_lasts (va_wsS RX3 52 yX3_rest wsX3_rest) := goodIn_app (goodIn_of _ (by decide +kernel)) ggX3_lasts_X3_rest
set_option maxRecDepth 20000 in
theorem ggX3_lasts_X3_fails : GoodIn wsX3_lasts wsX3_fails := goodIn_r _ [16, 17, 18, 19, 20, 21, 22, 23, 24, 25, 26, 27, 28, 29, 30, 31] (by decide +kernel) (by decide +kernel)
set_option maxRecDepth 20000 in
theorem gX3_lasts_X3_fails : GoodIn wsX3_lasts (wsV RX3 125 RX3 yX3_fails wsX3_fails) := goodIn_app (goodIn_of _ (by decide +kernel)) ggX3_lasts_X3_fails
theorem dX3_lasts_0 : decode cX3_lasts 0 = .ok (.lload_n 2, 1) := by decide +kernel
theorem dX3_lasts_1 : decode cX3_lasts 1 = .ok (.lload 4, 2) := by decide +kernel
theorem dX3_lasts_3 : decode cX3_lasts 3 = .ok (.ldc2_w 199, 3) := by decide +kernel
theorem dX3_lasts_6 : decode cX3_lasts 6 = .ok (.invokestatic 46, 3) := by decide +kernel
theorem dX3_lasts_9 : decode cX3_lasts 9 = .ok (.ladd, 1) := by decide +kernel
theorem dX3_lasts_10 : decode cX3_lasts 10 = .ok (.lstore 7, 2) := by decide +kernel
theorem dX3_lasts_12 : decode cX3_lasts 12 = .ok (.lload 4, 2) := by decide +kernel
theorem dX3_lasts_14 : decode cX3_lasts 14 = .ok (.ldc2_w 199, 3) := by decide +kernel
theorem dX3_lasts_17 : decode cX3_lasts 17 = .ok (.invokestatic 52, 3) := by decide +kernel
theorem dX3_lasts_20 : decode cX3_lasts 20 = .ok (.lstore 9, 2) := by decide +kernel
theorem dX3_lasts_22 : decode cX3_lasts 22 = .ok (.aload_n 0, 1) := by decide +kernel
theorem dX3_lasts_23 : decode cX3_lasts 23 = .ok (.lload 7, 2) := by decide +kernel
theorem dX3_lasts_25 : decode cX3_lasts 25 = .ok (.ldc2_w 216, 3) := by decide +kernel
theorem dX3_lasts_28 : decode cX3_lasts 28 = .ok (.lcmp, 1) := by decide +kernel
theorem dX3_lasts_29 : decode cX3_lasts 29 = .ok (.ifCond .lt 28, 3) := by decide +kernel
theorem dX3_lasts_32 : decode cX3_lasts 32 = .ok (.lload 7, 2) := by decide +kernel
theorem dX3_lasts_34 : decode cX3_lasts 34 = .ok (.ldc2_w 218, 3) := by decide +kernel
theorem dX3_lasts_37 : decode cX3_lasts 37 = .ok (.lcmp, 1) := by decide +kernel
theorem dX3_lasts_38 : decode cX3_lasts 38 = .ok (.ifCond .gt 19, 3) := by decide +kernel
theorem dX3_lasts_41 : decode cX3_lasts 41 = .ok (.lload 7, 2) := by decide +kernel
theorem dX3_lasts_43 : decode cX3_lasts 43 = .ok (.ldc2_w 218, 3) := by decide +kernel
theorem dX3_lasts_46 : decode cX3_lasts 46 = .ok (.lcmp, 1) := by decide +kernel
theorem dX3_lasts_47 : decode cX3_lasts 47 = .ok (.ifCond .ne 15, 3) := by decide +kernel
theorem dX3_lasts_50 : decode cX3_lasts 50 = .ok (.lload 9, 2) := by decide +kernel
theorem dX3_lasts_52 : decode cX3_lasts 52 = .ok (.lconst 0, 1) := by decide +kernel
theorem dX3_lasts_53 : decode cX3_lasts 53 = .ok (.lcmp, 1) := by decide +kernel
theorem dX3_lasts_54 : decode cX3_lasts 54 = .ok (.ifCond .le 8, 3) := by decide +kernel
theorem dX3_lasts_57 : decode cX3_lasts 57 = .ok (.iload 6, 2) := by decide +kernel
theorem dX3_lasts_59 : decode cX3_lasts 59 = .ok (.goto 4, 3) := by decide +kernel
theorem dX3_lasts_62 : decode cX3_lasts 62 = .ok (.iconst 0, 1) := by decide +kernel
theorem dX3_lasts_63 : decode cX3_lasts 63 = .ok (.invokevirtual 125, 3) := by decide +kernel
theorem dX3_lasts_66 : decode cX3_lasts 66 = .ok (.ifCond .eq 5, 3) := by decide +kernel
theorem dX3_lasts_69 : decode cX3_lasts 69 = .ok (.lconst 0, 1) := by decide +kernel
theorem dX3_lasts_70 : decode cX3_lasts 70 = .ok (.lreturn, 1) := by decide +kernel
theorem dX3_lasts_71 : decode cX3_lasts 71 = .ok (.aload_n 0, 1) := by decide +kernel
theorem dX3_lasts_72 : decode cX3_lasts 72 = .ok (.getfield 20, 3) := by decide +kernel
theorem dX3_lasts_75 : decode cX3_lasts 75 = .ok (.iload_n 1, 1) := by decide +kernel
theorem dX3_lasts_76 : decode cX3_lasts 76 = .ok (.lload 7, 2) := by decide +kernel
theorem dX3_lasts_78 : decode cX3_lasts 78 = .ok (.lastore, 1) := by decide +kernel
theorem dX3_lasts_79 : decode cX3_lasts 79 = .ok (.aload_n 0, 1) := by decide +kernel
theorem dX3_lasts_80 : decode cX3_lasts 80 = .ok (.getfield 23, 3) := by decide +kernel
theorem dX3_lasts_83 : decode cX3_lasts 83 = .ok (.iload_n 1, 1) := by decide +kernel
theorem dX3_lasts_84 : decode cX3_lasts 84 = .ok (.lload 9, 2) := by decide +kernel
theorem dX3_lasts_86 : decode cX3_lasts 86 = .ok (.lastore, 1) := by decide +kernel
theorem dX3_lasts_87 : decode cX3_lasts 87 = .ok (.lload 7, 2) := by decide +kernel
theorem dX3_lasts_89 : decode cX3_lasts 89 = .ok (.lreturn, 1) := by decide +kernel
set_option maxRecDepth 20000 in
theorem ggX3_length_X3_isSlot : GoodIn wsX3_length wsX3_isSlot := goodIn_r _ [8, 9, 10, 11, 7, 12] (by decide +kernel) (by decide +kernel)
set_option maxRecDepth 20000 in
theorem gX3_length_X3_isSlot : GoodIn wsX3_length (va_wsS RX3 174 yX3_isSlot wsX3_isSlot) := goodIn_app (goodIn_of _ (by decide +kernel)) ggX3_length_X3_isSlot
set_option maxRecDepth 20000 in
theorem ggX3_length_X3_in : GoodIn wsX3_length wsX3_in := goodIn_r _ [12] (by decide +kernel) (by decide +kernel)
set_option maxRecDepth 20000 in
theorem gX3_length_X3_in : GoodIn wsX3_length (va_wsS RX3 100 yX3_in wsX3_in) := goodIn_app (goodIn_of _ (by decide +kernel)) ggX3_length_X3_in
set_option maxRecDepth 20000 in
theorem ggX3_length_X3_fails : GoodIn wsX3_length wsX3_fails := goodIn_r _ [16, 17, 31, 32, 33, 34, 35, 36, 37, 38, 39, 40, 41, 42, 43, 44] (by decide +kernel) (by decide +kernel)
set_option maxRecDepth 20000 in
theorem gX3_length_X3_fails : GoodIn wsX3_length (wsV RX3 125 RX3 yX3_fails wsX3_fails) := goodIn_app (goodIn_of _ (by decide +kernel)) ggX3_length_X3_fails
set_option maxRecDepth 20000 in
theorem ggX3_length_X3_lasts : GoodIn wsX3_length wsX3_lasts := goodIn_ca (goodIn_r _ [21, 22, 1, 2, 23, 24, 25, 26, 7, 27, 28, 29, 30, 13, 14, 15, 16, 17, 31, 32, 33, 34, 35, 36, 37, 38, 39, 40, 41, 42, 43, 44] (by decide +kernel) (by decide +kernel)) (goodIn_sub (fun _ h => List.mem_cons_of_mem _ (List.mem_append_right _ h)) (by decide +kernel))
set_option maxRecDepth 20000 in
theorem gX3_length_X3_lasts : GoodIn wsX3_length (wsV RX3 220 RX3 yX3_lasts wsX3_lasts) := goodIn_app (goodIn_of _ (by decide +kernel)) ggX3_length_X3_lasts
theorem dX3_length_0 : decode cX3_length 0 = .ok (.aload_n 0, 1) := by decide +kernel
theorem dX3_length_1 : decode cX3_length 1 = .ok (.iload_n 1, 1) := by decide +kernel
theorem dX3_length_2 : decode cX3_length 2 = .ok (.invokestatic 174, 3) := by decide +kernel
theorem dX3_length_5 : decode cX3_length 5 = .ok (.ifCond .ne 7, 3) := by decide +kernel
theorem dX3_length_8 : decode cX3_length 8 = .ok (.iconst 1, 1) := by decide +kernel
theorem dX3_length_9 : decode cX3_length 9 = .ok (.goto 35, 3) := by decide +kernel
theorem dX3_length_12 : decode cX3_length 12 = .ok (.lload_n 2, 1) := by decide +kernel
theorem dX3_length_13 : decode cX3_length 13 = .ok (.ldc2_w 216, 3) := by decide +kernel
theorem dX3_length_16 : decode cX3_length 16 = .ok (.ldc2_w 218, 3) := by decide +kernel
theorem dX3_length_19 : decode cX3_length 19 = .ok (.invokestatic 100, 3) := by decide +kernel
theorem dX3_length_22 : decode cX3_length 22 = .ok (.ifCond .eq 21, 3) := by decide +kernel
theorem dX3_length_25 : decode cX3_length 25 = .ok (.lload 4, 2) := by decide +kernel
theorem dX3_length_27 : decode cX3_length 27 = .ok (.ldc2_w 207, 3) := by decide +kernel
theorem dX3_length_30 : decode cX3_length 30 = .ok (.ldc2_w 209, 3) := by decide +kernel
theorem dX3_length_33 : decode cX3_length 33 = .ok (.invokestatic 100, 3) := by decide +kernel
theorem dX3_length_36 : decode cX3_length 36 = .ok (.ifCond .eq 7, 3) := by decide +kernel
theorem dX3_length_39 : decode cX3_length 39 = .ok (.iconst 0, 1) := by decide +kernel
theorem dX3_length_40 : decode cX3_length 40 = .ok (.goto 4, 3) := by decide +kernel
theorem dX3_length_43 : decode cX3_length 43 = .ok (.iconst 2, 1) := by decide +kernel
theorem dX3_length_44 : decode cX3_length 44 = .ok (.invokevirtual 125, 3) := by decide +kernel
theorem dX3_length_47 : decode cX3_length 47 = .ok (.ifCond .eq 5, 3) := by decide +kernel
theorem dX3_length_50 : decode cX3_length 50 = .ok (.lconst 0, 1) := by decide +kernel
theorem dX3_length_51 : decode cX3_length 51 = .ok (.lreturn, 1) := by decide +kernel
theorem dX3_length_52 : decode cX3_length 52 = .ok (.aload_n 0, 1) := by decide +kernel
theorem dX3_length_53 : decode cX3_length 53 = .ok (.iload_n 1, 1) := by decide +kernel
theorem dX3_length_54 : decode cX3_length 54 = .ok (.lload_n 2, 1) := by decide +kernel
theorem dX3_length_55 : decode cX3_length 55 = .ok (.lload 4, 2) := by decide +kernel
theorem dX3_length_57 : decode cX3_length 57 = .ok (.iconst 3, 1) := by decide +kernel
theorem dX3_length_58 : decode cX3_length 58 = .ok (.invokevirtual 220, 3) := by decide +kernel
theorem dX3_length_61 : decode cX3_length 61 = .ok (.lreturn, 1) := by decide +kernel
set_option maxRecDepth 20000 in
theorem ggX3_lengthPart_X3_isSlot : GoodIn wsX3_lengthPart wsX3_isSlot := goodIn_r _ [6, 7, 8, 9, 5, 10] (by decide +kernel) (by decide +kernel)
set_option maxRecDepth 20000 in
theorem gX3_lengthPart_X3_isSlot : GoodIn wsX3_lengthPart (va_wsS RX3 174 yX3_isSlot wsX3_isSlot) := goodIn_app (goodIn_of _ (by decide +kernel)) ggX3_lengthPart_X3_isSlot
set_option maxRecDepth 20000 in
theorem ggX3_lengthPart_X3_fails : GoodIn wsX3_lengthPart wsX3_fails := goodIn_r _ [14, 15, 16, 17, 18, 19, 20, 21, 22, 23, 24, 25, 26, 27, 28, 29] (by decide +kernel) (by decide +kernel)
set_option maxRecDepth 20000 in
theorem gX3_lengthPart_X3_fails : GoodIn wsX3_lengthPart (wsV RX3 125 RX3 yX3_fails wsX3_fails) := goodIn_app (goodIn_of _ (by decide +kernel)) ggX3_lengthPart_X3_fails
theorem dX3_lengthPart_0 : decode cX3_lengthPart 0 = .ok (.aload_n 0, 1) := by decide +kernel
theorem dX3_lengthPart_1 : decode cX3_lengthPart 1 = .ok (.iload_n 1, 1) := by decide +kernel
theorem dX3_lengthPart_2 : decode cX3_lengthPart 2 = .ok (.invokestatic 174, 3) := by decide +kernel
theorem dX3_lengthPart_5 : decode cX3_lengthPart 5 = .ok (.ifCond .ne 7, 3) := by decide +kernel
theorem dX3_lengthPart_8 : decode cX3_lengthPart 8 = .ok (.iconst 1, 1) := by decide +kernel
theorem dX3_lengthPart_9 : decode cX3_lengthPart 9 = .ok (.goto 20, 3) := by decide +kernel
theorem dX3_lengthPart_12 : decode cX3_lengthPart 12 = .ok (.iload_n 2, 1) := by decide +kernel
theorem dX3_lengthPart_13 : decode cX3_lengthPart 13 = .ok (.bipush 115, 2) := by decide +kernel
theorem dX3_lengthPart_15 : decode cX3_lengthPart 15 = .ok (.if_icmp .eq 9, 3) := by decide +kernel
theorem dX3_lengthPart_18 : decode cX3_lengthPart 18 = .ok (.iload_n 2, 1) := by decide +kernel
theorem dX3_lengthPart_19 : decode cX3_lengthPart 19 = .ok (.bipush 110, 2) := by decide +kernel
theorem dX3_lengthPart_21 : decode cX3_lengthPart 21 = .ok (.if_icmp .ne 7, 3) := by decide +kernel
theorem dX3_lengthPart_24 : decode cX3_lengthPart 24 = .ok (.iconst 0, 1) := by decide +kernel
theorem dX3_lengthPart_25 : decode cX3_lengthPart 25 = .ok (.goto 4, 3) := by decide +kernel
theorem dX3_lengthPart_28 : decode cX3_lengthPart 28 = .ok (.iconst 2, 1) := by decide +kernel
theorem dX3_lengthPart_29 : decode cX3_lengthPart 29 = .ok (.invokevirtual 125, 3) := by decide +kernel
theorem dX3_lengthPart_32 : decode cX3_lengthPart 32 = .ok (.ifCond .eq 7, 3) := by decide +kernel
theorem dX3_lengthPart_35 : decode cX3_lengthPart 35 = .ok (.lconst 0, 1) := by decide +kernel
theorem dX3_lengthPart_36 : decode cX3_lengthPart 36 = .ok (.goto 24, 3) := by decide +kernel
theorem dX3_lengthPart_39 : decode cX3_lengthPart 39 = .ok (.iload_n 2, 1) := by decide +kernel
theorem dX3_lengthPart_40 : decode cX3_lengthPart 40 = .ok (.bipush 115, 2) := by decide +kernel
theorem dX3_lengthPart_42 : decode cX3_lengthPart 42 = .ok (.if_icmp .ne 12, 3) := by decide +kernel
theorem dX3_lengthPart_45 : decode cX3_lengthPart 45 = .ok (.aload_n 0, 1) := by decide +kernel
theorem dX3_lengthPart_46 : decode cX3_lengthPart 46 = .ok (.getfield 20, 3) := by decide +kernel
theorem dX3_lengthPart_49 : decode cX3_lengthPart 49 = .ok (.iload_n 1, 1) := by decide +kernel
theorem dX3_lengthPart_50 : decode cX3_lengthPart 50 = .ok (.laload, 1) := by decide +kernel
theorem dX3_lengthPart_51 : decode cX3_lengthPart 51 = .ok (.goto 9, 3) := by decide +kernel
theorem dX3_lengthPart_54 : decode cX3_lengthPart 54 = .ok (.aload_n 0, 1) := by decide +kernel
theorem dX3_lengthPart_55 : decode cX3_lengthPart 55 = .ok (.getfield 23, 3) := by decide +kernel
theorem dX3_lengthPart_58 : decode cX3_lengthPart 58 = .ok (.iload_n 1, 1) := by decide +kernel
theorem dX3_lengthPart_59 : decode cX3_lengthPart 59 = .ok (.laload, 1) := by decide +kernel
theorem dX3_lengthPart_60 : decode cX3_lengthPart 60 = .ok (.lreturn, 1) := by decide +kernel
set_option maxRecDepth 20000 in
theorem ggX3_addLength_X3_isSlot : GoodIn wsX3_addLength wsX3_isSlot := goodIn_r _ [7, 8, 9, 10, 6, 11] (by decide +kernel) (by decide +kernel)
set_option maxRecDepth 20000 in
theorem gX3_addLength_X3_isSlot : GoodIn wsX3_addLength (va_wsS RX3 174 yX3_isSlot wsX3_isSlot) := goodIn_app (goodIn_of _ (by decide +kernel)) ggX3_addLength_X3_isSlot
set_option maxRecDepth 20000 in
theorem ggX3_addLength_X3_fails : GoodIn wsX3_addLength wsX3_fails := goodIn_r _ [15, 16, 30, 31, 32, 33, 34, 35, 36, 37, 38, 39, 40, 41, 42, 43] (by decide +kernel) (by decide +kernel)
set_option maxRecDepth 20000 in
theorem gX3_addLength_X3_fails : GoodIn wsX3_addLength (wsV RX3 125 RX3 yX3_fails wsX3_fails) := goodIn_app (goodIn_of _ (by decide +kernel)) ggX3_addLength_X3_fails
set_option maxRecDepth 20000 in
theorem ggX3_addLength_X3_lasts : GoodIn wsX3_addLength wsX3_lasts := goodIn_ca (goodIn_r _ [20, 21, 22, 23, 2, 3, 24, 25, 6, 26, 27, 28, 29, 12, 13, 14, 15, 16, 30, 31, 32, 33, 34, 35, 36, 37, 38, 39, 40, 41, 42, 43] (by decide +kernel) (by decide +kernel)) (goodIn_sub (fun _ h => List.mem_cons_of_mem _ (List.mem_append_right _ h)) (by decide +kernel))
set_option maxRecDepth 20000 in
theorem gX3_addLength_X3_lasts : GoodIn wsX3_addLength (wsV RX3 220 RX3 yX3_lasts wsX3_lasts) := goodIn_app (goodIn_of _ (by decide +kernel)) ggX3_addLength_X3_lasts
theorem dX3_addLength_0 : decode cX3_addLength 0 = .ok (.aload_n 0, 1) := by decide +kernel
theorem dX3_addLength_1 : decode cX3_addLength 1 = .ok (.iload_n 1, 1) := by decide +kernel
theorem dX3_addLength_2 : decode cX3_addLength 2 = .ok (.invokestatic 174, 3) := by decide +kernel
theorem dX3_addLength_5 : decode cX3_addLength 5 = .ok (.ifCond .eq 22, 3) := by decide +kernel
theorem dX3_addLength_8 : decode cX3_addLength 8 = .ok (.iload_n 2, 1) := by decide +kernel
theorem dX3_addLength_9 : decode cX3_addLength 9 = .ok (.invokestatic 174, 3) := by decide +kernel
theorem dX3_addLength_12 : decode cX3_addLength 12 = .ok (.ifCond .eq 15, 3) := by decide +kernel
theorem dX3_addLength_15 : decode cX3_addLength 15 = .ok (.iload 4, 2) := by decide +kernel
theorem dX3_addLength_17 : decode cX3_addLength 17 = .ok (.invokestatic 174, 3) := by decide +kernel
theorem dX3_addLength_20 : decode cX3_addLength 20 = .ok (.ifCond .eq 7, 3) := by decide +kernel
theorem dX3_addLength_23 : decode cX3_addLength 23 = .ok (.iconst 0, 1) := by decide +kernel
theorem dX3_addLength_24 : decode cX3_addLength 24 = .ok (.goto 4, 3) := by decide +kernel
theorem dX3_addLength_27 : decode cX3_addLength 27 = .ok (.iconst 1, 1) := by decide +kernel
theorem dX3_addLength_28 : decode cX3_addLength 28 = .ok (.invokevirtual 125, 3) := by decide +kernel
theorem dX3_addLength_31 : decode cX3_addLength 31 = .ok (.ifCond .eq 5, 3) := by decide +kernel
theorem dX3_addLength_34 : decode cX3_addLength 34 = .ok (.lconst 0, 1) := by decide +kernel
theorem dX3_addLength_35 : decode cX3_addLength 35 = .ok (.lreturn, 1) := by decide +kernel
theorem dX3_addLength_36 : decode cX3_addLength 36 = .ok (.iload_n 3, 1) := by decide +kernel
theorem dX3_addLength_37 : decode cX3_addLength 37 = .ok (.ifCond .eq 9, 3) := by decide +kernel
theorem dX3_addLength_40 : decode cX3_addLength 40 = .ok (.ldc2_w 181, 3) := by decide +kernel
theorem dX3_addLength_43 : decode cX3_addLength 43 = .ok (.goto 4, 3) := by decide +kernel
theorem dX3_addLength_46 : decode cX3_addLength 46 = .ok (.lconst 1, 1) := by decide +kernel
theorem dX3_addLength_47 : decode cX3_addLength 47 = .ok (.lstore 5, 2) := by decide +kernel
theorem dX3_addLength_49 : decode cX3_addLength 49 = .ok (.aload_n 0, 1) := by decide +kernel
theorem dX3_addLength_50 : decode cX3_addLength 50 = .ok (.iload 4, 2) := by decide +kernel
theorem dX3_addLength_52 : decode cX3_addLength 52 = .ok (.aload_n 0, 1) := by decide +kernel
theorem dX3_addLength_53 : decode cX3_addLength 53 = .ok (.getfield 20, 3) := by decide +kernel
theorem dX3_addLength_56 : decode cX3_addLength 56 = .ok (.iload_n 1, 1) := by decide +kernel
theorem dX3_addLength_57 : decode cX3_addLength 57 = .ok (.laload, 1) := by decide +kernel
theorem dX3_addLength_58 : decode cX3_addLength 58 = .ok (.lload 5, 2) := by decide +kernel
theorem dX3_addLength_60 : decode cX3_addLength 60 = .ok (.aload_n 0, 1) := by decide +kernel
theorem dX3_addLength_61 : decode cX3_addLength 61 = .ok (.getfield 20, 3) := by decide +kernel
theorem dX3_addLength_64 : decode cX3_addLength 64 = .ok (.iload_n 2, 1) := by decide +kernel
theorem dX3_addLength_65 : decode cX3_addLength 65 = .ok (.laload, 1) := by decide +kernel
theorem dX3_addLength_66 : decode cX3_addLength 66 = .ok (.lmul, 1) := by decide +kernel
theorem dX3_addLength_67 : decode cX3_addLength 67 = .ok (.ladd, 1) := by decide +kernel
theorem dX3_addLength_68 : decode cX3_addLength 68 = .ok (.aload_n 0, 1) := by decide +kernel
theorem dX3_addLength_69 : decode cX3_addLength 69 = .ok (.getfield 23, 3) := by decide +kernel
theorem dX3_addLength_72 : decode cX3_addLength 72 = .ok (.iload_n 1, 1) := by decide +kernel
theorem dX3_addLength_73 : decode cX3_addLength 73 = .ok (.laload, 1) := by decide +kernel
theorem dX3_addLength_74 : decode cX3_addLength 74 = .ok (.lload 5, 2) := by decide +kernel
theorem dX3_addLength_76 : decode cX3_addLength 76 = .ok (.aload_n 0, 1) := by decide +kernel
theorem dX3_addLength_77 : decode cX3_addLength 77 = .ok (.getfield 23, 3) := by decide +kernel
theorem dX3_addLength_80 : decode cX3_addLength 80 = .ok (.iload_n 2, 1) := by decide +kernel
theorem dX3_addLength_81 : decode cX3_addLength 81 = .ok (.laload, 1) := by decide +kernel
theorem dX3_addLength_82 : decode cX3_addLength 82 = .ok (.lmul, 1) := by decide +kernel
theorem dX3_addLength_83 : decode cX3_addLength 83 = .ok (.ladd, 1) := by decide +kernel
theorem dX3_addLength_84 : decode cX3_addLength 84 = .ok (.iconst 2, 1) := by decide +kernel
theorem dX3_addLength_85 : decode cX3_addLength 85 = .ok (.invokevirtual 220, 3) := by decide +kernel
theorem dX3_addLength_88 : decode cX3_addLength 88 = .ok (.lreturn, 1) := by decide +kernel
set_option maxRecDepth 20000 in
theorem ggX3_timesLength_X3_isSlot : GoodIn wsX3_timesLength wsX3_isSlot := goodIn_r _ [8, 9, 10, 11, 7, 12] (by decide +kernel) (by decide +kernel)
set_option maxRecDepth 20000 in
theorem gX3_timesLength_X3_isSlot : GoodIn wsX3_timesLength (va_wsS RX3 174 yX3_isSlot wsX3_isSlot) := goodIn_app (goodIn_of _ (by decide +kernel)) ggX3_timesLength_X3_isSlot
set_option maxRecDepth 20000 in
theorem ggX3_timesLength_X3_in : GoodIn wsX3_timesLength wsX3_in := goodIn_r _ [12] (by decide +kernel) (by decide +kernel)
set_option maxRecDepth 20000 in
theorem gX3_timesLength_X3_in : GoodIn wsX3_timesLength (va_wsS RX3 100 yX3_in wsX3_in) := goodIn_app (goodIn_of _ (by decide +kernel)) ggX3_timesLength_X3_in
set_option maxRecDepth 20000 in
theorem ggX3_timesLength_X3_fails : GoodIn wsX3_timesLength wsX3_fails := goodIn_r _ [16, 17, 31, 32, 33, 34, 35, 36, 37, 38, 39, 40, 41, 42, 43, 44] (by decide +kernel) (by decide +kernel)
set_option maxRecDepth 20000 in
theorem gX3_timesLength_X3_fails : GoodIn wsX3_timesLength (wsV RX3 125 RX3 yX3_fails wsX3_fails) := goodIn_app (goodIn_of _ (by decide +kernel)) ggX3_timesLength_X3_fails
set_option maxRecDepth 20000 in
theorem ggX3_timesLength_X3_lasts : GoodIn wsX3_timesLength wsX3_lasts := goodIn_ca (goodIn_r _ [21, 22, 23, 24, 3, 4, 25, 26, 7, 27, 28, 29, 30, 13, 14, 15, 16, 17, 31, 32, 33, 34, 35, 36, 37, 38, 39, 40, 41, 42, 43, 44] (by decide +kernel) (by decide +kernel)) (goodIn_sub (fun _ h => List.mem_cons_of_mem _ (List.mem_append_right _ h)) (by decide +kernel))
set_option maxRecDepth 20000 in
theorem gX3_timesLength_X3_lasts : GoodIn wsX3_timesLength (wsV RX3 220 RX3 yX3_lasts wsX3_lasts) := goodIn_app (goodIn_of _ (by decide +kernel)) ggX3_timesLength_X3_lasts
theorem dX3_timesLength_0 : decode cX3_timesLength 0 = .ok (.aload_n 0, 1) := by decide +kernel
theorem dX3_timesLength_1 : decode cX3_timesLength 1 = .ok (.iload_n 1, 1) := by decide +kernel
theorem dX3_timesLength_2 : decode cX3_timesLength 2 = .ok (.invokestatic 174, 3) := by decide +kernel
theorem dX3_timesLength_5 : decode cX3_timesLength 5 = .ok (.ifCond .eq 10, 3) := by decide +kernel
theorem dX3_timesLength_8 : decode cX3_timesLength 8 = .ok (.iload_n 3, 1) := by decide +kernel
theorem dX3_timesLength_9 : decode cX3_timesLength 9 = .ok (.invokestatic 174, 3) := by decide +kernel
theorem dX3_timesLength_12 : decode cX3_timesLength 12 = .ok (.ifCond .ne 7, 3) := by decide +kernel
theorem dX3_timesLength_15 : decode cX3_timesLength 15 = .ok (.iconst 1, 1) := by decide +kernel
theorem dX3_timesLength_16 : decode cX3_timesLength 16 = .ok (.goto 22, 3) := by decide +kernel
theorem dX3_timesLength_19 : decode cX3_timesLength 19 = .ok (.iload_n 2, 1) := by decide +kernel
theorem dX3_timesLength_20 : decode cX3_timesLength 20 = .ok (.i2l, 1) := by decide +kernel
theorem dX3_timesLength_21 : decode cX3_timesLength 21 = .ok (.ldc2_w 224, 3) := by decide +kernel
theorem dX3_timesLength_24 : decode cX3_timesLength 24 = .ok (.ldc2_w 226, 3) := by decide +kernel
theorem dX3_timesLength_27 : decode cX3_timesLength 27 = .ok (.invokestatic 100, 3) := by decide +kernel
theorem dX3_timesLength_30 : decode cX3_timesLength 30 = .ok (.ifCond .eq 7, 3) := by decide +kernel
theorem dX3_timesLength_33 : decode cX3_timesLength 33 = .ok (.iconst 0, 1) := by decide +kernel
theorem dX3_timesLength_34 : decode cX3_timesLength 34 = .ok (.goto 4, 3) := by decide +kernel
theorem dX3_timesLength_37 : decode cX3_timesLength 37 = .ok (.iconst 2, 1) := by decide +kernel
theorem dX3_timesLength_38 : decode cX3_timesLength 38 = .ok (.invokevirtual 125, 3) := by decide +kernel
theorem dX3_timesLength_41 : decode cX3_timesLength 41 = .ok (.ifCond .eq 5, 3) := by decide +kernel
theorem dX3_timesLength_44 : decode cX3_timesLength 44 = .ok (.lconst 0, 1) := by decide +kernel
theorem dX3_timesLength_45 : decode cX3_timesLength 45 = .ok (.lreturn, 1) := by decide +kernel
theorem dX3_timesLength_46 : decode cX3_timesLength 46 = .ok (.aload_n 0, 1) := by decide +kernel
theorem dX3_timesLength_47 : decode cX3_timesLength 47 = .ok (.iload_n 3, 1) := by decide +kernel
theorem dX3_timesLength_48 : decode cX3_timesLength 48 = .ok (.iload_n 2, 1) := by decide +kernel
theorem dX3_timesLength_49 : decode cX3_timesLength 49 = .ok (.i2l, 1) := by decide +kernel
theorem dX3_timesLength_50 : decode cX3_timesLength 50 = .ok (.aload_n 0, 1) := by decide +kernel
theorem dX3_timesLength_51 : decode cX3_timesLength 51 = .ok (.getfield 20, 3) := by decide +kernel
theorem dX3_timesLength_54 : decode cX3_timesLength 54 = .ok (.iload_n 1, 1) := by decide +kernel
theorem dX3_timesLength_55 : decode cX3_timesLength 55 = .ok (.laload, 1) := by decide +kernel
theorem dX3_timesLength_56 : decode cX3_timesLength 56 = .ok (.lmul, 1) := by decide +kernel
theorem dX3_timesLength_57 : decode cX3_timesLength 57 = .ok (.iload_n 2, 1) := by decide +kernel
theorem dX3_timesLength_58 : decode cX3_timesLength 58 = .ok (.i2l, 1) := by decide +kernel
theorem dX3_timesLength_59 : decode cX3_timesLength 59 = .ok (.aload_n 0, 1) := by decide +kernel
theorem dX3_timesLength_60 : decode cX3_timesLength 60 = .ok (.getfield 23, 3) := by decide +kernel
theorem dX3_timesLength_63 : decode cX3_timesLength 63 = .ok (.iload_n 1, 1) := by decide +kernel
theorem dX3_timesLength_64 : decode cX3_timesLength 64 = .ok (.laload, 1) := by decide +kernel
theorem dX3_timesLength_65 : decode cX3_timesLength 65 = .ok (.lmul, 1) := by decide +kernel
theorem dX3_timesLength_66 : decode cX3_timesLength 66 = .ok (.iconst 3, 1) := by decide +kernel
theorem dX3_timesLength_67 : decode cX3_timesLength 67 = .ok (.invokevirtual 220, 3) := by decide +kernel
theorem dX3_timesLength_70 : decode cX3_timesLength 70 = .ok (.lreturn, 1) := by decide +kernel
set_option maxRecDepth 20000 in
theorem ggX3_lengthOfTimes_X3_isSlot : GoodIn wsX3_lengthOfTimes wsX3_isSlot := goodIn_r _ [5, 6, 7, 8, 4, 9] (by decide +kernel) (by decide +kernel)
set_option maxRecDepth 20000 in
theorem gX3_lengthOfTimes_X3_isSlot : GoodIn wsX3_lengthOfTimes (va_wsS RX3 174 yX3_isSlot wsX3_isSlot) := goodIn_app (goodIn_of _ (by decide +kernel)) ggX3_lengthOfTimes_X3_isSlot
set_option maxRecDepth 20000 in
theorem ggX3_lengthOfTimes_X3_fails : GoodIn wsX3_lengthOfTimes wsX3_fails := goodIn_r _ [13, 14, 30, 31, 32, 33, 34, 35, 36, 37, 38, 39, 40, 41, 42, 43] (by decide +kernel) (by decide +kernel)
set_option maxRecDepth 20000 in
theorem gX3_lengthOfTimes_X3_fails : GoodIn wsX3_lengthOfTimes (wsV RX3 125 RX3 yX3_fails wsX3_fails) := goodIn_app (goodIn_of _ (by decide +kernel)) ggX3_lengthOfTimes_X3_fails
set_option maxRecDepth 20000 in
theorem ggX3_lengthOfTimes_X3_lasts : GoodIn wsX3_lengthOfTimes wsX3_lasts := goodIn_ca (goodIn_r _ [18, 19, 20, 21, 22, 23, 24, 25, 4, 26, 27, 28, 29, 10, 11, 12, 13, 14, 30, 31, 32, 33, 34, 35, 36, 37, 38, 39, 40, 41, 42, 43] (by decide +kernel) (by decide +kernel)) (goodIn_sub (fun _ h => List.mem_cons_of_mem _ (List.mem_append_right _ h)) (by decide +kernel))
set_option maxRecDepth 20000 in
theorem gX3_lengthOfTimes_X3_lasts : GoodIn wsX3_lengthOfTimes (wsV RX3 220 RX3 yX3_lasts wsX3_lasts) := goodIn_app (goodIn_of _ (by decide +kernel)) ggX3_lengthOfTimes_X3_lasts
theorem dX3_lengthOfTimes_0 : decode cX3_lengthOfTimes 0 = .ok (.aload_n 0, 1) := by decide +kernel
theorem dX3_lengthOfTimes_1 : decode cX3_lengthOfTimes 1 = .ok (.iload_n 1, 1) := by decide +kernel
theorem dX3_lengthOfTimes_2 : decode cX3_lengthOfTimes 2 = .ok (.invokestatic 174, 3) := by decide +kernel
theorem dX3_lengthOfTimes_5 : decode cX3_lengthOfTimes 5 = .ok (.ifCond .eq 21, 3) := by decide +kernel
theorem dX3_lengthOfTimes_8 : decode cX3_lengthOfTimes 8 = .ok (.iload_n 2, 1) := by decide +kernel
theorem dX3_lengthOfTimes_9 : decode cX3_lengthOfTimes 9 = .ok (.invokestatic 174, 3) := by decide +kernel
theorem dX3_lengthOfTimes_12 : decode cX3_lengthOfTimes 12 = .ok (.ifCond .eq 14, 3) := by decide +kernel
theorem dX3_lengthOfTimes_15 : decode cX3_lengthOfTimes 15 = .ok (.iload_n 3, 1) := by decide +kernel
theorem dX3_lengthOfTimes_16 : decode cX3_lengthOfTimes 16 = .ok (.invokestatic 174, 3) := by decide +kernel
theorem dX3_lengthOfTimes_19 : decode cX3_lengthOfTimes 19 = .ok (.ifCond .eq 7, 3) := by decide +kernel
theorem dX3_lengthOfTimes_22 : decode cX3_lengthOfTimes 22 = .ok (.iconst 0, 1) := by decide +kernel
theorem dX3_lengthOfTimes_23 : decode cX3_lengthOfTimes 23 = .ok (.goto 4, 3) := by decide +kernel
theorem dX3_lengthOfTimes_26 : decode cX3_lengthOfTimes 26 = .ok (.iconst 1, 1) := by decide +kernel
theorem dX3_lengthOfTimes_27 : decode cX3_lengthOfTimes 27 = .ok (.invokevirtual 125, 3) := by decide +kernel
theorem dX3_lengthOfTimes_30 : decode cX3_lengthOfTimes 30 = .ok (.ifCond .eq 7, 3) := by decide +kernel
theorem dX3_lengthOfTimes_33 : decode cX3_lengthOfTimes 33 = .ok (.lconst 0, 1) := by decide +kernel
theorem dX3_lengthOfTimes_34 : decode cX3_lengthOfTimes 34 = .ok (.goto 23, 3) := by decide +kernel
theorem dX3_lengthOfTimes_37 : decode cX3_lengthOfTimes 37 = .ok (.aload_n 0, 1) := by decide +kernel
theorem dX3_lengthOfTimes_38 : decode cX3_lengthOfTimes 38 = .ok (.iload_n 3, 1) := by decide +kernel
theorem dX3_lengthOfTimes_39 : decode cX3_lengthOfTimes 39 = .ok (.lconst 0, 1) := by decide +kernel
theorem dX3_lengthOfTimes_40 : decode cX3_lengthOfTimes 40 = .ok (.aload_n 0, 1) := by decide +kernel
theorem dX3_lengthOfTimes_41 : decode cX3_lengthOfTimes 41 = .ok (.getfield 17, 3) := by decide +kernel
theorem dX3_lengthOfTimes_44 : decode cX3_lengthOfTimes 44 = .ok (.iload_n 2, 1) := by decide +kernel
theorem dX3_lengthOfTimes_45 : decode cX3_lengthOfTimes 45 = .ok (.laload, 1) := by decide +kernel
theorem dX3_lengthOfTimes_46 : decode cX3_lengthOfTimes 46 = .ok (.aload_n 0, 1) := by decide +kernel
theorem dX3_lengthOfTimes_47 : decode cX3_lengthOfTimes 47 = .ok (.getfield 17, 3) := by decide +kernel
theorem dX3_lengthOfTimes_50 : decode cX3_lengthOfTimes 50 = .ok (.iload_n 1, 1) := by decide +kernel
theorem dX3_lengthOfTimes_51 : decode cX3_lengthOfTimes 51 = .ok (.laload, 1) := by decide +kernel
theorem dX3_lengthOfTimes_52 : decode cX3_lengthOfTimes 52 = .ok (.lsub, 1) := by decide +kernel
theorem dX3_lengthOfTimes_53 : decode cX3_lengthOfTimes 53 = .ok (.iconst 2, 1) := by decide +kernel
theorem dX3_lengthOfTimes_54 : decode cX3_lengthOfTimes 54 = .ok (.invokevirtual 220, 3) := by decide +kernel
theorem dX3_lengthOfTimes_57 : decode cX3_lengthOfTimes 57 = .ok (.lreturn, 1) := by decide +kernel
set_option maxRecDepth 20000 in
theorem ggX3_orderLengths_X3_isSlot : GoodIn wsX3_orderLengths wsX3_isSlot := goodIn_r _ [6, 7, 8, 9, 5, 10] (by decide +kernel) (by decide +kernel)
set_option maxRecDepth 20000 in
theorem gX3_orderLengths_X3_isSlot : GoodIn wsX3_orderLengths (va_wsS RX3 174 yX3_isSlot wsX3_isSlot) := goodIn_app (goodIn_of _ (by decide +kernel)) ggX3_orderLengths_X3_isSlot
set_option maxRecDepth 20000 in
theorem ggX3_orderLengths_X3_fails : GoodIn wsX3_orderLengths wsX3_fails := goodIn_r _ [14, 15, 19, 20, 21, 22, 23, 24, 25, 26, 27, 28, 29, 30, 31, 32] (by decide +kernel) (by decide +kernel)
set_option maxRecDepth 20000 in
theorem gX3_orderLengths_X3_fails : GoodIn wsX3_orderLengths (wsV RX3 125 RX3 yX3_fails wsX3_fails) := goodIn_app (goodIn_of _ (by decide +kernel)) ggX3_orderLengths_X3_fails
set_option maxRecDepth 20000 in
theorem ggX3_orderLengths_X3_ordered : GoodIn wsX3_orderLengths wsX3_ordered := goodIn_r _ [18] (by decide +kernel) (by decide +kernel)
set_option maxRecDepth 20000 in
theorem gX3_orderLengths_X3_ordered : GoodIn wsX3_orderLengths (va_wsS RX3 163 yX3_ordered wsX3_ordered) := goodIn_app (goodIn_of _ (by decide +kernel)) ggX3_orderLengths_X3_ordered
theorem dX3_orderLengths_0 : decode cX3_orderLengths 0 = .ok (.aload_n 0, 1) := by decide +kernel
theorem dX3_orderLengths_1 : decode cX3_orderLengths 1 = .ok (.iload_n 1, 1) := by decide +kernel
theorem dX3_orderLengths_2 : decode cX3_orderLengths 2 = .ok (.invokestatic 174, 3) := by decide +kernel
theorem dX3_orderLengths_5 : decode cX3_orderLengths 5 = .ok (.ifCond .eq 14, 3) := by decide +kernel
theorem dX3_orderLengths_8 : decode cX3_orderLengths 8 = .ok (.iload_n 2, 1) := by decide +kernel
theorem dX3_orderLengths_9 : decode cX3_orderLengths 9 = .ok (.invokestatic 174, 3) := by decide +kernel
theorem dX3_orderLengths_12 : decode cX3_orderLengths 12 = .ok (.ifCond .eq 7, 3) := by decide +kernel
theorem dX3_orderLengths_15 : decode cX3_orderLengths 15 = .ok (.iconst 0, 1) := by decide +kernel
theorem dX3_orderLengths_16 : decode cX3_orderLengths 16 = .ok (.goto 4, 3) := by decide +kernel
theorem dX3_orderLengths_19 : decode cX3_orderLengths 19 = .ok (.iconst 1, 1) := by decide +kernel
theorem dX3_orderLengths_20 : decode cX3_orderLengths 20 = .ok (.invokevirtual 125, 3) := by decide +kernel
theorem dX3_orderLengths_23 : decode cX3_orderLengths 23 = .ok (.ifCond .eq 5, 3) := by decide +kernel
theorem dX3_orderLengths_26 : decode cX3_orderLengths 26 = .ok (.iconst 0, 1) := by decide +kernel
theorem dX3_orderLengths_27 : decode cX3_orderLengths 27 = .ok (.ireturn, 1) := by decide +kernel
theorem dX3_orderLengths_28 : decode cX3_orderLengths 28 = .ok (.aload_n 0, 1) := by decide +kernel
theorem dX3_orderLengths_29 : decode cX3_orderLengths 29 = .ok (.getfield 20, 3) := by decide +kernel
theorem dX3_orderLengths_32 : decode cX3_orderLengths 32 = .ok (.iload_n 1, 1) := by decide +kernel
theorem dX3_orderLengths_33 : decode cX3_orderLengths 33 = .ok (.laload, 1) := by decide +kernel
theorem dX3_orderLengths_34 : decode cX3_orderLengths 34 = .ok (.aload_n 0, 1) := by decide +kernel
theorem dX3_orderLengths_35 : decode cX3_orderLengths 35 = .ok (.getfield 20, 3) := by decide +kernel
theorem dX3_orderLengths_38 : decode cX3_orderLengths 38 = .ok (.iload_n 2, 1) := by decide +kernel
theorem dX3_orderLengths_39 : decode cX3_orderLengths 39 = .ok (.laload, 1) := by decide +kernel
theorem dX3_orderLengths_40 : decode cX3_orderLengths 40 = .ok (.lcmp, 1) := by decide +kernel
theorem dX3_orderLengths_41 : decode cX3_orderLengths 41 = .ok (.ifCond .eq 21, 3) := by decide +kernel
theorem dX3_orderLengths_44 : decode cX3_orderLengths 44 = .ok (.aload_n 0, 1) := by decide +kernel
theorem dX3_orderLengths_45 : decode cX3_orderLengths 45 = .ok (.getfield 20, 3) := by decide +kernel
theorem dX3_orderLengths_48 : decode cX3_orderLengths 48 = .ok (.iload_n 1, 1) := by decide +kernel
theorem dX3_orderLengths_49 : decode cX3_orderLengths 49 = .ok (.laload, 1) := by decide +kernel
theorem dX3_orderLengths_50 : decode cX3_orderLengths 50 = .ok (.aload_n 0, 1) := by decide +kernel
theorem dX3_orderLengths_51 : decode cX3_orderLengths 51 = .ok (.getfield 20, 3) := by decide +kernel
theorem dX3_orderLengths_54 : decode cX3_orderLengths 54 = .ok (.iload_n 2, 1) := by decide +kernel
theorem dX3_orderLengths_55 : decode cX3_orderLengths 55 = .ok (.laload, 1) := by decide +kernel
theorem dX3_orderLengths_56 : decode cX3_orderLengths 56 = .ok (.invokestatic 163, 3) := by decide +kernel
theorem dX3_orderLengths_59 : decode cX3_orderLengths 59 = .ok (.goto 18, 3) := by decide +kernel
theorem dX3_orderLengths_62 : decode cX3_orderLengths 62 = .ok (.aload_n 0, 1) := by decide +kernel
theorem dX3_orderLengths_63 : decode cX3_orderLengths 63 = .ok (.getfield 23, 3) := by decide +kernel
theorem dX3_orderLengths_66 : decode cX3_orderLengths 66 = .ok (.iload_n 1, 1) := by decide +kernel
theorem dX3_orderLengths_67 : decode cX3_orderLengths 67 = .ok (.laload, 1) := by decide +kernel
theorem dX3_orderLengths_68 : decode cX3_orderLengths 68 = .ok (.aload_n 0, 1) := by decide +kernel
theorem dX3_orderLengths_69 : decode cX3_orderLengths 69 = .ok (.getfield 23, 3) := by decide +kernel
theorem dX3_orderLengths_72 : decode cX3_orderLengths 72 = .ok (.iload_n 2, 1) := by decide +kernel
theorem dX3_orderLengths_73 : decode cX3_orderLengths 73 = .ok (.laload, 1) := by decide +kernel
theorem dX3_orderLengths_74 : decode cX3_orderLengths 74 = .ok (.invokestatic 163, 3) := by decide +kernel
theorem dX3_orderLengths_77 : decode cX3_orderLengths 77 = .ok (.ireturn, 1) := by decide +kernel
set_option maxRecDepth 20000 in
theorem ggX3_moment_X3_isSlot : GoodIn wsX3_moment wsX3_isSlot := goodIn_r _ [8, 9, 10, 11, 7, 12] (by decide +kernel) (by decide +kernel)
set_option maxRecDepth 20000 in
theorem gX3_moment_X3_isSlot : GoodIn wsX3_moment (va_wsS RX3 174 yX3_isSlot wsX3_isSlot) := goodIn_app (goodIn_of _ (by decide +kernel)) ggX3_moment_X3_isSlot
set_option maxRecDepth 20000 in
theorem ggX3_moment_X3_isDate : GoodIn wsX3_moment wsX3_isDate := goodIn_r _ [15, 16, 10, 11, 7, 12] (by decide +kernel) (by decide +kernel)
set_option maxRecDepth 20000 in
theorem gX3_moment_X3_isDate : GoodIn wsX3_moment (va_wsS RX3 121 yX3_isDate wsX3_isDate) := goodIn_app (goodIn_of _ (by decide +kernel)) ggX3_moment_X3_isDate
set_option maxRecDepth 20000 in
theorem ggX3_moment_X3_fails : GoodIn wsX3_moment wsX3_fails := goodIn_r _ [20, 21, 22, 23, 24, 25, 26, 27, 28, 29, 30, 31, 32, 33, 34, 35] (by decide +kernel) (by decide +kernel)
set_option maxRecDepth 20000 in
theorem gX3_moment_X3_fails : GoodIn wsX3_moment (wsV RX3 125 RX3 yX3_fails wsX3_fails) := goodIn_app (goodIn_of _ (by decide +kernel)) ggX3_moment_X3_fails
theorem dX3_moment_0 : decode cX3_moment 0 = .ok (.aload_n 0, 1) := by decide +kernel
theorem dX3_moment_1 : decode cX3_moment 1 = .ok (.iload_n 1, 1) := by decide +kernel
theorem dX3_moment_2 : decode cX3_moment 2 = .ok (.invokestatic 174, 3) := by decide +kernel
theorem dX3_moment_5 : decode cX3_moment 5 = .ok (.ifCond .eq 21, 3) := by decide +kernel
theorem dX3_moment_8 : decode cX3_moment 8 = .ok (.iload_n 2, 1) := by decide +kernel
theorem dX3_moment_9 : decode cX3_moment 9 = .ok (.invokestatic 121, 3) := by decide +kernel
theorem dX3_moment_12 : decode cX3_moment 12 = .ok (.ifCond .eq 14, 3) := by decide +kernel
theorem dX3_moment_15 : decode cX3_moment 15 = .ok (.iload_n 3, 1) := by decide +kernel
theorem dX3_moment_16 : decode cX3_moment 16 = .ok (.invokestatic 174, 3) := by decide +kernel
theorem dX3_moment_19 : decode cX3_moment 19 = .ok (.ifCond .eq 7, 3) := by decide +kernel
theorem dX3_moment_22 : decode cX3_moment 22 = .ok (.iconst 0, 1) := by decide +kernel
theorem dX3_moment_23 : decode cX3_moment 23 = .ok (.goto 4, 3) := by decide +kernel
theorem dX3_moment_26 : decode cX3_moment 26 = .ok (.iconst 1, 1) := by decide +kernel
theorem dX3_moment_27 : decode cX3_moment 27 = .ok (.invokevirtual 125, 3) := by decide +kernel
theorem dX3_moment_30 : decode cX3_moment 30 = .ok (.ifCond .eq 5, 3) := by decide +kernel
theorem dX3_moment_33 : decode cX3_moment 33 = .ok (.lconst 0, 1) := by decide +kernel
theorem dX3_moment_34 : decode cX3_moment 34 = .ok (.lreturn, 1) := by decide +kernel
theorem dX3_moment_35 : decode cX3_moment 35 = .ok (.aload_n 0, 1) := by decide +kernel
theorem dX3_moment_36 : decode cX3_moment 36 = .ok (.getfield 26, 3) := by decide +kernel
theorem dX3_moment_39 : decode cX3_moment 39 = .ok (.iload_n 1, 1) := by decide +kernel
theorem dX3_moment_40 : decode cX3_moment 40 = .ok (.aload_n 0, 1) := by decide +kernel
theorem dX3_moment_41 : decode cX3_moment 41 = .ok (.getfield 13, 3) := by decide +kernel
theorem dX3_moment_44 : decode cX3_moment 44 = .ok (.iload_n 2, 1) := by decide +kernel
theorem dX3_moment_45 : decode cX3_moment 45 = .ok (.laload, 1) := by decide +kernel
theorem dX3_moment_46 : decode cX3_moment 46 = .ok (.lastore, 1) := by decide +kernel
theorem dX3_moment_47 : decode cX3_moment 47 = .ok (.aload_n 0, 1) := by decide +kernel
theorem dX3_moment_48 : decode cX3_moment 48 = .ok (.getfield 29, 3) := by decide +kernel
theorem dX3_moment_51 : decode cX3_moment 51 = .ok (.iload_n 1, 1) := by decide +kernel
theorem dX3_moment_52 : decode cX3_moment 52 = .ok (.aload_n 0, 1) := by decide +kernel
theorem dX3_moment_53 : decode cX3_moment 53 = .ok (.getfield 17, 3) := by decide +kernel
theorem dX3_moment_56 : decode cX3_moment 56 = .ok (.iload_n 3, 1) := by decide +kernel
theorem dX3_moment_57 : decode cX3_moment 57 = .ok (.laload, 1) := by decide +kernel
theorem dX3_moment_58 : decode cX3_moment 58 = .ok (.lastore, 1) := by decide +kernel
theorem dX3_moment_59 : decode cX3_moment 59 = .ok (.aload_n 0, 1) := by decide +kernel
theorem dX3_moment_60 : decode cX3_moment 60 = .ok (.getfield 26, 3) := by decide +kernel
theorem dX3_moment_63 : decode cX3_moment 63 = .ok (.iload_n 1, 1) := by decide +kernel
theorem dX3_moment_64 : decode cX3_moment 64 = .ok (.laload, 1) := by decide +kernel
theorem dX3_moment_65 : decode cX3_moment 65 = .ok (.lreturn, 1) := by decide +kernel
set_option maxRecDepth 20000 in
theorem ggX3_dateOf_X3_isSlot : GoodIn wsX3_dateOf wsX3_isSlot := goodIn_r _ [6, 7, 8, 9, 5, 10] (by decide +kernel) (by decide +kernel)
set_option maxRecDepth 20000 in
theorem gX3_dateOf_X3_isSlot : GoodIn wsX3_dateOf (va_wsS RX3 174 yX3_isSlot wsX3_isSlot) := goodIn_app (goodIn_of _ (by decide +kernel)) ggX3_dateOf_X3_isSlot
set_option maxRecDepth 20000 in
theorem ggX3_dateOf_X3_isDate : GoodIn wsX3_dateOf wsX3_isDate := goodIn_r _ [13, 14, 8, 9, 5, 10] (by decide +kernel) (by decide +kernel)
set_option maxRecDepth 20000 in
theorem gX3_dateOf_X3_isDate : GoodIn wsX3_dateOf (va_wsS RX3 121 yX3_isDate wsX3_isDate) := goodIn_app (goodIn_of _ (by decide +kernel)) ggX3_dateOf_X3_isDate
set_option maxRecDepth 20000 in
theorem ggX3_dateOf_X3_fails : GoodIn wsX3_dateOf wsX3_fails := goodIn_r _ [18, 19, 20, 21, 22, 23, 24, 25, 26, 27, 28, 29, 30, 31, 32, 33] (by decide +kernel) (by decide +kernel)
set_option maxRecDepth 20000 in
theorem gX3_dateOf_X3_fails : GoodIn wsX3_dateOf (wsV RX3 125 RX3 yX3_fails wsX3_fails) := goodIn_app (goodIn_of _ (by decide +kernel)) ggX3_dateOf_X3_fails
theorem dX3_dateOf_0 : decode cX3_dateOf 0 = .ok (.aload_n 0, 1) := by decide +kernel
theorem dX3_dateOf_1 : decode cX3_dateOf 1 = .ok (.iload_n 1, 1) := by decide +kernel
theorem dX3_dateOf_2 : decode cX3_dateOf 2 = .ok (.invokestatic 174, 3) := by decide +kernel
theorem dX3_dateOf_5 : decode cX3_dateOf 5 = .ok (.ifCond .eq 14, 3) := by decide +kernel
theorem dX3_dateOf_8 : decode cX3_dateOf 8 = .ok (.iload_n 2, 1) := by decide +kernel
theorem dX3_dateOf_9 : decode cX3_dateOf 9 = .ok (.invokestatic 121, 3) := by decide +kernel
theorem dX3_dateOf_12 : decode cX3_dateOf 12 = .ok (.ifCond .eq 7, 3) := by decide +kernel
theorem dX3_dateOf_15 : decode cX3_dateOf 15 = .ok (.iconst 0, 1) := by decide +kernel
theorem dX3_dateOf_16 : decode cX3_dateOf 16 = .ok (.goto 4, 3) := by decide +kernel
theorem dX3_dateOf_19 : decode cX3_dateOf 19 = .ok (.iconst 1, 1) := by decide +kernel
theorem dX3_dateOf_20 : decode cX3_dateOf 20 = .ok (.invokevirtual 125, 3) := by decide +kernel
theorem dX3_dateOf_23 : decode cX3_dateOf 23 = .ok (.ifCond .eq 5, 3) := by decide +kernel
theorem dX3_dateOf_26 : decode cX3_dateOf 26 = .ok (.lconst 0, 1) := by decide +kernel
theorem dX3_dateOf_27 : decode cX3_dateOf 27 = .ok (.lreturn, 1) := by decide +kernel
theorem dX3_dateOf_28 : decode cX3_dateOf 28 = .ok (.aload_n 0, 1) := by decide +kernel
theorem dX3_dateOf_29 : decode cX3_dateOf 29 = .ok (.getfield 13, 3) := by decide +kernel
theorem dX3_dateOf_32 : decode cX3_dateOf 32 = .ok (.iload_n 2, 1) := by decide +kernel
theorem dX3_dateOf_33 : decode cX3_dateOf 33 = .ok (.aload_n 0, 1) := by decide +kernel
theorem dX3_dateOf_34 : decode cX3_dateOf 34 = .ok (.getfield 26, 3) := by decide +kernel
theorem dX3_dateOf_37 : decode cX3_dateOf 37 = .ok (.iload_n 1, 1) := by decide +kernel
theorem dX3_dateOf_38 : decode cX3_dateOf 38 = .ok (.laload, 1) := by decide +kernel
theorem dX3_dateOf_39 : decode cX3_dateOf 39 = .ok (.lastore, 1) := by decide +kernel
theorem dX3_dateOf_40 : decode cX3_dateOf 40 = .ok (.aload_n 0, 1) := by decide +kernel
theorem dX3_dateOf_41 : decode cX3_dateOf 41 = .ok (.getfield 13, 3) := by decide +kernel
theorem dX3_dateOf_44 : decode cX3_dateOf 44 = .ok (.iload_n 2, 1) := by decide +kernel
theorem dX3_dateOf_45 : decode cX3_dateOf 45 = .ok (.laload, 1) := by decide +kernel
theorem dX3_dateOf_46 : decode cX3_dateOf 46 = .ok (.lreturn, 1) := by decide +kernel
set_option maxRecDepth 20000 in
theorem ggX3_timeOf_X3_isSlot : GoodIn wsX3_timeOf wsX3_isSlot := goodIn_r _ [6, 7, 8, 9, 5, 10] (by decide +kernel) (by decide +kernel)
set_option maxRecDepth 20000 in
theorem gX3_timeOf_X3_isSlot : GoodIn wsX3_timeOf (va_wsS RX3 174 yX3_isSlot wsX3_isSlot) := goodIn_app (goodIn_of _ (by decide +kernel)) ggX3_timeOf_X3_isSlot
set_option maxRecDepth 20000 in
theorem ggX3_timeOf_X3_fails : GoodIn wsX3_timeOf wsX3_fails := goodIn_r _ [14, 15, 16, 17, 18, 19, 20, 21, 22, 23, 24, 25, 26, 27, 28, 29] (by decide +kernel) (by decide +kernel)
set_option maxRecDepth 20000 in
theorem gX3_timeOf_X3_fails : GoodIn wsX3_timeOf (wsV RX3 125 RX3 yX3_fails wsX3_fails) := goodIn_app (goodIn_of _ (by decide +kernel)) ggX3_timeOf_X3_fails
theorem dX3_timeOf_0 : decode cX3_timeOf 0 = .ok (.aload_n 0, 1) := by decide +kernel
theorem dX3_timeOf_1 : decode cX3_timeOf 1 = .ok (.iload_n 1, 1) := by decide +kernel
theorem dX3_timeOf_2 : decode cX3_timeOf 2 = .ok (.invokestatic 174, 3) := by decide +kernel
theorem dX3_timeOf_5 : decode cX3_timeOf 5 = .ok (.ifCond .eq 14, 3) := by decide +kernel
theorem dX3_timeOf_8 : decode cX3_timeOf 8 = .ok (.iload_n 2, 1) := by decide +kernel
theorem dX3_timeOf_9 : decode cX3_timeOf 9 = .ok (.invokestatic 174, 3) := by decide +kernel
theorem dX3_timeOf_12 : decode cX3_timeOf 12 = .ok (.ifCond .eq 7, 3) := by decide +kernel
theorem dX3_timeOf_15 : decode cX3_timeOf 15 = .ok (.iconst 0, 1) := by decide +kernel
theorem dX3_timeOf_16 : decode cX3_timeOf 16 = .ok (.goto 4, 3) := by decide +kernel
theorem dX3_timeOf_19 : decode cX3_timeOf 19 = .ok (.iconst 1, 1) := by decide +kernel
theorem dX3_timeOf_20 : decode cX3_timeOf 20 = .ok (.invokevirtual 125, 3) := by decide +kernel
theorem dX3_timeOf_23 : decode cX3_timeOf 23 = .ok (.ifCond .eq 5, 3) := by decide +kernel
theorem dX3_timeOf_26 : decode cX3_timeOf 26 = .ok (.lconst 0, 1) := by decide +kernel
theorem dX3_timeOf_27 : decode cX3_timeOf 27 = .ok (.lreturn, 1) := by decide +kernel
theorem dX3_timeOf_28 : decode cX3_timeOf 28 = .ok (.aload_n 0, 1) := by decide +kernel
theorem dX3_timeOf_29 : decode cX3_timeOf 29 = .ok (.getfield 17, 3) := by decide +kernel
theorem dX3_timeOf_32 : decode cX3_timeOf 32 = .ok (.iload_n 2, 1) := by decide +kernel
theorem dX3_timeOf_33 : decode cX3_timeOf 33 = .ok (.aload_n 0, 1) := by decide +kernel
theorem dX3_timeOf_34 : decode cX3_timeOf 34 = .ok (.getfield 29, 3) := by decide +kernel
theorem dX3_timeOf_37 : decode cX3_timeOf 37 = .ok (.iload_n 1, 1) := by decide +kernel
theorem dX3_timeOf_38 : decode cX3_timeOf 38 = .ok (.laload, 1) := by decide +kernel
theorem dX3_timeOf_39 : decode cX3_timeOf 39 = .ok (.lastore, 1) := by decide +kernel
theorem dX3_timeOf_40 : decode cX3_timeOf 40 = .ok (.aload_n 0, 1) := by decide +kernel
theorem dX3_timeOf_41 : decode cX3_timeOf 41 = .ok (.getfield 17, 3) := by decide +kernel
theorem dX3_timeOf_44 : decode cX3_timeOf 44 = .ok (.iload_n 2, 1) := by decide +kernel
theorem dX3_timeOf_45 : decode cX3_timeOf 45 = .ok (.laload, 1) := by decide +kernel
theorem dX3_timeOf_46 : decode cX3_timeOf 46 = .ok (.lreturn, 1) := by decide +kernel
set_option maxRecDepth 20000 in
theorem ggX3_comes_X3_first : GoodIn wsX3_comes wsX3_first := goodIn_r _ [8, 9, 10, 11, 7, 12, 13, 14, 15, 16, 17, 18, 19, 20, 21, 22] (by decide +kernel) (by decide +kernel)
set_option maxRecDepth 20000 in
theorem gX3_comes_X3_first : GoodIn wsX3_comes (va_wsS RX3 77 yX3_first wsX3_first) := goodIn_app (goodIn_of _ (by decide +kernel)) ggX3_comes_X3_first
set_option maxRecDepth 20000 in
theorem ggX3_comes_X3_in : GoodIn wsX3_comes wsX3_in := goodIn_r _ [25] (by decide +kernel) (by decide +kernel)
set_option maxRecDepth 20000 in
theorem gX3_comes_X3_in : GoodIn wsX3_comes (va_wsS RX3 100 yX3_in wsX3_in) := goodIn_app (goodIn_of _ (by decide +kernel)) ggX3_comes_X3_in
set_option maxRecDepth 20000 in
theorem ggX3_comes_X3_fails : GoodIn wsX3_comes wsX3_fails := goodIn_r _ [29, 30, 31, 32, 33, 34, 35, 36, 37, 38, 39, 40, 41, 42, 43, 44] (by decide +kernel) (by decide +kernel)
set_option maxRecDepth 20000 in
theorem gX3_comes_X3_fails : GoodIn wsX3_comes (wsV RX3 125 RX3 yX3_fails wsX3_fails) := goodIn_app (goodIn_of _ (by decide +kernel)) ggX3_comes_X3_fails
theorem dX3_comes_0 : decode cX3_comes 0 = .ok (.aload_n 0, 1) := by decide +kernel
theorem dX3_comes_1 : decode cX3_comes 1 = .ok (.lload_n 2, 1) := by decide +kernel
theorem dX3_comes_2 : decode cX3_comes 2 = .ok (.ldc2_w 96, 3) := by decide +kernel
theorem dX3_comes_5 : decode cX3_comes 5 = .ok (.invokestatic 77, 3) := by decide +kernel
theorem dX3_comes_8 : decode cX3_comes 8 = .ok (.ldc2_w 128, 3) := by decide +kernel
theorem dX3_comes_11 : decode cX3_comes 11 = .ok (.invokestatic 77, 3) := by decide +kernel
theorem dX3_comes_14 : decode cX3_comes 14 = .ok (.lconst 1, 1) := by decide +kernel
theorem dX3_comes_15 : decode cX3_comes 15 = .ok (.lsub, 1) := by decide +kernel
theorem dX3_comes_16 : decode cX3_comes 16 = .ok (.invokestatic 100, 3) := by decide +kernel
theorem dX3_comes_19 : decode cX3_comes 19 = .ok (.ifCond .eq 7, 3) := by decide +kernel
theorem dX3_comes_22 : decode cX3_comes 22 = .ok (.iconst 0, 1) := by decide +kernel
theorem dX3_comes_23 : decode cX3_comes 23 = .ok (.goto 5, 3) := by decide +kernel
theorem dX3_comes_26 : decode cX3_comes 26 = .ok (.iload 6, 2) := by decide +kernel
theorem dX3_comes_28 : decode cX3_comes 28 = .ok (.invokevirtual 125, 3) := by decide +kernel
theorem dX3_comes_31 : decode cX3_comes 31 = .ok (.ifCond .eq 5, 3) := by decide +kernel
theorem dX3_comes_34 : decode cX3_comes 34 = .ok (.lconst 0, 1) := by decide +kernel
theorem dX3_comes_35 : decode cX3_comes 35 = .ok (.lreturn, 1) := by decide +kernel
theorem dX3_comes_36 : decode cX3_comes 36 = .ok (.aload_n 0, 1) := by decide +kernel
theorem dX3_comes_37 : decode cX3_comes 37 = .ok (.getfield 26, 3) := by decide +kernel
theorem dX3_comes_40 : decode cX3_comes 40 = .ok (.iload_n 1, 1) := by decide +kernel
theorem dX3_comes_41 : decode cX3_comes 41 = .ok (.lload_n 2, 1) := by decide +kernel
theorem dX3_comes_42 : decode cX3_comes 42 = .ok (.lastore, 1) := by decide +kernel
theorem dX3_comes_43 : decode cX3_comes 43 = .ok (.aload_n 0, 1) := by decide +kernel
theorem dX3_comes_44 : decode cX3_comes 44 = .ok (.getfield 29, 3) := by decide +kernel
theorem dX3_comes_47 : decode cX3_comes 47 = .ok (.iload_n 1, 1) := by decide +kernel
theorem dX3_comes_48 : decode cX3_comes 48 = .ok (.lload 4, 2) := by decide +kernel
theorem dX3_comes_50 : decode cX3_comes 50 = .ok (.lastore, 1) := by decide +kernel
theorem dX3_comes_51 : decode cX3_comes 51 = .ok (.lload_n 2, 1) := by decide +kernel
theorem dX3_comes_52 : decode cX3_comes 52 = .ok (.lreturn, 1) := by decide +kernel
set_option maxRecDepth 20000 in
theorem ggX3_moveMoment_X3_isSlot : GoodIn wsX3_moveMoment wsX3_isSlot := goodIn_r _ [14, 15, 16, 17, 13, 18] (by decide +kernel) (by decide +kernel)
set_option maxRecDepth 20000 in
theorem gX3_moveMoment_X3_isSlot : GoodIn wsX3_moveMoment (va_wsS RX3 174 yX3_isSlot wsX3_isSlot) := goodIn_app (goodIn_of _ (by decide +kernel)) ggX3_moveMoment_X3_isSlot
set_option maxRecDepth 20000 in
theorem ggX3_moveMoment_X3_isUnit : GoodIn wsX3_moveMoment wsX3_isUnit := goodIn_r _ [21] (by decide +kernel) (by decide +kernel)
set_option maxRecDepth 20000 in
theorem gX3_moveMoment_X3_isUnit : GoodIn wsX3_moveMoment (va_wsS RX3 140 yX3_isUnit wsX3_isUnit) := goodIn_app (goodIn_of _ (by decide +kernel)) ggX3_moveMoment_X3_isUnit
set_option maxRecDepth 20000 in
theorem ggX3_moveMoment_X3_in : GoodIn wsX3_moveMoment wsX3_in := goodIn_r _ [18] (by decide +kernel) (by decide +kernel)
set_option maxRecDepth 20000 in
theorem gX3_moveMoment_X3_in : GoodIn wsX3_moveMoment (va_wsS RX3 100 yX3_in wsX3_in) := goodIn_app (goodIn_of _ (by decide +kernel)) ggX3_moveMoment_X3_in
set_option maxRecDepth 20000 in
theorem ggX3_moveMoment_X3_fails : GoodIn wsX3_moveMoment wsX3_fails := goodIn_r _ [25, 26, 79, 80, 81, 82, 83, 84, 85, 86, 87, 88, 89, 90, 91, 92] (by decide +kernel) (by decide +kernel)
set_option maxRecDepth 20000 in
theorem gX3_moveMoment_X3_fails : GoodIn wsX3_moveMoment (wsV RX3 125 RX3 yX3_fails wsX3_fails) := goodIn_app (goodIn_of _ (by decide +kernel)) ggX3_moveMoment_X3_fails
set_option maxRecDepth 20000 in
theorem ggX3_moveMoment_X3_moved : GoodIn wsX3_moveMoment wsX3_moved := goodIn_r _ [30, 31, 32, 33, 34, 35, 13, 36, 37, 38, 39, 40, 41, 42, 43, 44, 45, 46, 47, 48, 49, 50, 51, 52, 53, 54, 55, 56, 15, 57, 58, 59, 60, 61, 62, 63, 64, 65, 66, 67, 68, 69, 70, 71, 72, 79, 80, 81, 82, 83, 84, 85, 86, 87, 88, 89, 90, 91, 92] (by decide +kernel) (by decide +kernel)
set_option maxRecDepth 20000 in
theorem gX3_moveMoment_X3_moved : GoodIn wsX3_moveMoment (wsV RX3 148 RX3 yX3_moved wsX3_moved) := goodIn_app (goodIn_of _ (by decide +kernel)) ggX3_moveMoment_X3_moved
set_option maxRecDepth 20000 in
theorem ggX3_moveMoment_X3_comes : GoodIn wsX3_moveMoment wsX3_comes := goodIn_ca (goodIn_r _ [76, 77, 78, 5, 6, 50, 51, 13, 52, 44, 53, 54, 55, 56, 15, 57, 58, 59, 60, 45, 47, 48, 49, 16, 17, 18, 22, 23, 24, 25, 26, 79, 80, 81, 82, 83, 84, 85, 86, 87, 88, 89, 90, 91, 92] (by decide +kernel) (by decide +kernel)) (goodIn_sub (fun _ h => List.mem_cons_of_mem _ (List.mem_append_right _ h)) (by decide +kernel))
set_option maxRecDepth 20000 in
theorem gX3_moveMoment_X3_comes : GoodIn wsX3_moveMoment (wsV RX3 228 RX3 yX3_comes wsX3_comes) := goodIn_app (goodIn_of _ (by decide +kernel)) ggX3_moveMoment_X3_comes
set_option maxRecDepth 20000 in
theorem ggX3_moveMoment_X3_rest : GoodIn wsX3_moveMoment wsX3_rest := goodIn_r _ [69, 47, 48, 13, 49] (by decide +kernel) (by decide +kernel)
set_option maxRecDepth 20000 in
theorem gX3_moveMoment_X3_rest : GoodIn wsX3_moveMoment (va_wsS RX3 52 yX3_rest wsX3_rest) := goodIn_app (goodIn_of _ (by decide +kernel)) ggX3_moveMoment_X3_rest
set_option maxRecDepth 20000 in
theorem ggX3_moveMoment_X3_floor : GoodIn wsX3_moveMoment wsX3_floor := goodIn_r _ [49] (by decide +kernel) (by decide +kernel)
set_option maxRecDepth 20000 in
theorem gX3_moveMoment_X3_floor : GoodIn wsX3_moveMoment (va_wsS RX3 46 yX3_floor wsX3_floor) := goodIn_app (goodIn_of _ (by decide +kernel)) ggX3_moveMoment_X3_floor
theorem dX3_moveMoment_0 : decode cX3_moveMoment 0 = .ok (.iload_n 2, 1) := by decide +kernel
theorem dX3_moveMoment_1 : decode cX3_moveMoment 1 = .ok (.bipush 104, 2) := by decide +kernel
theorem dX3_moveMoment_3 : decode cX3_moveMoment 3 = .ok (.if_icmp .eq 21, 3) := by decide +kernel
theorem dX3_moveMoment_6 : decode cX3_moveMoment 6 = .ok (.iload_n 2, 1) := by decide +kernel
theorem dX3_moveMoment_7 : decode cX3_moveMoment 7 = .ok (.bipush 105, 2) := by decide +kernel
theorem dX3_moveMoment_9 : decode cX3_moveMoment 9 = .ok (.if_icmp .eq 15, 3) := by decide +kernel
theorem dX3_moveMoment_12 : decode cX3_moveMoment 12 = .ok (.iload_n 2, 1) := by decide +kernel
theorem dX3_moveMoment_13 : decode cX3_moveMoment 13 = .ok (.bipush 115, 2) := by decide +kernel
theorem dX3_moveMoment_15 : decode cX3_moveMoment 15 = .ok (.if_icmp .eq 9, 3) := by decide +kernel
theorem dX3_moveMoment_18 : decode cX3_moveMoment 18 = .ok (.iload_n 2, 1) := by decide +kernel
theorem dX3_moveMoment_19 : decode cX3_moveMoment 19 = .ok (.bipush 110, 2) := by decide +kernel
theorem dX3_moveMoment_21 : decode cX3_moveMoment 21 = .ok (.if_icmp .ne 7, 3) := by decide +kernel
theorem dX3_moveMoment_24 : decode cX3_moveMoment 24 = .ok (.iconst 1, 1) := by decide +kernel
theorem dX3_moveMoment_25 : decode cX3_moveMoment 25 = .ok (.goto 4, 3) := by decide +kernel
theorem dX3_moveMoment_28 : decode cX3_moveMoment 28 = .ok (.iconst 0, 1) := by decide +kernel
theorem dX3_moveMoment_29 : decode cX3_moveMoment 29 = .ok (.istore 6, 2) := by decide +kernel
theorem dX3_moveMoment_31 : decode cX3_moveMoment 31 = .ok (.aload_n 0, 1) := by decide +kernel
theorem dX3_moveMoment_32 : decode cX3_moveMoment 32 = .ok (.iload_n 1, 1) := by decide +kernel
theorem dX3_moveMoment_33 : decode cX3_moveMoment 33 = .ok (.invokestatic 174, 3) := by decide +kernel
theorem dX3_moveMoment_36 : decode cX3_moveMoment 36 = .ok (.ifCond .eq 11, 3) := by decide +kernel
theorem dX3_moveMoment_39 : decode cX3_moveMoment 39 = .ok (.iload 5, 2) := by decide +kernel
theorem dX3_moveMoment_41 : decode cX3_moveMoment 41 = .ok (.invokestatic 174, 3) := by decide +kernel
theorem dX3_moveMoment_44 : decode cX3_moveMoment 44 = .ok (.ifCond .ne 7, 3) := by decide +kernel
theorem dX3_moveMoment_47 : decode cX3_moveMoment 47 = .ok (.iconst 1, 1) := by decide +kernel
theorem dX3_moveMoment_48 : decode cX3_moveMoment 48 = .ok (.goto 55, 3) := by decide +kernel
theorem dX3_moveMoment_51 : decode cX3_moveMoment 51 = .ok (.iload 6, 2) := by decide +kernel
theorem dX3_moveMoment_53 : decode cX3_moveMoment 53 = .ok (.ifCond .ne 10, 3) := by decide +kernel
theorem dX3_moveMoment_56 : decode cX3_moveMoment 56 = .ok (.iload_n 2, 1) := by decide +kernel
theorem dX3_moveMoment_57 : decode cX3_moveMoment 57 = .ok (.invokestatic 140, 3) := by decide +kernel
theorem dX3_moveMoment_60 : decode cX3_moveMoment 60 = .ok (.ifCond .eq 42, 3) := by decide +kernel
theorem dX3_moveMoment_63 : decode cX3_moveMoment 63 = .ok (.lload_n 3, 1) := by decide +kernel
theorem dX3_moveMoment_64 : decode cX3_moveMoment 64 = .ok (.iload 6, 2) := by decide +kernel
theorem dX3_moveMoment_66 : decode cX3_moveMoment 66 = .ok (.ifCond .eq 9, 3) := by decide +kernel
theorem dX3_moveMoment_69 : decode cX3_moveMoment 69 = .ok (.ldc2_w 207, 3) := by decide +kernel
theorem dX3_moveMoment_72 : decode cX3_moveMoment 72 = .ok (.goto 6, 3) := by decide +kernel
theorem dX3_moveMoment_75 : decode cX3_moveMoment 75 = .ok (.ldc2_w 144, 3) := by decide +kernel
theorem dX3_moveMoment_78 : decode cX3_moveMoment 78 = .ok (.iload 6, 2) := by decide +kernel
theorem dX3_moveMoment_80 : decode cX3_moveMoment 80 = .ok (.ifCond .eq 9, 3) := by decide +kernel
theorem dX3_moveMoment_83 : decode cX3_moveMoment 83 = .ok (.ldc2_w 209, 3) := by decide +kernel
theorem dX3_moveMoment_86 : decode cX3_moveMoment 86 = .ok (.goto 6, 3) := by decide +kernel
theorem dX3_moveMoment_89 : decode cX3_moveMoment 89 = .ok (.ldc2_w 146, 3) := by decide +kernel
theorem dX3_moveMoment_92 : decode cX3_moveMoment 92 = .ok (.invokestatic 100, 3) := by decide +kernel
theorem dX3_moveMoment_95 : decode cX3_moveMoment 95 = .ok (.ifCond .eq 7, 3) := by decide +kernel
theorem dX3_moveMoment_98 : decode cX3_moveMoment 98 = .ok (.iconst 0, 1) := by decide +kernel
theorem dX3_moveMoment_99 : decode cX3_moveMoment 99 = .ok (.goto 4, 3) := by decide +kernel
theorem dX3_moveMoment_102 : decode cX3_moveMoment 102 = .ok (.iconst 2, 1) := by decide +kernel
theorem dX3_moveMoment_103 : decode cX3_moveMoment 103 = .ok (.invokevirtual 125, 3) := by decide +kernel
theorem dX3_moveMoment_106 : decode cX3_moveMoment 106 = .ok (.ifCond .eq 5, 3) := by decide +kernel
theorem dX3_moveMoment_109 : decode cX3_moveMoment 109 = .ok (.lconst 0, 1) := by decide +kernel
theorem dX3_moveMoment_110 : decode cX3_moveMoment 110 = .ok (.lreturn, 1) := by decide +kernel
theorem dX3_moveMoment_111 : decode cX3_moveMoment 111 = .ok (.iload 6, 2) := by decide +kernel
theorem dX3_moveMoment_113 : decode cX3_moveMoment 113 = .ok (.ifCond .ne 29, 3) := by decide +kernel
theorem dX3_moveMoment_116 : decode cX3_moveMoment 116 = .ok (.aload_n 0, 1) := by decide +kernel
theorem dX3_moveMoment_117 : decode cX3_moveMoment 117 = .ok (.iload 5, 2) := by decide +kernel
theorem dX3_moveMoment_119 : decode cX3_moveMoment 119 = .ok (.aload_n 0, 1) := by decide +kernel
theorem dX3_moveMoment_120 : decode cX3_moveMoment 120 = .ok (.aload_n 0, 1) := by decide +kernel
theorem dX3_moveMoment_121 : decode cX3_moveMoment 121 = .ok (.getfield 26, 3) := by decide +kernel
theorem dX3_moveMoment_124 : decode cX3_moveMoment 124 = .ok (.iload_n 1, 1) := by decide +kernel
theorem dX3_moveMoment_125 : decode cX3_moveMoment 125 = .ok (.laload, 1) := by decide +kernel
theorem dX3_moveMoment_126 : decode cX3_moveMoment 126 = .ok (.iload_n 2, 1) := by decide +kernel
theorem dX3_moveMoment_127 : decode cX3_moveMoment 127 = .ok (.lload_n 3, 1) := by decide +kernel
theorem dX3_moveMoment_128 : decode cX3_moveMoment 128 = .ok (.invokevirtual 148, 3) := by decide +kernel
theorem dX3_moveMoment_131 : decode cX3_moveMoment 131 = .ok (.aload_n 0, 1) := by decide +kernel
theorem dX3_moveMoment_132 : decode cX3_moveMoment 132 = .ok (.getfield 29, 3) := by decide +kernel
theorem dX3_moveMoment_135 : decode cX3_moveMoment 135 = .ok (.iload_n 1, 1) := by decide +kernel
theorem dX3_moveMoment_136 : decode cX3_moveMoment 136 = .ok (.laload, 1) := by decide +kernel
theorem dX3_moveMoment_137 : decode cX3_moveMoment 137 = .ok (.iconst 3, 1) := by decide +kernel
theorem dX3_moveMoment_138 : decode cX3_moveMoment 138 = .ok (.invokevirtual 228, 3) := by decide +kernel
theorem dX3_moveMoment_141 : decode cX3_moveMoment 141 = .ok (.lreturn, 1) := by decide +kernel
theorem dX3_moveMoment_142 : decode cX3_moveMoment 142 = .ok (.iload_n 2, 1) := by decide +kernel
theorem dX3_moveMoment_143 : decode cX3_moveMoment 143 = .ok (.bipush 104, 2) := by decide +kernel
theorem dX3_moveMoment_145 : decode cX3_moveMoment 145 = .ok (.if_icmp .ne 9, 3) := by decide +kernel
theorem dX3_moveMoment_148 : decode cX3_moveMoment 148 = .ok (.ldc2_w 203, 3) := by decide +kernel
theorem dX3_moveMoment_151 : decode cX3_moveMoment 151 = .ok (.goto 28, 3) := by decide +kernel
theorem dX3_moveMoment_154 : decode cX3_moveMoment 154 = .ok (.iload_n 2, 1) := by decide +kernel
theorem dX3_moveMoment_155 : decode cX3_moveMoment 155 = .ok (.bipush 105, 2) := by decide +kernel
theorem dX3_moveMoment_157 : decode cX3_moveMoment 157 = .ok (.if_icmp .ne 9, 3) := by decide +kernel
theorem dX3_moveMoment_160 : decode cX3_moveMoment 160 = .ok (.ldc2_w 211, 3) := by decide +kernel
theorem dX3_moveMoment_163 : decode cX3_moveMoment 163 = .ok (.goto 16, 3) := by decide +kernel
theorem dX3_moveMoment_166 : decode cX3_moveMoment 166 = .ok (.iload_n 2, 1) := by decide +kernel
theorem dX3_moveMoment_167 : decode cX3_moveMoment 167 = .ok (.bipush 115, 2) := by decide +kernel
theorem dX3_moveMoment_169 : decode cX3_moveMoment 169 = .ok (.if_icmp .ne 9, 3) := by decide +kernel
theorem dX3_moveMoment_172 : decode cX3_moveMoment 172 = .ok (.ldc2_w 199, 3) := by decide +kernel
theorem dX3_moveMoment_175 : decode cX3_moveMoment 175 = .ok (.goto 4, 3) := by decide +kernel
theorem dX3_moveMoment_178 : decode cX3_moveMoment 178 = .ok (.lconst 1, 1) := by decide +kernel
theorem dX3_moveMoment_179 : decode cX3_moveMoment 179 = .ok (.lstore 7, 2) := by decide +kernel
theorem dX3_moveMoment_181 : decode cX3_moveMoment 181 = .ok (.ldc2_w 205, 3) := by decide +kernel
theorem dX3_moveMoment_184 : decode cX3_moveMoment 184 = .ok (.lload 7, 2) := by decide +kernel
theorem dX3_moveMoment_186 : decode cX3_moveMoment 186 = .ok (.ldiv, 1) := by decide +kernel
theorem dX3_moveMoment_187 : decode cX3_moveMoment 187 = .ok (.lstore 9, 2) := by decide +kernel
theorem dX3_moveMoment_189 : decode cX3_moveMoment 189 = .ok (.aload_n 0, 1) := by decide +kernel
theorem dX3_moveMoment_190 : decode cX3_moveMoment 190 = .ok (.getfield 29, 3) := by decide +kernel
theorem dX3_moveMoment_193 : decode cX3_moveMoment 193 = .ok (.iload_n 1, 1) := by decide +kernel
theorem dX3_moveMoment_194 : decode cX3_moveMoment 194 = .ok (.laload, 1) := by decide +kernel
theorem dX3_moveMoment_195 : decode cX3_moveMoment 195 = .ok (.lload_n 3, 1) := by decide +kernel
theorem dX3_moveMoment_196 : decode cX3_moveMoment 196 = .ok (.lload 9, 2) := by decide +kernel
theorem dX3_moveMoment_198 : decode cX3_moveMoment 198 = .ok (.invokestatic 52, 3) := by decide +kernel
theorem dX3_moveMoment_201 : decode cX3_moveMoment 201 = .ok (.lload 7, 2) := by decide +kernel
theorem dX3_moveMoment_203 : decode cX3_moveMoment 203 = .ok (.lmul, 1) := by decide +kernel
theorem dX3_moveMoment_204 : decode cX3_moveMoment 204 = .ok (.ladd, 1) := by decide +kernel
theorem dX3_moveMoment_205 : decode cX3_moveMoment 205 = .ok (.lstore 11, 2) := by decide +kernel
theorem dX3_moveMoment_207 : decode cX3_moveMoment 207 = .ok (.aload_n 0, 1) := by decide +kernel
theorem dX3_moveMoment_208 : decode cX3_moveMoment 208 = .ok (.iload 5, 2) := by decide +kernel
theorem dX3_moveMoment_210 : decode cX3_moveMoment 210 = .ok (.aload_n 0, 1) := by decide +kernel
theorem dX3_moveMoment_211 : decode cX3_moveMoment 211 = .ok (.getfield 26, 3) := by decide +kernel
theorem dX3_moveMoment_214 : decode cX3_moveMoment 214 = .ok (.iload_n 1, 1) := by decide +kernel
theorem dX3_moveMoment_215 : decode cX3_moveMoment 215 = .ok (.laload, 1) := by decide +kernel
theorem dX3_moveMoment_216 : decode cX3_moveMoment 216 = .ok (.lload_n 3, 1) := by decide +kernel
theorem dX3_moveMoment_217 : decode cX3_moveMoment 217 = .ok (.lload 9, 2) := by decide +kernel
theorem dX3_moveMoment_219 : decode cX3_moveMoment 219 = .ok (.invokestatic 46, 3) := by decide +kernel
theorem dX3_moveMoment_222 : decode cX3_moveMoment 222 = .ok (.ladd, 1) := by decide +kernel
theorem dX3_moveMoment_223 : decode cX3_moveMoment 223 = .ok (.lload 11, 2) := by decide +kernel
theorem dX3_moveMoment_225 : decode cX3_moveMoment 225 = .ok (.ldc2_w 205, 3) := by decide +kernel
theorem dX3_moveMoment_228 : decode cX3_moveMoment 228 = .ok (.invokestatic 46, 3) := by decide +kernel
theorem dX3_moveMoment_231 : decode cX3_moveMoment 231 = .ok (.ladd, 1) := by decide +kernel
theorem dX3_moveMoment_232 : decode cX3_moveMoment 232 = .ok (.lload 11, 2) := by decide +kernel
theorem dX3_moveMoment_234 : decode cX3_moveMoment 234 = .ok (.ldc2_w 205, 3) := by decide +kernel
theorem dX3_moveMoment_237 : decode cX3_moveMoment 237 = .ok (.invokestatic 52, 3) := by decide +kernel
theorem dX3_moveMoment_240 : decode cX3_moveMoment 240 = .ok (.iconst 3, 1) := by decide +kernel
theorem dX3_moveMoment_241 : decode cX3_moveMoment 241 = .ok (.invokevirtual 228, 3) := by decide +kernel
theorem dX3_moveMoment_244 : decode cX3_moveMoment 244 = .ok (.lreturn, 1) := by decide +kernel
set_option maxRecDepth 20000 in
theorem ggX3_goMoment_X3_isSlot : GoodIn wsX3_goMoment wsX3_isSlot := goodIn_r _ [11, 12, 13, 14, 10, 15] (by decide +kernel) (by decide +kernel)
set_option maxRecDepth 20000 in
theorem gX3_goMoment_X3_isSlot : GoodIn wsX3_goMoment (va_wsS RX3 174 yX3_isSlot wsX3_isSlot) := goodIn_app (goodIn_of _ (by decide +kernel)) ggX3_goMoment_X3_isSlot
set_option maxRecDepth 20000 in
theorem ggX3_goMoment_X3_fails : GoodIn wsX3_goMoment wsX3_fails := goodIn_r _ [19, 20, 46, 47, 48, 49, 50, 51, 52, 53, 54, 55, 56, 57, 58, 59] (by decide +kernel) (by decide +kernel)
set_option maxRecDepth 20000 in
theorem gX3_goMoment_X3_fails : GoodIn wsX3_goMoment (wsV RX3 125 RX3 yX3_fails wsX3_fails) := goodIn_app (goodIn_of _ (by decide +kernel)) ggX3_goMoment_X3_fails
set_option maxRecDepth 20000 in
theorem ggX3_goMoment_X3_rest : GoodIn wsX3_goMoment wsX3_rest := goodIn_r _ [23, 24, 25, 10, 26] (by decide +kernel) (by decide +kernel)
set_option maxRecDepth 20000 in
theorem gX3_goMoment_X3_rest : GoodIn wsX3_goMoment (va_wsS RX3 52 yX3_rest wsX3_rest) := goodIn_app (goodIn_of _ (by decide +kernel)) ggX3_goMoment_X3_rest
set_option maxRecDepth 20000 in
theorem ggX3_goMoment_X3_floor : GoodIn wsX3_goMoment wsX3_floor := goodIn_r _ [26] (by decide +kernel) (by decide +kernel)
set_option maxRecDepth 20000 in
theorem gX3_goMoment_X3_floor : GoodIn wsX3_goMoment (va_wsS RX3 46 yX3_floor wsX3_floor) := goodIn_app (goodIn_of _ (by decide +kernel)) ggX3_goMoment_X3_floor
set_option maxRecDepth 20000 in
theorem ggX3_goMoment_X3_comes : GoodIn wsX3_goMoment wsX3_comes := goodIn_ca (goodIn_r _ [30, 31, 32, 6, 2, 33, 34, 10, 35, 36, 37, 38, 39, 40, 12, 41, 42, 43, 44, 45, 24, 25, 26, 13, 14, 15, 16, 17, 18, 19, 20, 46, 47, 48, 49, 50, 51, 52, 53, 54, 55, 56, 57, 58, 59] (by decide +kernel) (by decide +kernel)) (goodIn_sub (fun _ h => List.mem_cons_of_mem _ (List.mem_append_right _ h)) (by decide +kernel))
set_option maxRecDepth 20000 in
theorem gX3_goMoment_X3_comes : GoodIn wsX3_goMoment (wsV RX3 228 RX3 yX3_comes wsX3_comes) := goodIn_app (goodIn_of _ (by decide +kernel)) ggX3_goMoment_X3_comes
theorem dX3_goMoment_0 : decode cX3_goMoment 0 = .ok (.aload_n 0, 1) := by decide +kernel
theorem dX3_goMoment_1 : decode cX3_goMoment 1 = .ok (.iload_n 1, 1) := by decide +kernel
theorem dX3_goMoment_2 : decode cX3_goMoment 2 = .ok (.invokestatic 174, 3) := by decide +kernel
theorem dX3_goMoment_5 : decode cX3_goMoment 5 = .ok (.ifCond .eq 22, 3) := by decide +kernel
theorem dX3_goMoment_8 : decode cX3_goMoment 8 = .ok (.iload_n 2, 1) := by decide +kernel
theorem dX3_goMoment_9 : decode cX3_goMoment 9 = .ok (.invokestatic 174, 3) := by decide +kernel
theorem dX3_goMoment_12 : decode cX3_goMoment 12 = .ok (.ifCond .eq 15, 3) := by decide +kernel
theorem dX3_goMoment_15 : decode cX3_goMoment 15 = .ok (.iload 4, 2) := by decide +kernel
theorem dX3_goMoment_17 : decode cX3_goMoment 17 = .ok (.invokestatic 174, 3) := by decide +kernel
theorem dX3_goMoment_20 : decode cX3_goMoment 20 = .ok (.ifCond .eq 7, 3) := by decide +kernel
theorem dX3_goMoment_23 : decode cX3_goMoment 23 = .ok (.iconst 0, 1) := by decide +kernel
theorem dX3_goMoment_24 : decode cX3_goMoment 24 = .ok (.goto 4, 3) := by decide +kernel
theorem dX3_goMoment_27 : decode cX3_goMoment 27 = .ok (.iconst 1, 1) := by decide +kernel
theorem dX3_goMoment_28 : decode cX3_goMoment 28 = .ok (.invokevirtual 125, 3) := by decide +kernel
theorem dX3_goMoment_31 : decode cX3_goMoment 31 = .ok (.ifCond .eq 5, 3) := by decide +kernel
theorem dX3_goMoment_34 : decode cX3_goMoment 34 = .ok (.lconst 0, 1) := by decide +kernel
theorem dX3_goMoment_35 : decode cX3_goMoment 35 = .ok (.lreturn, 1) := by decide +kernel
theorem dX3_goMoment_36 : decode cX3_goMoment 36 = .ok (.iload_n 3, 1) := by decide +kernel
theorem dX3_goMoment_37 : decode cX3_goMoment 37 = .ok (.ifCond .eq 13, 3) := by decide +kernel
theorem dX3_goMoment_40 : decode cX3_goMoment 40 = .ok (.aload_n 0, 1) := by decide +kernel
theorem dX3_goMoment_41 : decode cX3_goMoment 41 = .ok (.getfield 20, 3) := by decide +kernel
theorem dX3_goMoment_44 : decode cX3_goMoment 44 = .ok (.iload_n 2, 1) := by decide +kernel
theorem dX3_goMoment_45 : decode cX3_goMoment 45 = .ok (.laload, 1) := by decide +kernel
theorem dX3_goMoment_46 : decode cX3_goMoment 46 = .ok (.lneg, 1) := by decide +kernel
theorem dX3_goMoment_47 : decode cX3_goMoment 47 = .ok (.goto 9, 3) := by decide +kernel
theorem dX3_goMoment_50 : decode cX3_goMoment 50 = .ok (.aload_n 0, 1) := by decide +kernel
theorem dX3_goMoment_51 : decode cX3_goMoment 51 = .ok (.getfield 20, 3) := by decide +kernel
theorem dX3_goMoment_54 : decode cX3_goMoment 54 = .ok (.iload_n 2, 1) := by decide +kernel
theorem dX3_goMoment_55 : decode cX3_goMoment 55 = .ok (.laload, 1) := by decide +kernel
theorem dX3_goMoment_56 : decode cX3_goMoment 56 = .ok (.lstore 5, 2) := by decide +kernel
theorem dX3_goMoment_58 : decode cX3_goMoment 58 = .ok (.aload_n 0, 1) := by decide +kernel
theorem dX3_goMoment_59 : decode cX3_goMoment 59 = .ok (.getfield 29, 3) := by decide +kernel
theorem dX3_goMoment_62 : decode cX3_goMoment 62 = .ok (.iload_n 1, 1) := by decide +kernel
theorem dX3_goMoment_63 : decode cX3_goMoment 63 = .ok (.laload, 1) := by decide +kernel
theorem dX3_goMoment_64 : decode cX3_goMoment 64 = .ok (.lload 5, 2) := by decide +kernel
theorem dX3_goMoment_66 : decode cX3_goMoment 66 = .ok (.ldc2_w 231, 3) := by decide +kernel
theorem dX3_goMoment_69 : decode cX3_goMoment 69 = .ok (.invokestatic 52, 3) := by decide +kernel
theorem dX3_goMoment_72 : decode cX3_goMoment 72 = .ok (.ldc2_w 199, 3) := by decide +kernel
theorem dX3_goMoment_75 : decode cX3_goMoment 75 = .ok (.lmul, 1) := by decide +kernel
theorem dX3_goMoment_76 : decode cX3_goMoment 76 = .ok (.ladd, 1) := by decide +kernel
theorem dX3_goMoment_77 : decode cX3_goMoment 77 = .ok (.iload_n 3, 1) := by decide +kernel
theorem dX3_goMoment_78 : decode cX3_goMoment 78 = .ok (.ifCond .eq 13, 3) := by decide +kernel
theorem dX3_goMoment_81 : decode cX3_goMoment 81 = .ok (.aload_n 0, 1) := by decide +kernel
theorem dX3_goMoment_82 : decode cX3_goMoment 82 = .ok (.getfield 23, 3) := by decide +kernel
theorem dX3_goMoment_85 : decode cX3_goMoment 85 = .ok (.iload_n 2, 1) := by decide +kernel
theorem dX3_goMoment_86 : decode cX3_goMoment 86 = .ok (.laload, 1) := by decide +kernel
theorem dX3_goMoment_87 : decode cX3_goMoment 87 = .ok (.lneg, 1) := by decide +kernel
theorem dX3_goMoment_88 : decode cX3_goMoment 88 = .ok (.goto 9, 3) := by decide +kernel
theorem dX3_goMoment_91 : decode cX3_goMoment 91 = .ok (.aload_n 0, 1) := by decide +kernel
theorem dX3_goMoment_92 : decode cX3_goMoment 92 = .ok (.getfield 23, 3) := by decide +kernel
theorem dX3_goMoment_95 : decode cX3_goMoment 95 = .ok (.iload_n 2, 1) := by decide +kernel
theorem dX3_goMoment_96 : decode cX3_goMoment 96 = .ok (.laload, 1) := by decide +kernel
theorem dX3_goMoment_97 : decode cX3_goMoment 97 = .ok (.ladd, 1) := by decide +kernel
theorem dX3_goMoment_98 : decode cX3_goMoment 98 = .ok (.lstore 7, 2) := by decide +kernel
theorem dX3_goMoment_100 : decode cX3_goMoment 100 = .ok (.aload_n 0, 1) := by decide +kernel
theorem dX3_goMoment_101 : decode cX3_goMoment 101 = .ok (.iload 4, 2) := by decide +kernel
theorem dX3_goMoment_103 : decode cX3_goMoment 103 = .ok (.aload_n 0, 1) := by decide +kernel
theorem dX3_goMoment_104 : decode cX3_goMoment 104 = .ok (.getfield 26, 3) := by decide +kernel
theorem dX3_goMoment_107 : decode cX3_goMoment 107 = .ok (.iload_n 1, 1) := by decide +kernel
theorem dX3_goMoment_108 : decode cX3_goMoment 108 = .ok (.laload, 1) := by decide +kernel
theorem dX3_goMoment_109 : decode cX3_goMoment 109 = .ok (.lload 5, 2) := by decide +kernel
theorem dX3_goMoment_111 : decode cX3_goMoment 111 = .ok (.ldc2_w 231, 3) := by decide +kernel
theorem dX3_goMoment_114 : decode cX3_goMoment 114 = .ok (.invokestatic 46, 3) := by decide +kernel
theorem dX3_goMoment_117 : decode cX3_goMoment 117 = .ok (.ladd, 1) := by decide +kernel
theorem dX3_goMoment_118 : decode cX3_goMoment 118 = .ok (.lload 7, 2) := by decide +kernel
theorem dX3_goMoment_120 : decode cX3_goMoment 120 = .ok (.ldc2_w 205, 3) := by decide +kernel
theorem dX3_goMoment_123 : decode cX3_goMoment 123 = .ok (.invokestatic 46, 3) := by decide +kernel
theorem dX3_goMoment_126 : decode cX3_goMoment 126 = .ok (.ladd, 1) := by decide +kernel
theorem dX3_goMoment_127 : decode cX3_goMoment 127 = .ok (.lload 7, 2) := by decide +kernel
theorem dX3_goMoment_129 : decode cX3_goMoment 129 = .ok (.ldc2_w 205, 3) := by decide +kernel
theorem dX3_goMoment_132 : decode cX3_goMoment 132 = .ok (.invokestatic 52, 3) := by decide +kernel
theorem dX3_goMoment_135 : decode cX3_goMoment 135 = .ok (.iconst 2, 1) := by decide +kernel
theorem dX3_goMoment_136 : decode cX3_goMoment 136 = .ok (.invokevirtual 228, 3) := by decide +kernel
theorem dX3_goMoment_139 : decode cX3_goMoment 139 = .ok (.lreturn, 1) := by decide +kernel
set_option maxRecDepth 20000 in
theorem ggX3_lengthOfMoments_X3_isSlot : GoodIn wsX3_lengthOfMoments wsX3_isSlot := goodIn_r _ [7, 8, 9, 10, 6, 11] (by decide +kernel) (by decide +kernel)
set_option maxRecDepth 20000 in
theorem gX3_lengthOfMoments_X3_isSlot : GoodIn wsX3_lengthOfMoments (va_wsS RX3 174 yX3_isSlot wsX3_isSlot) := goodIn_app (goodIn_of _ (by decide +kernel)) ggX3_lengthOfMoments_X3_isSlot
set_option maxRecDepth 20000 in
theorem ggX3_lengthOfMoments_X3_fails : GoodIn wsX3_lengthOfMoments wsX3_fails := goodIn_r _ [15, 16, 32, 33, 34, 35, 36, 37, 38, 39, 40, 41, 42, 43, 44, 45] (by decide +kernel) (by decide +kernel)
set_option maxRecDepth 20000 in
theorem gX3_lengthOfMoments_X3_fails : GoodIn wsX3_lengthOfMoments (wsV RX3 125 RX3 yX3_fails wsX3_fails) := goodIn_app (goodIn_of _ (by decide +kernel)) ggX3_lengthOfMoments_X3_fails
set_option maxRecDepth 20000 in
theorem ggX3_lengthOfMoments_X3_lasts : GoodIn wsX3_lengthOfMoments wsX3_lasts := goodIn_ca (goodIn_r _ [20, 21, 22, 23, 24, 25, 26, 27, 6, 28, 29, 30, 31, 12, 13, 14, 15, 16, 32, 33, 34, 35, 36, 37, 38, 39, 40, 41, 42, 43, 44, 45] (by decide +kernel) (by decide +kernel)) (goodIn_sub (fun _ h => List.mem_cons_of_mem _ (List.mem_append_right _ h)) (by decide +kernel))
set_option maxRecDepth 20000 in
theorem gX3_lengthOfMoments_X3_lasts : GoodIn wsX3_lengthOfMoments (wsV RX3 220 RX3 yX3_lasts wsX3_lasts) := goodIn_app (goodIn_of _ (by decide +kernel)) ggX3_lengthOfMoments_X3_lasts
theorem dX3_lengthOfMoments_0 : decode cX3_lengthOfMoments 0 = .ok (.aload_n 0, 1) := by decide +kernel
theorem dX3_lengthOfMoments_1 : decode cX3_lengthOfMoments 1 = .ok (.iload_n 1, 1) := by decide +kernel
theorem dX3_lengthOfMoments_2 : decode cX3_lengthOfMoments 2 = .ok (.invokestatic 174, 3) := by decide +kernel
theorem dX3_lengthOfMoments_5 : decode cX3_lengthOfMoments 5 = .ok (.ifCond .eq 21, 3) := by decide +kernel
theorem dX3_lengthOfMoments_8 : decode cX3_lengthOfMoments 8 = .ok (.iload_n 2, 1) := by decide +kernel
theorem dX3_lengthOfMoments_9 : decode cX3_lengthOfMoments 9 = .ok (.invokestatic 174, 3) := by decide +kernel
theorem dX3_lengthOfMoments_12 : decode cX3_lengthOfMoments 12 = .ok (.ifCond .eq 14, 3) := by decide +kernel
theorem dX3_lengthOfMoments_15 : decode cX3_lengthOfMoments 15 = .ok (.iload_n 3, 1) := by decide +kernel
theorem dX3_lengthOfMoments_16 : decode cX3_lengthOfMoments 16 = .ok (.invokestatic 174, 3) := by decide +kernel
theorem dX3_lengthOfMoments_19 : decode cX3_lengthOfMoments 19 = .ok (.ifCond .eq 7, 3) := by decide +kernel
theorem dX3_lengthOfMoments_22 : decode cX3_lengthOfMoments 22 = .ok (.iconst 0, 1) := by decide +kernel
theorem dX3_lengthOfMoments_23 : decode cX3_lengthOfMoments 23 = .ok (.goto 4, 3) := by decide +kernel
theorem dX3_lengthOfMoments_26 : decode cX3_lengthOfMoments 26 = .ok (.iconst 1, 1) := by decide +kernel
theorem dX3_lengthOfMoments_27 : decode cX3_lengthOfMoments 27 = .ok (.invokevirtual 125, 3) := by decide +kernel
theorem dX3_lengthOfMoments_30 : decode cX3_lengthOfMoments 30 = .ok (.ifCond .eq 7, 3) := by decide +kernel
theorem dX3_lengthOfMoments_33 : decode cX3_lengthOfMoments 33 = .ok (.lconst 0, 1) := by decide +kernel
theorem dX3_lengthOfMoments_34 : decode cX3_lengthOfMoments 34 = .ok (.goto 39, 3) := by decide +kernel
theorem dX3_lengthOfMoments_37 : decode cX3_lengthOfMoments 37 = .ok (.aload_n 0, 1) := by decide +kernel
theorem dX3_lengthOfMoments_38 : decode cX3_lengthOfMoments 38 = .ok (.iload_n 3, 1) := by decide +kernel
theorem dX3_lengthOfMoments_39 : decode cX3_lengthOfMoments 39 = .ok (.ldc2_w 231, 3) := by decide +kernel
theorem dX3_lengthOfMoments_42 : decode cX3_lengthOfMoments 42 = .ok (.aload_n 0, 1) := by decide +kernel
theorem dX3_lengthOfMoments_43 : decode cX3_lengthOfMoments 43 = .ok (.getfield 26, 3) := by decide +kernel
theorem dX3_lengthOfMoments_46 : decode cX3_lengthOfMoments 46 = .ok (.iload_n 2, 1) := by decide +kernel
theorem dX3_lengthOfMoments_47 : decode cX3_lengthOfMoments 47 = .ok (.laload, 1) := by decide +kernel
theorem dX3_lengthOfMoments_48 : decode cX3_lengthOfMoments 48 = .ok (.aload_n 0, 1) := by decide +kernel
theorem dX3_lengthOfMoments_49 : decode cX3_lengthOfMoments 49 = .ok (.getfield 26, 3) := by decide +kernel
theorem dX3_lengthOfMoments_52 : decode cX3_lengthOfMoments 52 = .ok (.iload_n 1, 1) := by decide +kernel
theorem dX3_lengthOfMoments_53 : decode cX3_lengthOfMoments 53 = .ok (.laload, 1) := by decide +kernel
theorem dX3_lengthOfMoments_54 : decode cX3_lengthOfMoments 54 = .ok (.lsub, 1) := by decide +kernel
theorem dX3_lengthOfMoments_55 : decode cX3_lengthOfMoments 55 = .ok (.lmul, 1) := by decide +kernel
theorem dX3_lengthOfMoments_56 : decode cX3_lengthOfMoments 56 = .ok (.aload_n 0, 1) := by decide +kernel
theorem dX3_lengthOfMoments_57 : decode cX3_lengthOfMoments 57 = .ok (.getfield 29, 3) := by decide +kernel
theorem dX3_lengthOfMoments_60 : decode cX3_lengthOfMoments 60 = .ok (.iload_n 2, 1) := by decide +kernel
theorem dX3_lengthOfMoments_61 : decode cX3_lengthOfMoments 61 = .ok (.laload, 1) := by decide +kernel
theorem dX3_lengthOfMoments_62 : decode cX3_lengthOfMoments 62 = .ok (.aload_n 0, 1) := by decide +kernel
theorem dX3_lengthOfMoments_63 : decode cX3_lengthOfMoments 63 = .ok (.getfield 29, 3) := by decide +kernel
theorem dX3_lengthOfMoments_66 : decode cX3_lengthOfMoments 66 = .ok (.iload_n 1, 1) := by decide +kernel
theorem dX3_lengthOfMoments_67 : decode cX3_lengthOfMoments 67 = .ok (.laload, 1) := by decide +kernel
theorem dX3_lengthOfMoments_68 : decode cX3_lengthOfMoments 68 = .ok (.lsub, 1) := by decide +kernel
theorem dX3_lengthOfMoments_69 : decode cX3_lengthOfMoments 69 = .ok (.iconst 2, 1) := by decide +kernel
theorem dX3_lengthOfMoments_70 : decode cX3_lengthOfMoments 70 = .ok (.invokevirtual 220, 3) := by decide +kernel
theorem dX3_lengthOfMoments_73 : decode cX3_lengthOfMoments 73 = .ok (.lreturn, 1) := by decide +kernel
theorem dX3_isAhead_0 : decode cX3_isAhead 0 = .ok (.aload_n 0, 1) := by decide +kernel
theorem dX3_isAhead_1 : decode cX3_isAhead 1 = .ok (.getfield 26, 3) := by decide +kernel
theorem dX3_isAhead_4 : decode cX3_isAhead 4 = .ok (.iload_n 1, 1) := by decide +kernel
theorem dX3_isAhead_5 : decode cX3_isAhead 5 = .ok (.laload, 1) := by decide +kernel
theorem dX3_isAhead_6 : decode cX3_isAhead 6 = .ok (.aload_n 0, 1) := by decide +kernel
theorem dX3_isAhead_7 : decode cX3_isAhead 7 = .ok (.getfield 26, 3) := by decide +kernel
theorem dX3_isAhead_10 : decode cX3_isAhead 10 = .ok (.iload_n 2, 1) := by decide +kernel
theorem dX3_isAhead_11 : decode cX3_isAhead 11 = .ok (.laload, 1) := by decide +kernel
theorem dX3_isAhead_12 : decode cX3_isAhead 12 = .ok (.lcmp, 1) := by decide +kernel
theorem dX3_isAhead_13 : decode cX3_isAhead 13 = .ok (.ifCond .lt 35, 3) := by decide +kernel
theorem dX3_isAhead_16 : decode cX3_isAhead 16 = .ok (.aload_n 0, 1) := by decide +kernel
theorem dX3_isAhead_17 : decode cX3_isAhead 17 = .ok (.getfield 26, 3) := by decide +kernel
theorem dX3_isAhead_20 : decode cX3_isAhead 20 = .ok (.iload_n 1, 1) := by decide +kernel
theorem dX3_isAhead_21 : decode cX3_isAhead 21 = .ok (.laload, 1) := by decide +kernel
theorem dX3_isAhead_22 : decode cX3_isAhead 22 = .ok (.aload_n 0, 1) := by decide +kernel
theorem dX3_isAhead_23 : decode cX3_isAhead 23 = .ok (.getfield 26, 3) := by decide +kernel
theorem dX3_isAhead_26 : decode cX3_isAhead 26 = .ok (.iload_n 2, 1) := by decide +kernel
theorem dX3_isAhead_27 : decode cX3_isAhead 27 = .ok (.laload, 1) := by decide +kernel
theorem dX3_isAhead_28 : decode cX3_isAhead 28 = .ok (.lcmp, 1) := by decide +kernel
theorem dX3_isAhead_29 : decode cX3_isAhead 29 = .ok (.ifCond .ne 23, 3) := by decide +kernel
theorem dX3_isAhead_32 : decode cX3_isAhead 32 = .ok (.aload_n 0, 1) := by decide +kernel
theorem dX3_isAhead_33 : decode cX3_isAhead 33 = .ok (.getfield 29, 3) := by decide +kernel
theorem dX3_isAhead_36 : decode cX3_isAhead 36 = .ok (.iload_n 1, 1) := by decide +kernel
theorem dX3_isAhead_37 : decode cX3_isAhead 37 = .ok (.laload, 1) := by decide +kernel
theorem dX3_isAhead_38 : decode cX3_isAhead 38 = .ok (.aload_n 0, 1) := by decide +kernel
theorem dX3_isAhead_39 : decode cX3_isAhead 39 = .ok (.getfield 29, 3) := by decide +kernel
theorem dX3_isAhead_42 : decode cX3_isAhead 42 = .ok (.iload_n 2, 1) := by decide +kernel
theorem dX3_isAhead_43 : decode cX3_isAhead 43 = .ok (.laload, 1) := by decide +kernel
theorem dX3_isAhead_44 : decode cX3_isAhead 44 = .ok (.lcmp, 1) := by decide +kernel
theorem dX3_isAhead_45 : decode cX3_isAhead 45 = .ok (.ifCond .ge 7, 3) := by decide +kernel
theorem dX3_isAhead_48 : decode cX3_isAhead 48 = .ok (.iconst 1, 1) := by decide +kernel
theorem dX3_isAhead_49 : decode cX3_isAhead 49 = .ok (.goto 4, 3) := by decide +kernel
theorem dX3_isAhead_52 : decode cX3_isAhead 52 = .ok (.iconst 0, 1) := by decide +kernel
theorem dX3_isAhead_53 : decode cX3_isAhead 53 = .ok (.ireturn, 1) := by decide +kernel
set_option maxRecDepth 20000 in
theorem ggX3_whole_X3_isSlot : GoodIn wsX3_whole wsX3_isSlot := goodIn_r _ [11, 12, 13, 14, 10, 15] (by decide +kernel) (by decide +kernel)
set_option maxRecDepth 20000 in
theorem gX3_whole_X3_isSlot : GoodIn wsX3_whole (va_wsS RX3 174 yX3_isSlot wsX3_isSlot) := goodIn_app (goodIn_of _ (by decide +kernel)) ggX3_whole_X3_isSlot
set_option maxRecDepth 20000 in
theorem ggX3_whole_X3_fails : GoodIn wsX3_whole wsX3_fails := goodIn_r _ [19, 20, 25, 26, 27, 28, 29, 30, 31, 32, 33, 34, 35, 36, 37, 38] (by decide +kernel) (by decide +kernel)
set_option maxRecDepth 20000 in
theorem gX3_whole_X3_fails : GoodIn wsX3_whole (wsV RX3 125 RX3 yX3_fails wsX3_fails) := goodIn_app (goodIn_of _ (by decide +kernel)) ggX3_whole_X3_fails
set_option maxRecDepth 20000 in
theorem ggX3_whole_X3_isAhead : GoodIn wsX3_whole wsX3_isAhead := goodIn_ca (goodIn_r _ [24, 2, 1, 25, 26, 27, 28, 29, 30, 31, 32, 33, 34, 35, 36, 37, 38] (by decide +kernel) (by decide +kernel)) (goodIn_sub (fun _ h => List.mem_cons_of_mem _ (List.mem_append_right _ h)) (by decide +kernel))
set_option maxRecDepth 20000 in
theorem gX3_whole_X3_isAhead : GoodIn wsX3_whole (wsV RX3 233 RX3 yX3_isAhead wsX3_isAhead) := goodIn_app (goodIn_of _ (by decide +kernel)) ggX3_whole_X3_isAhead
theorem dX3_whole_0 : decode cX3_whole 0 = .ok (.aload_n 0, 1) := by decide +kernel
theorem dX3_whole_1 : decode cX3_whole 1 = .ok (.iload_n 1, 1) := by decide +kernel
theorem dX3_whole_2 : decode cX3_whole 2 = .ok (.invokestatic 174, 3) := by decide +kernel
theorem dX3_whole_5 : decode cX3_whole 5 = .ok (.ifCond .eq 10, 3) := by decide +kernel
theorem dX3_whole_8 : decode cX3_whole 8 = .ok (.iload_n 2, 1) := by decide +kernel
theorem dX3_whole_9 : decode cX3_whole 9 = .ok (.invokestatic 174, 3) := by decide +kernel
theorem dX3_whole_12 : decode cX3_whole 12 = .ok (.ifCond .ne 7, 3) := by decide +kernel
theorem dX3_whole_15 : decode cX3_whole 15 = .ok (.iconst 1, 1) := by decide +kernel
theorem dX3_whole_16 : decode cX3_whole 16 = .ok (.goto 32, 3) := by decide +kernel
theorem dX3_whole_19 : decode cX3_whole 19 = .ok (.iload_n 3, 1) := by decide +kernel
theorem dX3_whole_20 : decode cX3_whole 20 = .ok (.bipush 100, 2) := by decide +kernel
theorem dX3_whole_22 : decode cX3_whole 22 = .ok (.if_icmp .eq 21, 3) := by decide +kernel
theorem dX3_whole_25 : decode cX3_whole 25 = .ok (.iload_n 3, 1) := by decide +kernel
theorem dX3_whole_26 : decode cX3_whole 26 = .ok (.bipush 104, 2) := by decide +kernel
theorem dX3_whole_28 : decode cX3_whole 28 = .ok (.if_icmp .eq 15, 3) := by decide +kernel
theorem dX3_whole_31 : decode cX3_whole 31 = .ok (.iload_n 3, 1) := by decide +kernel
theorem dX3_whole_32 : decode cX3_whole 32 = .ok (.bipush 105, 2) := by decide +kernel
theorem dX3_whole_34 : decode cX3_whole 34 = .ok (.if_icmp .eq 9, 3) := by decide +kernel
theorem dX3_whole_37 : decode cX3_whole 37 = .ok (.iload_n 3, 1) := by decide +kernel
theorem dX3_whole_38 : decode cX3_whole 38 = .ok (.bipush 115, 2) := by decide +kernel
theorem dX3_whole_40 : decode cX3_whole 40 = .ok (.if_icmp .ne 7, 3) := by decide +kernel
theorem dX3_whole_43 : decode cX3_whole 43 = .ok (.iconst 0, 1) := by decide +kernel
theorem dX3_whole_44 : decode cX3_whole 44 = .ok (.goto 4, 3) := by decide +kernel
theorem dX3_whole_47 : decode cX3_whole 47 = .ok (.iconst 2, 1) := by decide +kernel
theorem dX3_whole_48 : decode cX3_whole 48 = .ok (.invokevirtual 125, 3) := by decide +kernel
theorem dX3_whole_51 : decode cX3_whole 51 = .ok (.ifCond .eq 5, 3) := by decide +kernel
theorem dX3_whole_54 : decode cX3_whole 54 = .ok (.lconst 0, 1) := by decide +kernel
theorem dX3_whole_55 : decode cX3_whole 55 = .ok (.lreturn, 1) := by decide +kernel
theorem dX3_whole_56 : decode cX3_whole 56 = .ok (.aload_n 0, 1) := by decide +kernel
theorem dX3_whole_57 : decode cX3_whole 57 = .ok (.iload_n 2, 1) := by decide +kernel
theorem dX3_whole_58 : decode cX3_whole 58 = .ok (.iload_n 1, 1) := by decide +kernel
theorem dX3_whole_59 : decode cX3_whole 59 = .ok (.invokevirtual 233, 3) := by decide +kernel
