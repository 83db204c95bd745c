set_option maxRecDepth 20000 in
theorem ggX3_between_X3_fails : GoodIn wsX3_between wsX3_fails := goodIn_r _ [18, 19, 58, 59, 60, 61, 62, 63, 64, 65, 66, 67, 68, 69, 70, 71] (by decide +kernel) (by decide +kernel)
set_option maxRecDepth 20000 in
theorem gX3_between_X3_fails : GoodIn wsX3_between (wsV RX3 125 RX3 yX3_fails wsX3_fails) := goodIn_app (goodIn_of _ (by decide +kernel)) ggX3_between_X3_fails
set_option maxRecDepth 20000 in
theorem ggX3_between_X3_monthsFrom : GoodIn wsX3_between wsX3_monthsFrom := goodIn_r _ [23, 3, 24, 25, 26, 27, 28, 29, 6, 30, 31, 32, 33, 34, 35, 36, 37, 38, 39, 40, 41, 42, 43, 44, 45, 46, 47, 48, 49, 50, 51, 52, 53, 54, 55, 56, 57, 58, 59, 60, 61, 62, 63, 64, 65, 66, 67, 68, 69, 70, 71] (by decide +kernel) (by decide +kernel)
set_option maxRecDepth 20000 in
theorem gX3_between_X3_monthsFrom : GoodIn wsX3_between (wsV RX3 167 RX3 yX3_monthsFrom wsX3_monthsFrom) := goodIn_app (goodIn_of _ (by decide +kernel)) ggX3_between_X3_monthsFrom
theorem dX3_between_0 : decode cX3_between 0 = .ok (.aload_n 0, 1) := by decide +kernel
theorem dX3_between_1 : decode cX3_between 1 = .ok (.iload_n 1, 1) := by decide +kernel
theorem dX3_between_2 : decode cX3_between 2 = .ok (.invokestatic 121, 3) := by decide +kernel
theorem dX3_between_5 : decode cX3_between 5 = .ok (.ifCond .eq 10, 3) := by decide +kernel
theorem dX3_between_8 : decode cX3_between 8 = .ok (.iload_n 2, 1) := by decide +kernel
theorem dX3_between_9 : decode cX3_between 9 = .ok (.invokestatic 121, 3) := by decide +kernel
theorem dX3_between_12 : decode cX3_between 12 = .ok (.ifCond .ne 7, 3) := by decide +kernel
theorem dX3_between_15 : decode cX3_between 15 = .ok (.iconst 1, 1) := by decide +kernel
theorem dX3_between_16 : decode cX3_between 16 = .ok (.goto 15, 3) := by decide +kernel
theorem dX3_between_19 : decode cX3_between 19 = .ok (.iload_n 3, 1) := by decide +kernel
theorem dX3_between_20 : decode cX3_between 20 = .ok (.invokestatic 140, 3) := by decide +kernel
theorem dX3_between_23 : decode cX3_between 23 = .ok (.ifCond .eq 7, 3) := by decide +kernel
theorem dX3_between_26 : decode cX3_between 26 = .ok (.iconst 0, 1) := by decide +kernel
theorem dX3_between_27 : decode cX3_between 27 = .ok (.goto 4, 3) := by decide +kernel
theorem dX3_between_30 : decode cX3_between 30 = .ok (.iconst 2, 1) := by decide +kernel
theorem dX3_between_31 : decode cX3_between 31 = .ok (.invokevirtual 125, 3) := by decide +kernel
theorem dX3_between_34 : decode cX3_between 34 = .ok (.ifCond .eq 5, 3) := by decide +kernel
theorem dX3_between_37 : decode cX3_between 37 = .ok (.lconst 0, 1) := by decide +kernel
theorem dX3_between_38 : decode cX3_between 38 = .ok (.lreturn, 1) := by decide +kernel
theorem dX3_between_39 : decode cX3_between 39 = .ok (.aload_n 0, 1) := by decide +kernel
theorem dX3_between_40 : decode cX3_between 40 = .ok (.getfield 13, 3) := by decide +kernel
theorem dX3_between_43 : decode cX3_between 43 = .ok (.iload_n 1, 1) := by decide +kernel
theorem dX3_between_44 : decode cX3_between 44 = .ok (.laload, 1) := by decide +kernel
theorem dX3_between_45 : decode cX3_between 45 = .ok (.lstore 4, 2) := by decide +kernel
theorem dX3_between_47 : decode cX3_between 47 = .ok (.aload_n 0, 1) := by decide +kernel
theorem dX3_between_48 : decode cX3_between 48 = .ok (.getfield 13, 3) := by decide +kernel
theorem dX3_between_51 : decode cX3_between 51 = .ok (.iload_n 2, 1) := by decide +kernel
theorem dX3_between_52 : decode cX3_between 52 = .ok (.laload, 1) := by decide +kernel
theorem dX3_between_53 : decode cX3_between 53 = .ok (.lstore 6, 2) := by decide +kernel
theorem dX3_between_55 : decode cX3_between 55 = .ok (.iload_n 3, 1) := by decide +kernel
theorem dX3_between_56 : decode cX3_between 56 = .ok (.bipush 100, 2) := by decide +kernel
theorem dX3_between_58 : decode cX3_between 58 = .ok (.if_icmp .ne 11, 3) := by decide +kernel
theorem dX3_between_61 : decode cX3_between 61 = .ok (.lload 6, 2) := by decide +kernel
theorem dX3_between_63 : decode cX3_between 63 = .ok (.lload 4, 2) := by decide +kernel
theorem dX3_between_65 : decode cX3_between 65 = .ok (.lsub, 1) := by decide +kernel
theorem dX3_between_66 : decode cX3_between 66 = .ok (.goto 50, 3) := by decide +kernel
theorem dX3_between_69 : decode cX3_between 69 = .ok (.iload_n 3, 1) := by decide +kernel
theorem dX3_between_70 : decode cX3_between 70 = .ok (.bipush 119, 2) := by decide +kernel
theorem dX3_between_72 : decode cX3_between 72 = .ok (.if_icmp .ne 15, 3) := by decide +kernel
theorem dX3_between_75 : decode cX3_between 75 = .ok (.lload 6, 2) := by decide +kernel
theorem dX3_between_77 : decode cX3_between 77 = .ok (.lload 4, 2) := by decide +kernel
theorem dX3_between_79 : decode cX3_between 79 = .ok (.lsub, 1) := by decide +kernel
theorem dX3_between_80 : decode cX3_between 80 = .ok (.ldc2_w 111, 3) := by decide +kernel
theorem dX3_between_83 : decode cX3_between 83 = .ok (.ldiv, 1) := by decide +kernel
theorem dX3_between_84 : decode cX3_between 84 = .ok (.goto 32, 3) := by decide +kernel
theorem dX3_between_87 : decode cX3_between 87 = .ok (.iload_n 3, 1) := by decide +kernel
theorem dX3_between_88 : decode cX3_between 88 = .ok (.bipush 109, 2) := by decide +kernel
theorem dX3_between_90 : decode cX3_between 90 = .ok (.if_icmp .ne 14, 3) := by decide +kernel
theorem dX3_between_93 : decode cX3_between 93 = .ok (.aload_n 0, 1) := by decide +kernel
theorem dX3_between_94 : decode cX3_between 94 = .ok (.lload 4, 2) := by decide +kernel
theorem dX3_between_96 : decode cX3_between 96 = .ok (.lload 6, 2) := by decide +kernel
theorem dX3_between_98 : decode cX3_between 98 = .ok (.invokevirtual 167, 3) := by decide +kernel
theorem dX3_between_101 : decode cX3_between 101 = .ok (.goto 15, 3) := by decide +kernel
theorem dX3_between_104 : decode cX3_between 104 = .ok (.aload_n 0, 1) := by decide +kernel
theorem dX3_between_105 : decode cX3_between 105 = .ok (.lload 4, 2) := by decide +kernel
theorem dX3_between_107 : decode cX3_between 107 = .ok (.lload 6, 2) := by decide +kernel
theorem dX3_between_109 : decode cX3_between 109 = .ok (.invokevirtual 167, 3) := by decide +kernel
theorem dX3_between_112 : decode cX3_between 112 = .ok (.ldc2_w 113, 3) := by decide +kernel
theorem dX3_between_115 : decode cX3_between 115 = .ok (.ldiv, 1) := by decide +kernel
theorem dX3_between_116 : decode cX3_between 116 = .ok (.lreturn, 1) := by decide +kernel
theorem dX3_totalOf_0 : decode cX3_totalOf 0 = .ok (.ldc2_w 113, 3) := by decide +kernel
theorem dX3_totalOf_3 : decode cX3_totalOf 3 = .ok (.aload_n 0, 1) := by decide +kernel
theorem dX3_totalOf_4 : decode cX3_totalOf 4 = .ok (.getfield 32, 3) := by decide +kernel
theorem dX3_totalOf_7 : decode cX3_totalOf 7 = .ok (.iload_n 1, 1) := by decide +kernel
theorem dX3_totalOf_8 : decode cX3_totalOf 8 = .ok (.laload, 1) := by decide +kernel
theorem dX3_totalOf_9 : decode cX3_totalOf 9 = .ok (.lmul, 1) := by decide +kernel
theorem dX3_totalOf_10 : decode cX3_totalOf 10 = .ok (.aload_n 0, 1) := by decide +kernel
theorem dX3_totalOf_11 : decode cX3_totalOf 11 = .ok (.getfield 35, 3) := by decide +kernel
theorem dX3_totalOf_14 : decode cX3_totalOf 14 = .ok (.iload_n 1, 1) := by decide +kernel
theorem dX3_totalOf_15 : decode cX3_totalOf 15 = .ok (.laload, 1) := by decide +kernel
theorem dX3_totalOf_16 : decode cX3_totalOf 16 = .ok (.ladd, 1) := by decide +kernel
theorem dX3_totalOf_17 : decode cX3_totalOf 17 = .ok (.lreturn, 1) := by decide +kernel
set_option maxRecDepth 20000 in
theorem ggX3_spanned_X3_in : GoodIn wsX3_spanned wsX3_in := goodIn_r _ [9] (by decide +kernel) (by decide +kernel)
set_option maxRecDepth 20000 in
theorem gX3_spanned_X3_in : GoodIn wsX3_spanned (va_wsS RX3 100 yX3_in wsX3_in) := goodIn_app (goodIn_of _ (by decide +kernel)) ggX3_spanned_X3_in
set_option maxRecDepth 20000 in
theorem ggX3_spanned_X3_fails : GoodIn wsX3_spanned wsX3_fails := goodIn_r _ [13, 14, 20, 21, 22, 23, 24, 25, 26, 27, 28, 29, 30, 31, 32, 33] (by decide +kernel) (by decide +kernel)
set_option maxRecDepth 20000 in
theorem gX3_spanned_X3_fails : GoodIn wsX3_spanned (wsV RX3 125 RX3 yX3_fails wsX3_fails) := goodIn_app (goodIn_of _ (by decide +kernel)) ggX3_spanned_X3_fails
set_option maxRecDepth 20000 in
theorem ggX3_spanned_X3_totalOf : GoodIn wsX3_spanned wsX3_totalOf := goodIn_ca (goodIn_r _ [18, 19, 3, 4, 20, 21, 22, 23, 24, 25, 26, 27, 28, 29, 30, 31, 32, 33] (by decide +kernel) (by decide +kernel)) (goodIn_sub (fun _ h => List.mem_cons_of_mem _ (List.mem_append_right _ h)) (by decide +kernel))
set_option maxRecDepth 20000 in
theorem gX3_spanned_X3_totalOf : GoodIn wsX3_spanned (wsV RX3 170 RX3 yX3_totalOf wsX3_totalOf) := goodIn_app (goodIn_of _ (by decide +kernel)) ggX3_spanned_X3_totalOf
theorem dX3_spanned_0 : decode cX3_spanned 0 = .ok (.aload_n 0, 1) := by decide +kernel
theorem dX3_spanned_1 : decode cX3_spanned 1 = .ok (.lload_n 2, 1) := by decide +kernel
theorem dX3_spanned_2 : decode cX3_spanned 2 = .ok (.ldc2_w 144, 3) := by decide +kernel
theorem dX3_spanned_5 : decode cX3_spanned 5 = .ok (.ldc2_w 146, 3) := by decide +kernel
theorem dX3_spanned_8 : decode cX3_spanned 8 = .ok (.invokestatic 100, 3) := by decide +kernel
theorem dX3_spanned_11 : decode cX3_spanned 11 = .ok (.ifCond .eq 35, 3) := by decide +kernel
theorem dX3_spanned_14 : decode cX3_spanned 14 = .ok (.lload 4, 2) := by decide +kernel
theorem dX3_spanned_16 : decode cX3_spanned 16 = .ok (.ldc2_w 144, 3) := by decide +kernel
theorem dX3_spanned_19 : decode cX3_spanned 19 = .ok (.ldc2_w 146, 3) := by decide +kernel
theorem dX3_spanned_22 : decode cX3_spanned 22 = .ok (.invokestatic 100, 3) := by decide +kernel
theorem dX3_spanned_25 : decode cX3_spanned 25 = .ok (.ifCond .eq 21, 3) := by decide +kernel
theorem dX3_spanned_28 : decode cX3_spanned 28 = .ok (.lload 6, 2) := by decide +kernel
theorem dX3_spanned_30 : decode cX3_spanned 30 = .ok (.ldc2_w 144, 3) := by decide +kernel
theorem dX3_spanned_33 : decode cX3_spanned 33 = .ok (.ldc2_w 146, 3) := by decide +kernel
theorem dX3_spanned_36 : decode cX3_spanned 36 = .ok (.invokestatic 100, 3) := by decide +kernel
theorem dX3_spanned_39 : decode cX3_spanned 39 = .ok (.ifCond .eq 7, 3) := by decide +kernel
theorem dX3_spanned_42 : decode cX3_spanned 42 = .ok (.iconst 0, 1) := by decide +kernel
theorem dX3_spanned_43 : decode cX3_spanned 43 = .ok (.goto 5, 3) := by decide +kernel
theorem dX3_spanned_46 : decode cX3_spanned 46 = .ok (.iload 8, 2) := by decide +kernel
theorem dX3_spanned_48 : decode cX3_spanned 48 = .ok (.invokevirtual 125, 3) := by decide +kernel
theorem dX3_spanned_51 : decode cX3_spanned 51 = .ok (.ifCond .eq 5, 3) := by decide +kernel
theorem dX3_spanned_54 : decode cX3_spanned 54 = .ok (.lconst 0, 1) := by decide +kernel
theorem dX3_spanned_55 : decode cX3_spanned 55 = .ok (.lreturn, 1) := by decide +kernel
theorem dX3_spanned_56 : decode cX3_spanned 56 = .ok (.aload_n 0, 1) := by decide +kernel
theorem dX3_spanned_57 : decode cX3_spanned 57 = .ok (.getfield 32, 3) := by decide +kernel
theorem dX3_spanned_60 : decode cX3_spanned 60 = .ok (.iload_n 1, 1) := by decide +kernel
theorem dX3_spanned_61 : decode cX3_spanned 61 = .ok (.lload_n 2, 1) := by decide +kernel
theorem dX3_spanned_62 : decode cX3_spanned 62 = .ok (.lastore, 1) := by decide +kernel
theorem dX3_spanned_63 : decode cX3_spanned 63 = .ok (.aload_n 0, 1) := by decide +kernel
theorem dX3_spanned_64 : decode cX3_spanned 64 = .ok (.getfield 35, 3) := by decide +kernel
theorem dX3_spanned_67 : decode cX3_spanned 67 = .ok (.iload_n 1, 1) := by decide +kernel
theorem dX3_spanned_68 : decode cX3_spanned 68 = .ok (.lload 4, 2) := by decide +kernel
theorem dX3_spanned_70 : decode cX3_spanned 70 = .ok (.lastore, 1) := by decide +kernel
theorem dX3_spanned_71 : decode cX3_spanned 71 = .ok (.aload_n 0, 1) := by decide +kernel
theorem dX3_spanned_72 : decode cX3_spanned 72 = .ok (.getfield 38, 3) := by decide +kernel
theorem dX3_spanned_75 : decode cX3_spanned 75 = .ok (.iload_n 1, 1) := by decide +kernel
theorem dX3_spanned_76 : decode cX3_spanned 76 = .ok (.lload 6, 2) := by decide +kernel
theorem dX3_spanned_78 : decode cX3_spanned 78 = .ok (.lastore, 1) := by decide +kernel
theorem dX3_spanned_79 : decode cX3_spanned 79 = .ok (.aload_n 0, 1) := by decide +kernel
theorem dX3_spanned_80 : decode cX3_spanned 80 = .ok (.iload_n 1, 1) := by decide +kernel
theorem dX3_spanned_81 : decode cX3_spanned 81 = .ok (.invokevirtual 170, 3) := by decide +kernel
theorem dX3_spanned_84 : decode cX3_spanned 84 = .ok (.lreturn, 1) := by decide +kernel
set_option maxRecDepth 20000 in
theorem ggX3_span_X3_isSlot : GoodIn wsX3_span wsX3_isSlot := goodIn_r _ [4, 5, 6, 7, 3, 8] (by decide +kernel) (by decide +kernel)
set_option maxRecDepth 20000 in
theorem gX3_span_X3_isSlot : GoodIn wsX3_span (va_wsS RX3 174 yX3_isSlot wsX3_isSlot) := goodIn_app (goodIn_of _ (by decide +kernel)) ggX3_span_X3_isSlot
set_option maxRecDepth 20000 in
theorem ggX3_span_X3_fails : GoodIn wsX3_span wsX3_fails := goodIn_r _ [12, 13, 28, 29, 30, 31, 32, 33, 34, 35, 36, 37, 38, 39, 40, 41] (by decide +kernel) (by decide +kernel)
set_option maxRecDepth 20000 in
theorem gX3_span_X3_fails : GoodIn wsX3_span (wsV RX3 125 RX3 yX3_fails wsX3_fails) := goodIn_app (goodIn_of _ (by decide +kernel)) ggX3_span_X3_fails
set_option maxRecDepth 20000 in
theorem ggX3_span_X3_spanned : GoodIn wsX3_span wsX3_spanned := goodIn_ca (goodIn_r _ [17, 18, 19, 20, 21, 22, 6, 7, 3, 8, 9, 10, 11, 12, 13, 23, 24, 25, 26, 27, 28, 29, 30, 31, 32, 33, 34, 35, 36, 37, 38, 39, 40, 41] (by decide +kernel) (by decide +kernel)) (goodIn_sub (fun _ h => List.mem_cons_of_mem _ (List.mem_append_right _ h)) (by decide +kernel))
set_option maxRecDepth 20000 in
theorem gX3_span_X3_spanned : GoodIn wsX3_span (wsV RX3 177 RX3 yX3_spanned wsX3_spanned) := goodIn_app (goodIn_of _ (by decide +kernel)) ggX3_span_X3_spanned
theorem dX3_span_0 : decode cX3_span 0 = .ok (.aload_n 0, 1) := by decide +kernel
theorem dX3_span_1 : decode cX3_span 1 = .ok (.iload_n 1, 1) := by decide +kernel
theorem dX3_span_2 : decode cX3_span 2 = .ok (.invokestatic 174, 3) := by decide +kernel
theorem dX3_span_5 : decode cX3_span 5 = .ok (.ifCond .eq 7, 3) := by decide +kernel
theorem dX3_span_8 : decode cX3_span 8 = .ok (.iconst 0, 1) := by decide +kernel
theorem dX3_span_9 : decode cX3_span 9 = .ok (.goto 4, 3) := by decide +kernel
theorem dX3_span_12 : decode cX3_span 12 = .ok (.iconst 1, 1) := by decide +kernel
theorem dX3_span_13 : decode cX3_span 13 = .ok (.invokevirtual 125, 3) := by decide +kernel
theorem dX3_span_16 : decode cX3_span 16 = .ok (.ifCond .eq 7, 3) := by decide +kernel
theorem dX3_span_19 : decode cX3_span 19 = .ok (.lconst 0, 1) := by decide +kernel
theorem dX3_span_20 : decode cX3_span 20 = .ok (.goto 16, 3) := by decide +kernel
theorem dX3_span_23 : decode cX3_span 23 = .ok (.aload_n 0, 1) := by decide +kernel
theorem dX3_span_24 : decode cX3_span 24 = .ok (.iload_n 1, 1) := by decide +kernel
theorem dX3_span_25 : decode cX3_span 25 = .ok (.iload_n 2, 1) := by decide +kernel
theorem dX3_span_26 : decode cX3_span 26 = .ok (.i2l, 1) := by decide +kernel
theorem dX3_span_27 : decode cX3_span 27 = .ok (.iload_n 3, 1) := by decide +kernel
theorem dX3_span_28 : decode cX3_span 28 = .ok (.i2l, 1) := by decide +kernel
theorem dX3_span_29 : decode cX3_span 29 = .ok (.iload 4, 2) := by decide +kernel
theorem dX3_span_31 : decode cX3_span 31 = .ok (.i2l, 1) := by decide +kernel
theorem dX3_span_32 : decode cX3_span 32 = .ok (.iconst 2, 1) := by decide +kernel
theorem dX3_span_33 : decode cX3_span 33 = .ok (.invokevirtual 177, 3) := by decide +kernel
theorem dX3_span_36 : decode cX3_span 36 = .ok (.lreturn, 1) := by decide +kernel
set_option maxRecDepth 20000 in
theorem ggX3_until_X3_isDate : GoodIn wsX3_until wsX3_isDate := goodIn_r _ [6, 7, 8, 9, 5, 10] (by decide +kernel) (by decide +kernel)
set_option maxRecDepth 20000 in
theorem gX3_until_X3_isDate : GoodIn wsX3_until (va_wsS RX3 121 yX3_isDate wsX3_isDate) := goodIn_app (goodIn_of _ (by decide +kernel)) ggX3_until_X3_isDate
set_option maxRecDepth 20000 in
theorem ggX3_until_X3_isSlot : GoodIn wsX3_until wsX3_isSlot := goodIn_r _ [13, 14, 8, 9, 5, 10] (by decide +kernel) (by decide +kernel)
set_option maxRecDepth 20000 in
theorem gX3_until_X3_isSlot : GoodIn wsX3_until (va_wsS RX3 174 yX3_isSlot wsX3_isSlot) := goodIn_app (goodIn_of _ (by decide +kernel)) ggX3_until_X3_isSlot
set_option maxRecDepth 20000 in
theorem ggX3_until_X3_fails : GoodIn wsX3_until wsX3_fails := goodIn_r _ [18, 19, 77, 78, 79, 80, 81, 82, 83, 84, 85, 86, 87, 88, 89, 90] (by decide +kernel) (by decide +kernel)
set_option maxRecDepth 20000 in
theorem gX3_until_X3_fails : GoodIn wsX3_until (wsV RX3 125 RX3 yX3_fails wsX3_fails) := goodIn_app (goodIn_of _ (by decide +kernel)) ggX3_until_X3_fails
set_option maxRecDepth 20000 in
theorem ggX3_until_X3_monthsFrom : GoodIn wsX3_until wsX3_monthsFrom := goodIn_r _ [23, 2, 24, 25, 26, 27, 28, 29, 5, 30, 31, 32, 33, 34, 35, 36, 37, 38, 39, 40, 41, 42, 43, 14, 44, 45, 46, 47, 48, 49, 50, 51, 52, 53, 54, 55, 56, 77, 78, 79, 80, 81, 82, 83, 84, 85, 86, 87, 88, 89, 90] (by decide +kernel) (by decide +kernel)
set_option maxRecDepth 20000 in
theorem gX3_until_X3_monthsFrom : GoodIn wsX3_until (wsV RX3 167 RX3 yX3_monthsFrom wsX3_monthsFrom) := goodIn_app (goodIn_of _ (by decide +kernel)) ggX3_until_X3_monthsFrom
set_option maxRecDepth 20000 in
theorem ggX3_until_X3_byMonths : GoodIn wsX3_until wsX3_byMonths := goodIn_r _ [60, 2, 24, 25, 26, 27, 28, 29, 5, 30, 31, 32, 33, 34, 35, 36, 37, 38, 39, 40, 41, 42, 43, 14, 44, 45, 46, 47, 48, 49, 50, 51, 52, 53, 54, 55, 56, 61, 62, 63, 77, 78, 79, 80, 81, 82, 83, 84, 85, 86, 87, 88, 89, 90] (by decide +kernel) (by decide +kernel)
set_option maxRecDepth 20000 in
theorem gX3_until_X3_byMonths : GoodIn wsX3_until (wsV RX3 137 RX3 yX3_byMonths wsX3_byMonths) := goodIn_app (goodIn_of _ (by decide +kernel)) ggX3_until_X3_byMonths
set_option maxRecDepth 20000 in
theorem ggX3_until_X3_spanned : GoodIn wsX3_until wsX3_spanned := goodIn_ca (goodIn_r _ [67, 68, 69, 70, 71, 72, 8, 9, 5, 10, 15, 16, 17, 18, 19, 73, 74, 75, 76, 2, 77, 78, 79, 80, 81, 82, 83, 84, 85, 86, 87, 88, 89, 90] (by decide +kernel) (by decide +kernel)) (goodIn_sub (fun _ h => List.mem_cons_of_mem _ (List.mem_append_right _ h)) (by decide +kernel))
set_option maxRecDepth 20000 in
theorem gX3_until_X3_spanned : GoodIn wsX3_until (wsV RX3 177 RX3 yX3_spanned wsX3_spanned) := goodIn_app (goodIn_of _ (by decide +kernel)) ggX3_until_X3_spanned
theorem dX3_until_0 : decode cX3_until 0 = .ok (.aload_n 0, 1) := by decide +kernel
theorem dX3_until_1 : decode cX3_until 1 = .ok (.iload_n 1, 1) := by decide +kernel
theorem dX3_until_2 : decode cX3_until 2 = .ok (.invokestatic 121, 3) := by decide +kernel
theorem dX3_until_5 : decode cX3_until 5 = .ok (.ifCond .eq 17, 3) := by decide +kernel
theorem dX3_until_8 : decode cX3_until 8 = .ok (.iload_n 2, 1) := by decide +kernel
theorem dX3_until_9 : decode cX3_until 9 = .ok (.invokestatic 121, 3) := by decide +kernel
theorem dX3_until_12 : decode cX3_until 12 = .ok (.ifCond .eq 10, 3) := by decide +kernel
theorem dX3_until_15 : decode cX3_until 15 = .ok (.iload_n 3, 1) := by decide +kernel
theorem dX3_until_16 : decode cX3_until 16 = .ok (.invokestatic 174, 3) := by decide +kernel
theorem dX3_until_19 : decode cX3_until 19 = .ok (.ifCond .ne 7, 3) := by decide +kernel
theorem dX3_until_22 : decode cX3_until 22 = .ok (.iconst 1, 1) := by decide +kernel
theorem dX3_until_23 : decode cX3_until 23 = .ok (.goto 24, 3) := by decide +kernel
theorem dX3_until_26 : decode cX3_until 26 = .ok (.aload_n 0, 1) := by decide +kernel
theorem dX3_until_27 : decode cX3_until 27 = .ok (.getfield 13, 3) := by decide +kernel
theorem dX3_until_30 : decode cX3_until 30 = .ok (.iload_n 2, 1) := by decide +kernel
theorem dX3_until_31 : decode cX3_until 31 = .ok (.laload, 1) := by decide +kernel
theorem dX3_until_32 : decode cX3_until 32 = .ok (.aload_n 0, 1) := by decide +kernel
theorem dX3_until_33 : decode cX3_until 33 = .ok (.getfield 13, 3) := by decide +kernel
theorem dX3_until_36 : decode cX3_until 36 = .ok (.iload_n 1, 1) := by decide +kernel
theorem dX3_until_37 : decode cX3_until 37 = .ok (.laload, 1) := by decide +kernel
theorem dX3_until_38 : decode cX3_until 38 = .ok (.lcmp, 1) := by decide +kernel
theorem dX3_until_39 : decode cX3_until 39 = .ok (.ifCond .ge 7, 3) := by decide +kernel
theorem dX3_until_42 : decode cX3_until 42 = .ok (.iconst 2, 1) := by decide +kernel
theorem dX3_until_43 : decode cX3_until 43 = .ok (.goto 4, 3) := by decide +kernel
theorem dX3_until_46 : decode cX3_until 46 = .ok (.iconst 0, 1) := by decide +kernel
theorem dX3_until_47 : decode cX3_until 47 = .ok (.invokevirtual 125, 3) := by decide +kernel
theorem dX3_until_50 : decode cX3_until 50 = .ok (.ifCond .eq 5, 3) := by decide +kernel
theorem dX3_until_53 : decode cX3_until 53 = .ok (.lconst 0, 1) := by decide +kernel
theorem dX3_until_54 : decode cX3_until 54 = .ok (.lreturn, 1) := by decide +kernel
theorem dX3_until_55 : decode cX3_until 55 = .ok (.aload_n 0, 1) := by decide +kernel
theorem dX3_until_56 : decode cX3_until 56 = .ok (.aload_n 0, 1) := by decide +kernel
theorem dX3_until_57 : decode cX3_until 57 = .ok (.getfield 13, 3) := by decide +kernel
theorem dX3_until_60 : decode cX3_until 60 = .ok (.iload_n 1, 1) := by decide +kernel
theorem dX3_until_61 : decode cX3_until 61 = .ok (.laload, 1) := by decide +kernel
theorem dX3_until_62 : decode cX3_until 62 = .ok (.aload_n 0, 1) := by decide +kernel
theorem dX3_until_63 : decode cX3_until 63 = .ok (.getfield 13, 3) := by decide +kernel
theorem dX3_until_66 : decode cX3_until 66 = .ok (.iload_n 2, 1) := by decide +kernel
theorem dX3_until_67 : decode cX3_until 67 = .ok (.laload, 1) := by decide +kernel
theorem dX3_until_68 : decode cX3_until 68 = .ok (.invokevirtual 167, 3) := by decide +kernel
theorem dX3_until_71 : decode cX3_until 71 = .ok (.lstore 4, 2) := by decide +kernel
theorem dX3_until_73 : decode cX3_until 73 = .ok (.aload_n 0, 1) := by decide +kernel
theorem dX3_until_74 : decode cX3_until 74 = .ok (.iload_n 3, 1) := by decide +kernel
theorem dX3_until_75 : decode cX3_until 75 = .ok (.lload 4, 2) := by decide +kernel
theorem dX3_until_77 : decode cX3_until 77 = .ok (.ldc2_w 113, 3) := by decide +kernel
theorem dX3_until_80 : decode cX3_until 80 = .ok (.ldiv, 1) := by decide +kernel
theorem dX3_until_81 : decode cX3_until 81 = .ok (.lload 4, 2) := by decide +kernel
theorem dX3_until_83 : decode cX3_until 83 = .ok (.ldc2_w 113, 3) := by decide +kernel
theorem dX3_until_86 : decode cX3_until 86 = .ok (.lrem, 1) := by decide +kernel
theorem dX3_until_87 : decode cX3_until 87 = .ok (.aload_n 0, 1) := by decide +kernel
theorem dX3_until_88 : decode cX3_until 88 = .ok (.getfield 13, 3) := by decide +kernel
theorem dX3_until_91 : decode cX3_until 91 = .ok (.iload_n 2, 1) := by decide +kernel
theorem dX3_until_92 : decode cX3_until 92 = .ok (.laload, 1) := by decide +kernel
theorem dX3_until_93 : decode cX3_until 93 = .ok (.aload_n 0, 1) := by decide +kernel
theorem dX3_until_94 : decode cX3_until 94 = .ok (.aload_n 0, 1) := by decide +kernel
theorem dX3_until_95 : decode cX3_until 95 = .ok (.getfield 13, 3) := by decide +kernel
theorem dX3_until_98 : decode cX3_until 98 = .ok (.iload_n 1, 1) := by decide +kernel
theorem dX3_until_99 : decode cX3_until 99 = .ok (.laload, 1) := by decide +kernel
theorem dX3_until_100 : decode cX3_until 100 = .ok (.lload 4, 2) := by decide +kernel
theorem dX3_until_102 : decode cX3_until 102 = .ok (.invokevirtual 137, 3) := by decide +kernel
theorem dX3_until_105 : decode cX3_until 105 = .ok (.lsub, 1) := by decide +kernel
theorem dX3_until_106 : decode cX3_until 106 = .ok (.iconst 2, 1) := by decide +kernel
theorem dX3_until_107 : decode cX3_until 107 = .ok (.invokevirtual 177, 3) := by decide +kernel
theorem dX3_until_110 : decode cX3_until 110 = .ok (.lreturn, 1) := by decide +kernel
set_option maxRecDepth 20000 in
theorem ggX3_go_X3_isDate : GoodIn wsX3_go wsX3_isDate := goodIn_r _ [7, 8, 9, 10, 6, 11] (by decide +kernel) (by decide +kernel)
set_option maxRecDepth 20000 in
theorem gX3_go_X3_isDate : GoodIn wsX3_go (va_wsS RX3 121 yX3_isDate wsX3_isDate) := goodIn_app (goodIn_of _ (by decide +kernel)) ggX3_go_X3_isDate
set_option maxRecDepth 20000 in
theorem ggX3_go_X3_isSlot : GoodIn wsX3_go wsX3_isSlot := goodIn_r _ [14, 15, 9, 10, 6, 11] (by decide +kernel) (by decide +kernel)
set_option maxRecDepth 20000 in
theorem gX3_go_X3_isSlot : GoodIn wsX3_go (va_wsS RX3 174 yX3_isSlot wsX3_isSlot) := goodIn_app (goodIn_of _ (by decide +kernel)) ggX3_go_X3_isSlot
set_option maxRecDepth 20000 in
theorem ggX3_go_X3_fails : GoodIn wsX3_go wsX3_fails := goodIn_r _ [19, 20, 81, 82, 83, 84, 85, 86, 87, 88, 89, 90, 91, 92, 93, 94] (by decide +kernel) (by decide +kernel)
set_option maxRecDepth 20000 in
theorem gX3_go_X3_fails : GoodIn wsX3_go (wsV RX3 125 RX3 yX3_fails wsX3_fails) := goodIn_app (goodIn_of _ (by decide +kernel)) ggX3_go_X3_fails
set_option maxRecDepth 20000 in
theorem ggX3_go_X3_totalOf : GoodIn wsX3_go wsX3_totalOf := goodIn_ca (goodIn_r _ [24, 25, 26, 27, 81, 82, 83, 84, 85, 86, 87, 88, 89, 90, 91, 92, 93, 94] (by decide +kernel) (by decide +kernel)) (goodIn_sub (fun _ h => List.mem_cons_of_mem _ (List.mem_append_right _ h)) (by decide +kernel))
set_option maxRecDepth 20000 in
theorem gX3_go_X3_totalOf : GoodIn wsX3_go (wsV RX3 170 RX3 yX3_totalOf wsX3_totalOf) := goodIn_app (goodIn_of _ (by decide +kernel)) ggX3_go_X3_totalOf
set_option maxRecDepth 20000 in
theorem ggX3_go_X3_byMonths : GoodIn wsX3_go wsX3_byMonths := goodIn_r _ [31, 25, 32, 33, 34, 35, 36, 37, 6, 38, 39, 40, 41, 42, 43, 44, 45, 46, 47, 48, 49, 50, 51, 15, 52, 53, 54, 55, 56, 57, 58, 59, 60, 61, 62, 63, 64, 65, 66, 67, 81, 82, 83, 84, 85, 86, 87, 88, 89, 90, 91, 92, 93, 94] (by decide +kernel) (by decide +kernel)
set_option maxRecDepth 20000 in
theorem gX3_go_X3_byMonths : GoodIn wsX3_go (wsV RX3 137 RX3 yX3_byMonths wsX3_byMonths) := goodIn_app (goodIn_of _ (by decide +kernel)) ggX3_go_X3_byMonths
set_option maxRecDepth 20000 in
theorem ggX3_go_X3_becomes : GoodIn wsX3_go wsX3_becomes := goodIn_ca (goodIn_r _ [71, 2, 72, 73, 74, 6, 75, 32, 35, 36, 37, 38, 39, 40, 41, 33, 34, 42, 43, 44, 45, 46, 47, 48, 49, 50, 51, 15, 52, 53, 54, 55, 56, 57, 58, 59, 60, 61, 62, 63, 64, 76, 77, 78, 79, 80, 9, 10, 11, 16, 17, 18, 19, 20, 81, 82, 83, 84, 85, 86, 87, 88, 89, 90, 91, 92, 93, 94] (by decide +kernel) (by decide +kernel)) (goodIn_sub (fun _ h => List.mem_cons_of_mem _ (List.mem_append_right _ h)) (by decide +kernel))
set_option maxRecDepth 20000 in
theorem gX3_go_X3_becomes : GoodIn wsX3_go (wsV RX3 152 RX3 yX3_becomes wsX3_becomes) := goodIn_app (goodIn_of _ (by decide +kernel)) ggX3_go_X3_becomes
theorem dX3_go_0 : decode cX3_go 0 = .ok (.aload_n 0, 1) := by decide +kernel
theorem dX3_go_1 : decode cX3_go 1 = .ok (.iload_n 1, 1) := by decide +kernel
theorem dX3_go_2 : decode cX3_go 2 = .ok (.invokestatic 121, 3) := by decide +kernel
theorem dX3_go_5 : decode cX3_go 5 = .ok (.ifCond .eq 22, 3) := by decide +kernel
theorem dX3_go_8 : decode cX3_go 8 = .ok (.iload_n 2, 1) := by decide +kernel
theorem dX3_go_9 : decode cX3_go 9 = .ok (.invokestatic 174, 3) := by decide +kernel
theorem dX3_go_12 : decode cX3_go 12 = .ok (.ifCond .eq 15, 3) := by decide +kernel
theorem dX3_go_15 : decode cX3_go 15 = .ok (.iload 4, 2) := by decide +kernel
theorem dX3_go_17 : decode cX3_go 17 = .ok (.invokestatic 121, 3) := by decide +kernel
theorem dX3_go_20 : decode cX3_go 20 = .ok (.ifCond .eq 7, 3) := by decide +kernel
theorem dX3_go_23 : decode cX3_go 23 = .ok (.iconst 0, 1) := by decide +kernel
theorem dX3_go_24 : decode cX3_go 24 = .ok (.goto 4, 3) := by decide +kernel
theorem dX3_go_27 : decode cX3_go 27 = .ok (.iconst 1, 1) := by decide +kernel
theorem dX3_go_28 : decode cX3_go 28 = .ok (.invokevirtual 125, 3) := by decide +kernel
theorem dX3_go_31 : decode cX3_go 31 = .ok (.ifCond .eq 5, 3) := by decide +kernel
theorem dX3_go_34 : decode cX3_go 34 = .ok (.lconst 0, 1) := by decide +kernel
theorem dX3_go_35 : decode cX3_go 35 = .ok (.lreturn, 1) := by decide +kernel
theorem dX3_go_36 : decode cX3_go 36 = .ok (.iload_n 3, 1) := by decide +kernel
theorem dX3_go_37 : decode cX3_go 37 = .ok (.ifCond .eq 9, 3) := by decide +kernel
theorem dX3_go_40 : decode cX3_go 40 = .ok (.ldc2_w 181, 3) := by decide +kernel
theorem dX3_go_43 : decode cX3_go 43 = .ok (.goto 4, 3) := by decide +kernel
theorem dX3_go_46 : decode cX3_go 46 = .ok (.lconst 1, 1) := by decide +kernel
theorem dX3_go_47 : decode cX3_go 47 = .ok (.lstore 5, 2) := by decide +kernel
theorem dX3_go_49 : decode cX3_go 49 = .ok (.aload_n 0, 1) := by decide +kernel
theorem dX3_go_50 : decode cX3_go 50 = .ok (.iload 4, 2) := by decide +kernel
theorem dX3_go_52 : decode cX3_go 52 = .ok (.aload_n 0, 1) := by decide +kernel
theorem dX3_go_53 : decode cX3_go 53 = .ok (.aload_n 0, 1) := by decide +kernel
theorem dX3_go_54 : decode cX3_go 54 = .ok (.getfield 13, 3) := by decide +kernel
theorem dX3_go_57 : decode cX3_go 57 = .ok (.iload_n 1, 1) := by decide +kernel
theorem dX3_go_58 : decode cX3_go 58 = .ok (.laload, 1) := by decide +kernel
theorem dX3_go_59 : decode cX3_go 59 = .ok (.lload 5, 2) := by decide +kernel
theorem dX3_go_61 : decode cX3_go 61 = .ok (.aload_n 0, 1) := by decide +kernel
theorem dX3_go_62 : decode cX3_go 62 = .ok (.iload_n 2, 1) := by decide +kernel
theorem dX3_go_63 : decode cX3_go 63 = .ok (.invokevirtual 170, 3) := by decide +kernel
theorem dX3_go_66 : decode cX3_go 66 = .ok (.lmul, 1) := by decide +kernel
theorem dX3_go_67 : decode cX3_go 67 = .ok (.invokevirtual 137, 3) := by decide +kernel
theorem dX3_go_70 : decode cX3_go 70 = .ok (.lload 5, 2) := by decide +kernel
theorem dX3_go_72 : decode cX3_go 72 = .ok (.aload_n 0, 1) := by decide +kernel
theorem dX3_go_73 : decode cX3_go 73 = .ok (.getfield 38, 3) := by decide +kernel
theorem dX3_go_76 : decode cX3_go 76 = .ok (.iload_n 2, 1) := by decide +kernel
theorem dX3_go_77 : decode cX3_go 77 = .ok (.laload, 1) := by decide +kernel
theorem dX3_go_78 : decode cX3_go 78 = .ok (.lmul, 1) := by decide +kernel
theorem dX3_go_79 : decode cX3_go 79 = .ok (.ladd, 1) := by decide +kernel
theorem dX3_go_80 : decode cX3_go 80 = .ok (.iconst 2, 1) := by decide +kernel
theorem dX3_go_81 : decode cX3_go 81 = .ok (.invokevirtual 152, 3) := by decide +kernel
theorem dX3_go_84 : decode cX3_go 84 = .ok (.lreturn, 1) := by decide +kernel
set_option maxRecDepth 20000 in
theorem ggX3_spanPart_X3_isSlot : GoodIn wsX3_spanPart wsX3_isSlot := goodIn_r _ [7, 8, 9, 10, 6, 11] (by decide +kernel) (by decide +kernel)
set_option maxRecDepth 20000 in
theorem gX3_spanPart_X3_isSlot : GoodIn wsX3_spanPart (va_wsS RX3 174 yX3_isSlot wsX3_isSlot) := goodIn_app (goodIn_of _ (by decide +kernel)) ggX3_spanPart_X3_isSlot
set_option maxRecDepth 20000 in
theorem ggX3_spanPart_X3_fails : GoodIn wsX3_spanPart wsX3_fails := goodIn_r _ [15, 16, 17, 18, 19, 20, 21, 22, 23, 24, 25, 26, 27, 28, 29, 30] (by decide +kernel) (by decide +kernel)
set_option maxRecDepth 20000 in
theorem gX3_spanPart_X3_fails : GoodIn wsX3_spanPart (wsV RX3 125 RX3 yX3_fails wsX3_fails) := goodIn_app (goodIn_of _ (by decide +kernel)) ggX3_spanPart_X3_fails
theorem dX3_spanPart_0 : decode cX3_spanPart 0 = .ok (.aload_n 0, 1) := by decide +kernel
theorem dX3_spanPart_1 : decode cX3_spanPart 1 = .ok (.iload_n 1, 1) := by decide +kernel
theorem dX3_spanPart_2 : decode cX3_spanPart 2 = .ok (.invokestatic 174, 3) := by decide +kernel
theorem dX3_spanPart_5 : decode cX3_spanPart 5 = .ok (.ifCond .ne 7, 3) := by decide +kernel
theorem dX3_spanPart_8 : decode cX3_spanPart 8 = .ok (.iconst 1, 1) := by decide +kernel
theorem dX3_spanPart_9 : decode cX3_spanPart 9 = .ok (.goto 26, 3) := by decide +kernel
theorem dX3_spanPart_12 : decode cX3_spanPart 12 = .ok (.iload_n 2, 1) := by decide +kernel
theorem dX3_spanPart_13 : decode cX3_spanPart 13 = .ok (.bipush 121, 2) := by decide +kernel
theorem dX3_spanPart_15 : decode cX3_spanPart 15 = .ok (.if_icmp .eq 15, 3) := by decide +kernel
theorem dX3_spanPart_18 : decode cX3_spanPart 18 = .ok (.iload_n 2, 1) := by decide +kernel
theorem dX3_spanPart_19 : decode cX3_spanPart 19 = .ok (.bipush 109, 2) := by decide +kernel
theorem dX3_spanPart_21 : decode cX3_spanPart 21 = .ok (.if_icmp .eq 9, 3) := by decide +kernel
theorem dX3_spanPart_24 : decode cX3_spanPart 24 = .ok (.iload_n 2, 1) := by decide +kernel
theorem dX3_spanPart_25 : decode cX3_spanPart 25 = .ok (.bipush 100, 2) := by decide +kernel
theorem dX3_spanPart_27 : decode cX3_spanPart 27 = .ok (.if_icmp .ne 7, 3) := by decide +kernel
theorem dX3_spanPart_30 : decode cX3_spanPart 30 = .ok (.iconst 0, 1) := by decide +kernel
theorem dX3_spanPart_31 : decode cX3_spanPart 31 = .ok (.goto 4, 3) := by decide +kernel
theorem dX3_spanPart_34 : decode cX3_spanPart 34 = .ok (.iconst 2, 1) := by decide +kernel
theorem dX3_spanPart_35 : decode cX3_spanPart 35 = .ok (.invokevirtual 125, 3) := by decide +kernel
theorem dX3_spanPart_38 : decode cX3_spanPart 38 = .ok (.ifCond .eq 5, 3) := by decide +kernel
theorem dX3_spanPart_41 : decode cX3_spanPart 41 = .ok (.iconst 0, 1) := by decide +kernel
theorem dX3_spanPart_42 : decode cX3_spanPart 42 = .ok (.ireturn, 1) := by decide +kernel
theorem dX3_spanPart_43 : decode cX3_spanPart 43 = .ok (.iload_n 2, 1) := by decide +kernel
theorem dX3_spanPart_44 : decode cX3_spanPart 44 = .ok (.bipush 121, 2) := by decide +kernel
theorem dX3_spanPart_46 : decode cX3_spanPart 46 = .ok (.if_icmp .ne 12, 3) := by decide +kernel
theorem dX3_spanPart_49 : decode cX3_spanPart 49 = .ok (.aload_n 0, 1) := by decide +kernel
theorem dX3_spanPart_50 : decode cX3_spanPart 50 = .ok (.getfield 32, 3) := by decide +kernel
theorem dX3_spanPart_53 : decode cX3_spanPart 53 = .ok (.iload_n 1, 1) := by decide +kernel
theorem dX3_spanPart_54 : decode cX3_spanPart 54 = .ok (.laload, 1) := by decide +kernel
theorem dX3_spanPart_55 : decode cX3_spanPart 55 = .ok (.goto 24, 3) := by decide +kernel
theorem dX3_spanPart_58 : decode cX3_spanPart 58 = .ok (.iload_n 2, 1) := by decide +kernel
theorem dX3_spanPart_59 : decode cX3_spanPart 59 = .ok (.bipush 109, 2) := by decide +kernel
theorem dX3_spanPart_61 : decode cX3_spanPart 61 = .ok (.if_icmp .ne 12, 3) := by decide +kernel
theorem dX3_spanPart_64 : decode cX3_spanPart 64 = .ok (.aload_n 0, 1) := by decide +kernel
theorem dX3_spanPart_65 : decode cX3_spanPart 65 = .ok (.getfield 35, 3) := by decide +kernel
theorem dX3_spanPart_68 : decode cX3_spanPart 68 = .ok (.iload_n 1, 1) := by decide +kernel
theorem dX3_spanPart_69 : decode cX3_spanPart 69 = .ok (.laload, 1) := by decide +kernel
theorem dX3_spanPart_70 : decode cX3_spanPart 70 = .ok (.goto 9, 3) := by decide +kernel
theorem dX3_spanPart_73 : decode cX3_spanPart 73 = .ok (.aload_n 0, 1) := by decide +kernel
theorem dX3_spanPart_74 : decode cX3_spanPart 74 = .ok (.getfield 38, 3) := by decide +kernel
theorem dX3_spanPart_77 : decode cX3_spanPart 77 = .ok (.iload_n 1, 1) := by decide +kernel
theorem dX3_spanPart_78 : decode cX3_spanPart 78 = .ok (.laload, 1) := by decide +kernel
theorem dX3_spanPart_79 : decode cX3_spanPart 79 = .ok (.l2i, 1) := by decide +kernel
theorem dX3_spanPart_80 : decode cX3_spanPart 80 = .ok (.ireturn, 1) := by decide +kernel
set_option maxRecDepth 20000 in
theorem ggX3_addSpan_X3_isSlot : GoodIn wsX3_addSpan wsX3_isSlot := goodIn_r _ [8, 9, 10, 11, 7, 12] (by decide +kernel) (by decide +kernel)
set_option maxRecDepth 20000 in
theorem gX3_addSpan_X3_isSlot : GoodIn wsX3_addSpan (va_wsS RX3 174 yX3_isSlot wsX3_isSlot) := goodIn_app (goodIn_of _ (by decide +kernel)) ggX3_addSpan_X3_isSlot
set_option maxRecDepth 20000 in
theorem ggX3_addSpan_X3_fails : GoodIn wsX3_addSpan wsX3_fails := goodIn_r _ [16, 17, 29, 30, 31, 32, 33, 34, 35, 36, 37, 38, 39, 40, 41, 42] (by decide +kernel) (by decide +kernel)
set_option maxRecDepth 20000 in
theorem gX3_addSpan_X3_fails : GoodIn wsX3_addSpan (wsV RX3 125 RX3 yX3_fails wsX3_fails) := goodIn_app (goodIn_of _ (by decide +kernel)) ggX3_addSpan_X3_fails
set_option maxRecDepth 20000 in
theorem ggX3_addSpan_X3_spanned : GoodIn wsX3_addSpan wsX3_spanned := goodIn_ca (goodIn_r _ [21, 22, 23, 2, 3, 4, 10, 11, 7, 12, 13, 14, 15, 16, 17, 24, 25, 26, 27, 28, 29, 30, 31, 32, 33, 34, 35, 36, 37, 38, 39, 40, 41, 42] (by decide +kernel) (by decide +kernel)) (goodIn_sub (fun _ h => List.mem_cons_of_mem _ (List.mem_append_right _ h)) (by decide +kernel))
set_option maxRecDepth 20000 in
theorem gX3_addSpan_X3_spanned : GoodIn wsX3_addSpan (wsV RX3 177 RX3 yX3_spanned wsX3_spanned) := goodIn_app (goodIn_of _ (by decide +kernel)) ggX3_addSpan_X3_spanned
theorem dX3_addSpan_0 : decode cX3_addSpan 0 = .ok (.aload_n 0, 1) := by decide +kernel
theorem dX3_addSpan_1 : decode cX3_addSpan 1 = .ok (.iload_n 1, 1) := by decide +kernel
theorem dX3_addSpan_2 : decode cX3_addSpan 2 = .ok (.invokestatic 174, 3) := by decide +kernel
theorem dX3_addSpan_5 : decode cX3_addSpan 5 = .ok (.ifCond .eq 22, 3) := by decide +kernel
theorem dX3_addSpan_8 : decode cX3_addSpan 8 = .ok (.iload_n 2, 1) := by decide +kernel
theorem dX3_addSpan_9 : decode cX3_addSpan 9 = .ok (.invokestatic 174, 3) := by decide +kernel
theorem dX3_addSpan_12 : decode cX3_addSpan 12 = .ok (.ifCond .eq 15, 3) := by decide +kernel
theorem dX3_addSpan_15 : decode cX3_addSpan 15 = .ok (.iload 4, 2) := by decide +kernel
theorem dX3_addSpan_17 : decode cX3_addSpan 17 = .ok (.invokestatic 174, 3) := by decide +kernel
theorem dX3_addSpan_20 : decode cX3_addSpan 20 = .ok (.ifCond .eq 7, 3) := by decide +kernel
theorem dX3_addSpan_23 : decode cX3_addSpan 23 = .ok (.iconst 0, 1) := by decide +kernel
theorem dX3_addSpan_24 : decode cX3_addSpan 24 = .ok (.goto 4, 3) := by decide +kernel
theorem dX3_addSpan_27 : decode cX3_addSpan 27 = .ok (.iconst 1, 1) := by decide +kernel
theorem dX3_addSpan_28 : decode cX3_addSpan 28 = .ok (.invokevirtual 125, 3) := by decide +kernel
theorem dX3_addSpan_31 : decode cX3_addSpan 31 = .ok (.ifCond .eq 5, 3) := by decide +kernel
theorem dX3_addSpan_34 : decode cX3_addSpan 34 = .ok (.lconst 0, 1) := by decide +kernel
theorem dX3_addSpan_35 : decode cX3_addSpan 35 = .ok (.lreturn, 1) := by decide +kernel
theorem dX3_addSpan_36 : decode cX3_addSpan 36 = .ok (.iload_n 3, 1) := by decide +kernel
theorem dX3_addSpan_37 : decode cX3_addSpan 37 = .ok (.ifCond .eq 9, 3) := by decide +kernel
theorem dX3_addSpan_40 : decode cX3_addSpan 40 = .ok (.ldc2_w 181, 3) := by decide +kernel
theorem dX3_addSpan_43 : decode cX3_addSpan 43 = .ok (.goto 4, 3) := by decide +kernel
theorem dX3_addSpan_46 : decode cX3_addSpan 46 = .ok (.lconst 1, 1) := by decide +kernel
theorem dX3_addSpan_47 : decode cX3_addSpan 47 = .ok (.lstore 5, 2) := by decide +kernel
theorem dX3_addSpan_49 : decode cX3_addSpan 49 = .ok (.aload_n 0, 1) := by decide +kernel
theorem dX3_addSpan_50 : decode cX3_addSpan 50 = .ok (.iload 4, 2) := by decide +kernel
theorem dX3_addSpan_52 : decode cX3_addSpan 52 = .ok (.aload_n 0, 1) := by decide +kernel
theorem dX3_addSpan_53 : decode cX3_addSpan 53 = .ok (.getfield 32, 3) := by decide +kernel
theorem dX3_addSpan_56 : decode cX3_addSpan 56 = .ok (.iload_n 1, 1) := by decide +kernel
theorem dX3_addSpan_57 : decode cX3_addSpan 57 = .ok (.laload, 1) := by decide +kernel
theorem dX3_addSpan_58 : decode cX3_addSpan 58 = .ok (.lload 5, 2) := by decide +kernel
theorem dX3_addSpan_60 : decode cX3_addSpan 60 = .ok (.aload_n 0, 1) := by decide +kernel
theorem dX3_addSpan_61 : decode cX3_addSpan 61 = .ok (.getfield 32, 3) := by decide +kernel
theorem dX3_addSpan_64 : decode cX3_addSpan 64 = .ok (.iload_n 2, 1) := by decide +kernel
theorem dX3_addSpan_65 : decode cX3_addSpan 65 = .ok (.laload, 1) := by decide +kernel
theorem dX3_addSpan_66 : decode cX3_addSpan 66 = .ok (.lmul, 1) := by decide +kernel
theorem dX3_addSpan_67 : decode cX3_addSpan 67 = .ok (.ladd, 1) := by decide +kernel
theorem dX3_addSpan_68 : decode cX3_addSpan 68 = .ok (.aload_n 0, 1) := by decide +kernel
theorem dX3_addSpan_69 : decode cX3_addSpan 69 = .ok (.getfield 35, 3) := by decide +kernel
theorem dX3_addSpan_72 : decode cX3_addSpan 72 = .ok (.iload_n 1, 1) := by decide +kernel
theorem dX3_addSpan_73 : decode cX3_addSpan 73 = .ok (.laload, 1) := by decide +kernel
theorem dX3_addSpan_74 : decode cX3_addSpan 74 = .ok (.lload 5, 2) := by decide +kernel
theorem dX3_addSpan_76 : decode cX3_addSpan 76 = .ok (.aload_n 0, 1) := by decide +kernel
theorem dX3_addSpan_77 : decode cX3_addSpan 77 = .ok (.getfield 35, 3) := by decide +kernel
theorem dX3_addSpan_80 : decode cX3_addSpan 80 = .ok (.iload_n 2, 1) := by decide +kernel
theorem dX3_addSpan_81 : decode cX3_addSpan 81 = .ok (.laload, 1) := by decide +kernel
theorem dX3_addSpan_82 : decode cX3_addSpan 82 = .ok (.lmul, 1) := by decide +kernel
theorem dX3_addSpan_83 : decode cX3_addSpan 83 = .ok (.ladd, 1) := by decide +kernel
theorem dX3_addSpan_84 : decode cX3_addSpan 84 = .ok (.aload_n 0, 1) := by decide +kernel
theorem dX3_addSpan_85 : decode cX3_addSpan 85 = .ok (.getfield 38, 3) := by decide +kernel
theorem dX3_addSpan_88 : decode cX3_addSpan 88 = .ok (.iload_n 1, 1) := by decide +kernel
theorem dX3_addSpan_89 : decode cX3_addSpan 89 = .ok (.laload, 1) := by decide +kernel
theorem dX3_addSpan_90 : decode cX3_addSpan 90 = .ok (.lload 5, 2) := by decide +kernel
theorem dX3_addSpan_92 : decode cX3_addSpan 92 = .ok (.aload_n 0, 1) := by decide +kernel
theorem dX3_addSpan_93 : decode cX3_addSpan 93 = .ok (.getfield 38, 3) := by decide +kernel
theorem dX3_addSpan_96 : decode cX3_addSpan 96 = .ok (.iload_n 2, 1) := by decide +kernel
theorem dX3_addSpan_97 : decode cX3_addSpan 97 = .ok (.laload, 1) := by decide +kernel
theorem dX3_addSpan_98 : decode cX3_addSpan 98 = .ok (.lmul, 1) := by decide +kernel
theorem dX3_addSpan_99 : decode cX3_addSpan 99 = .ok (.ladd, 1) := by decide +kernel
theorem dX3_addSpan_100 : decode cX3_addSpan 100 = .ok (.iconst 2, 1) := by decide +kernel
theorem dX3_addSpan_101 : decode cX3_addSpan 101 = .ok (.invokevirtual 177, 3) := by decide +kernel
theorem dX3_addSpan_104 : decode cX3_addSpan 104 = .ok (.lreturn, 1) := by decide +kernel
set_option maxRecDepth 20000 in
theorem ggX3_timesSpan_X3_isSlot : GoodIn wsX3_timesSpan wsX3_isSlot := goodIn_r _ [9, 10, 11, 12, 8, 13] (by decide +kernel) (by decide +kernel)
set_option maxRecDepth 20000 in
theorem gX3_timesSpan_X3_isSlot : GoodIn wsX3_timesSpan (va_wsS RX3 174 yX3_isSlot wsX3_isSlot) := goodIn_app (goodIn_of _ (by decide +kernel)) ggX3_timesSpan_X3_isSlot
set_option maxRecDepth 20000 in
theorem ggX3_timesSpan_X3_in : GoodIn wsX3_timesSpan wsX3_in := goodIn_r _ [13] (by decide +kernel) (by decide +kernel)
set_option maxRecDepth 20000 in
theorem gX3_timesSpan_X3_in : GoodIn wsX3_timesSpan (va_wsS RX3 100 yX3_in wsX3_in) := goodIn_app (goodIn_of _ (by decide +kernel)) ggX3_timesSpan_X3_in
set_option maxRecDepth 20000 in
theorem ggX3_timesSpan_X3_fails : GoodIn wsX3_timesSpan wsX3_fails := goodIn_r _ [17, 18, 30, 31, 32, 33, 34, 35, 36, 37, 38, 39, 40, 41, 42, 43] (by decide +kernel) (by decide +kernel)
set_option maxRecDepth 20000 in
theorem gX3_timesSpan_X3_fails : GoodIn wsX3_timesSpan (wsV RX3 125 RX3 yX3_fails wsX3_fails) := goodIn_app (goodIn_of _ (by decide +kernel)) ggX3_timesSpan_X3_fails
set_option maxRecDepth 20000 in
theorem ggX3_timesSpan_X3_spanned : GoodIn wsX3_timesSpan wsX3_spanned := goodIn_ca (goodIn_r _ [22, 23, 24, 3, 4, 5, 11, 12, 8, 13, 14, 15, 16, 17, 18, 25, 26, 27, 28, 29, 30, 31, 32, 33, 34, 35, 36, 37, 38, 39, 40, 41, 42, 43] (by decide +kernel) (by decide +kernel)) (goodIn_sub (fun _ h => List.mem_cons_of_mem _ (List.mem_append_right _ h)) (by decide +kernel))
set_option maxRecDepth 20000 in
theorem gX3_timesSpan_X3_spanned : GoodIn wsX3_timesSpan (wsV RX3 177 RX3 yX3_spanned wsX3_spanned) := goodIn_app (goodIn_of _ (by decide +kernel)) ggX3_timesSpan_X3_spanned
theorem dX3_timesSpan_0 : decode cX3_timesSpan 0 = .ok (.aload_n 0, 1) := by decide +kernel
theorem dX3_timesSpan_1 : decode cX3_timesSpan 1 = .ok (.iload_n 1, 1) := by decide +kernel
theorem dX3_timesSpan_2 : decode cX3_timesSpan 2 = .ok (.invokestatic 174, 3) := by decide +kernel
theorem dX3_timesSpan_5 : decode cX3_timesSpan 5 = .ok (.ifCond .eq 10, 3) := by decide +kernel
theorem dX3_timesSpan_8 : decode cX3_timesSpan 8 = .ok (.iload_n 3, 1) := by decide +kernel
theorem dX3_timesSpan_9 : decode cX3_timesSpan 9 = .ok (.invokestatic 174, 3) := by decide +kernel
theorem dX3_timesSpan_12 : decode cX3_timesSpan 12 = .ok (.ifCond .ne 7, 3) := by decide +kernel
theorem dX3_timesSpan_15 : decode cX3_timesSpan 15 = .ok (.iconst 1, 1) := by decide +kernel
theorem dX3_timesSpan_16 : decode cX3_timesSpan 16 = .ok (.goto 22, 3) := by decide +kernel
theorem dX3_timesSpan_19 : decode cX3_timesSpan 19 = .ok (.iload_n 2, 1) := by decide +kernel
theorem dX3_timesSpan_20 : decode cX3_timesSpan 20 = .ok (.i2l, 1) := by decide +kernel
theorem dX3_timesSpan_21 : decode cX3_timesSpan 21 = .ok (.ldc2_w 183, 3) := by decide +kernel
theorem dX3_timesSpan_24 : decode cX3_timesSpan 24 = .ok (.ldc2_w 55, 3) := by decide +kernel
theorem dX3_timesSpan_27 : decode cX3_timesSpan 27 = .ok (.invokestatic 100, 3) := by decide +kernel
theorem dX3_timesSpan_30 : decode cX3_timesSpan 30 = .ok (.ifCond .eq 7, 3) := by decide +kernel
theorem dX3_timesSpan_33 : decode cX3_timesSpan 33 = .ok (.iconst 0, 1) := by decide +kernel
theorem dX3_timesSpan_34 : decode cX3_timesSpan 34 = .ok (.goto 4, 3) := by decide +kernel
theorem dX3_timesSpan_37 : decode cX3_timesSpan 37 = .ok (.iconst 2, 1) := by decide +kernel
theorem dX3_timesSpan_38 : decode cX3_timesSpan 38 = .ok (.invokevirtual 125, 3) := by decide +kernel
theorem dX3_timesSpan_41 : decode cX3_timesSpan 41 = .ok (.ifCond .eq 5, 3) := by decide +kernel
theorem dX3_timesSpan_44 : decode cX3_timesSpan 44 = .ok (.lconst 0, 1) := by decide +kernel
theorem dX3_timesSpan_45 : decode cX3_timesSpan 45 = .ok (.lreturn, 1) := by decide +kernel
theorem dX3_timesSpan_46 : decode cX3_timesSpan 46 = .ok (.aload_n 0, 1) := by decide +kernel
theorem dX3_timesSpan_47 : decode cX3_timesSpan 47 = .ok (.iload_n 3, 1) := by decide +kernel
theorem dX3_timesSpan_48 : decode cX3_timesSpan 48 = .ok (.iload_n 2, 1) := by decide +kernel
theorem dX3_timesSpan_49 : decode cX3_timesSpan 49 = .ok (.i2l, 1) := by decide +kernel
theorem dX3_timesSpan_50 : decode cX3_timesSpan 50 = .ok (.aload_n 0, 1) := by decide +kernel
theorem dX3_timesSpan_51 : decode cX3_timesSpan 51 = .ok (.getfield 32, 3) := by decide +kernel
theorem dX3_timesSpan_54 : decode cX3_timesSpan 54 = .ok (.iload_n 1, 1) := by decide +kernel
theorem dX3_timesSpan_55 : decode cX3_timesSpan 55 = .ok (.laload, 1) := by decide +kernel
theorem dX3_timesSpan_56 : decode cX3_timesSpan 56 = .ok (.lmul, 1) := by decide +kernel
theorem dX3_timesSpan_57 : decode cX3_timesSpan 57 = .ok (.iload_n 2, 1) := by decide +kernel
theorem dX3_timesSpan_58 : decode cX3_timesSpan 58 = .ok (.i2l, 1) := by decide +kernel
theorem dX3_timesSpan_59 : decode cX3_timesSpan 59 = .ok (.aload_n 0, 1) := by decide +kernel
theorem dX3_timesSpan_60 : decode cX3_timesSpan 60 = .ok (.getfield 35, 3) := by decide +kernel
theorem dX3_timesSpan_63 : decode cX3_timesSpan 63 = .ok (.iload_n 1, 1) := by decide +kernel
theorem dX3_timesSpan_64 : decode cX3_timesSpan 64 = .ok (.laload, 1) := by decide +kernel
theorem dX3_timesSpan_65 : decode cX3_timesSpan 65 = .ok (.lmul, 1) := by decide +kernel
theorem dX3_timesSpan_66 : decode cX3_timesSpan 66 = .ok (.iload_n 2, 1) := by decide +kernel
theorem dX3_timesSpan_67 : decode cX3_timesSpan 67 = .ok (.i2l, 1) := by decide +kernel
theorem dX3_timesSpan_68 : decode cX3_timesSpan 68 = .ok (.aload_n 0, 1) := by decide +kernel
theorem dX3_timesSpan_69 : decode cX3_timesSpan 69 = .ok (.getfield 38, 3) := by decide +kernel
theorem dX3_timesSpan_72 : decode cX3_timesSpan 72 = .ok (.iload_n 1, 1) := by decide +kernel
theorem dX3_timesSpan_73 : decode cX3_timesSpan 73 = .ok (.laload, 1) := by decide +kernel
theorem dX3_timesSpan_74 : decode cX3_timesSpan 74 = .ok (.lmul, 1) := by decide +kernel
theorem dX3_timesSpan_75 : decode cX3_timesSpan 75 = .ok (.iconst 3, 1) := by decide +kernel
theorem dX3_timesSpan_76 : decode cX3_timesSpan 76 = .ok (.invokevirtual 177, 3) := by decide +kernel
theorem dX3_timesSpan_79 : decode cX3_timesSpan 79 = .ok (.lreturn, 1) := by decide +kernel
set_option maxRecDepth 20000 in
theorem ggX3_plainSpan_X3_isSlot : GoodIn wsX3_plainSpan wsX3_isSlot := goodIn_r _ [6, 7, 8, 9, 5, 10] (by decide +kernel) (by decide +kernel)
set_option maxRecDepth 20000 in
theorem gX3_plainSpan_X3_isSlot : GoodIn wsX3_plainSpan (va_wsS RX3 174 yX3_isSlot wsX3_isSlot) := goodIn_app (goodIn_of _ (by decide +kernel)) ggX3_plainSpan_X3_isSlot
set_option maxRecDepth 20000 in
theorem ggX3_plainSpan_X3_fails : GoodIn wsX3_plainSpan wsX3_fails := goodIn_r _ [14, 15, 28, 29, 30, 31, 32, 33, 34, 35, 36, 37, 38, 39, 40, 41] (by decide +kernel) (by decide +kernel)
set_option maxRecDepth 20000 in
theorem gX3_plainSpan_X3_fails : GoodIn wsX3_plainSpan (wsV RX3 125 RX3 yX3_fails wsX3_fails) := goodIn_app (goodIn_of _ (by decide +kernel)) ggX3_plainSpan_X3_fails
set_option maxRecDepth 20000 in
theorem ggX3_plainSpan_X3_totalOf : GoodIn wsX3_plainSpan wsX3_totalOf := goodIn_ca (goodIn_r _ [19, 1, 20, 21, 28, 29, 30, 31, 32, 33, 34, 35, 36, 37, 38, 39, 40, 41] (by decide +kernel) (by decide +kernel)) (goodIn_sub (fun _ h => List.mem_cons_of_mem _ (List.mem_append_right _ h)) (by decide +kernel))
set_option maxRecDepth 20000 in
theorem gX3_plainSpan_X3_totalOf : GoodIn wsX3_plainSpan (wsV RX3 170 RX3 yX3_totalOf wsX3_totalOf) := goodIn_app (goodIn_of _ (by decide +kernel)) ggX3_plainSpan_X3_totalOf
set_option maxRecDepth 20000 in
theorem ggX3_plainSpan_X3_spanned : GoodIn wsX3_plainSpan wsX3_spanned := goodIn_ca (goodIn_r _ [25, 26, 27, 20, 21, 2, 8, 9, 5, 10, 11, 12, 13, 14, 15, 16, 17, 18, 19, 1, 28, 29, 30, 31, 32, 33, 34, 35, 36, 37, 38, 39, 40, 41] (by decide +kernel) (by decide +kernel)) (goodIn_sub (fun _ h => List.mem_cons_of_mem _ (List.mem_append_right _ h)) (by decide +kernel))
set_option maxRecDepth 20000 in
theorem gX3_plainSpan_X3_spanned : GoodIn wsX3_plainSpan (wsV RX3 177 RX3 yX3_spanned wsX3_spanned) := goodIn_app (goodIn_of _ (by decide +kernel)) ggX3_plainSpan_X3_spanned
theorem dX3_plainSpan_0 : decode cX3_plainSpan 0 = .ok (.aload_n 0, 1) := by decide +kernel
theorem dX3_plainSpan_1 : decode cX3_plainSpan 1 = .ok (.iload_n 1, 1) := by decide +kernel
theorem dX3_plainSpan_2 : decode cX3_plainSpan 2 = .ok (.invokestatic 174, 3) := by decide +kernel
theorem dX3_plainSpan_5 : decode cX3_plainSpan 5 = .ok (.ifCond .eq 14, 3) := by decide +kernel
theorem dX3_plainSpan_8 : decode cX3_plainSpan 8 = .ok (.iload_n 2, 1) := by decide +kernel
theorem dX3_plainSpan_9 : decode cX3_plainSpan 9 = .ok (.invokestatic 174, 3) := by decide +kernel
theorem dX3_plainSpan_12 : decode cX3_plainSpan 12 = .ok (.ifCond .eq 7, 3) := by decide +kernel
theorem dX3_plainSpan_15 : decode cX3_plainSpan 15 = .ok (.iconst 0, 1) := by decide +kernel
theorem dX3_plainSpan_16 : decode cX3_plainSpan 16 = .ok (.goto 4, 3) := by decide +kernel
theorem dX3_plainSpan_19 : decode cX3_plainSpan 19 = .ok (.iconst 1, 1) := by decide +kernel
theorem dX3_plainSpan_20 : decode cX3_plainSpan 20 = .ok (.invokevirtual 125, 3) := by decide +kernel
theorem dX3_plainSpan_23 : decode cX3_plainSpan 23 = .ok (.ifCond .eq 5, 3) := by decide +kernel
theorem dX3_plainSpan_26 : decode cX3_plainSpan 26 = .ok (.lconst 0, 1) := by decide +kernel
theorem dX3_plainSpan_27 : decode cX3_plainSpan 27 = .ok (.lreturn, 1) := by decide +kernel
theorem dX3_plainSpan_28 : decode cX3_plainSpan 28 = .ok (.aload_n 0, 1) := by decide +kernel
theorem dX3_plainSpan_29 : decode cX3_plainSpan 29 = .ok (.iload_n 1, 1) := by decide +kernel
theorem dX3_plainSpan_30 : decode cX3_plainSpan 30 = .ok (.invokevirtual 170, 3) := by decide +kernel
theorem dX3_plainSpan_33 : decode cX3_plainSpan 33 = .ok (.lstore_n 3, 1) := by decide +kernel
theorem dX3_plainSpan_34 : decode cX3_plainSpan 34 = .ok (.aload_n 0, 1) := by decide +kernel
theorem dX3_plainSpan_35 : decode cX3_plainSpan 35 = .ok (.iload_n 2, 1) := by decide +kernel
theorem dX3_plainSpan_36 : decode cX3_plainSpan 36 = .ok (.lload_n 3, 1) := by decide +kernel
theorem dX3_plainSpan_37 : decode cX3_plainSpan 37 = .ok (.ldc2_w 113, 3) := by decide +kernel
theorem dX3_plainSpan_40 : decode cX3_plainSpan 40 = .ok (.ldiv, 1) := by decide +kernel
theorem dX3_plainSpan_41 : decode cX3_plainSpan 41 = .ok (.lload_n 3, 1) := by decide +kernel
theorem dX3_plainSpan_42 : decode cX3_plainSpan 42 = .ok (.ldc2_w 113, 3) := by decide +kernel
theorem dX3_plainSpan_45 : decode cX3_plainSpan 45 = .ok (.lrem, 1) := by decide +kernel
theorem dX3_plainSpan_46 : decode cX3_plainSpan 46 = .ok (.aload_n 0, 1) := by decide +kernel
theorem dX3_plainSpan_47 : decode cX3_plainSpan 47 = .ok (.getfield 38, 3) := by decide +kernel
theorem dX3_plainSpan_50 : decode cX3_plainSpan 50 = .ok (.iload_n 1, 1) := by decide +kernel
theorem dX3_plainSpan_51 : decode cX3_plainSpan 51 = .ok (.laload, 1) := by decide +kernel
theorem dX3_plainSpan_52 : decode cX3_plainSpan 52 = .ok (.iconst 2, 1) := by decide +kernel
theorem dX3_plainSpan_53 : decode cX3_plainSpan 53 = .ok (.invokevirtual 177, 3) := by decide +kernel
theorem dX3_plainSpan_56 : decode cX3_plainSpan 56 = .ok (.lreturn, 1) := by decide +kernel
set_option maxRecDepth 20000 in
theorem ggX3_monthMany_X3_floor : GoodIn wsX3_monthMany wsX3_floor := goodIn_r _ [6] (by decide +kernel) (by decide +kernel)
set_option maxRecDepth 20000 in
theorem gX3_monthMany_X3_floor : GoodIn wsX3_monthMany (va_wsS RX3 46 yX3_floor wsX3_floor) := goodIn_app (goodIn_of _ (by decide +kernel)) ggX3_monthMany_X3_floor
set_option maxRecDepth 20000 in
theorem ggX3_monthMany_X3_rest : GoodIn wsX3_monthMany wsX3_rest := goodIn_r _ [9, 3, 4, 5, 6] (by decide +kernel) (by decide +kernel)
set_option maxRecDepth 20000 in
theorem gX3_monthMany_X3_rest : GoodIn wsX3_monthMany (va_wsS RX3 52 yX3_rest wsX3_rest) := goodIn_app (goodIn_of _ (by decide +kernel)) ggX3_monthMany_X3_rest
set_option maxRecDepth 20000 in
theorem ggX3_monthMany_X3_many : GoodIn wsX3_monthMany wsX3_many := goodIn_r _ [12, 13, 14, 5, 15, 16, 17, 18, 7, 8, 9, 3, 4, 6] (by decide +kernel) (by decide +kernel)
set_option maxRecDepth 20000 in
theorem gX3_monthMany_X3_many : GoodIn wsX3_monthMany (va_wsS RX3 80 yX3_many wsX3_many) := goodIn_app (goodIn_of _ (by decide +kernel)) ggX3_monthMany_X3_many
theorem dX3_monthMany_0 : decode cX3_monthMany 0 = .ok (.aload_n 0, 1) := by decide +kernel
theorem dX3_monthMany_1 : decode cX3_monthMany 1 = .ok (.getfield 41, 3) := by decide +kernel
theorem dX3_monthMany_4 : decode cX3_monthMany 4 = .ok (.iload_n 1, 1) := by decide +kernel
theorem dX3_monthMany_5 : decode cX3_monthMany 5 = .ok (.laload, 1) := by decide +kernel
theorem dX3_monthMany_6 : decode cX3_monthMany 6 = .ok (.ldc2_w 113, 3) := by decide +kernel
theorem dX3_monthMany_9 : decode cX3_monthMany 9 = .ok (.invokestatic 46, 3) := by decide +kernel
theorem dX3_monthMany_12 : decode cX3_monthMany 12 = .ok (.iconst 1, 1) := by decide +kernel
theorem dX3_monthMany_13 : decode cX3_monthMany 13 = .ok (.aload_n 0, 1) := by decide +kernel
theorem dX3_monthMany_14 : decode cX3_monthMany 14 = .ok (.getfield 41, 3) := by decide +kernel
theorem dX3_monthMany_17 : decode cX3_monthMany 17 = .ok (.iload_n 1, 1) := by decide +kernel
theorem dX3_monthMany_18 : decode cX3_monthMany 18 = .ok (.laload, 1) := by decide +kernel
theorem dX3_monthMany_19 : decode cX3_monthMany 19 = .ok (.ldc2_w 113, 3) := by decide +kernel
theorem dX3_monthMany_22 : decode cX3_monthMany 22 = .ok (.invokestatic 52, 3) := by decide +kernel
theorem dX3_monthMany_25 : decode cX3_monthMany 25 = .ok (.l2i, 1) := by decide +kernel
theorem dX3_monthMany_26 : decode cX3_monthMany 26 = .ok (.iadd, 1) := by decide +kernel
theorem dX3_monthMany_27 : decode cX3_monthMany 27 = .ok (.invokestatic 80, 3) := by decide +kernel
theorem dX3_monthMany_30 : decode cX3_monthMany 30 = .ok (.ireturn, 1) := by decide +kernel
set_option maxRecDepth 20000 in
theorem ggX3_month_X3_isSlot : GoodIn wsX3_month wsX3_isSlot := goodIn_r _ [6, 7, 8, 9, 5, 10] (by decide +kernel) (by decide +kernel)
set_option maxRecDepth 20000 in
theorem gX3_month_X3_isSlot : GoodIn wsX3_month (va_wsS RX3 174 yX3_isSlot wsX3_isSlot) := goodIn_app (goodIn_of _ (by decide +kernel)) ggX3_month_X3_isSlot
set_option maxRecDepth 20000 in
theorem ggX3_month_X3_isYear : GoodIn wsX3_month wsX3_isYear := goodIn_r _ [13, 14, 15, 8, 9, 5, 10] (by decide +kernel) (by decide +kernel)
set_option maxRecDepth 20000 in
theorem gX3_month_X3_isYear : GoodIn wsX3_month (va_wsS RX3 108 yX3_isYear wsX3_isYear) := goodIn_app (goodIn_of _ (by decide +kernel)) ggX3_month_X3_isYear
set_option maxRecDepth 20000 in
theorem ggX3_month_X3_in : GoodIn wsX3_month wsX3_in := goodIn_r _ [10] (by decide +kernel) (by decide +kernel)
set_option maxRecDepth 20000 in
theorem gX3_month_X3_in : GoodIn wsX3_month (va_wsS RX3 100 yX3_in wsX3_in) := goodIn_app (goodIn_of _ (by decide +kernel)) ggX3_month_X3_in
set_option maxRecDepth 20000 in
theorem ggX3_month_X3_fails : GoodIn wsX3_month wsX3_fails := goodIn_r _ [19, 20, 40, 41, 42, 43, 44, 45, 46, 47, 48, 49, 50, 51, 52, 53] (by decide +kernel) (by decide +kernel)
set_option maxRecDepth 20000 in
theorem gX3_month_X3_fails : GoodIn wsX3_month (wsV RX3 125 RX3 yX3_fails wsX3_fails) := goodIn_app (goodIn_of _ (by decide +kernel)) ggX3_month_X3_fails
set_option maxRecDepth 20000 in
theorem ggX3_month_X3_monthMany : GoodIn wsX3_month wsX3_monthMany := goodIn_ca (goodIn_r _ [24, 2, 1, 25, 26, 5, 27, 28, 29, 30, 31, 32, 33, 34, 35, 36, 37, 38, 39, 40, 41, 42, 43, 44, 45, 46, 47, 48, 49, 50, 51, 52, 53] (by decide +kernel) (by decide +kernel)) (goodIn_sub (fun _ h => List.mem_cons_of_mem _ (List.mem_append_right _ h)) (by decide +kernel))
set_option maxRecDepth 20000 in
theorem gX3_month_X3_monthMany : GoodIn wsX3_month (wsV RX3 185 RX3 yX3_monthMany wsX3_monthMany) := goodIn_app (goodIn_of _ (by decide +kernel)) ggX3_month_X3_monthMany
theorem dX3_month_0 : decode cX3_month 0 = .ok (.aload_n 0, 1) := by decide +kernel
theorem dX3_month_1 : decode cX3_month 1 = .ok (.iload_n 1, 1) := by decide +kernel
theorem dX3_month_2 : decode cX3_month 2 = .ok (.invokestatic 174, 3) := by decide +kernel
theorem dX3_month_5 : decode cX3_month 5 = .ok (.ifCond .ne 7, 3) := by decide +kernel
theorem dX3_month_8 : decode cX3_month 8 = .ok (.iconst 1, 1) := by decide +kernel
theorem dX3_month_9 : decode cX3_month 9 = .ok (.goto 28, 3) := by decide +kernel
theorem dX3_month_12 : decode cX3_month 12 = .ok (.iload_n 2, 1) := by decide +kernel
theorem dX3_month_13 : decode cX3_month 13 = .ok (.i2l, 1) := by decide +kernel
theorem dX3_month_14 : decode cX3_month 14 = .ok (.invokestatic 108, 3) := by decide +kernel
theorem dX3_month_17 : decode cX3_month 17 = .ok (.ifCond .eq 19, 3) := by decide +kernel
theorem dX3_month_20 : decode cX3_month 20 = .ok (.iload_n 3, 1) := by decide +kernel
theorem dX3_month_21 : decode cX3_month 21 = .ok (.i2l, 1) := by decide +kernel
theorem dX3_month_22 : decode cX3_month 22 = .ok (.lconst 1, 1) := by decide +kernel
theorem dX3_month_23 : decode cX3_month 23 = .ok (.ldc2_w 113, 3) := by decide +kernel
theorem dX3_month_26 : decode cX3_month 26 = .ok (.invokestatic 100, 3) := by decide +kernel
theorem dX3_month_29 : decode cX3_month 29 = .ok (.ifCond .eq 7, 3) := by decide +kernel
theorem dX3_month_32 : decode cX3_month 32 = .ok (.iconst 0, 1) := by decide +kernel
theorem dX3_month_33 : decode cX3_month 33 = .ok (.goto 4, 3) := by decide +kernel
theorem dX3_month_36 : decode cX3_month 36 = .ok (.iconst 2, 1) := by decide +kernel
theorem dX3_month_37 : decode cX3_month 37 = .ok (.invokevirtual 125, 3) := by decide +kernel
theorem dX3_month_40 : decode cX3_month 40 = .ok (.ifCond .eq 5, 3) := by decide +kernel
theorem dX3_month_43 : decode cX3_month 43 = .ok (.iconst 0, 1) := by decide +kernel
theorem dX3_month_44 : decode cX3_month 44 = .ok (.ireturn, 1) := by decide +kernel
theorem dX3_month_45 : decode cX3_month 45 = .ok (.aload_n 0, 1) := by decide +kernel
theorem dX3_month_46 : decode cX3_month 46 = .ok (.getfield 41, 3) := by decide +kernel
theorem dX3_month_49 : decode cX3_month 49 = .ok (.iload_n 1, 1) := by decide +kernel
theorem dX3_month_50 : decode cX3_month 50 = .ok (.ldc2_w 113, 3) := by decide +kernel
theorem dX3_month_53 : decode cX3_month 53 = .ok (.iload_n 2, 1) := by decide +kernel
theorem dX3_month_54 : decode cX3_month 54 = .ok (.i2l, 1) := by decide +kernel
theorem dX3_month_55 : decode cX3_month 55 = .ok (.lmul, 1) := by decide +kernel
theorem dX3_month_56 : decode cX3_month 56 = .ok (.iload_n 3, 1) := by decide +kernel
theorem dX3_month_57 : decode cX3_month 57 = .ok (.i2l, 1) := by decide +kernel
theorem dX3_month_58 : decode cX3_month 58 = .ok (.ladd, 1) := by decide +kernel
theorem dX3_month_59 : decode cX3_month 59 = .ok (.lconst 1, 1) := by decide +kernel
theorem dX3_month_60 : decode cX3_month 60 = .ok (.lsub, 1) := by decide +kernel
theorem dX3_month_61 : decode cX3_month 61 = .ok (.lastore, 1) := by decide +kernel
theorem dX3_month_62 : decode cX3_month 62 = .ok (.aload_n 0, 1) := by decide +kernel
theorem dX3_month_63 : decode cX3_month 63 = .ok (.iload_n 1, 1) := by decide +kernel
theorem dX3_month_64 : decode cX3_month 64 = .ok (.invokevirtual 185, 3) := by decide +kernel
theorem dX3_month_67 : decode cX3_month 67 = .ok (.ireturn, 1) := by decide +kernel
set_option maxRecDepth 20000 in
theorem ggX3_moveMonth_X3_isSlot : GoodIn wsX3_moveMonth wsX3_isSlot := goodIn_r _ [8, 9, 10, 11, 7, 12] (by decide +kernel) (by decide +kernel)
set_option maxRecDepth 20000 in
theorem gX3_moveMonth_X3_isSlot : GoodIn wsX3_moveMonth (va_wsS RX3 174 yX3_isSlot wsX3_isSlot) := goodIn_app (goodIn_of _ (by decide +kernel)) ggX3_moveMonth_X3_isSlot
set_option maxRecDepth 20000 in
theorem ggX3_moveMonth_X3_in : GoodIn wsX3_moveMonth wsX3_in := goodIn_r _ [12] (by decide +kernel) (by decide +kernel)
set_option maxRecDepth 20000 in
theorem gX3_moveMonth_X3_in : GoodIn wsX3_moveMonth (va_wsS RX3 100 yX3_in wsX3_in) := goodIn_app (goodIn_of _ (by decide +kernel)) ggX3_moveMonth_X3_in
set_option maxRecDepth 20000 in
theorem ggX3_moveMonth_X3_fails : GoodIn wsX3_moveMonth wsX3_fails := goodIn_r _ [16, 17, 42, 43, 44, 45, 46, 47, 48, 49, 50, 51, 52, 53, 54, 55] (by decide +kernel) (by decide +kernel)
set_option maxRecDepth 20000 in
theorem gX3_moveMonth_X3_fails : GoodIn wsX3_moveMonth (wsV RX3 125 RX3 yX3_fails wsX3_fails) := goodIn_app (goodIn_of _ (by decide +kernel)) ggX3_moveMonth_X3_fails
set_option maxRecDepth 20000 in
theorem ggX3_moveMonth_X3_floor : GoodIn wsX3_moveMonth wsX3_floor := goodIn_r _ [20] (by decide +kernel) (by decide +kernel)
set_option maxRecDepth 20000 in
theorem gX3_moveMonth_X3_floor : GoodIn wsX3_moveMonth (va_wsS RX3 46 yX3_floor wsX3_floor) := goodIn_app (goodIn_of _ (by decide +kernel)) ggX3_moveMonth_X3_floor
set_option maxRecDepth 20000 in
theorem ggX3_moveMonth_X3_isYear : GoodIn wsX3_moveMonth wsX3_isYear := goodIn_r _ [23, 24, 25, 10, 11, 7, 12] (by decide +kernel) (by decide +kernel)
set_option maxRecDepth 20000 in
theorem gX3_moveMonth_X3_isYear : GoodIn wsX3_moveMonth (va_wsS RX3 108 yX3_isYear wsX3_isYear) := goodIn_app (goodIn_of _ (by decide +kernel)) ggX3_moveMonth_X3_isYear
set_option maxRecDepth 20000 in
theorem ggX3_moveMonth_X3_monthMany : GoodIn wsX3_moveMonth wsX3_monthMany := goodIn_ca (goodIn_r _ [29, 3, 4, 18, 19, 7, 20, 30, 31, 32, 33, 34, 35, 36, 37, 38, 39, 40, 41, 42, 43, 44, 45, 46, 47, 48, 49, 50, 51, 52, 53, 54, 55] (by decide +kernel) (by decide +kernel)) (goodIn_sub (fun _ h => List.mem_cons_of_mem _ (List.mem_append_right _ h)) (by decide +kernel))
set_option maxRecDepth 20000 in
theorem gX3_moveMonth_X3_monthMany : GoodIn wsX3_moveMonth (wsV RX3 185 RX3 yX3_monthMany wsX3_monthMany) := goodIn_app (goodIn_of _ (by decide +kernel)) ggX3_moveMonth_X3_monthMany
theorem dX3_moveMonth_0 : decode cX3_moveMonth 0 = .ok (.aload_n 0, 1) := by decide +kernel
theorem dX3_moveMonth_1 : decode cX3_moveMonth 1 = .ok (.iload_n 1, 1) := by decide +kernel
theorem dX3_moveMonth_2 : decode cX3_moveMonth 2 = .ok (.invokestatic 174, 3) := by decide +kernel
theorem dX3_moveMonth_5 : decode cX3_moveMonth 5 = .ok (.ifCond .eq 11, 3) := by decide +kernel
theorem dX3_moveMonth_8 : decode cX3_moveMonth 8 = .ok (.iload 4, 2) := by decide +kernel
theorem dX3_moveMonth_10 : decode cX3_moveMonth 10 = .ok (.invokestatic 174, 3) := by decide +kernel
theorem dX3_moveMonth_13 : decode cX3_moveMonth 13 = .ok (.ifCond .ne 7, 3) := by decide +kernel
theorem dX3_moveMonth_16 : decode cX3_moveMonth 16 = .ok (.iconst 1, 1) := by decide +kernel
theorem dX3_moveMonth_17 : decode cX3_moveMonth 17 = .ok (.goto 34, 3) := by decide +kernel
theorem dX3_moveMonth_20 : decode cX3_moveMonth 20 = .ok (.iload_n 2, 1) := by decide +kernel
theorem dX3_moveMonth_21 : decode cX3_moveMonth 21 = .ok (.bipush 109, 2) := by decide +kernel
theorem dX3_moveMonth_23 : decode cX3_moveMonth 23 = .ok (.if_icmp .eq 9, 3) := by decide +kernel
theorem dX3_moveMonth_26 : decode cX3_moveMonth 26 = .ok (.iload_n 2, 1) := by decide +kernel
theorem dX3_moveMonth_27 : decode cX3_moveMonth 27 = .ok (.bipush 121, 2) := by decide +kernel
theorem dX3_moveMonth_29 : decode cX3_moveMonth 29 = .ok (.if_icmp .ne 21, 3) := by decide +kernel
theorem dX3_moveMonth_32 : decode cX3_moveMonth 32 = .ok (.iload_n 3, 1) := by decide +kernel
theorem dX3_moveMonth_33 : decode cX3_moveMonth 33 = .ok (.i2l, 1) := by decide +kernel
theorem dX3_moveMonth_34 : decode cX3_moveMonth 34 = .ok (.ldc2_w 144, 3) := by decide +kernel
theorem dX3_moveMonth_37 : decode cX3_moveMonth 37 = .ok (.ldc2_w 146, 3) := by decide +kernel
theorem dX3_moveMonth_40 : decode cX3_moveMonth 40 = .ok (.invokestatic 100, 3) := by decide +kernel
theorem dX3_moveMonth_43 : decode cX3_moveMonth 43 = .ok (.ifCond .eq 7, 3) := by decide +kernel
theorem dX3_moveMonth_46 : decode cX3_moveMonth 46 = .ok (.iconst 0, 1) := by decide +kernel
theorem dX3_moveMonth_47 : decode cX3_moveMonth 47 = .ok (.goto 4, 3) := by decide +kernel
theorem dX3_moveMonth_50 : decode cX3_moveMonth 50 = .ok (.iconst 2, 1) := by decide +kernel
theorem dX3_moveMonth_51 : decode cX3_moveMonth 51 = .ok (.invokevirtual 125, 3) := by decide +kernel
theorem dX3_moveMonth_54 : decode cX3_moveMonth 54 = .ok (.ifCond .eq 5, 3) := by decide +kernel
theorem dX3_moveMonth_57 : decode cX3_moveMonth 57 = .ok (.iconst 0, 1) := by decide +kernel
theorem dX3_moveMonth_58 : decode cX3_moveMonth 58 = .ok (.ireturn, 1) := by decide +kernel
theorem dX3_moveMonth_59 : decode cX3_moveMonth 59 = .ok (.aload_n 0, 1) := by decide +kernel
theorem dX3_moveMonth_60 : decode cX3_moveMonth 60 = .ok (.getfield 41, 3) := by decide +kernel
theorem dX3_moveMonth_63 : decode cX3_moveMonth 63 = .ok (.iload_n 1, 1) := by decide +kernel
theorem dX3_moveMonth_64 : decode cX3_moveMonth 64 = .ok (.laload, 1) := by decide +kernel
theorem dX3_moveMonth_65 : decode cX3_moveMonth 65 = .ok (.iload_n 2, 1) := by decide +kernel
theorem dX3_moveMonth_66 : decode cX3_moveMonth 66 = .ok (.bipush 109, 2) := by decide +kernel
theorem dX3_moveMonth_68 : decode cX3_moveMonth 68 = .ok (.if_icmp .ne 7, 3) := by decide +kernel
theorem dX3_moveMonth_71 : decode cX3_moveMonth 71 = .ok (.lconst 1, 1) := by decide +kernel
theorem dX3_moveMonth_72 : decode cX3_moveMonth 72 = .ok (.goto 6, 3) := by decide +kernel
theorem dX3_moveMonth_75 : decode cX3_moveMonth 75 = .ok (.ldc2_w 113, 3) := by decide +kernel
theorem dX3_moveMonth_78 : decode cX3_moveMonth 78 = .ok (.iload_n 3, 1) := by decide +kernel
theorem dX3_moveMonth_79 : decode cX3_moveMonth 79 = .ok (.i2l, 1) := by decide +kernel
theorem dX3_moveMonth_80 : decode cX3_moveMonth 80 = .ok (.lmul, 1) := by decide +kernel
theorem dX3_moveMonth_81 : decode cX3_moveMonth 81 = .ok (.ladd, 1) := by decide +kernel
theorem dX3_moveMonth_82 : decode cX3_moveMonth 82 = .ok (.lstore 5, 2) := by decide +kernel
theorem dX3_moveMonth_84 : decode cX3_moveMonth 84 = .ok (.aload_n 0, 1) := by decide +kernel
theorem dX3_moveMonth_85 : decode cX3_moveMonth 85 = .ok (.lload 5, 2) := by decide +kernel
theorem dX3_moveMonth_87 : decode cX3_moveMonth 87 = .ok (.ldc2_w 113, 3) := by decide +kernel
theorem dX3_moveMonth_90 : decode cX3_moveMonth 90 = .ok (.invokestatic 46, 3) := by decide +kernel
theorem dX3_moveMonth_93 : decode cX3_moveMonth 93 = .ok (.invokestatic 108, 3) := by decide +kernel
theorem dX3_moveMonth_96 : decode cX3_moveMonth 96 = .ok (.ifCond .eq 7, 3) := by decide +kernel
theorem dX3_moveMonth_99 : decode cX3_moveMonth 99 = .ok (.iconst 0, 1) := by decide +kernel
theorem dX3_moveMonth_100 : decode cX3_moveMonth 100 = .ok (.goto 4, 3) := by decide +kernel
theorem dX3_moveMonth_103 : decode cX3_moveMonth 103 = .ok (.iconst 3, 1) := by decide +kernel
theorem dX3_moveMonth_104 : decode cX3_moveMonth 104 = .ok (.invokevirtual 125, 3) := by decide +kernel
theorem dX3_moveMonth_107 : decode cX3_moveMonth 107 = .ok (.ifCond .eq 5, 3) := by decide +kernel
theorem dX3_moveMonth_110 : decode cX3_moveMonth 110 = .ok (.iconst 0, 1) := by decide +kernel
theorem dX3_moveMonth_111 : decode cX3_moveMonth 111 = .ok (.ireturn, 1) := by decide +kernel
theorem dX3_moveMonth_112 : decode cX3_moveMonth 112 = .ok (.aload_n 0, 1) := by decide +kernel
theorem dX3_moveMonth_113 : decode cX3_moveMonth 113 = .ok (.getfield 41, 3) := by decide +kernel
theorem dX3_moveMonth_116 : decode cX3_moveMonth 116 = .ok (.iload 4, 2) := by decide +kernel
theorem dX3_moveMonth_118 : decode cX3_moveMonth 118 = .ok (.lload 5, 2) := by decide +kernel
theorem dX3_moveMonth_120 : decode cX3_moveMonth 120 = .ok (.lastore, 1) := by decide +kernel
theorem dX3_moveMonth_121 : decode cX3_moveMonth 121 = .ok (.aload_n 0, 1) := by decide +kernel
theorem dX3_moveMonth_122 : decode cX3_moveMonth 122 = .ok (.iload 4, 2) := by decide +kernel
theorem dX3_moveMonth_124 : decode cX3_moveMonth 124 = .ok (.invokevirtual 185, 3) := by decide +kernel
theorem dX3_moveMonth_127 : decode cX3_moveMonth 127 = .ok (.ireturn, 1) := by decide +kernel
set_option maxRecDepth 20000 in
theorem ggX3_monthPart_X3_isSlot : GoodIn wsX3_monthPart wsX3_isSlot := goodIn_r _ [6, 7, 8, 9, 5, 10] (by decide +kernel) (by decide +kernel)
set_option maxRecDepth 20000 in
theorem gX3_monthPart_X3_isSlot : GoodIn wsX3_monthPart (va_wsS RX3 174 yX3_isSlot wsX3_isSlot) := goodIn_app (goodIn_of _ (by decide +kernel)) ggX3_monthPart_X3_isSlot
set_option maxRecDepth 20000 in
theorem ggX3_monthPart_X3_fails : GoodIn wsX3_monthPart wsX3_fails := goodIn_r _ [14, 15, 35, 36, 37, 38, 39, 40, 41, 42, 43, 44, 45, 46, 47, 48] (by decide +kernel) (by decide +kernel)
set_option maxRecDepth 20000 in
theorem gX3_monthPart_X3_fails : GoodIn wsX3_monthPart (wsV RX3 125 RX3 yX3_fails wsX3_fails) := goodIn_app (goodIn_of _ (by decide +kernel)) ggX3_monthPart_X3_fails
set_option maxRecDepth 20000 in
theorem ggX3_monthPart_X3_floor : GoodIn wsX3_monthPart wsX3_floor := goodIn_r _ [18] (by decide +kernel) (by decide +kernel)
set_option maxRecDepth 20000 in
theorem gX3_monthPart_X3_floor : GoodIn wsX3_monthPart (va_wsS RX3 46 yX3_floor wsX3_floor) := goodIn_app (goodIn_of _ (by decide +kernel)) ggX3_monthPart_X3_floor
set_option maxRecDepth 20000 in
theorem ggX3_monthPart_X3_rest : GoodIn wsX3_monthPart wsX3_rest := goodIn_r _ [21, 16, 17, 5, 18] (by decide +kernel) (by decide +kernel)
set_option maxRecDepth 20000 in
theorem gX3_monthPart_X3_rest : GoodIn wsX3_monthPart (va_wsS RX3 52 yX3_rest wsX3_rest) := goodIn_app (goodIn_of _ (by decide +kernel)) ggX3_monthPart_X3_rest
set_option maxRecDepth 20000 in
theorem ggX3_monthPart_X3_monthMany : GoodIn wsX3_monthPart wsX3_monthMany := goodIn_ca (goodIn_r _ [25, 1, 2, 16, 17, 5, 18, 19, 20, 21, 26, 27, 28, 29, 30, 31, 32, 33, 34, 35, 36, 37, 38, 39, 40, 41, 42, 43, 44, 45, 46, 47, 48] (by decide +kernel) (by decide +kernel)) (goodIn_sub (fun _ h => List.mem_cons_of_mem _ (List.mem_append_right _ h)) (by decide +kernel))
set_option maxRecDepth 20000 in
theorem gX3_monthPart_X3_monthMany : GoodIn wsX3_monthPart (wsV RX3 185 RX3 yX3_monthMany wsX3_monthMany) := goodIn_app (goodIn_of _ (by decide +kernel)) ggX3_monthPart_X3_monthMany
set_option maxRecDepth 20000 in
theorem ggX3_monthPart_X3_isLong : GoodIn wsX3_monthPart wsX3_isLong := goodIn_r _ [31, 32, 33, 34, 19, 20, 5, 21, 16, 17, 18] (by decide +kernel) (by decide +kernel)
set_option maxRecDepth 20000 in
theorem gX3_monthPart_X3_isLong : GoodIn wsX3_monthPart (va_wsS RX3 73 yX3_isLong wsX3_isLong) := goodIn_app (goodIn_of _ (by decide +kernel)) ggX3_monthPart_X3_isLong
theorem dX3_monthPart_0 : decode cX3_monthPart 0 = .ok (.aload_n 0, 1) := by decide +kernel
theorem dX3_monthPart_1 : decode cX3_monthPart 1 = .ok (.iload_n 1, 1) := by decide +kernel
theorem dX3_monthPart_2 : decode cX3_monthPart 2 = .ok (.invokestatic 174, 3) := by decide +kernel
theorem dX3_monthPart_5 : decode cX3_monthPart 5 = .ok (.ifCond .ne 7, 3) := by decide +kernel
theorem dX3_monthPart_8 : decode cX3_monthPart 8 = .ok (.iconst 1, 1) := by decide +kernel
theorem dX3_monthPart_9 : decode cX3_monthPart 9 = .ok (.goto 32, 3) := by decide +kernel
theorem dX3_monthPart_12 : decode cX3_monthPart 12 = .ok (.iload_n 2, 1) := by decide +kernel
theorem dX3_monthPart_13 : decode cX3_monthPart 13 = .ok (.bipush 121, 2) := by decide +kernel
theorem dX3_monthPart_15 : decode cX3_monthPart 15 = .ok (.if_icmp .eq 21, 3) := by decide +kernel
theorem dX3_monthPart_18 : decode cX3_monthPart 18 = .ok (.iload_n 2, 1) := by decide +kernel
theorem dX3_monthPart_19 : decode cX3_monthPart 19 = .ok (.bipush 109, 2) := by decide +kernel
theorem dX3_monthPart_21 : decode cX3_monthPart 21 = .ok (.if_icmp .eq 15, 3) := by decide +kernel
theorem dX3_monthPart_24 : decode cX3_monthPart 24 = .ok (.iload_n 2, 1) := by decide +kernel
theorem dX3_monthPart_25 : decode cX3_monthPart 25 = .ok (.bipush 108, 2) := by decide +kernel
theorem dX3_monthPart_27 : decode cX3_monthPart 27 = .ok (.if_icmp .eq 9, 3) := by decide +kernel
theorem dX3_monthPart_30 : decode cX3_monthPart 30 = .ok (.iload_n 2, 1) := by decide +kernel
theorem dX3_monthPart_31 : decode cX3_monthPart 31 = .ok (.bipush 76, 2) := by decide +kernel
theorem dX3_monthPart_33 : decode cX3_monthPart 33 = .ok (.if_icmp .ne 7, 3) := by decide +kernel
theorem dX3_monthPart_36 : decode cX3_monthPart 36 = .ok (.iconst 0, 1) := by decide +kernel
theorem dX3_monthPart_37 : decode cX3_monthPart 37 = .ok (.goto 4, 3) := by decide +kernel
theorem dX3_monthPart_40 : decode cX3_monthPart 40 = .ok (.iconst 2, 1) := by decide +kernel
theorem dX3_monthPart_41 : decode cX3_monthPart 41 = .ok (.invokevirtual 125, 3) := by decide +kernel
theorem dX3_monthPart_44 : decode cX3_monthPart 44 = .ok (.ifCond .eq 5, 3) := by decide +kernel
theorem dX3_monthPart_47 : decode cX3_monthPart 47 = .ok (.iconst 0, 1) := by decide +kernel
theorem dX3_monthPart_48 : decode cX3_monthPart 48 = .ok (.ireturn, 1) := by decide +kernel
theorem dX3_monthPart_49 : decode cX3_monthPart 49 = .ok (.aload_n 0, 1) := by decide +kernel
theorem dX3_monthPart_50 : decode cX3_monthPart 50 = .ok (.getfield 41, 3) := by decide +kernel
theorem dX3_monthPart_53 : decode cX3_monthPart 53 = .ok (.iload_n 1, 1) := by decide +kernel
theorem dX3_monthPart_54 : decode cX3_monthPart 54 = .ok (.laload, 1) := by decide +kernel
theorem dX3_monthPart_55 : decode cX3_monthPart 55 = .ok (.ldc2_w 113, 3) := by decide +kernel
theorem dX3_monthPart_58 : decode cX3_monthPart 58 = .ok (.invokestatic 46, 3) := by decide +kernel
theorem dX3_monthPart_61 : decode cX3_monthPart 61 = .ok (.lstore_n 3, 1) := by decide +kernel
theorem dX3_monthPart_62 : decode cX3_monthPart 62 = .ok (.iload_n 2, 1) := by decide +kernel
theorem dX3_monthPart_63 : decode cX3_monthPart 63 = .ok (.bipush 121, 2) := by decide +kernel
theorem dX3_monthPart_65 : decode cX3_monthPart 65 = .ok (.if_icmp .ne 8, 3) := by decide +kernel
theorem dX3_monthPart_68 : decode cX3_monthPart 68 = .ok (.lload_n 3, 1) := by decide +kernel
theorem dX3_monthPart_69 : decode cX3_monthPart 69 = .ok (.l2i, 1) := by decide +kernel
theorem dX3_monthPart_70 : decode cX3_monthPart 70 = .ok (.goto 57, 3) := by decide +kernel
theorem dX3_monthPart_73 : decode cX3_monthPart 73 = .ok (.iload_n 2, 1) := by decide +kernel
theorem dX3_monthPart_74 : decode cX3_monthPart 74 = .ok (.bipush 109, 2) := by decide +kernel
theorem dX3_monthPart_76 : decode cX3_monthPart 76 = .ok (.if_icmp .ne 21, 3) := by decide +kernel
theorem dX3_monthPart_79 : decode cX3_monthPart 79 = .ok (.iconst 1, 1) := by decide +kernel
theorem dX3_monthPart_80 : decode cX3_monthPart 80 = .ok (.aload_n 0, 1) := by decide +kernel
theorem dX3_monthPart_81 : decode cX3_monthPart 81 = .ok (.getfield 41, 3) := by decide +kernel
theorem dX3_monthPart_84 : decode cX3_monthPart 84 = .ok (.iload_n 1, 1) := by decide +kernel
theorem dX3_monthPart_85 : decode cX3_monthPart 85 = .ok (.laload, 1) := by decide +kernel
theorem dX3_monthPart_86 : decode cX3_monthPart 86 = .ok (.ldc2_w 113, 3) := by decide +kernel
theorem dX3_monthPart_89 : decode cX3_monthPart 89 = .ok (.invokestatic 52, 3) := by decide +kernel
theorem dX3_monthPart_92 : decode cX3_monthPart 92 = .ok (.l2i, 1) := by decide +kernel
theorem dX3_monthPart_93 : decode cX3_monthPart 93 = .ok (.iadd, 1) := by decide +kernel
theorem dX3_monthPart_94 : decode cX3_monthPart 94 = .ok (.goto 33, 3) := by decide +kernel
theorem dX3_monthPart_97 : decode cX3_monthPart 97 = .ok (.iload_n 2, 1) := by decide +kernel
theorem dX3_monthPart_98 : decode cX3_monthPart 98 = .ok (.bipush 108, 2) := by decide +kernel
theorem dX3_monthPart_100 : decode cX3_monthPart 100 = .ok (.if_icmp .ne 11, 3) := by decide +kernel
theorem dX3_monthPart_103 : decode cX3_monthPart 103 = .ok (.aload_n 0, 1) := by decide +kernel
theorem dX3_monthPart_104 : decode cX3_monthPart 104 = .ok (.iload_n 1, 1) := by decide +kernel
theorem dX3_monthPart_105 : decode cX3_monthPart 105 = .ok (.invokevirtual 185, 3) := by decide +kernel
theorem dX3_monthPart_108 : decode cX3_monthPart 108 = .ok (.goto 19, 3) := by decide +kernel
theorem dX3_monthPart_111 : decode cX3_monthPart 111 = .ok (.lload_n 3, 1) := by decide +kernel
theorem dX3_monthPart_112 : decode cX3_monthPart 112 = .ok (.invokestatic 73, 3) := by decide +kernel
theorem dX3_monthPart_115 : decode cX3_monthPart 115 = .ok (.ifCond .eq 9, 3) := by decide +kernel
theorem dX3_monthPart_118 : decode cX3_monthPart 118 = .ok (.sipush 366, 3) := by decide +kernel
theorem dX3_monthPart_121 : decode cX3_monthPart 121 = .ok (.goto 6, 3) := by decide +kernel
theorem dX3_monthPart_124 : decode cX3_monthPart 124 = .ok (.sipush 365, 3) := by decide +kernel
theorem dX3_monthPart_127 : decode cX3_monthPart 127 = .ok (.ireturn, 1) := by decide +kernel
set_option maxRecDepth 20000 in
theorem ggX3_atDay_X3_isSlot : GoodIn wsX3_atDay wsX3_isSlot := goodIn_r _ [7, 8, 9, 10, 6, 11] (by decide +kernel) (by decide +kernel)
set_option maxRecDepth 20000 in
theorem gX3_atDay_X3_isSlot : GoodIn wsX3_atDay (va_wsS RX3 174 yX3_isSlot wsX3_isSlot) := goodIn_app (goodIn_of _ (by decide +kernel)) ggX3_atDay_X3_isSlot
set_option maxRecDepth 20000 in
theorem ggX3_atDay_X3_isDate : GoodIn wsX3_atDay wsX3_isDate := goodIn_r _ [14, 15, 9, 10, 6, 11] (by decide +kernel) (by decide +kernel)
set_option maxRecDepth 20000 in
theorem gX3_atDay_X3_isDate : GoodIn wsX3_atDay (va_wsS RX3 121 yX3_isDate wsX3_isDate) := goodIn_app (goodIn_of _ (by decide +kernel)) ggX3_atDay_X3_isDate
set_option maxRecDepth 20000 in
theorem ggX3_atDay_X3_monthMany : GoodIn wsX3_atDay wsX3_monthMany := goodIn_ca (goodIn_r _ [19, 2, 3, 20, 21, 6, 22, 23, 24, 25, 26, 27, 28, 29, 30, 31, 32, 33, 34, 53, 54, 55, 56, 57, 58, 59, 60, 61, 62, 63, 64, 65, 66] (by decide +kernel) (by decide +kernel)) (goodIn_sub (fun _ h => List.mem_cons_of_mem _ (List.mem_append_right _ h)) (by decide +kernel))
set_option maxRecDepth 20000 in
theorem gX3_atDay_X3_monthMany : GoodIn wsX3_atDay (wsV RX3 185 RX3 yX3_monthMany wsX3_monthMany) := goodIn_app (goodIn_of _ (by decide +kernel)) ggX3_atDay_X3_monthMany
set_option maxRecDepth 20000 in
theorem ggX3_atDay_X3_in : GoodIn wsX3_atDay wsX3_in := goodIn_r _ [11] (by decide +kernel) (by decide +kernel)
set_option maxRecDepth 20000 in
theorem gX3_atDay_X3_in : GoodIn wsX3_atDay (va_wsS RX3 100 yX3_in wsX3_in) := goodIn_app (goodIn_of _ (by decide +kernel)) ggX3_atDay_X3_in
set_option maxRecDepth 20000 in
theorem ggX3_atDay_X3_fails : GoodIn wsX3_atDay wsX3_fails := goodIn_r _ [38, 39, 53, 54, 55, 56, 57, 58, 59, 60, 61, 62, 63, 64, 65, 66] (by decide +kernel) (by decide +kernel)
set_option maxRecDepth 20000 in
theorem gX3_atDay_X3_fails : GoodIn wsX3_atDay (wsV RX3 125 RX3 yX3_fails wsX3_fails) := goodIn_app (goodIn_of _ (by decide +kernel)) ggX3_atDay_X3_fails
set_option maxRecDepth 20000 in
theorem ggX3_atDay_X3_floor : GoodIn wsX3_atDay wsX3_floor := goodIn_r _ [22] (by decide +kernel) (by decide +kernel)
set_option maxRecDepth 20000 in
theorem gX3_atDay_X3_floor : GoodIn wsX3_atDay (va_wsS RX3 46 yX3_floor wsX3_floor) := goodIn_app (goodIn_of _ (by decide +kernel)) ggX3_atDay_X3_floor
set_option maxRecDepth 20000 in
theorem ggX3_atDay_X3_rest : GoodIn wsX3_atDay wsX3_rest := goodIn_r _ [25, 20, 21, 6, 22] (by decide +kernel) (by decide +kernel)
set_option maxRecDepth 20000 in
theorem gX3_atDay_X3_rest : GoodIn wsX3_atDay (va_wsS RX3 52 yX3_rest wsX3_rest) := goodIn_app (goodIn_of _ (by decide +kernel)) ggX3_atDay_X3_rest
set_option maxRecDepth 20000 in
theorem ggX3_atDay_X3_number : GoodIn wsX3_atDay wsX3_number := goodIn_r _ [42, 43, 44, 6, 45, 46, 47, 48, 49, 50, 8, 32, 51, 33, 52, 34, 20, 21, 22, 26, 27, 28, 29, 30, 31, 23, 24, 25] (by decide +kernel) (by decide +kernel)
set_option maxRecDepth 20000 in
theorem gX3_atDay_X3_number : GoodIn wsX3_atDay (va_wsS RX3 115 yX3_number wsX3_number) := goodIn_app (goodIn_of _ (by decide +kernel)) ggX3_atDay_X3_number
theorem dX3_atDay_0 : decode cX3_atDay 0 = .ok (.aload_n 0, 1) := by decide +kernel
theorem dX3_atDay_1 : decode cX3_atDay 1 = .ok (.iload_n 1, 1) := by decide +kernel
theorem dX3_atDay_2 : decode cX3_atDay 2 = .ok (.invokestatic 174, 3) := by decide +kernel
theorem dX3_atDay_5 : decode cX3_atDay 5 = .ok (.ifCond .eq 10, 3) := by decide +kernel
theorem dX3_atDay_8 : decode cX3_atDay 8 = .ok (.iload_n 3, 1) := by decide +kernel
theorem dX3_atDay_9 : decode cX3_atDay 9 = .ok (.invokestatic 121, 3) := by decide +kernel
theorem dX3_atDay_12 : decode cX3_atDay 12 = .ok (.ifCond .ne 7, 3) := by decide +kernel
theorem dX3_atDay_15 : decode cX3_atDay 15 = .ok (.iconst 1, 1) := by decide +kernel
theorem dX3_atDay_16 : decode cX3_atDay 16 = .ok (.goto 23, 3) := by decide +kernel
theorem dX3_atDay_19 : decode cX3_atDay 19 = .ok (.iload_n 2, 1) := by decide +kernel
theorem dX3_atDay_20 : decode cX3_atDay 20 = .ok (.i2l, 1) := by decide +kernel
theorem dX3_atDay_21 : decode cX3_atDay 21 = .ok (.lconst 0, 1) := by decide +kernel
theorem dX3_atDay_22 : decode cX3_atDay 22 = .ok (.aload_n 0, 1) := by decide +kernel
theorem dX3_atDay_23 : decode cX3_atDay 23 = .ok (.iload_n 1, 1) := by decide +kernel
theorem dX3_atDay_24 : decode cX3_atDay 24 = .ok (.invokevirtual 185, 3) := by decide +kernel
theorem dX3_atDay_27 : decode cX3_atDay 27 = .ok (.i2l, 1) := by decide +kernel
theorem dX3_atDay_28 : decode cX3_atDay 28 = .ok (.invokestatic 100, 3) := by decide +kernel
theorem dX3_atDay_31 : decode cX3_atDay 31 = .ok (.ifCond .eq 7, 3) := by decide +kernel
theorem dX3_atDay_34 : decode cX3_atDay 34 = .ok (.iconst 0, 1) := by decide +kernel
theorem dX3_atDay_35 : decode cX3_atDay 35 = .ok (.goto 4, 3) := by decide +kernel
theorem dX3_atDay_38 : decode cX3_atDay 38 = .ok (.iconst 2, 1) := by decide +kernel
theorem dX3_atDay_39 : decode cX3_atDay 39 = .ok (.invokevirtual 125, 3) := by decide +kernel
theorem dX3_atDay_42 : decode cX3_atDay 42 = .ok (.ifCond .eq 5, 3) := by decide +kernel
theorem dX3_atDay_45 : decode cX3_atDay 45 = .ok (.lconst 0, 1) := by decide +kernel
theorem dX3_atDay_46 : decode cX3_atDay 46 = .ok (.lreturn, 1) := by decide +kernel
theorem dX3_atDay_47 : decode cX3_atDay 47 = .ok (.aload_n 0, 1) := by decide +kernel
theorem dX3_atDay_48 : decode cX3_atDay 48 = .ok (.getfield 13, 3) := by decide +kernel
theorem dX3_atDay_51 : decode cX3_atDay 51 = .ok (.iload_n 3, 1) := by decide +kernel
theorem dX3_atDay_52 : decode cX3_atDay 52 = .ok (.aload_n 0, 1) := by decide +kernel
theorem dX3_atDay_53 : decode cX3_atDay 53 = .ok (.getfield 41, 3) := by decide +kernel
theorem dX3_atDay_56 : decode cX3_atDay 56 = .ok (.iload_n 1, 1) := by decide +kernel
theorem dX3_atDay_57 : decode cX3_atDay 57 = .ok (.laload, 1) := by decide +kernel
theorem dX3_atDay_58 : decode cX3_atDay 58 = .ok (.ldc2_w 113, 3) := by decide +kernel
theorem dX3_atDay_61 : decode cX3_atDay 61 = .ok (.invokestatic 46, 3) := by decide +kernel
theorem dX3_atDay_64 : decode cX3_atDay 64 = .ok (.iconst 1, 1) := by decide +kernel
theorem dX3_atDay_65 : decode cX3_atDay 65 = .ok (.aload_n 0, 1) := by decide +kernel
theorem dX3_atDay_66 : decode cX3_atDay 66 = .ok (.getfield 41, 3) := by decide +kernel
theorem dX3_atDay_69 : decode cX3_atDay 69 = .ok (.iload_n 1, 1) := by decide +kernel
theorem dX3_atDay_70 : decode cX3_atDay 70 = .ok (.laload, 1) := by decide +kernel
theorem dX3_atDay_71 : decode cX3_atDay 71 = .ok (.ldc2_w 113, 3) := by decide +kernel
theorem dX3_atDay_74 : decode cX3_atDay 74 = .ok (.invokestatic 52, 3) := by decide +kernel
theorem dX3_atDay_77 : decode cX3_atDay 77 = .ok (.l2i, 1) := by decide +kernel
theorem dX3_atDay_78 : decode cX3_atDay 78 = .ok (.iadd, 1) := by decide +kernel
theorem dX3_atDay_79 : decode cX3_atDay 79 = .ok (.iload_n 2, 1) := by decide +kernel
theorem dX3_atDay_80 : decode cX3_atDay 80 = .ok (.ifCond .ne 11, 3) := by decide +kernel
theorem dX3_atDay_83 : decode cX3_atDay 83 = .ok (.aload_n 0, 1) := by decide +kernel
theorem dX3_atDay_84 : decode cX3_atDay 84 = .ok (.iload_n 1, 1) := by decide +kernel
theorem dX3_atDay_85 : decode cX3_atDay 85 = .ok (.invokevirtual 185, 3) := by decide +kernel
theorem dX3_atDay_88 : decode cX3_atDay 88 = .ok (.goto 4, 3) := by decide +kernel
theorem dX3_atDay_91 : decode cX3_atDay 91 = .ok (.iload_n 2, 1) := by decide +kernel
theorem dX3_atDay_92 : decode cX3_atDay 92 = .ok (.invokestatic 115, 3) := by decide +kernel
theorem dX3_atDay_95 : decode cX3_atDay 95 = .ok (.lastore, 1) := by decide +kernel
theorem dX3_atDay_96 : decode cX3_atDay 96 = .ok (.aload_n 0, 1) := by decide +kernel
theorem dX3_atDay_97 : decode cX3_atDay 97 = .ok (.getfield 13, 3) := by decide +kernel
theorem dX3_atDay_100 : decode cX3_atDay 100 = .ok (.iload_n 3, 1) := by decide +kernel
theorem dX3_atDay_101 : decode cX3_atDay 101 = .ok (.laload, 1) := by decide +kernel
theorem dX3_atDay_102 : decode cX3_atDay 102 = .ok (.lreturn, 1) := by decide +kernel
set_option maxRecDepth 20000 in
theorem ggX3_orderMonths_X3_isSlot : GoodIn wsX3_orderMonths wsX3_isSlot := goodIn_r _ [5, 6, 7, 8, 4, 9] (by decide +kernel) (by decide +kernel)
set_option maxRecDepth 20000 in
theorem gX3_orderMonths_X3_isSlot : GoodIn wsX3_orderMonths (va_wsS RX3 174 yX3_isSlot wsX3_isSlot) := goodIn_app (goodIn_of _ (by decide +kernel)) ggX3_orderMonths_X3_isSlot
set_option maxRecDepth 20000 in
theorem ggX3_orderMonths_X3_fails : GoodIn wsX3_orderMonths wsX3_fails := goodIn_r _ [13, 14, 18, 19, 20, 21, 22, 23, 24, 25, 26, 27, 28, 29, 30, 31] (by decide +kernel) (by decide +kernel)
set_option maxRecDepth 20000 in
theorem gX3_orderMonths_X3_fails : GoodIn wsX3_orderMonths (wsV RX3 125 RX3 yX3_fails wsX3_fails) := goodIn_app (goodIn_of _ (by decide +kernel)) ggX3_orderMonths_X3_fails
set_option maxRecDepth 20000 in
theorem ggX3_orderMonths_X3_ordered : GoodIn wsX3_orderMonths wsX3_ordered := goodIn_r _ [17] (by decide +kernel) (by decide +kernel)
set_option maxRecDepth 20000 in
theorem gX3_orderMonths_X3_ordered : GoodIn wsX3_orderMonths (va_wsS RX3 163 yX3_ordered wsX3_ordered) := goodIn_app (goodIn_of _ (by decide +kernel)) ggX3_orderMonths_X3_ordered
theorem dX3_orderMonths_0 : decode cX3_orderMonths 0 = .ok (.aload_n 0, 1) := by decide +kernel
theorem dX3_orderMonths_1 : decode cX3_orderMonths 1 = .ok (.iload_n 1, 1) := by decide +kernel
theorem dX3_orderMonths_2 : decode cX3_orderMonths 2 = .ok (.invokestatic 174, 3) := by decide +kernel
theorem dX3_orderMonths_5 : decode cX3_orderMonths 5 = .ok (.ifCond .eq 14, 3) := by decide +kernel
theorem dX3_orderMonths_8 : decode cX3_orderMonths 8 = .ok (.iload_n 2, 1) := by decide +kernel
theorem dX3_orderMonths_9 : decode cX3_orderMonths 9 = .ok (.invokestatic 174, 3) := by decide +kernel
theorem dX3_orderMonths_12 : decode cX3_orderMonths 12 = .ok (.ifCond .eq 7, 3) := by decide +kernel
theorem dX3_orderMonths_15 : decode cX3_orderMonths 15 = .ok (.iconst 0, 1) := by decide +kernel
theorem dX3_orderMonths_16 : decode cX3_orderMonths 16 = .ok (.goto 4, 3) := by decide +kernel
theorem dX3_orderMonths_19 : decode cX3_orderMonths 19 = .ok (.iconst 1, 1) := by decide +kernel
theorem dX3_orderMonths_20 : decode cX3_orderMonths 20 = .ok (.invokevirtual 125, 3) := by decide +kernel
theorem dX3_orderMonths_23 : decode cX3_orderMonths 23 = .ok (.ifCond .eq 7, 3) := by decide +kernel
theorem dX3_orderMonths_26 : decode cX3_orderMonths 26 = .ok (.iconst 0, 1) := by decide +kernel
theorem dX3_orderMonths_27 : decode cX3_orderMonths 27 = .ok (.goto 18, 3) := by decide +kernel
theorem dX3_orderMonths_30 : decode cX3_orderMonths 30 = .ok (.aload_n 0, 1) := by decide +kernel
theorem dX3_orderMonths_31 : decode cX3_orderMonths 31 = .ok (.getfield 41, 3) := by decide +kernel
theorem dX3_orderMonths_34 : decode cX3_orderMonths 34 = .ok (.iload_n 1, 1) := by decide +kernel
theorem dX3_orderMonths_35 : decode cX3_orderMonths 35 = .ok (.laload, 1) := by decide +kernel
theorem dX3_orderMonths_36 : decode cX3_orderMonths 36 = .ok (.aload_n 0, 1) := by decide +kernel
theorem dX3_orderMonths_37 : decode cX3_orderMonths 37 = .ok (.getfield 41, 3) := by decide +kernel
theorem dX3_orderMonths_40 : decode cX3_orderMonths 40 = .ok (.iload_n 2, 1) := by decide +kernel
theorem dX3_orderMonths_41 : decode cX3_orderMonths 41 = .ok (.laload, 1) := by decide +kernel
theorem dX3_orderMonths_42 : decode cX3_orderMonths 42 = .ok (.invokestatic 163, 3) := by decide +kernel
theorem dX3_orderMonths_45 : decode cX3_orderMonths 45 = .ok (.ireturn, 1) := by decide +kernel
set_option maxRecDepth 20000 in
theorem ggX3_time_X3_isSlot : GoodIn wsX3_time wsX3_isSlot := goodIn_r _ [11, 12, 13, 14, 10, 15] (by decide +kernel) (by decide +kernel)
set_option maxRecDepth 20000 in
theorem gX3_time_X3_isSlot : GoodIn wsX3_time (va_wsS RX3 174 yX3_isSlot wsX3_isSlot) := goodIn_app (goodIn_of _ (by decide +kernel)) ggX3_time_X3_isSlot
set_option maxRecDepth 20000 in
theorem ggX3_time_X3_in : GoodIn wsX3_time wsX3_in := goodIn_r _ [15] (by decide +kernel) (by decide +kernel)
set_option maxRecDepth 20000 in
theorem gX3_time_X3_in : GoodIn wsX3_time (va_wsS RX3 100 yX3_in wsX3_in) := goodIn_app (goodIn_of _ (by decide +kernel)) ggX3_time_X3_in
set_option maxRecDepth 20000 in
theorem ggX3_time_X3_fails : GoodIn wsX3_time wsX3_fails := goodIn_r _ [19, 20, 21, 22, 23, 24, 25, 26, 27, 28, 29, 30, 31, 32, 33, 34] (by decide +kernel) (by decide +kernel)
set_option maxRecDepth 20000 in
theorem gX3_time_X3_fails : GoodIn wsX3_time (wsV RX3 125 RX3 yX3_fails wsX3_fails) := goodIn_app (goodIn_of _ (by decide +kernel)) ggX3_time_X3_fails
theorem dX3_time_0 : decode cX3_time 0 = .ok (.aload_n 0, 1) := by decide +kernel
theorem dX3_time_1 : decode cX3_time 1 = .ok (.iload_n 1, 1) := by decide +kernel
theorem dX3_time_2 : decode cX3_time 2 = .ok (.invokestatic 174, 3) := by decide +kernel
theorem dX3_time_5 : decode cX3_time 5 = .ok (.ifCond .ne 7, 3) := by decide +kernel
theorem dX3_time_8 : decode cX3_time 8 = .ok (.iconst 1, 1) := by decide +kernel
theorem dX3_time_9 : decode cX3_time 9 = .ok (.goto 58, 3) := by decide +kernel
theorem dX3_time_12 : decode cX3_time 12 = .ok (.iload_n 2, 1) := by decide +kernel
theorem dX3_time_13 : decode cX3_time 13 = .ok (.i2l, 1) := by decide +kernel
theorem dX3_time_14 : decode cX3_time 14 = .ok (.lconst 0, 1) := by decide +kernel
theorem dX3_time_15 : decode cX3_time 15 = .ok (.ldc2_w 189, 3) := by decide +kernel
theorem dX3_time_18 : decode cX3_time 18 = .ok (.invokestatic 100, 3) := by decide +kernel
theorem dX3_time_21 : decode cX3_time 21 = .ok (.ifCond .eq 45, 3) := by decide +kernel
theorem dX3_time_24 : decode cX3_time 24 = .ok (.iload_n 3, 1) := by decide +kernel
theorem dX3_time_25 : decode cX3_time 25 = .ok (.i2l, 1) := by decide +kernel
theorem dX3_time_26 : decode cX3_time 26 = .ok (.lconst 0, 1) := by decide +kernel
theorem dX3_time_27 : decode cX3_time 27 = .ok (.ldc2_w 191, 3) := by decide +kernel
theorem dX3_time_30 : decode cX3_time 30 = .ok (.invokestatic 100, 3) := by decide +kernel
theorem dX3_time_33 : decode cX3_time 33 = .ok (.ifCond .eq 33, 3) := by decide +kernel
theorem dX3_time_36 : decode cX3_time 36 = .ok (.iload 4, 2) := by decide +kernel
theorem dX3_time_38 : decode cX3_time 38 = .ok (.i2l, 1) := by decide +kernel
theorem dX3_time_39 : decode cX3_time 39 = .ok (.lconst 0, 1) := by decide +kernel
theorem dX3_time_40 : decode cX3_time 40 = .ok (.ldc2_w 191, 3) := by decide +kernel
theorem dX3_time_43 : decode cX3_time 43 = .ok (.invokestatic 100, 3) := by decide +kernel
theorem dX3_time_46 : decode cX3_time 46 = .ok (.ifCond .eq 20, 3) := by decide +kernel
theorem dX3_time_49 : decode cX3_time 49 = .ok (.iload 5, 2) := by decide +kernel
theorem dX3_time_51 : decode cX3_time 51 = .ok (.i2l, 1) := by decide +kernel
theorem dX3_time_52 : decode cX3_time 52 = .ok (.lconst 0, 1) := by decide +kernel
theorem dX3_time_53 : decode cX3_time 53 = .ok (.ldc2_w 193, 3) := by decide +kernel
theorem dX3_time_56 : decode cX3_time 56 = .ok (.invokestatic 100, 3) := by decide +kernel
theorem dX3_time_59 : decode cX3_time 59 = .ok (.ifCond .eq 7, 3) := by decide +kernel
theorem dX3_time_62 : decode cX3_time 62 = .ok (.iconst 0, 1) := by decide +kernel
theorem dX3_time_63 : decode cX3_time 63 = .ok (.goto 4, 3) := by decide +kernel
theorem dX3_time_66 : decode cX3_time 66 = .ok (.iconst 2, 1) := by decide +kernel
theorem dX3_time_67 : decode cX3_time 67 = .ok (.invokevirtual 125, 3) := by decide +kernel
theorem dX3_time_70 : decode cX3_time 70 = .ok (.ifCond .eq 5, 3) := by decide +kernel
theorem dX3_time_73 : decode cX3_time 73 = .ok (.lconst 0, 1) := by decide +kernel
theorem dX3_time_74 : decode cX3_time 74 = .ok (.lreturn, 1) := by decide +kernel
theorem dX3_time_75 : decode cX3_time 75 = .ok (.aload_n 0, 1) := by decide +kernel
theorem dX3_time_76 : decode cX3_time 76 = .ok (.getfield 17, 3) := by decide +kernel
theorem dX3_time_79 : decode cX3_time 79 = .ok (.iload_n 1, 1) := by decide +kernel
theorem dX3_time_80 : decode cX3_time 80 = .ok (.ldc2_w 195, 3) := by decide +kernel
theorem dX3_time_83 : decode cX3_time 83 = .ok (.iload_n 2, 1) := by decide +kernel
theorem dX3_time_84 : decode cX3_time 84 = .ok (.i2l, 1) := by decide +kernel
theorem dX3_time_85 : decode cX3_time 85 = .ok (.lmul, 1) := by decide +kernel
theorem dX3_time_86 : decode cX3_time 86 = .ok (.ldc2_w 197, 3) := by decide +kernel
theorem dX3_time_89 : decode cX3_time 89 = .ok (.iload_n 3, 1) := by decide +kernel
theorem dX3_time_90 : decode cX3_time 90 = .ok (.i2l, 1) := by decide +kernel
theorem dX3_time_91 : decode cX3_time 91 = .ok (.lmul, 1) := by decide +kernel
theorem dX3_time_92 : decode cX3_time 92 = .ok (.ladd, 1) := by decide +kernel
theorem dX3_time_93 : decode cX3_time 93 = .ok (.iload 4, 2) := by decide +kernel
theorem dX3_time_95 : decode cX3_time 95 = .ok (.i2l, 1) := by decide +kernel
theorem dX3_time_96 : decode cX3_time 96 = .ok (.ladd, 1) := by decide +kernel
theorem dX3_time_97 : decode cX3_time 97 = .ok (.ldc2_w 199, 3) := by decide +kernel
theorem dX3_time_100 : decode cX3_time 100 = .ok (.lmul, 1) := by decide +kernel
theorem dX3_time_101 : decode cX3_time 101 = .ok (.iload 5, 2) := by decide +kernel
theorem dX3_time_103 : decode cX3_time 103 = .ok (.i2l, 1) := by decide +kernel
theorem dX3_time_104 : decode cX3_time 104 = .ok (.ladd, 1) := by decide +kernel
theorem dX3_time_105 : decode cX3_time 105 = .ok (.lastore, 1) := by decide +kernel
theorem dX3_time_106 : decode cX3_time 106 = .ok (.aload_n 0, 1) := by decide +kernel
theorem dX3_time_107 : decode cX3_time 107 = .ok (.getfield 17, 3) := by decide +kernel
theorem dX3_time_110 : decode cX3_time 110 = .ok (.iload_n 1, 1) := by decide +kernel
theorem dX3_time_111 : decode cX3_time 111 = .ok (.laload, 1) := by decide +kernel
theorem dX3_time_112 : decode cX3_time 112 = .ok (.lreturn, 1) := by decide +kernel
set_option maxRecDepth 20000 in
theorem ggX3_ofBillionths_X3_isSlot : GoodIn wsX3_ofBillionths wsX3_isSlot := goodIn_r _ [7, 8, 9, 10, 6, 11] (by decide +kernel) (by decide +kernel)
set_option maxRecDepth 20000 in
theorem gX3_ofBillionths_X3_isSlot : GoodIn wsX3_ofBillionths (va_wsS RX3 174 yX3_isSlot wsX3_isSlot) := goodIn_app (goodIn_of _ (by decide +kernel)) ggX3_ofBillionths_X3_isSlot
set_option maxRecDepth 20000 in
theorem ggX3_ofBillionths_X3_in : GoodIn wsX3_ofBillionths wsX3_in := goodIn_r _ [11] (by decide +kernel) (by decide +kernel)
set_option maxRecDepth 20000 in
theorem gX3_ofBillionths_X3_in : GoodIn wsX3_ofBillionths (va_wsS RX3 100 yX3_in wsX3_in) := goodIn_app (goodIn_of _ (by decide +kernel)) ggX3_ofBillionths_X3_in
set_option maxRecDepth 20000 in
theorem ggX3_ofBillionths_X3_fails : GoodIn wsX3_ofBillionths wsX3_fails := goodIn_r _ [15, 16, 17, 18, 19, 20, 21, 22, 23, 24, 25, 26, 27, 28, 29, 30] (by decide +kernel) (by decide +kernel)
set_option maxRecDepth 20000 in
theorem gX3_ofBillionths_X3_fails : GoodIn wsX3_ofBillionths (wsV RX3 125 RX3 yX3_fails wsX3_fails) := goodIn_app (goodIn_of _ (by decide +kernel)) ggX3_ofBillionths_X3_fails
theorem dX3_ofBillionths_0 : decode cX3_ofBillionths 0 = .ok (.aload_n 0, 1) := by decide +kernel
theorem dX3_ofBillionths_1 : decode cX3_ofBillionths 1 = .ok (.iload_n 1, 1) := by decide +kernel
theorem dX3_ofBillionths_2 : decode cX3_ofBillionths 2 = .ok (.invokestatic 174, 3) := by decide +kernel
theorem dX3_ofBillionths_5 : decode cX3_ofBillionths 5 = .ok (.ifCond .ne 7, 3) := by decide +kernel
theorem dX3_ofBillionths_8 : decode cX3_ofBillionths 8 = .ok (.iconst 1, 1) := by decide +kernel
theorem dX3_ofBillionths_9 : decode cX3_ofBillionths 9 = .ok (.goto 19, 3) := by decide +kernel
theorem dX3_ofBillionths_12 : decode cX3_ofBillionths 12 = .ok (.lload_n 2, 1) := by decide +kernel
theorem dX3_ofBillionths_13 : decode cX3_ofBillionths 13 = .ok (.lconst 0, 1) := by decide +kernel
theorem dX3_ofBillionths_14 : decode cX3_ofBillionths 14 = .ok (.ldc2_w 201, 3) := by decide +kernel
theorem dX3_ofBillionths_17 : decode cX3_ofBillionths 17 = .ok (.invokestatic 100, 3) := by decide +kernel
theorem dX3_ofBillionths_20 : decode cX3_ofBillionths 20 = .ok (.ifCond .eq 7, 3) := by decide +kernel
theorem dX3_ofBillionths_23 : decode cX3_ofBillionths 23 = .ok (.iconst 0, 1) := by decide +kernel
theorem dX3_ofBillionths_24 : decode cX3_ofBillionths 24 = .ok (.goto 4, 3) := by decide +kernel
theorem dX3_ofBillionths_27 : decode cX3_ofBillionths 27 = .ok (.iconst 2, 1) := by decide +kernel
theorem dX3_ofBillionths_28 : decode cX3_ofBillionths 28 = .ok (.invokevirtual 125, 3) := by decide +kernel
theorem dX3_ofBillionths_31 : decode cX3_ofBillionths 31 = .ok (.ifCond .eq 5, 3) := by decide +kernel
theorem dX3_ofBillionths_34 : decode cX3_ofBillionths 34 = .ok (.iconst 0, 1) := by decide +kernel
theorem dX3_ofBillionths_35 : decode cX3_ofBillionths 35 = .ok (.ireturn, 1) := by decide +kernel
theorem dX3_ofBillionths_36 : decode cX3_ofBillionths 36 = .ok (.aload_n 0, 1) := by decide +kernel
theorem dX3_ofBillionths_37 : decode cX3_ofBillionths 37 = .ok (.getfield 17, 3) := by decide +kernel
theorem dX3_ofBillionths_40 : decode cX3_ofBillionths 40 = .ok (.iload_n 1, 1) := by decide +kernel
theorem dX3_ofBillionths_41 : decode cX3_ofBillionths 41 = .ok (.lload_n 2, 1) := by decide +kernel
theorem dX3_ofBillionths_42 : decode cX3_ofBillionths 42 = .ok (.lastore, 1) := by decide +kernel
theorem dX3_ofBillionths_43 : decode cX3_ofBillionths 43 = .ok (.lload_n 2, 1) := by decide +kernel
theorem dX3_ofBillionths_44 : decode cX3_ofBillionths 44 = .ok (.ldc2_w 203, 3) := by decide +kernel
theorem dX3_ofBillionths_47 : decode cX3_ofBillionths 47 = .ok (.ldiv, 1) := by decide +kernel
theorem dX3_ofBillionths_48 : decode cX3_ofBillionths 48 = .ok (.l2i, 1) := by decide +kernel
theorem dX3_ofBillionths_49 : decode cX3_ofBillionths 49 = .ok (.ireturn, 1) := by decide +kernel
set_option maxRecDepth 20000 in
theorem ggX3_timePart_X3_isSlot : GoodIn wsX3_timePart wsX3_isSlot := goodIn_r _ [8, 9, 10, 11, 7, 12] (by decide +kernel) (by decide +kernel)
set_option maxRecDepth 20000 in
theorem gX3_timePart_X3_isSlot : GoodIn wsX3_timePart (va_wsS RX3 174 yX3_isSlot wsX3_isSlot) := goodIn_app (goodIn_of _ (by decide +kernel)) ggX3_timePart_X3_isSlot
set_option maxRecDepth 20000 in
theorem ggX3_timePart_X3_fails : GoodIn wsX3_timePart wsX3_fails := goodIn_r _ [16, 17, 18, 19, 20, 21, 22, 23, 24, 25, 26, 27, 28, 29, 30, 31] (by decide +kernel) (by decide +kernel)
set_option maxRecDepth 20000 in
theorem gX3_timePart_X3_fails : GoodIn wsX3_timePart (wsV RX3 125 RX3 yX3_fails wsX3_fails) := goodIn_app (goodIn_of _ (by decide +kernel)) ggX3_timePart_X3_fails
theorem dX3_timePart_0 : decode cX3_timePart 0 = .ok (.aload_n 0, 1) := by decide +kernel
theorem dX3_timePart_1 : decode cX3_timePart 1 = .ok (.iload_n 1, 1) := by decide +kernel
theorem dX3_timePart_2 : decode cX3_timePart 2 = .ok (.invokestatic 174, 3) := by decide +kernel
theorem dX3_timePart_5 : decode cX3_timePart 5 = .ok (.ifCond .ne 7, 3) := by decide +kernel
theorem dX3_timePart_8 : decode cX3_timePart 8 = .ok (.iconst 1, 1) := by decide +kernel
theorem dX3_timePart_9 : decode cX3_timePart 9 = .ok (.goto 32, 3) := by decide +kernel
theorem dX3_timePart_12 : decode cX3_timePart 12 = .ok (.iload_n 2, 1) := by decide +kernel
theorem dX3_timePart_13 : decode cX3_timePart 13 = .ok (.bipush 104, 2) := by decide +kernel
theorem dX3_timePart_15 : decode cX3_timePart 15 = .ok (.if_icmp .eq 21, 3) := by decide +kernel
theorem dX3_timePart_18 : decode cX3_timePart 18 = .ok (.iload_n 2, 1) := by decide +kernel
theorem dX3_timePart_19 : decode cX3_timePart 19 = .ok (.bipush 109, 2) := by decide +kernel
theorem dX3_timePart_21 : decode cX3_timePart 21 = .ok (.if_icmp .eq 15, 3) := by decide +kernel
theorem dX3_timePart_24 : decode cX3_timePart 24 = .ok (.iload_n 2, 1) := by decide +kernel
theorem dX3_timePart_25 : decode cX3_timePart 25 = .ok (.bipush 115, 2) := by decide +kernel
theorem dX3_timePart_27 : decode cX3_timePart 27 = .ok (.if_icmp .eq 9, 3) := by decide +kernel
theorem dX3_timePart_30 : decode cX3_timePart 30 = .ok (.iload_n 2, 1) := by decide +kernel
theorem dX3_timePart_31 : decode cX3_timePart 31 = .ok (.bipush 110, 2) := by decide +kernel
theorem dX3_timePart_33 : decode cX3_timePart 33 = .ok (.if_icmp .ne 7, 3) := by decide +kernel
theorem dX3_timePart_36 : decode cX3_timePart 36 = .ok (.iconst 0, 1) := by decide +kernel
theorem dX3_timePart_37 : decode cX3_timePart 37 = .ok (.goto 4, 3) := by decide +kernel
theorem dX3_timePart_40 : decode cX3_timePart 40 = .ok (.iconst 2, 1) := by decide +kernel
theorem dX3_timePart_41 : decode cX3_timePart 41 = .ok (.invokevirtual 125, 3) := by decide +kernel
theorem dX3_timePart_44 : decode cX3_timePart 44 = .ok (.ifCond .eq 5, 3) := by decide +kernel
theorem dX3_timePart_47 : decode cX3_timePart 47 = .ok (.iconst 0, 1) := by decide +kernel
theorem dX3_timePart_48 : decode cX3_timePart 48 = .ok (.ireturn, 1) := by decide +kernel
theorem dX3_timePart_49 : decode cX3_timePart 49 = .ok (.aload_n 0, 1) := by decide +kernel
theorem dX3_timePart_50 : decode cX3_timePart 50 = .ok (.getfield 17, 3) := by decide +kernel
theorem dX3_timePart_53 : decode cX3_timePart 53 = .ok (.iload_n 1, 1) := by decide +kernel
theorem dX3_timePart_54 : decode cX3_timePart 54 = .ok (.laload, 1) := by decide +kernel
theorem dX3_timePart_55 : decode cX3_timePart 55 = .ok (.ldc2_w 199, 3) := by decide +kernel
theorem dX3_timePart_58 : decode cX3_timePart 58 = .ok (.ldiv, 1) := by decide +kernel
theorem dX3_timePart_59 : decode cX3_timePart 59 = .ok (.lstore_n 3, 1) := by decide +kernel
theorem dX3_timePart_60 : decode cX3_timePart 60 = .ok (.iload_n 2, 1) := by decide +kernel
theorem dX3_timePart_61 : decode cX3_timePart 61 = .ok (.bipush 104, 2) := by decide +kernel
theorem dX3_timePart_63 : decode cX3_timePart 63 = .ok (.if_icmp .ne 11, 3) := by decide +kernel
theorem dX3_timePart_66 : decode cX3_timePart 66 = .ok (.lload_n 3, 1) := by decide +kernel
theorem dX3_timePart_67 : decode cX3_timePart 67 = .ok (.ldc2_w 195, 3) := by decide +kernel
theorem dX3_timePart_70 : decode cX3_timePart 70 = .ok (.ldiv, 1) := by decide +kernel
theorem dX3_timePart_71 : decode cX3_timePart 71 = .ok (.goto 45, 3) := by decide +kernel
theorem dX3_timePart_74 : decode cX3_timePart 74 = .ok (.iload_n 2, 1) := by decide +kernel
theorem dX3_timePart_75 : decode cX3_timePart 75 = .ok (.bipush 109, 2) := by decide +kernel
theorem dX3_timePart_77 : decode cX3_timePart 77 = .ok (.if_icmp .ne 15, 3) := by decide +kernel
theorem dX3_timePart_80 : decode cX3_timePart 80 = .ok (.lload_n 3, 1) := by decide +kernel
theorem dX3_timePart_81 : decode cX3_timePart 81 = .ok (.ldc2_w 197, 3) := by decide +kernel
theorem dX3_timePart_84 : decode cX3_timePart 84 = .ok (.ldiv, 1) := by decide +kernel
theorem dX3_timePart_85 : decode cX3_timePart 85 = .ok (.ldc2_w 197, 3) := by decide +kernel
theorem dX3_timePart_88 : decode cX3_timePart 88 = .ok (.lrem, 1) := by decide +kernel
theorem dX3_timePart_89 : decode cX3_timePart 89 = .ok (.goto 27, 3) := by decide +kernel
theorem dX3_timePart_92 : decode cX3_timePart 92 = .ok (.iload_n 2, 1) := by decide +kernel
theorem dX3_timePart_93 : decode cX3_timePart 93 = .ok (.bipush 115, 2) := by decide +kernel
theorem dX3_timePart_95 : decode cX3_timePart 95 = .ok (.if_icmp .ne 11, 3) := by decide +kernel
theorem dX3_timePart_98 : decode cX3_timePart 98 = .ok (.lload_n 3, 1) := by decide +kernel
theorem dX3_timePart_99 : decode cX3_timePart 99 = .ok (.ldc2_w 197, 3) := by decide +kernel
theorem dX3_timePart_102 : decode cX3_timePart 102 = .ok (.lrem, 1) := by decide +kernel
theorem dX3_timePart_103 : decode cX3_timePart 103 = .ok (.goto 13, 3) := by decide +kernel
theorem dX3_timePart_106 : decode cX3_timePart 106 = .ok (.aload_n 0, 1) := by decide +kernel
theorem dX3_timePart_107 : decode cX3_timePart 107 = .ok (.getfield 17, 3) := by decide +kernel
theorem dX3_timePart_110 : decode cX3_timePart 110 = .ok (.iload_n 1, 1) := by decide +kernel
theorem dX3_timePart_111 : decode cX3_timePart 111 = .ok (.laload, 1) := by decide +kernel
theorem dX3_timePart_112 : decode cX3_timePart 112 = .ok (.ldc2_w 199, 3) := by decide +kernel
theorem dX3_timePart_115 : decode cX3_timePart 115 = .ok (.lrem, 1) := by decide +kernel
theorem dX3_timePart_116 : decode cX3_timePart 116 = .ok (.l2i, 1) := by decide +kernel
theorem dX3_timePart_117 : decode cX3_timePart 117 = .ok (.ireturn, 1) := by decide +kernel
set_option maxRecDepth 20000 in
theorem ggX3_round_X3_rest : GoodIn wsX3_round wsX3_rest := goodIn_r _ [5, 6, 7, 4, 8] (by decide +kernel) (by decide +kernel)
set_option maxRecDepth 20000 in
theorem gX3_round_X3_rest : GoodIn wsX3_round (va_wsS RX3 52 yX3_rest wsX3_rest) := goodIn_app (goodIn_of _ (by decide +kernel)) ggX3_round_X3_rest
theorem dX3_round_0 : decode cX3_round 0 = .ok (.lload_n 0, 1) := by decide +kernel
theorem dX3_round_1 : decode cX3_round 1 = .ok (.ldc2_w 205, 3) := by decide +kernel
theorem dX3_round_4 : decode cX3_round 4 = .ok (.lload_n 2, 1) := by decide +kernel
theorem dX3_round_5 : decode cX3_round 5 = .ok (.ldiv, 1) := by decide +kernel
theorem dX3_round_6 : decode cX3_round 6 = .ok (.invokestatic 52, 3) := by decide +kernel
theorem dX3_round_9 : decode cX3_round 9 = .ok (.lload_n 2, 1) := by decide +kernel
theorem dX3_round_10 : decode cX3_round 10 = .ok (.lmul, 1) := by decide +kernel
theorem dX3_round_11 : decode cX3_round 11 = .ok (.lreturn, 1) := by decide +kernel
set_option maxRecDepth 20000 in
theorem ggX3_moveTime_X3_isSlot : GoodIn wsX3_moveTime wsX3_isSlot := goodIn_r _ [11, 12, 13, 14, 10, 15] (by decide +kernel) (by decide +kernel)
set_option maxRecDepth 20000 in
theorem gX3_moveTime_X3_isSlot : GoodIn wsX3_moveTime (va_wsS RX3 174 yX3_isSlot wsX3_isSlot) := goodIn_app (goodIn_of _ (by decide +kernel)) ggX3_moveTime_X3_isSlot
set_option maxRecDepth 20000 in
theorem ggX3_moveTime_X3_in : GoodIn wsX3_moveTime wsX3_in := goodIn_r _ [15] (by decide +kernel) (by decide +kernel)
set_option maxRecDepth 20000 in
theorem gX3_moveTime_X3_in : GoodIn wsX3_moveTime (va_wsS RX3 100 yX3_in wsX3_in) := goodIn_app (goodIn_of _ (by decide +kernel)) ggX3_moveTime_X3_in
set_option maxRecDepth 20000 in
theorem ggX3_moveTime_X3_fails : GoodIn wsX3_moveTime wsX3_fails := goodIn_r _ [19, 20, 30, 31, 32, 33, 34, 35, 36, 37, 38, 39, 40, 41, 42, 43] (by decide +kernel) (by decide +kernel)
set_option maxRecDepth 20000 in
theorem gX3_moveTime_X3_fails : GoodIn wsX3_moveTime (wsV RX3 125 RX3 yX3_fails wsX3_fails) := goodIn_app (goodIn_of _ (by decide +kernel)) ggX3_moveTime_X3_fails
set_option maxRecDepth 20000 in
theorem ggX3_moveTime_X3_round : GoodIn wsX3_moveTime wsX3_round := goodIn_r _ [23, 7, 24, 25, 10, 26, 27, 28, 29] (by decide +kernel) (by decide +kernel)
set_option maxRecDepth 20000 in
theorem gX3_moveTime_X3_round : GoodIn wsX3_moveTime (va_wsS RX3 213 yX3_round wsX3_round) := goodIn_app (goodIn_of _ (by decide +kernel)) ggX3_moveTime_X3_round
set_option maxRecDepth 20000 in
theorem ggX3_moveTime_X3_rest : GoodIn wsX3_moveTime wsX3_rest := goodIn_r _ [26, 27, 28, 10, 29] (by decide +kernel) (by decide +kernel)
