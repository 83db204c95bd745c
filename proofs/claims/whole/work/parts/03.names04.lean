theorem dX1_firstOfYear_23 : decode cX1_firstOfYear 23 = .ok (.lload_n 0, 1) := by decide +kernel
theorem dX1_firstOfYear_24 : decode cX1_firstOfYear 24 = .ok (.ldc2_w 46, 3) := by decide +kernel
theorem dX1_firstOfYear_27 : decode cX1_firstOfYear 27 = .ok (.ladd, 1) := by decide +kernel
theorem dX1_firstOfYear_28 : decode cX1_firstOfYear 28 = .ok (.ldc2_w 17, 3) := by decide +kernel
theorem dX1_firstOfYear_31 : decode cX1_firstOfYear 31 = .ok (.invokestatic 25, 3) := by decide +kernel
theorem dX1_firstOfYear_34 : decode cX1_firstOfYear 34 = .ok (.ladd, 1) := by decide +kernel
theorem dX1_firstOfYear_35 : decode cX1_firstOfYear 35 = .ok (.lstore_n 2, 1) := by decide +kernel
theorem dX1_firstOfYear_36 : decode cX1_firstOfYear 36 = .ok (.ldc2_w 48, 3) := by decide +kernel
theorem dX1_firstOfYear_39 : decode cX1_firstOfYear 39 = .ok (.lload_n 0, 1) := by decide +kernel
theorem dX1_firstOfYear_40 : decode cX1_firstOfYear 40 = .ok (.lmul, 1) := by decide +kernel
theorem dX1_firstOfYear_41 : decode cX1_firstOfYear 41 = .ok (.lload_n 2, 1) := by decide +kernel
theorem dX1_firstOfYear_42 : decode cX1_firstOfYear 42 = .ok (.ladd, 1) := by decide +kernel
theorem dX1_firstOfYear_43 : decode cX1_firstOfYear 43 = .ok (.ldc2_w 50, 3) := by decide +kernel
theorem dX1_firstOfYear_46 : decode cX1_firstOfYear 46 = .ok (.lsub, 1) := by decide +kernel
theorem dX1_firstOfYear_47 : decode cX1_firstOfYear 47 = .ok (.lreturn, 1) := by decide +kernel
set_option maxRecDepth 20000 in
theorem ggX1_firstOfMonth_X1_yearOfMonth : GoodIn wsX1_firstOfMonth wsX1_yearOfMonth := goodIn_r _ [5, 6, 7, 8, 9, 10] (by decide +kernel) (by decide +kernel)
set_option maxRecDepth 20000 in
theorem gX1_firstOfMonth_X1_yearOfMonth : GoodIn wsX1_firstOfMonth (va_wsS RX1 38 yX1_yearOfMonth wsX1_yearOfMonth) := goodIn_app (goodIn_of _ (by decide +kernel)) ggX1_firstOfMonth_X1_yearOfMonth
set_option maxRecDepth 20000 in
theorem ggX1_firstOfMonth_X1_monthInYear : GoodIn wsX1_firstOfMonth wsX1_monthInYear := goodIn_r _ [13, 6, 14, 15, 9, 16] (by decide +kernel) (by decide +kernel)
set_option maxRecDepth 20000 in
theorem gX1_firstOfMonth_X1_monthInYear : GoodIn wsX1_firstOfMonth (va_wsS RX1 34 yX1_monthInYear wsX1_monthInYear) := goodIn_app (goodIn_of _ (by decide +kernel)) ggX1_firstOfMonth_X1_monthInYear
set_option maxRecDepth 20000 in
theorem ggX1_firstOfMonth_X1_isLongYear : GoodIn wsX1_firstOfMonth wsX1_isLongYear := goodIn_r _ [19, 20, 21, 22] (by decide +kernel) (by decide +kernel)
set_option maxRecDepth 20000 in
theorem gX1_firstOfMonth_X1_isLongYear : GoodIn wsX1_firstOfMonth (va_wsS RX1 19 yX1_isLongYear wsX1_isLongYear) := goodIn_app (goodIn_of _ (by decide +kernel)) ggX1_firstOfMonth_X1_isLongYear
set_option maxRecDepth 20000 in
theorem ggX1_firstOfMonth_X1_firstOfYear : GoodIn wsX1_firstOfMonth wsX1_firstOfYear := goodIn_r _ [25, 26, 20, 27, 21, 28, 22, 29, 30, 7, 8, 9, 10] (by decide +kernel) (by decide +kernel)
set_option maxRecDepth 20000 in
theorem gX1_firstOfMonth_X1_firstOfYear : GoodIn wsX1_firstOfMonth (va_wsS RX1 54 yX1_firstOfYear wsX1_firstOfYear) := goodIn_app (goodIn_of _ (by decide +kernel)) ggX1_firstOfMonth_X1_firstOfYear
theorem dX1_firstOfMonth_0 : decode cX1_firstOfMonth 0 = .ok (.lload_n 0, 1) := by decide +kernel
theorem dX1_firstOfMonth_1 : decode cX1_firstOfMonth 1 = .ok (.invokestatic 38, 3) := by decide +kernel
theorem dX1_firstOfMonth_4 : decode cX1_firstOfMonth 4 = .ok (.lstore_n 2, 1) := by decide +kernel
theorem dX1_firstOfMonth_5 : decode cX1_firstOfMonth 5 = .ok (.lload_n 0, 1) := by decide +kernel
theorem dX1_firstOfMonth_6 : decode cX1_firstOfMonth 6 = .ok (.invokestatic 34, 3) := by decide +kernel
theorem dX1_firstOfMonth_9 : decode cX1_firstOfMonth 9 = .ok (.istore 4, 2) := by decide +kernel
theorem dX1_firstOfMonth_11 : decode cX1_firstOfMonth 11 = .ok (.sipush 367, 3) := by decide +kernel
theorem dX1_firstOfMonth_14 : decode cX1_firstOfMonth 14 = .ok (.iload 4, 2) := by decide +kernel
theorem dX1_firstOfMonth_16 : decode cX1_firstOfMonth 16 = .ok (.imul, 1) := by decide +kernel
theorem dX1_firstOfMonth_17 : decode cX1_firstOfMonth 17 = .ok (.sipush 362, 3) := by decide +kernel
theorem dX1_firstOfMonth_20 : decode cX1_firstOfMonth 20 = .ok (.isub, 1) := by decide +kernel
theorem dX1_firstOfMonth_21 : decode cX1_firstOfMonth 21 = .ok (.bipush 12, 2) := by decide +kernel
theorem dX1_firstOfMonth_23 : decode cX1_firstOfMonth 23 = .ok (.idiv, 1) := by decide +kernel
theorem dX1_firstOfMonth_24 : decode cX1_firstOfMonth 24 = .ok (.i2l, 1) := by decide +kernel
theorem dX1_firstOfMonth_25 : decode cX1_firstOfMonth 25 = .ok (.lstore 5, 2) := by decide +kernel
theorem dX1_firstOfMonth_27 : decode cX1_firstOfMonth 27 = .ok (.iload 4, 2) := by decide +kernel
theorem dX1_firstOfMonth_29 : decode cX1_firstOfMonth 29 = .ok (.iconst 2, 1) := by decide +kernel
theorem dX1_firstOfMonth_30 : decode cX1_firstOfMonth 30 = .ok (.if_icmp .le 22, 3) := by decide +kernel
theorem dX1_firstOfMonth_33 : decode cX1_firstOfMonth 33 = .ok (.lload 5, 2) := by decide +kernel
theorem dX1_firstOfMonth_35 : decode cX1_firstOfMonth 35 = .ok (.lload_n 2, 1) := by decide +kernel
theorem dX1_firstOfMonth_36 : decode cX1_firstOfMonth 36 = .ok (.invokestatic 19, 3) := by decide +kernel
theorem dX1_firstOfMonth_39 : decode cX1_firstOfMonth 39 = .ok (.ifCond .eq 7, 3) := by decide +kernel
theorem dX1_firstOfMonth_42 : decode cX1_firstOfMonth 42 = .ok (.lconst 1, 1) := by decide +kernel
theorem dX1_firstOfMonth_43 : decode cX1_firstOfMonth 43 = .ok (.goto 6, 3) := by decide +kernel
theorem dX1_firstOfMonth_46 : decode cX1_firstOfMonth 46 = .ok (.ldc2_w 52, 3) := by decide +kernel
theorem dX1_firstOfMonth_49 : decode cX1_firstOfMonth 49 = .ok (.lsub, 1) := by decide +kernel
theorem dX1_firstOfMonth_50 : decode cX1_firstOfMonth 50 = .ok (.lstore 5, 2) := by decide +kernel
theorem dX1_firstOfMonth_52 : decode cX1_firstOfMonth 52 = .ok (.lload_n 2, 1) := by decide +kernel
theorem dX1_firstOfMonth_53 : decode cX1_firstOfMonth 53 = .ok (.invokestatic 54, 3) := by decide +kernel
theorem dX1_firstOfMonth_56 : decode cX1_firstOfMonth 56 = .ok (.lload 5, 2) := by decide +kernel
theorem dX1_firstOfMonth_58 : decode cX1_firstOfMonth 58 = .ok (.ladd, 1) := by decide +kernel
theorem dX1_firstOfMonth_59 : decode cX1_firstOfMonth 59 = .ok (.lreturn, 1) := by decide +kernel
set_option maxRecDepth 20000 in
theorem ggX1_yearOfDay_J9_floorDiv_f86c9 : GoodIn wsX1_yearOfDay wsJ9_floorDiv_f86c9 := goodIn_r _ [7] (by decide +kernel) (by decide +kernel)
set_option maxRecDepth 20000 in
theorem gX1_yearOfDay_J9_floorDiv_f86c9 : GoodIn wsX1_yearOfDay (va_wsS RX1 25 yJ9_floorDiv_f86c9 wsJ9_floorDiv_f86c9) := goodIn_app (goodIn_of _ (by decide +kernel)) ggX1_yearOfDay_J9_floorDiv_f86c9
set_option maxRecDepth 20000 in
theorem ggX1_yearOfDay_X1_firstOfYear : GoodIn wsX1_yearOfDay wsX1_firstOfYear := goodIn_r _ [11, 12, 13, 14, 15, 16, 1, 17, 2, 4, 5, 6, 7] (by decide +kernel) (by decide +kernel)
set_option maxRecDepth 20000 in
theorem gX1_yearOfDay_X1_firstOfYear : GoodIn wsX1_yearOfDay (va_wsS RX1 54 yX1_firstOfYear wsX1_firstOfYear) := goodIn_app (goodIn_of _ (by decide +kernel)) ggX1_yearOfDay_X1_firstOfYear
theorem dX1_yearOfDay_0 : decode cX1_yearOfDay 0 = .ok (.ldc2_w 17, 3) := by decide +kernel
theorem dX1_yearOfDay_3 : decode cX1_yearOfDay 3 = .ok (.lload_n 0, 1) := by decide +kernel
theorem dX1_yearOfDay_4 : decode cX1_yearOfDay 4 = .ok (.ldc2_w 50, 3) := by decide +kernel
theorem dX1_yearOfDay_7 : decode cX1_yearOfDay 7 = .ok (.ladd, 1) := by decide +kernel
theorem dX1_yearOfDay_8 : decode cX1_yearOfDay 8 = .ok (.lmul, 1) := by decide +kernel
theorem dX1_yearOfDay_9 : decode cX1_yearOfDay 9 = .ok (.ldc2_w 57, 3) := by decide +kernel
theorem dX1_yearOfDay_12 : decode cX1_yearOfDay 12 = .ok (.invokestatic 25, 3) := by decide +kernel
theorem dX1_yearOfDay_15 : decode cX1_yearOfDay 15 = .ok (.lstore_n 2, 1) := by decide +kernel
theorem dX1_yearOfDay_16 : decode cX1_yearOfDay 16 = .ok (.lload_n 2, 1) := by decide +kernel
theorem dX1_yearOfDay_17 : decode cX1_yearOfDay 17 = .ok (.invokestatic 54, 3) := by decide +kernel
theorem dX1_yearOfDay_20 : decode cX1_yearOfDay 20 = .ok (.lload_n 0, 1) := by decide +kernel
theorem dX1_yearOfDay_21 : decode cX1_yearOfDay 21 = .ok (.lcmp, 1) := by decide +kernel
theorem dX1_yearOfDay_22 : decode cX1_yearOfDay 22 = .ok (.ifCond .le 7, 3) := by decide +kernel
theorem dX1_yearOfDay_25 : decode cX1_yearOfDay 25 = .ok (.lload_n 2, 1) := by decide +kernel
theorem dX1_yearOfDay_26 : decode cX1_yearOfDay 26 = .ok (.lconst 1, 1) := by decide +kernel
theorem dX1_yearOfDay_27 : decode cX1_yearOfDay 27 = .ok (.lsub, 1) := by decide +kernel
theorem dX1_yearOfDay_28 : decode cX1_yearOfDay 28 = .ok (.lreturn, 1) := by decide +kernel
theorem dX1_yearOfDay_29 : decode cX1_yearOfDay 29 = .ok (.lload_n 2, 1) := by decide +kernel
theorem dX1_yearOfDay_30 : decode cX1_yearOfDay 30 = .ok (.lconst 1, 1) := by decide +kernel
theorem dX1_yearOfDay_31 : decode cX1_yearOfDay 31 = .ok (.ladd, 1) := by decide +kernel
theorem dX1_yearOfDay_32 : decode cX1_yearOfDay 32 = .ok (.invokestatic 54, 3) := by decide +kernel
theorem dX1_yearOfDay_35 : decode cX1_yearOfDay 35 = .ok (.lload_n 0, 1) := by decide +kernel
theorem dX1_yearOfDay_36 : decode cX1_yearOfDay 36 = .ok (.lcmp, 1) := by decide +kernel
theorem dX1_yearOfDay_37 : decode cX1_yearOfDay 37 = .ok (.ifCond .gt 9, 3) := by decide +kernel
theorem dX1_yearOfDay_40 : decode cX1_yearOfDay 40 = .ok (.lload_n 2, 1) := by decide +kernel
theorem dX1_yearOfDay_41 : decode cX1_yearOfDay 41 = .ok (.lconst 1, 1) := by decide +kernel
theorem dX1_yearOfDay_42 : decode cX1_yearOfDay 42 = .ok (.ladd, 1) := by decide +kernel
theorem dX1_yearOfDay_43 : decode cX1_yearOfDay 43 = .ok (.goto 4, 3) := by decide +kernel
theorem dX1_yearOfDay_46 : decode cX1_yearOfDay 46 = .ok (.lload_n 2, 1) := by decide +kernel
theorem dX1_yearOfDay_47 : decode cX1_yearOfDay 47 = .ok (.lreturn, 1) := by decide +kernel
set_option maxRecDepth 20000 in
theorem ggX1_monthOfDay_X1_yearOfDay : GoodIn wsX1_monthOfDay wsX1_yearOfDay := goodIn_r _ [7, 8, 9, 10, 11, 12, 13, 14, 15, 16, 6, 17, 18, 19, 20, 21, 22, 23] (by decide +kernel) (by decide +kernel)
set_option maxRecDepth 20000 in
theorem gX1_monthOfDay_X1_yearOfDay : GoodIn wsX1_monthOfDay (va_wsS RX1 59 yX1_yearOfDay wsX1_yearOfDay) := goodIn_app (goodIn_of _ (by decide +kernel)) ggX1_monthOfDay_X1_yearOfDay
set_option maxRecDepth 20000 in
theorem ggX1_monthOfDay_X1_firstOfYear : GoodIn wsX1_monthOfDay wsX1_firstOfYear := goodIn_r _ [17, 18, 19, 20, 21, 22, 8, 23, 9, 11, 12, 13, 14] (by decide +kernel) (by decide +kernel)
set_option maxRecDepth 20000 in
theorem gX1_monthOfDay_X1_firstOfYear : GoodIn wsX1_monthOfDay (va_wsS RX1 54 yX1_firstOfYear wsX1_firstOfYear) := goodIn_app (goodIn_of _ (by decide +kernel)) ggX1_monthOfDay_X1_firstOfYear
set_option maxRecDepth 20000 in
theorem ggX1_monthOfDay_X1_isLongYear : GoodIn wsX1_monthOfDay wsX1_isLongYear := goodIn_r _ [26, 19, 21, 8] (by decide +kernel) (by decide +kernel)
set_option maxRecDepth 20000 in
theorem gX1_monthOfDay_X1_isLongYear : GoodIn wsX1_monthOfDay (va_wsS RX1 19 yX1_isLongYear wsX1_isLongYear) := goodIn_app (goodIn_of _ (by decide +kernel)) ggX1_monthOfDay_X1_isLongYear
set_option maxRecDepth 20000 in
theorem ggX1_monthOfDay_X1_monthIndex : GoodIn wsX1_monthOfDay wsX1_monthIndex := goodIn_r _ [29, 1] (by decide +kernel) (by decide +kernel)
set_option maxRecDepth 20000 in
theorem gX1_monthOfDay_X1_monthIndex : GoodIn wsX1_monthOfDay (va_wsS RX1 66 yX1_monthIndex wsX1_monthIndex) := goodIn_app (goodIn_of _ (by decide +kernel)) ggX1_monthOfDay_X1_monthIndex
theorem dX1_monthOfDay_0 : decode cX1_monthOfDay 0 = .ok (.lload_n 0, 1) := by decide +kernel
theorem dX1_monthOfDay_1 : decode cX1_monthOfDay 1 = .ok (.invokestatic 59, 3) := by decide +kernel
theorem dX1_monthOfDay_4 : decode cX1_monthOfDay 4 = .ok (.lstore_n 2, 1) := by decide +kernel
theorem dX1_monthOfDay_5 : decode cX1_monthOfDay 5 = .ok (.lload_n 0, 1) := by decide +kernel
theorem dX1_monthOfDay_6 : decode cX1_monthOfDay 6 = .ok (.lload_n 2, 1) := by decide +kernel
theorem dX1_monthOfDay_7 : decode cX1_monthOfDay 7 = .ok (.invokestatic 54, 3) := by decide +kernel
theorem dX1_monthOfDay_10 : decode cX1_monthOfDay 10 = .ok (.lsub, 1) := by decide +kernel
theorem dX1_monthOfDay_11 : decode cX1_monthOfDay 11 = .ok (.lstore 4, 2) := by decide +kernel
theorem dX1_monthOfDay_13 : decode cX1_monthOfDay 13 = .ok (.lload_n 2, 1) := by decide +kernel
theorem dX1_monthOfDay_14 : decode cX1_monthOfDay 14 = .ok (.invokestatic 19, 3) := by decide +kernel
theorem dX1_monthOfDay_17 : decode cX1_monthOfDay 17 = .ok (.ifCond .eq 7, 3) := by decide +kernel
theorem dX1_monthOfDay_20 : decode cX1_monthOfDay 20 = .ok (.iconst 1, 1) := by decide +kernel
theorem dX1_monthOfDay_21 : decode cX1_monthOfDay 21 = .ok (.goto 4, 3) := by decide +kernel
theorem dX1_monthOfDay_24 : decode cX1_monthOfDay 24 = .ok (.iconst 2, 1) := by decide +kernel
theorem dX1_monthOfDay_25 : decode cX1_monthOfDay 25 = .ok (.istore 6, 2) := by decide +kernel
theorem dX1_monthOfDay_27 : decode cX1_monthOfDay 27 = .ok (.lload 4, 2) := by decide +kernel
theorem dX1_monthOfDay_29 : decode cX1_monthOfDay 29 = .ok (.bipush 61, 2) := by decide +kernel
theorem dX1_monthOfDay_31 : decode cX1_monthOfDay 31 = .ok (.iload 6, 2) := by decide +kernel
theorem dX1_monthOfDay_33 : decode cX1_monthOfDay 33 = .ok (.isub, 1) := by decide +kernel
theorem dX1_monthOfDay_34 : decode cX1_monthOfDay 34 = .ok (.i2l, 1) := by decide +kernel
theorem dX1_monthOfDay_35 : decode cX1_monthOfDay 35 = .ok (.lcmp, 1) := by decide +kernel
theorem dX1_monthOfDay_36 : decode cX1_monthOfDay 36 = .ok (.ifCond .lt 11, 3) := by decide +kernel
theorem dX1_monthOfDay_39 : decode cX1_monthOfDay 39 = .ok (.lload 4, 2) := by decide +kernel
theorem dX1_monthOfDay_41 : decode cX1_monthOfDay 41 = .ok (.iload 6, 2) := by decide +kernel
theorem dX1_monthOfDay_43 : decode cX1_monthOfDay 43 = .ok (.i2l, 1) := by decide +kernel
theorem dX1_monthOfDay_44 : decode cX1_monthOfDay 44 = .ok (.ladd, 1) := by decide +kernel
theorem dX1_monthOfDay_45 : decode cX1_monthOfDay 45 = .ok (.lstore 4, 2) := by decide +kernel
theorem dX1_monthOfDay_47 : decode cX1_monthOfDay 47 = .ok (.lload_n 2, 1) := by decide +kernel
theorem dX1_monthOfDay_48 : decode cX1_monthOfDay 48 = .ok (.ldc2_w 23, 3) := by decide +kernel
theorem dX1_monthOfDay_51 : decode cX1_monthOfDay 51 = .ok (.lload 4, 2) := by decide +kernel
theorem dX1_monthOfDay_53 : decode cX1_monthOfDay 53 = .ok (.lmul, 1) := by decide +kernel
theorem dX1_monthOfDay_54 : decode cX1_monthOfDay 54 = .ok (.ldc2_w 62, 3) := by decide +kernel
theorem dX1_monthOfDay_57 : decode cX1_monthOfDay 57 = .ok (.ladd, 1) := by decide +kernel
theorem dX1_monthOfDay_58 : decode cX1_monthOfDay 58 = .ok (.ldc2_w 64, 3) := by decide +kernel
theorem dX1_monthOfDay_61 : decode cX1_monthOfDay 61 = .ok (.ldiv, 1) := by decide +kernel
theorem dX1_monthOfDay_62 : decode cX1_monthOfDay 62 = .ok (.invokestatic 66, 3) := by decide +kernel
theorem dX1_monthOfDay_65 : decode cX1_monthOfDay 65 = .ok (.lreturn, 1) := by decide +kernel
set_option maxRecDepth 20000 in
theorem ggX1_dayInMonth_X1_monthOfDay : GoodIn wsX1_dayInMonth wsX1_monthOfDay := goodIn_r _ [4, 5, 6, 7, 8, 9, 3, 10, 11, 12, 13, 14, 15, 16, 17, 18, 19, 20, 21, 22, 23, 24, 25, 26, 27, 28, 29, 30, 31, 32] (by decide +kernel) (by decide +kernel)
set_option maxRecDepth 20000 in
theorem gX1_dayInMonth_X1_monthOfDay : GoodIn wsX1_dayInMonth (va_wsS RX1 69 yX1_monthOfDay wsX1_monthOfDay) := goodIn_app (goodIn_of _ (by decide +kernel)) ggX1_dayInMonth_X1_monthOfDay
set_option maxRecDepth 20000 in
theorem ggX1_dayInMonth_X1_firstOfMonth : GoodIn wsX1_dayInMonth wsX1_firstOfMonth := goodIn_r _ [35, 36, 37, 38, 3, 39, 5, 14, 15, 16, 17, 40, 41, 42, 43, 44, 45, 27, 28, 29, 22, 24, 11, 18, 19, 20, 21, 23, 25, 26, 12] (by decide +kernel) (by decide +kernel)
set_option maxRecDepth 20000 in
theorem gX1_dayInMonth_X1_firstOfMonth : GoodIn wsX1_dayInMonth (va_wsS RX1 72 yX1_firstOfMonth wsX1_firstOfMonth) := goodIn_app (goodIn_of _ (by decide +kernel)) ggX1_dayInMonth_X1_firstOfMonth
theorem dX1_dayInMonth_0 : decode cX1_dayInMonth 0 = .ok (.lload_n 0, 1) := by decide +kernel
theorem dX1_dayInMonth_1 : decode cX1_dayInMonth 1 = .ok (.lload_n 0, 1) := by decide +kernel
theorem dX1_dayInMonth_2 : decode cX1_dayInMonth 2 = .ok (.invokestatic 69, 3) := by decide +kernel
theorem dX1_dayInMonth_5 : decode cX1_dayInMonth 5 = .ok (.invokestatic 72, 3) := by decide +kernel
theorem dX1_dayInMonth_8 : decode cX1_dayInMonth 8 = .ok (.lsub, 1) := by decide +kernel
theorem dX1_dayInMonth_9 : decode cX1_dayInMonth 9 = .ok (.l2i, 1) := by decide +kernel
theorem dX1_dayInMonth_10 : decode cX1_dayInMonth 10 = .ok (.iconst 1, 1) := by decide +kernel
theorem dX1_dayInMonth_11 : decode cX1_dayInMonth 11 = .ok (.iadd, 1) := by decide +kernel
theorem dX1_dayInMonth_12 : decode cX1_dayInMonth 12 = .ok (.ireturn, 1) := by decide +kernel
set_option maxRecDepth 20000 in
theorem ggX1_weekdayOf_J9_floorMod_f86c9 : GoodIn wsX1_weekdayOf wsJ9_floorMod_f86c9 := goodIn_r _ [6] (by decide +kernel) (by decide +kernel)
set_option maxRecDepth 20000 in
theorem gX1_weekdayOf_J9_floorMod_f86c9 : GoodIn wsX1_weekdayOf (va_wsS RX1 31 yJ9_floorMod_f86c9 wsJ9_floorMod_f86c9) := goodIn_app (goodIn_of _ (by decide +kernel)) ggX1_weekdayOf_J9_floorMod_f86c9
theorem dX1_weekdayOf_0 : decode cX1_weekdayOf 0 = .ok (.lload_n 0, 1) := by decide +kernel
theorem dX1_weekdayOf_1 : decode cX1_weekdayOf 1 = .ok (.ldc2_w 42, 3) := by decide +kernel
theorem dX1_weekdayOf_4 : decode cX1_weekdayOf 4 = .ok (.ladd, 1) := by decide +kernel
theorem dX1_weekdayOf_5 : decode cX1_weekdayOf 5 = .ok (.ldc2_w 75, 3) := by decide +kernel
theorem dX1_weekdayOf_8 : decode cX1_weekdayOf 8 = .ok (.invokestatic 31, 3) := by decide +kernel
theorem dX1_weekdayOf_11 : decode cX1_weekdayOf 11 = .ok (.l2i, 1) := by decide +kernel
theorem dX1_weekdayOf_12 : decode cX1_weekdayOf 12 = .ok (.iconst 1, 1) := by decide +kernel
theorem dX1_weekdayOf_13 : decode cX1_weekdayOf 13 = .ok (.iadd, 1) := by decide +kernel
theorem dX1_weekdayOf_14 : decode cX1_weekdayOf 14 = .ok (.ireturn, 1) := by decide +kernel
set_option maxRecDepth 20000 in
theorem ggX1_weekdayFrom_X1_weekdayOf : GoodIn wsX1_weekdayFrom wsX1_weekdayOf := goodIn_r _ [4, 5, 6, 7, 8, 9, 10] (by decide +kernel) (by decide +kernel)
set_option maxRecDepth 20000 in
theorem gX1_weekdayFrom_X1_weekdayOf : GoodIn wsX1_weekdayFrom (va_wsS RX1 77 yX1_weekdayOf wsX1_weekdayOf) := goodIn_app (goodIn_of _ (by decide +kernel)) ggX1_weekdayFrom_X1_weekdayOf
set_option maxRecDepth 20000 in
theorem ggX1_weekdayFrom_J9_floorMod_7cf53 : GoodIn wsX1_weekdayFrom wsJ9_floorMod_7cf53 := goodIn_r _ [13] (by decide +kernel) (by decide +kernel)
set_option maxRecDepth 20000 in
theorem gX1_weekdayFrom_J9_floorMod_7cf53 : GoodIn wsX1_weekdayFrom (va_wsS RX1 80 yJ9_floorMod_7cf53 wsJ9_floorMod_7cf53) := goodIn_app (goodIn_of _ (by decide +kernel)) ggX1_weekdayFrom_J9_floorMod_7cf53
theorem dX1_weekdayFrom_0 : decode cX1_weekdayFrom 0 = .ok (.lload_n 0, 1) := by decide +kernel
theorem dX1_weekdayFrom_1 : decode cX1_weekdayFrom 1 = .ok (.iload_n 2, 1) := by decide +kernel
theorem dX1_weekdayFrom_2 : decode cX1_weekdayFrom 2 = .ok (.lload_n 0, 1) := by decide +kernel
theorem dX1_weekdayFrom_3 : decode cX1_weekdayFrom 3 = .ok (.invokestatic 77, 3) := by decide +kernel
theorem dX1_weekdayFrom_6 : decode cX1_weekdayFrom 6 = .ok (.isub, 1) := by decide +kernel
theorem dX1_weekdayFrom_7 : decode cX1_weekdayFrom 7 = .ok (.bipush 7, 2) := by decide +kernel
theorem dX1_weekdayFrom_9 : decode cX1_weekdayFrom 9 = .ok (.invokestatic 80, 3) := by decide +kernel
theorem dX1_weekdayFrom_12 : decode cX1_weekdayFrom 12 = .ok (.i2l, 1) := by decide +kernel
theorem dX1_weekdayFrom_13 : decode cX1_weekdayFrom 13 = .ok (.ladd, 1) := by decide +kernel
theorem dX1_weekdayFrom_14 : decode cX1_weekdayFrom 14 = .ok (.lreturn, 1) := by decide +kernel
set_option maxRecDepth 20000 in
theorem ggX1_weekdayUpTo_X1_weekdayOf : GoodIn wsX1_weekdayUpTo wsX1_weekdayOf := goodIn_r _ [4, 5, 6, 7, 8, 9, 10] (by decide +kernel) (by decide +kernel)
set_option maxRecDepth 20000 in
theorem gX1_weekdayUpTo_X1_weekdayOf : GoodIn wsX1_weekdayUpTo (va_wsS RX1 77 yX1_weekdayOf wsX1_weekdayOf) := goodIn_app (goodIn_of _ (by decide +kernel)) ggX1_weekdayUpTo_X1_weekdayOf
set_option maxRecDepth 20000 in
theorem ggX1_weekdayUpTo_J9_floorMod_7cf53 : GoodIn wsX1_weekdayUpTo wsJ9_floorMod_7cf53 := goodIn_r _ [13] (by decide +kernel) (by decide +kernel)
set_option maxRecDepth 20000 in
theorem gX1_weekdayUpTo_J9_floorMod_7cf53 : GoodIn wsX1_weekdayUpTo (va_wsS RX1 80 yJ9_floorMod_7cf53 wsJ9_floorMod_7cf53) := goodIn_app (goodIn_of _ (by decide +kernel)) ggX1_weekdayUpTo_J9_floorMod_7cf53
theorem dX1_weekdayUpTo_0 : decode cX1_weekdayUpTo 0 = .ok (.lload_n 0, 1) := by decide +kernel
theorem dX1_weekdayUpTo_1 : decode cX1_weekdayUpTo 1 = .ok (.lload_n 0, 1) := by decide +kernel
theorem dX1_weekdayUpTo_2 : decode cX1_weekdayUpTo 2 = .ok (.invokestatic 77, 3) := by decide +kernel
theorem dX1_weekdayUpTo_5 : decode cX1_weekdayUpTo 5 = .ok (.iload_n 2, 1) := by decide +kernel
theorem dX1_weekdayUpTo_6 : decode cX1_weekdayUpTo 6 = .ok (.isub, 1) := by decide +kernel
theorem dX1_weekdayUpTo_7 : decode cX1_weekdayUpTo 7 = .ok (.bipush 7, 2) := by decide +kernel
theorem dX1_weekdayUpTo_9 : decode cX1_weekdayUpTo 9 = .ok (.invokestatic 80, 3) := by decide +kernel
theorem dX1_weekdayUpTo_12 : decode cX1_weekdayUpTo 12 = .ok (.i2l, 1) := by decide +kernel
theorem dX1_weekdayUpTo_13 : decode cX1_weekdayUpTo 13 = .ok (.lsub, 1) := by decide +kernel
theorem dX1_weekdayUpTo_14 : decode cX1_weekdayUpTo 14 = .ok (.lreturn, 1) := by decide +kernel
set_option maxRecDepth 20000 in
theorem ggX1_dayOrLast_X1_firstOfMonth : GoodIn wsX1_dayOrLast wsX1_firstOfMonth := goodIn_r _ [8, 9, 10, 11, 7, 12, 13, 14, 15, 16, 17, 18, 19, 20, 21, 22, 23, 24, 25, 26, 27, 28, 29, 30, 31, 32, 33, 34, 35, 36, 37] (by decide +kernel) (by decide +kernel)
set_option maxRecDepth 20000 in
theorem gX1_dayOrLast_X1_firstOfMonth : GoodIn wsX1_dayOrLast (va_wsS RX1 72 yX1_firstOfMonth wsX1_firstOfMonth) := goodIn_app (goodIn_of _ (by decide +kernel)) ggX1_dayOrLast_X1_firstOfMonth
set_option maxRecDepth 20000 in
theorem ggX1_dayOrLast_X1_lengthOfMonth : GoodIn wsX1_dayOrLast wsX1_lengthOfMonth := goodIn_r _ [40, 18, 19, 7, 20, 13, 21, 22, 16, 23, 10, 11, 12, 14, 15, 17, 24, 25, 26, 27, 28, 29] (by decide +kernel) (by decide +kernel)
set_option maxRecDepth 20000 in
theorem gX1_dayOrLast_X1_lengthOfMonth : GoodIn wsX1_dayOrLast (va_wsS RX1 83 yX1_lengthOfMonth wsX1_lengthOfMonth) := goodIn_app (goodIn_of _ (by decide +kernel)) ggX1_dayOrLast_X1_lengthOfMonth
theorem dX1_dayOrLast_0 : decode cX1_dayOrLast 0 = .ok (.lload_n 0, 1) := by decide +kernel
theorem dX1_dayOrLast_1 : decode cX1_dayOrLast 1 = .ok (.invokestatic 72, 3) := by decide +kernel
theorem dX1_dayOrLast_4 : decode cX1_dayOrLast 4 = .ok (.lload_n 2, 1) := by decide +kernel
theorem dX1_dayOrLast_5 : decode cX1_dayOrLast 5 = .ok (.lload_n 0, 1) := by decide +kernel
theorem dX1_dayOrLast_6 : decode cX1_dayOrLast 6 = .ok (.invokestatic 83, 3) := by decide +kernel
theorem dX1_dayOrLast_9 : decode cX1_dayOrLast 9 = .ok (.i2l, 1) := by decide +kernel
theorem dX1_dayOrLast_10 : decode cX1_dayOrLast 10 = .ok (.invokestatic 86, 3) := by decide +kernel
theorem dX1_dayOrLast_13 : decode cX1_dayOrLast 13 = .ok (.ladd, 1) := by decide +kernel
theorem dX1_dayOrLast_14 : decode cX1_dayOrLast 14 = .ok (.lconst 1, 1) := by decide +kernel
theorem dX1_dayOrLast_15 : decode cX1_dayOrLast 15 = .ok (.lsub, 1) := by decide +kernel
theorem dX1_dayOrLast_16 : decode cX1_dayOrLast 16 = .ok (.lreturn, 1) := by decide +kernel
set_option maxRecDepth 20000 in
theorem ggX1_plusMonths_X1_monthOfDay : GoodIn wsX1_plusMonths wsX1_monthOfDay := goodIn_r _ [4, 5, 6, 7, 8, 9, 3, 10, 11, 12, 13, 14, 15, 16, 17, 18, 19, 20, 21, 22, 23, 24, 25, 26, 27, 28, 29, 30, 31, 32] (by decide +kernel) (by decide +kernel)
set_option maxRecDepth 20000 in
theorem gX1_plusMonths_X1_monthOfDay : GoodIn wsX1_plusMonths (va_wsS RX1 69 yX1_monthOfDay wsX1_monthOfDay) := goodIn_app (goodIn_of _ (by decide +kernel)) ggX1_plusMonths_X1_monthOfDay
set_option maxRecDepth 20000 in
theorem ggX1_plusMonths_X1_firstOfMonth : GoodIn wsX1_plusMonths wsX1_firstOfMonth := goodIn_r _ [35, 36, 37, 38, 3, 39, 5, 14, 15, 16, 17, 40, 41, 42, 43, 44, 45, 27, 28, 29, 22, 24, 11, 18, 19, 20, 21, 23, 25, 26, 12] (by decide +kernel) (by decide +kernel)
set_option maxRecDepth 20000 in
theorem gX1_plusMonths_X1_firstOfMonth : GoodIn wsX1_plusMonths (va_wsS RX1 72 yX1_firstOfMonth wsX1_firstOfMonth) := goodIn_app (goodIn_of _ (by decide +kernel)) ggX1_plusMonths_X1_firstOfMonth
set_option maxRecDepth 20000 in
theorem ggX1_plusMonths_X1_dayOrLast : GoodIn wsX1_plusMonths wsX1_dayOrLast := goodIn_r _ [48, 49, 50, 51, 52, 33, 34, 3, 35, 36, 37, 38, 39, 5, 14, 15, 16, 17, 40, 41, 42, 43, 44, 45, 27, 28, 29, 22, 24, 11, 18, 19, 20, 21, 23, 25, 26, 12, 53, 54, 55] (by decide +kernel) (by decide +kernel)
set_option maxRecDepth 20000 in
theorem gX1_plusMonths_X1_dayOrLast : GoodIn wsX1_plusMonths (va_wsS RX1 89 yX1_dayOrLast wsX1_dayOrLast) := goodIn_app (goodIn_of _ (by decide +kernel)) ggX1_plusMonths_X1_dayOrLast
theorem dX1_plusMonths_0 : decode cX1_plusMonths 0 = .ok (.lload_n 0, 1) := by decide +kernel
theorem dX1_plusMonths_1 : decode cX1_plusMonths 1 = .ok (.invokestatic 69, 3) := by decide +kernel
theorem dX1_plusMonths_4 : decode cX1_plusMonths 4 = .ok (.lstore 4, 2) := by decide +kernel
theorem dX1_plusMonths_6 : decode cX1_plusMonths 6 = .ok (.lload 4, 2) := by decide +kernel
theorem dX1_plusMonths_8 : decode cX1_plusMonths 8 = .ok (.lload_n 2, 1) := by decide +kernel
theorem dX1_plusMonths_9 : decode cX1_plusMonths 9 = .ok (.ladd, 1) := by decide +kernel
theorem dX1_plusMonths_10 : decode cX1_plusMonths 10 = .ok (.lload_n 0, 1) := by decide +kernel
theorem dX1_plusMonths_11 : decode cX1_plusMonths 11 = .ok (.lload 4, 2) := by decide +kernel
theorem dX1_plusMonths_13 : decode cX1_plusMonths 13 = .ok (.invokestatic 72, 3) := by decide +kernel
theorem dX1_plusMonths_16 : decode cX1_plusMonths 16 = .ok (.lsub, 1) := by decide +kernel
theorem dX1_plusMonths_17 : decode cX1_plusMonths 17 = .ok (.lconst 1, 1) := by decide +kernel
theorem dX1_plusMonths_18 : decode cX1_plusMonths 18 = .ok (.ladd, 1) := by decide +kernel
theorem dX1_plusMonths_19 : decode cX1_plusMonths 19 = .ok (.invokestatic 89, 3) := by decide +kernel
theorem dX1_plusMonths_22 : decode cX1_plusMonths 22 = .ok (.lreturn, 1) := by decide +kernel
set_option maxRecDepth 20000 in
theorem ggX1_moved_X1_plusMonths : GoodIn wsX1_moved wsX1_plusMonths := goodIn_r _ [6, 7, 8, 5, 9, 2, 10, 11, 12, 13, 14, 15, 16, 17, 18, 19, 20, 21, 22, 23, 24, 25, 26, 27, 28, 29, 30, 31, 32, 33, 34, 35, 36, 37, 38, 39, 40, 41, 42, 43, 44, 45, 46, 47, 48, 49, 50, 51, 52, 53, 54, 55, 56, 57, 58, 59] (by decide +kernel) (by decide +kernel)
set_option maxRecDepth 20000 in
theorem gX1_moved_X1_plusMonths : GoodIn wsX1_moved (va_wsS RX1 92 yX1_plusMonths wsX1_plusMonths) := goodIn_app (goodIn_of _ (by decide +kernel)) ggX1_moved_X1_plusMonths
theorem dX1_moved_0 : decode cX1_moved 0 = .ok (.iload_n 2, 1) := by decide +kernel
theorem dX1_moved_1 : decode cX1_moved 1 = .ok (.lookupswitch 53 #[(100, 35), (109, 47), (119, 39)], 35) := by decide +kernel
theorem dX1_moved_36 : decode cX1_moved 36 = .ok (.lload_n 0, 1) := by decide +kernel
theorem dX1_moved_37 : decode cX1_moved 37 = .ok (.lload_n 3, 1) := by decide +kernel
theorem dX1_moved_38 : decode cX1_moved 38 = .ok (.ladd, 1) := by decide +kernel
theorem dX1_moved_39 : decode cX1_moved 39 = .ok (.lreturn, 1) := by decide +kernel
theorem dX1_moved_40 : decode cX1_moved 40 = .ok (.lload_n 0, 1) := by decide +kernel
theorem dX1_moved_41 : decode cX1_moved 41 = .ok (.ldc2_w 75, 3) := by decide +kernel
theorem dX1_moved_44 : decode cX1_moved 44 = .ok (.lload_n 3, 1) := by decide +kernel
theorem dX1_moved_45 : decode cX1_moved 45 = .ok (.lmul, 1) := by decide +kernel
theorem dX1_moved_46 : decode cX1_moved 46 = .ok (.ladd, 1) := by decide +kernel
theorem dX1_moved_47 : decode cX1_moved 47 = .ok (.lreturn, 1) := by decide +kernel
theorem dX1_moved_48 : decode cX1_moved 48 = .ok (.lload_n 0, 1) := by decide +kernel
theorem dX1_moved_49 : decode cX1_moved 49 = .ok (.lload_n 3, 1) := by decide +kernel
theorem dX1_moved_50 : decode cX1_moved 50 = .ok (.invokestatic 92, 3) := by decide +kernel
theorem dX1_moved_53 : decode cX1_moved 53 = .ok (.lreturn, 1) := by decide +kernel
theorem dX1_moved_54 : decode cX1_moved 54 = .ok (.lload_n 0, 1) := by decide +kernel
theorem dX1_moved_55 : decode cX1_moved 55 = .ok (.ldc2_w 23, 3) := by decide +kernel
theorem dX1_moved_58 : decode cX1_moved 58 = .ok (.lload_n 3, 1) := by decide +kernel
theorem dX1_moved_59 : decode cX1_moved 59 = .ok (.lmul, 1) := by decide +kernel
theorem dX1_moved_60 : decode cX1_moved 60 = .ok (.invokestatic 92, 3) := by decide +kernel
theorem dX1_moved_63 : decode cX1_moved 63 = .ok (.lreturn, 1) := by decide +kernel
set_option maxRecDepth 20000 in
theorem ggX1_wholeMonths_X1_monthOfDay : GoodIn wsX1_wholeMonths wsX1_monthOfDay := goodIn_r _ [11, 12, 13, 14, 15, 16, 10, 17, 18, 19, 20, 21, 22, 23, 24, 25, 26, 27, 28, 29, 30, 31, 32, 33, 34, 35, 36, 37, 38, 39] (by decide +kernel) (by decide +kernel)
set_option maxRecDepth 20000 in
theorem gX1_wholeMonths_X1_monthOfDay : GoodIn wsX1_wholeMonths (va_wsS RX1 69 yX1_monthOfDay wsX1_monthOfDay) := goodIn_app (goodIn_of _ (by decide +kernel)) ggX1_wholeMonths_X1_monthOfDay
set_option maxRecDepth 20000 in
theorem ggX1_wholeMonths_X1_firstOfMonth : GoodIn wsX1_wholeMonths wsX1_firstOfMonth := goodIn_r _ [42, 43, 44, 45, 10, 46, 12, 21, 22, 23, 24, 47, 48, 49, 50, 51, 52, 34, 35, 36, 29, 31, 18, 25, 26, 27, 28, 30, 32, 33, 19] (by decide +kernel) (by decide +kernel)
set_option maxRecDepth 20000 in
theorem gX1_wholeMonths_X1_firstOfMonth : GoodIn wsX1_wholeMonths (va_wsS RX1 72 yX1_firstOfMonth wsX1_firstOfMonth) := goodIn_app (goodIn_of _ (by decide +kernel)) ggX1_wholeMonths_X1_firstOfMonth
theorem dX1_wholeMonths_0 : decode cX1_wholeMonths 0 = .ok (.lload_n 0, 1) := by decide +kernel
theorem dX1_wholeMonths_1 : decode cX1_wholeMonths 1 = .ok (.lload_n 2, 1) := by decide +kernel
theorem dX1_wholeMonths_2 : decode cX1_wholeMonths 2 = .ok (.invokestatic 86, 3) := by decide +kernel
theorem dX1_wholeMonths_5 : decode cX1_wholeMonths 5 = .ok (.lstore 4, 2) := by decide +kernel
theorem dX1_wholeMonths_7 : decode cX1_wholeMonths 7 = .ok (.lload_n 0, 1) := by decide +kernel
theorem dX1_wholeMonths_8 : decode cX1_wholeMonths 8 = .ok (.lload_n 2, 1) := by decide +kernel
theorem dX1_wholeMonths_9 : decode cX1_wholeMonths 9 = .ok (.invokestatic 95, 3) := by decide +kernel
theorem dX1_wholeMonths_12 : decode cX1_wholeMonths 12 = .ok (.lstore 6, 2) := by decide +kernel
theorem dX1_wholeMonths_14 : decode cX1_wholeMonths 14 = .ok (.lload 4, 2) := by decide +kernel
theorem dX1_wholeMonths_16 : decode cX1_wholeMonths 16 = .ok (.invokestatic 69, 3) := by decide +kernel
theorem dX1_wholeMonths_19 : decode cX1_wholeMonths 19 = .ok (.lstore 8, 2) := by decide +kernel
theorem dX1_wholeMonths_21 : decode cX1_wholeMonths 21 = .ok (.lload 6, 2) := by decide +kernel
theorem dX1_wholeMonths_23 : decode cX1_wholeMonths 23 = .ok (.invokestatic 69, 3) := by decide +kernel
theorem dX1_wholeMonths_26 : decode cX1_wholeMonths 26 = .ok (.lstore 10, 2) := by decide +kernel
theorem dX1_wholeMonths_28 : decode cX1_wholeMonths 28 = .ok (.lload 10, 2) := by decide +kernel
theorem dX1_wholeMonths_30 : decode cX1_wholeMonths 30 = .ok (.lload 8, 2) := by decide +kernel
theorem dX1_wholeMonths_32 : decode cX1_wholeMonths 32 = .ok (.lsub, 1) := by decide +kernel
theorem dX1_wholeMonths_33 : decode cX1_wholeMonths 33 = .ok (.lstore 12, 2) := by decide +kernel
theorem dX1_wholeMonths_35 : decode cX1_wholeMonths 35 = .ok (.lload 6, 2) := by decide +kernel
theorem dX1_wholeMonths_37 : decode cX1_wholeMonths 37 = .ok (.lload 10, 2) := by decide +kernel
theorem dX1_wholeMonths_39 : decode cX1_wholeMonths 39 = .ok (.invokestatic 72, 3) := by decide +kernel
theorem dX1_wholeMonths_42 : decode cX1_wholeMonths 42 = .ok (.lsub, 1) := by decide +kernel
theorem dX1_wholeMonths_43 : decode cX1_wholeMonths 43 = .ok (.lload 4, 2) := by decide +kernel
theorem dX1_wholeMonths_45 : decode cX1_wholeMonths 45 = .ok (.lload 8, 2) := by decide +kernel
theorem dX1_wholeMonths_47 : decode cX1_wholeMonths 47 = .ok (.invokestatic 72, 3) := by decide +kernel
theorem dX1_wholeMonths_50 : decode cX1_wholeMonths 50 = .ok (.lsub, 1) := by decide +kernel
theorem dX1_wholeMonths_51 : decode cX1_wholeMonths 51 = .ok (.lcmp, 1) := by decide +kernel
theorem dX1_wholeMonths_52 : decode cX1_wholeMonths 52 = .ok (.ifCond .ge 9, 3) := by decide +kernel
theorem dX1_wholeMonths_55 : decode cX1_wholeMonths 55 = .ok (.lload 12, 2) := by decide +kernel
theorem dX1_wholeMonths_57 : decode cX1_wholeMonths 57 = .ok (.lconst 1, 1) := by decide +kernel
theorem dX1_wholeMonths_58 : decode cX1_wholeMonths 58 = .ok (.lsub, 1) := by decide +kernel
theorem dX1_wholeMonths_59 : decode cX1_wholeMonths 59 = .ok (.lstore 12, 2) := by decide +kernel
theorem dX1_wholeMonths_61 : decode cX1_wholeMonths 61 = .ok (.lload_n 2, 1) := by decide +kernel
theorem dX1_wholeMonths_62 : decode cX1_wholeMonths 62 = .ok (.lload_n 0, 1) := by decide +kernel
theorem dX1_wholeMonths_63 : decode cX1_wholeMonths 63 = .ok (.lcmp, 1) := by decide +kernel
theorem dX1_wholeMonths_64 : decode cX1_wholeMonths 64 = .ok (.ifCond .ge 9, 3) := by decide +kernel
theorem dX1_wholeMonths_67 : decode cX1_wholeMonths 67 = .ok (.lload 12, 2) := by decide +kernel
theorem dX1_wholeMonths_69 : decode cX1_wholeMonths 69 = .ok (.lneg, 1) := by decide +kernel
theorem dX1_wholeMonths_70 : decode cX1_wholeMonths 70 = .ok (.goto 5, 3) := by decide +kernel
theorem dX1_wholeMonths_73 : decode cX1_wholeMonths 73 = .ok (.lload 12, 2) := by decide +kernel
theorem dX1_wholeMonths_75 : decode cX1_wholeMonths 75 = .ok (.lreturn, 1) := by decide +kernel
theorem dX2_init_0 : decode cX2_init 0 = .ok (.aload_n 0, 1) := by decide +kernel
theorem dX2_init_1 : decode cX2_init 1 = .ok (.invokespecial 1, 3) := by decide +kernel
theorem dX2_init_4 : decode cX2_init 4 = .ok (.aload_n 0, 1) := by decide +kernel
theorem dX2_init_5 : decode cX2_init 5 = .ok (.bipush 6, 2) := by decide +kernel
theorem dX2_init_7 : decode cX2_init 7 = .ok (.newarray .long, 2) := by decide +kernel
theorem dX2_init_9 : decode cX2_init 9 = .ok (.putfield 9, 3) := by decide +kernel
theorem dX2_init_12 : decode cX2_init 12 = .ok (.aload_n 0, 1) := by decide +kernel
theorem dX2_init_13 : decode cX2_init 13 = .ok (.iconst 4, 1) := by decide +kernel
theorem dX2_init_14 : decode cX2_init 14 = .ok (.newarray .int, 2) := by decide +kernel
theorem dX2_init_16 : decode cX2_init 16 = .ok (.putfield 13, 3) := by decide +kernel
theorem dX2_init_19 : decode cX2_init 19 = .ok (.aload_n 0, 1) := by decide +kernel
theorem dX2_init_20 : decode cX2_init 20 = .ok (.iconst 4, 1) := by decide +kernel
theorem dX2_init_21 : decode cX2_init 21 = .ok (.newarray .int, 2) := by decide +kernel
theorem dX2_init_23 : decode cX2_init 23 = .ok (.putfield 17, 3) := by decide +kernel
theorem dX2_init_26 : decode cX2_init 26 = .ok (.aload_n 0, 1) := by decide +kernel
theorem dX2_init_27 : decode cX2_init 27 = .ok (.iconst 4, 1) := by decide +kernel
theorem dX2_init_28 : decode cX2_init 28 = .ok (.newarray .int, 2) := by decide +kernel
theorem dX2_init_30 : decode cX2_init 30 = .ok (.putfield 20, 3) := by decide +kernel
theorem dX2_init_33 : decode cX2_init 33 = .ok (.aload_n 0, 1) := by decide +kernel
theorem dX2_init_34 : decode cX2_init 34 = .ok (.iconst 4, 1) := by decide +kernel
theorem dX2_init_35 : decode cX2_init 35 = .ok (.newarray .int, 2) := by decide +kernel
theorem dX2_init_37 : decode cX2_init 37 = .ok (.putfield 23, 3) := by decide +kernel
theorem dX2_init_40 : decode cX2_init 40 = .ok (.aload_n 0, 1) := by decide +kernel
theorem dX2_init_41 : decode cX2_init 41 = .ok (.iconst 4, 1) := by decide +kernel
theorem dX2_init_42 : decode cX2_init 42 = .ok (.newarray .long, 2) := by decide +kernel
theorem dX2_init_44 : decode cX2_init 44 = .ok (.putfield 26, 3) := by decide +kernel
theorem dX2_init_47 : decode cX2_init 47 = .ok (.aload_n 0, 1) := by decide +kernel
theorem dX2_init_48 : decode cX2_init 48 = .ok (.iconst 4, 1) := by decide +kernel
theorem dX2_init_49 : decode cX2_init 49 = .ok (.newarray .long, 2) := by decide +kernel
theorem dX2_init_51 : decode cX2_init 51 = .ok (.putfield 29, 3) := by decide +kernel
theorem dX2_init_54 : decode cX2_init 54 = .ok (.aload_n 0, 1) := by decide +kernel
theorem dX2_init_55 : decode cX2_init 55 = .ok (.iconst 4, 1) := by decide +kernel
theorem dX2_init_56 : decode cX2_init 56 = .ok (.newarray .long, 2) := by decide +kernel
theorem dX2_init_58 : decode cX2_init 58 = .ok (.putfield 32, 3) := by decide +kernel
theorem dX2_init_61 : decode cX2_init 61 = .ok (.aload_n 0, 1) := by decide +kernel
theorem dX2_init_62 : decode cX2_init 62 = .ok (.iconst 4, 1) := by decide +kernel
theorem dX2_init_63 : decode cX2_init 63 = .ok (.newarray .long, 2) := by decide +kernel
theorem dX2_init_65 : decode cX2_init 65 = .ok (.putfield 35, 3) := by decide +kernel
theorem dX2_init_68 : decode cX2_init 68 = .ok (.aload_n 0, 1) := by decide +kernel
theorem dX2_init_69 : decode cX2_init 69 = .ok (.iconst 4, 1) := by decide +kernel
theorem dX2_init_70 : decode cX2_init 70 = .ok (.newarray .long, 2) := by decide +kernel
theorem dX2_init_72 : decode cX2_init 72 = .ok (.putfield 38, 3) := by decide +kernel
theorem dX2_init_75 : decode cX2_init 75 = .ok (.iconst 0, 1) := by decide +kernel
theorem dX2_init_76 : decode cX2_init 76 = .ok (.istore_n 1, 1) := by decide +kernel
theorem dX2_init_77 : decode cX2_init 77 = .ok (.iload_n 1, 1) := by decide +kernel
theorem dX2_init_78 : decode cX2_init 78 = .ok (.iconst 4, 1) := by decide +kernel
theorem dX2_init_79 : decode cX2_init 79 = .ok (.if_icmp .ge 18, 3) := by decide +kernel
theorem dX2_init_82 : decode cX2_init 82 = .ok (.aload_n 0, 1) := by decide +kernel
theorem dX2_init_83 : decode cX2_init 83 = .ok (.getfield 23, 3) := by decide +kernel
theorem dX2_init_86 : decode cX2_init 86 = .ok (.iload_n 1, 1) := by decide +kernel
theorem dX2_init_87 : decode cX2_init 87 = .ok (.sipush 23640, 3) := by decide +kernel
theorem dX2_init_90 : decode cX2_init 90 = .ok (.iastore, 1) := by decide +kernel
theorem dX2_init_91 : decode cX2_init 91 = .ok (.iinc 1 1, 3) := by decide +kernel
theorem dX2_init_94 : decode cX2_init 94 = .ok (.goto (-17), 3) := by decide +kernel
theorem dX2_init_97 : decode cX2_init 97 = .ok (.return_, 1) := by decide +kernel
set_option maxRecDepth 20000 in
theorem ggX2_date_X2_checkSlot : GoodIn wsX2_date wsX2_checkSlot := goodIn_ca (goodIn_r _ [5, 6, 7] (by decide +kernel) (by decide +kernel)) (goodIn_sub (fun _ h => List.mem_cons_of_mem _ (List.mem_append_left _ (List.mem_append_left _ (List.mem_append_left _ (List.mem_append_right _ h))))) (by decide +kernel))
set_option maxRecDepth 20000 in
theorem gX2_date_X2_checkSlot : GoodIn wsX2_date (va_wsS RX2 41 yX2_checkSlot wsX2_checkSlot) := goodIn_app (goodIn_of _ (by decide +kernel)) ggX2_date_X2_checkSlot
set_option maxRecDepth 20000 in
theorem ggX2_date_X2_isYear : GoodIn wsX2_date wsX2_isYear := goodIn_r _ [10, 11, 12, 13, 14, 4, 15] (by decide +kernel) (by decide +kernel)
set_option maxRecDepth 20000 in
theorem gX2_date_X2_isYear : GoodIn wsX2_date (va_wsS RX2 45 yX2_isYear wsX2_isYear) := goodIn_app (goodIn_of _ (by decide +kernel)) ggX2_date_X2_isYear
set_option maxRecDepth 20000 in
theorem ggX2_date_X2_checkArgument : GoodIn wsX2_date wsX2_checkArgument := goodIn_ca (goodIn_r _ [18, 19, 20] (by decide +kernel) (by decide +kernel)) (goodIn_sub (fun _ h => List.mem_cons_of_mem _ (List.mem_append_left _ (List.mem_append_left _ (List.mem_append_right _ h)))) (by decide +kernel))
set_option maxRecDepth 20000 in
theorem gX2_date_X2_checkArgument : GoodIn wsX2_date (va_wsS RX2 49 yX2_checkArgument wsX2_checkArgument) := goodIn_app (goodIn_of _ (by decide +kernel)) ggX2_date_X2_checkArgument
set_option maxRecDepth 20000 in
theorem ggX2_date_X2_isIn : GoodIn wsX2_date wsX2_isIn := goodIn_r _ [15] (by decide +kernel) (by decide +kernel)
set_option maxRecDepth 20000 in
theorem gX2_date_X2_isIn : GoodIn wsX2_date (va_wsS RX2 55 yX2_isIn wsX2_isIn) := goodIn_app (goodIn_of _ (by decide +kernel)) ggX2_date_X2_isIn
set_option maxRecDepth 20000 in
theorem ggX2_date_X1_monthIndex : GoodIn wsX2_date wsX1_monthIndex := goodIn_r _ [24, 25] (by decide +kernel) (by decide +kernel)
set_option maxRecDepth 20000 in
theorem gX2_date_X1_monthIndex : GoodIn wsX2_date (va_wsS RX2 59 yX1_monthIndex wsX1_monthIndex) := goodIn_app (goodIn_of _ (by decide +kernel)) ggX2_date_X1_monthIndex
set_option maxRecDepth 20000 in
theorem ggX2_date_X1_lengthOfMonth : GoodIn wsX2_date wsX1_lengthOfMonth := goodIn_r _ [28, 29, 30, 23, 31, 25, 32, 33, 34, 35, 36, 37, 38, 39, 40, 41, 42, 43, 44, 45, 46, 47] (by decide +kernel) (by decide +kernel)
set_option maxRecDepth 20000 in
theorem gX2_date_X1_lengthOfMonth : GoodIn wsX2_date (va_wsS RX2 65 yX1_lengthOfMonth wsX1_lengthOfMonth) := goodIn_app (goodIn_of _ (by decide +kernel)) ggX2_date_X1_lengthOfMonth
set_option maxRecDepth 20000 in
theorem ggX2_date_X1_firstOfMonth : GoodIn wsX2_date wsX1_firstOfMonth := goodIn_r _ [50, 51, 36, 37, 23, 38, 25, 39, 40, 34, 41, 29, 30, 31, 32, 33, 35, 42, 43, 44, 45, 46, 47, 52, 53, 54, 55, 56, 57, 58, 59] (by decide +kernel) (by decide +kernel)
set_option maxRecDepth 20000 in
theorem gX2_date_X1_firstOfMonth : GoodIn wsX2_date (va_wsS RX2 69 yX1_firstOfMonth wsX1_firstOfMonth) := goodIn_app (goodIn_of _ (by decide +kernel)) ggX2_date_X1_firstOfMonth
set_option maxRecDepth 20000 in
theorem ggX2_date_X2_keepDate : GoodIn wsX2_date wsX2_keepDate := goodIn_ca (goodIn_ca (goodIn_r _ [63, 64, 65, 66, 23, 67, 68, 69, 70, 71, 4, 72, 73, 74, 75, 76, 77, 78, 79, 80, 81, 82, 83, 84] (by decide +kernel) (by decide +kernel)) (goodIn_sub (fun _ h => List.mem_cons_of_mem _ (List.mem_append_left _ (List.mem_append_right _ h))) (by decide +kernel))) (goodIn_sub (fun _ h => List.mem_cons_of_mem _ (List.mem_append_right _ h)) (by decide +kernel))
set_option maxRecDepth 20000 in
theorem gX2_date_X2_keepDate : GoodIn wsX2_date (wsV RX2 73 RX2 yX2_keepDate wsX2_keepDate) := goodIn_app (goodIn_of _ (by decide +kernel)) ggX2_date_X2_keepDate
theorem dX2_date_0 : decode cX2_date 0 = .ok (.iload_n 1, 1) := by decide +kernel
theorem dX2_date_1 : decode cX2_date 1 = .ok (.bipush 6, 2) := by decide +kernel
theorem dX2_date_3 : decode cX2_date 3 = .ok (.invokestatic 41, 3) := by decide +kernel
theorem dX2_date_6 : decode cX2_date 6 = .ok (.iload_n 2, 1) := by decide +kernel
theorem dX2_date_7 : decode cX2_date 7 = .ok (.i2l, 1) := by decide +kernel
theorem dX2_date_8 : decode cX2_date 8 = .ok (.invokestatic 45, 3) := by decide +kernel
theorem dX2_date_11 : decode cX2_date 11 = .ok (.invokestatic 49, 3) := by decide +kernel
theorem dX2_date_14 : decode cX2_date 14 = .ok (.iload_n 3, 1) := by decide +kernel
theorem dX2_date_15 : decode cX2_date 15 = .ok (.i2l, 1) := by decide +kernel
theorem dX2_date_16 : decode cX2_date 16 = .ok (.lconst 1, 1) := by decide +kernel
theorem dX2_date_17 : decode cX2_date 17 = .ok (.ldc2_w 53, 3) := by decide +kernel
theorem dX2_date_20 : decode cX2_date 20 = .ok (.invokestatic 55, 3) := by decide +kernel
theorem dX2_date_23 : decode cX2_date 23 = .ok (.invokestatic 49, 3) := by decide +kernel
theorem dX2_date_26 : decode cX2_date 26 = .ok (.iload_n 2, 1) := by decide +kernel
theorem dX2_date_27 : decode cX2_date 27 = .ok (.i2l, 1) := by decide +kernel
theorem dX2_date_28 : decode cX2_date 28 = .ok (.iload_n 3, 1) := by decide +kernel
theorem dX2_date_29 : decode cX2_date 29 = .ok (.i2l, 1) := by decide +kernel
theorem dX2_date_30 : decode cX2_date 30 = .ok (.invokestatic 59, 3) := by decide +kernel
theorem dX2_date_33 : decode cX2_date 33 = .ok (.lstore 5, 2) := by decide +kernel
theorem dX2_date_35 : decode cX2_date 35 = .ok (.iload 4, 2) := by decide +kernel
theorem dX2_date_37 : decode cX2_date 37 = .ok (.i2l, 1) := by decide +kernel
theorem dX2_date_38 : decode cX2_date 38 = .ok (.lconst 1, 1) := by decide +kernel
theorem dX2_date_39 : decode cX2_date 39 = .ok (.lload 5, 2) := by decide +kernel
theorem dX2_date_41 : decode cX2_date 41 = .ok (.invokestatic 65, 3) := by decide +kernel
theorem dX2_date_44 : decode cX2_date 44 = .ok (.i2l, 1) := by decide +kernel
theorem dX2_date_45 : decode cX2_date 45 = .ok (.invokestatic 55, 3) := by decide +kernel
theorem dX2_date_48 : decode cX2_date 48 = .ok (.invokestatic 49, 3) := by decide +kernel
theorem dX2_date_51 : decode cX2_date 51 = .ok (.aload_n 0, 1) := by decide +kernel
theorem dX2_date_52 : decode cX2_date 52 = .ok (.iload_n 1, 1) := by decide +kernel
theorem dX2_date_53 : decode cX2_date 53 = .ok (.lload 5, 2) := by decide +kernel
theorem dX2_date_55 : decode cX2_date 55 = .ok (.invokestatic 69, 3) := by decide +kernel
theorem dX2_date_58 : decode cX2_date 58 = .ok (.iload 4, 2) := by decide +kernel
theorem dX2_date_60 : decode cX2_date 60 = .ok (.i2l, 1) := by decide +kernel
theorem dX2_date_61 : decode cX2_date 61 = .ok (.ladd, 1) := by decide +kernel
theorem dX2_date_62 : decode cX2_date 62 = .ok (.lconst 1, 1) := by decide +kernel
theorem dX2_date_63 : decode cX2_date 63 = .ok (.lsub, 1) := by decide +kernel
theorem dX2_date_64 : decode cX2_date 64 = .ok (.invokevirtual 73, 3) := by decide +kernel
theorem dX2_date_67 : decode cX2_date 67 = .ok (.lreturn, 1) := by decide +kernel
set_option maxRecDepth 20000 in
theorem ggX2_ofDay_X2_checkSlot : GoodIn wsX2_ofDay wsX2_checkSlot := goodIn_ca (goodIn_r _ [4, 5, 6] (by decide +kernel) (by decide +kernel)) (goodIn_sub (fun _ h => List.mem_cons_of_mem _ (List.mem_append_left _ (List.mem_append_left _ (List.mem_append_right _ h)))) (by decide +kernel))
set_option maxRecDepth 20000 in
theorem gX2_ofDay_X2_checkSlot : GoodIn wsX2_ofDay (va_wsS RX2 41 yX2_checkSlot wsX2_checkSlot) := goodIn_app (goodIn_of _ (by decide +kernel)) ggX2_ofDay_X2_checkSlot
set_option maxRecDepth 20000 in
theorem ggX2_ofDay_X2_keepDate : GoodIn wsX2_ofDay wsX2_keepDate := goodIn_ca (goodIn_ca (goodIn_r _ [10, 11, 12, 13, 14, 15, 16, 17, 18, 19, 3, 20, 21, 22, 42, 43, 44, 45, 46, 47, 48, 49, 50, 51] (by decide +kernel) (by decide +kernel)) (goodIn_sub (fun _ h => List.mem_cons_of_mem _ (List.mem_append_left _ (List.mem_append_right _ h))) (by decide +kernel))) (goodIn_sub (fun _ h => List.mem_cons_of_mem _ (List.mem_append_right _ h)) (by decide +kernel))
set_option maxRecDepth 20000 in
theorem gX2_ofDay_X2_keepDate : GoodIn wsX2_ofDay (wsV RX2 73 RX2 yX2_keepDate wsX2_keepDate) := goodIn_app (goodIn_of _ (by decide +kernel)) ggX2_ofDay_X2_keepDate
set_option maxRecDepth 20000 in
theorem ggX2_ofDay_X1_yearOfDay : GoodIn wsX2_ofDay wsX1_yearOfDay := goodIn_r _ [25, 26, 27, 28, 29, 30, 31, 32, 33, 34, 14, 35, 36, 37, 38, 39, 40, 41] (by decide +kernel) (by decide +kernel)
set_option maxRecDepth 20000 in
theorem gX2_ofDay_X1_yearOfDay : GoodIn wsX2_ofDay (va_wsS RX2 77 yX1_yearOfDay wsX1_yearOfDay) := goodIn_app (goodIn_of _ (by decide +kernel)) ggX2_ofDay_X1_yearOfDay
theorem dX2_ofDay_0 : decode cX2_ofDay 0 = .ok (.iload_n 1, 1) := by decide +kernel
theorem dX2_ofDay_1 : decode cX2_ofDay 1 = .ok (.bipush 6, 2) := by decide +kernel
theorem dX2_ofDay_3 : decode cX2_ofDay 3 = .ok (.invokestatic 41, 3) := by decide +kernel
theorem dX2_ofDay_6 : decode cX2_ofDay 6 = .ok (.aload_n 0, 1) := by decide +kernel
theorem dX2_ofDay_7 : decode cX2_ofDay 7 = .ok (.iload_n 1, 1) := by decide +kernel
theorem dX2_ofDay_8 : decode cX2_ofDay 8 = .ok (.lload_n 2, 1) := by decide +kernel
theorem dX2_ofDay_9 : decode cX2_ofDay 9 = .ok (.invokevirtual 73, 3) := by decide +kernel
theorem dX2_ofDay_12 : decode cX2_ofDay 12 = .ok (.invokestatic 77, 3) := by decide +kernel
theorem dX2_ofDay_15 : decode cX2_ofDay 15 = .ok (.l2i, 1) := by decide +kernel
theorem dX2_ofDay_16 : decode cX2_ofDay 16 = .ok (.ireturn, 1) := by decide +kernel
set_option maxRecDepth 20000 in
theorem ggX2_day_X2_checkSlot : GoodIn wsX2_day wsX2_checkSlot := goodIn_ca (goodIn_r _ [5, 6, 7] (by decide +kernel) (by decide +kernel)) (goodIn_sub (fun _ h => List.mem_cons_of_mem _ (List.mem_append_right _ h)) (by decide +kernel))
set_option maxRecDepth 20000 in
theorem gX2_day_X2_checkSlot : GoodIn wsX2_day (va_wsS RX2 41 yX2_checkSlot wsX2_checkSlot) := goodIn_app (goodIn_of _ (by decide +kernel)) ggX2_day_X2_checkSlot
theorem dX2_day_0 : decode cX2_day 0 = .ok (.iload_n 1, 1) := by decide +kernel
theorem dX2_day_1 : decode cX2_day 1 = .ok (.bipush 6, 2) := by decide +kernel
theorem dX2_day_3 : decode cX2_day 3 = .ok (.invokestatic 41, 3) := by decide +kernel
theorem dX2_day_6 : decode cX2_day 6 = .ok (.aload_n 0, 1) := by decide +kernel
theorem dX2_day_7 : decode cX2_day 7 = .ok (.getfield 9, 3) := by decide +kernel
theorem dX2_day_10 : decode cX2_day 10 = .ok (.iload_n 1, 1) := by decide +kernel
theorem dX2_day_11 : decode cX2_day 11 = .ok (.laload, 1) := by decide +kernel
theorem dX2_day_12 : decode cX2_day 12 = .ok (.lreturn, 1) := by decide +kernel
set_option maxRecDepth 20000 in
theorem ggX2_part_X2_checkSlot : GoodIn wsX2_part wsX2_checkSlot := goodIn_ca (goodIn_r _ [7, 8, 9] (by decide +kernel) (by decide +kernel)) (goodIn_sub (fun _ h => List.mem_cons_of_mem _ (List.mem_append_right _ h)) (by decide +kernel))
set_option maxRecDepth 20000 in
theorem gX2_part_X2_checkSlot : GoodIn wsX2_part (va_wsS RX2 41 yX2_checkSlot wsX2_checkSlot) := goodIn_app (goodIn_of _ (by decide +kernel)) ggX2_part_X2_checkSlot
set_option maxRecDepth 20000 in
theorem ggX2_part_X1_yearOfDay : GoodIn wsX2_part wsX1_yearOfDay := goodIn_r _ [13, 14, 15, 16, 17, 18, 19, 20, 21, 22, 12, 23, 24, 25, 26, 27, 28, 29] (by decide +kernel) (by decide +kernel)
set_option maxRecDepth 20000 in
theorem gX2_part_X1_yearOfDay : GoodIn wsX2_part (va_wsS RX2 77 yX1_yearOfDay wsX1_yearOfDay) := goodIn_app (goodIn_of _ (by decide +kernel)) ggX2_part_X1_yearOfDay
set_option maxRecDepth 20000 in
theorem ggX2_part_X1_monthOfDay : GoodIn wsX2_part wsX1_monthOfDay := goodIn_r _ [32, 33, 34, 35, 36, 11, 12, 13, 14, 15, 16, 17, 18, 19, 20, 21, 22, 23, 24, 25, 26, 27, 28, 29, 37, 38, 39, 40, 41, 42] (by decide +kernel) (by decide +kernel)
set_option maxRecDepth 20000 in
theorem gX2_part_X1_monthOfDay : GoodIn wsX2_part (va_wsS RX2 80 yX1_monthOfDay wsX1_monthOfDay) := goodIn_app (goodIn_of _ (by decide +kernel)) ggX2_part_X1_monthOfDay
set_option maxRecDepth 20000 in
theorem ggX2_part_X1_monthInYear : GoodIn wsX2_part wsX1_monthInYear := goodIn_r _ [45, 33, 46, 47, 19, 48] (by decide +kernel) (by decide +kernel)
set_option maxRecDepth 20000 in
theorem gX2_part_X1_monthInYear : GoodIn wsX2_part (va_wsS RX2 83 yX1_monthInYear wsX1_monthInYear) := goodIn_app (goodIn_of _ (by decide +kernel)) ggX2_part_X1_monthInYear
set_option maxRecDepth 20000 in
theorem ggX2_part_X1_dayInMonth : GoodIn wsX2_part wsX1_dayInMonth := goodIn_r _ [51, 52, 31, 12, 32, 33, 34, 35, 36, 11, 13, 14, 15, 16, 17, 18, 19, 20, 21, 22, 23, 24, 25, 26, 27, 28, 29, 37, 38, 39, 40, 41, 42, 53, 54, 55, 56, 57, 58, 59, 60, 44, 45, 46, 47, 48] (by decide +kernel) (by decide +kernel)
set_option maxRecDepth 20000 in
theorem gX2_part_X1_dayInMonth : GoodIn wsX2_part (va_wsS RX2 86 yX1_dayInMonth wsX1_dayInMonth) := goodIn_app (goodIn_of _ (by decide +kernel)) ggX2_part_X1_dayInMonth
set_option maxRecDepth 20000 in
theorem ggX2_part_X1_firstOfYear : GoodIn wsX2_part wsX1_firstOfYear := goodIn_r _ [23, 24, 25, 26, 27, 28, 14, 29, 15, 17, 18, 19, 20] (by decide +kernel) (by decide +kernel)
set_option maxRecDepth 20000 in
theorem gX2_part_X1_firstOfYear : GoodIn wsX2_part (va_wsS RX2 89 yX1_firstOfYear wsX1_firstOfYear) := goodIn_app (goodIn_of _ (by decide +kernel)) ggX2_part_X1_firstOfYear
set_option maxRecDepth 20000 in
theorem ggX2_part_X1_weekdayOf : GoodIn wsX2_part wsX1_weekdayOf := goodIn_r _ [64, 24, 65, 46, 47, 19, 48] (by decide +kernel) (by decide +kernel)
set_option maxRecDepth 20000 in
theorem gX2_part_X1_weekdayOf : GoodIn wsX2_part (va_wsS RX2 92 yX1_weekdayOf wsX1_weekdayOf) := goodIn_app (goodIn_of _ (by decide +kernel)) ggX2_part_X1_weekdayOf
set_option maxRecDepth 20000 in
theorem ggX2_part_X1_lengthOfMonth : GoodIn wsX2_part wsX1_lengthOfMonth := goodIn_r _ [68, 60, 44, 12, 45, 33, 46, 47, 19, 48, 57, 58, 59, 17, 18, 20, 37, 38, 39, 25, 27, 14] (by decide +kernel) (by decide +kernel)
set_option maxRecDepth 20000 in
theorem gX2_part_X1_lengthOfMonth : GoodIn wsX2_part (va_wsS RX2 65 yX1_lengthOfMonth wsX1_lengthOfMonth) := goodIn_app (goodIn_of _ (by decide +kernel)) ggX2_part_X1_lengthOfMonth
set_option maxRecDepth 20000 in
theorem ggX2_part_X1_lengthOfYear : GoodIn wsX2_part wsX1_lengthOfYear := goodIn_r _ [71, 37, 38, 12, 39, 25, 27, 14] (by decide +kernel) (by decide +kernel)
set_option maxRecDepth 20000 in
theorem gX2_part_X1_lengthOfYear : GoodIn wsX2_part (va_wsS RX2 95 yX1_lengthOfYear wsX1_lengthOfYear) := goodIn_app (goodIn_of _ (by decide +kernel)) ggX2_part_X1_lengthOfYear
set_option maxRecDepth 20000 in
theorem ggX2_part_X1_isLongYear : GoodIn wsX2_part wsX1_isLongYear := goodIn_r _ [39, 25, 27, 14] (by decide +kernel) (by decide +kernel)
set_option maxRecDepth 20000 in
theorem gX2_part_X1_isLongYear : GoodIn wsX2_part (va_wsS RX2 98 yX1_isLongYear wsX1_isLongYear) := goodIn_app (goodIn_of _ (by decide +kernel)) ggX2_part_X1_isLongYear
theorem dX2_part_0 : decode cX2_part 0 = .ok (.iload_n 1, 1) := by decide +kernel
theorem dX2_part_1 : decode cX2_part 1 = .ok (.bipush 6, 2) := by decide +kernel
theorem dX2_part_3 : decode cX2_part 3 = .ok (.invokestatic 41, 3) := by decide +kernel
theorem dX2_part_6 : decode cX2_part 6 = .ok (.aload_n 0, 1) := by decide +kernel
theorem dX2_part_7 : decode cX2_part 7 = .ok (.getfield 9, 3) := by decide +kernel
theorem dX2_part_10 : decode cX2_part 10 = .ok (.iload_n 1, 1) := by decide +kernel
theorem dX2_part_11 : decode cX2_part 11 = .ok (.laload, 1) := by decide +kernel
theorem dX2_part_12 : decode cX2_part 12 = .ok (.lstore_n 3, 1) := by decide +kernel
theorem dX2_part_13 : decode cX2_part 13 = .ok (.lload_n 3, 1) := by decide +kernel
theorem dX2_part_14 : decode cX2_part 14 = .ok (.invokestatic 77, 3) := by decide +kernel
theorem dX2_part_17 : decode cX2_part 17 = .ok (.lstore 5, 2) := by decide +kernel
theorem dX2_part_19 : decode cX2_part 19 = .ok (.iload_n 2, 1) := by decide +kernel
theorem dX2_part_20 : decode cX2_part 20 = .ok (.lookupswitch 137 #[(76, 117), (98, 123), (100, 88), (108, 109), (109, 80), (110, 93), (119, 104), (121, 76)], 76) := by decide +kernel
theorem dX2_part_96 : decode cX2_part 96 = .ok (.lload 5, 2) := by decide +kernel
theorem dX2_part_98 : decode cX2_part 98 = .ok (.l2i, 1) := by decide +kernel
theorem dX2_part_99 : decode cX2_part 99 = .ok (.ireturn, 1) := by decide +kernel
theorem dX2_part_100 : decode cX2_part 100 = .ok (.lload_n 3, 1) := by decide +kernel
theorem dX2_part_101 : decode cX2_part 101 = .ok (.invokestatic 80, 3) := by decide +kernel
theorem dX2_part_104 : decode cX2_part 104 = .ok (.invokestatic 83, 3) := by decide +kernel
theorem dX2_part_107 : decode cX2_part 107 = .ok (.ireturn, 1) := by decide +kernel
theorem dX2_part_108 : decode cX2_part 108 = .ok (.lload_n 3, 1) := by decide +kernel
theorem dX2_part_109 : decode cX2_part 109 = .ok (.invokestatic 86, 3) := by decide +kernel
theorem dX2_part_112 : decode cX2_part 112 = .ok (.ireturn, 1) := by decide +kernel
theorem dX2_part_113 : decode cX2_part 113 = .ok (.lload_n 3, 1) := by decide +kernel
theorem dX2_part_114 : decode cX2_part 114 = .ok (.lload 5, 2) := by decide +kernel
theorem dX2_part_116 : decode cX2_part 116 = .ok (.invokestatic 89, 3) := by decide +kernel
theorem dX2_part_119 : decode cX2_part 119 = .ok (.lsub, 1) := by decide +kernel
theorem dX2_part_120 : decode cX2_part 120 = .ok (.l2i, 1) := by decide +kernel
theorem dX2_part_121 : decode cX2_part 121 = .ok (.iconst 1, 1) := by decide +kernel
theorem dX2_part_122 : decode cX2_part 122 = .ok (.iadd, 1) := by decide +kernel
theorem dX2_part_123 : decode cX2_part 123 = .ok (.ireturn, 1) := by decide +kernel
theorem dX2_part_124 : decode cX2_part 124 = .ok (.lload_n 3, 1) := by decide +kernel
theorem dX2_part_125 : decode cX2_part 125 = .ok (.invokestatic 92, 3) := by decide +kernel
theorem dX2_part_128 : decode cX2_part 128 = .ok (.ireturn, 1) := by decide +kernel
theorem dX2_part_129 : decode cX2_part 129 = .ok (.lload_n 3, 1) := by decide +kernel
theorem dX2_part_130 : decode cX2_part 130 = .ok (.invokestatic 80, 3) := by decide +kernel
theorem dX2_part_133 : decode cX2_part 133 = .ok (.invokestatic 65, 3) := by decide +kernel
theorem dX2_part_136 : decode cX2_part 136 = .ok (.ireturn, 1) := by decide +kernel
theorem dX2_part_137 : decode cX2_part 137 = .ok (.lload 5, 2) := by decide +kernel
theorem dX2_part_139 : decode cX2_part 139 = .ok (.invokestatic 95, 3) := by decide +kernel
theorem dX2_part_142 : decode cX2_part 142 = .ok (.ireturn, 1) := by decide +kernel
theorem dX2_part_143 : decode cX2_part 143 = .ok (.lload 5, 2) := by decide +kernel
theorem dX2_part_145 : decode cX2_part 145 = .ok (.invokestatic 98, 3) := by decide +kernel
theorem dX2_part_148 : decode cX2_part 148 = .ok (.ifCond .eq 7, 3) := by decide +kernel
theorem dX2_part_151 : decode cX2_part 151 = .ok (.iconst 1, 1) := by decide +kernel
theorem dX2_part_152 : decode cX2_part 152 = .ok (.goto 4, 3) := by decide +kernel
theorem dX2_part_155 : decode cX2_part 155 = .ok (.iconst 0, 1) := by decide +kernel
theorem dX2_part_156 : decode cX2_part 156 = .ok (.ireturn, 1) := by decide +kernel
theorem dX2_part_157 : decode cX2_part 157 = .ok (.new 101, 3) := by decide +kernel
theorem dX2_part_160 : decode cX2_part 160 = .ok (.dup, 1) := by decide +kernel
theorem dX2_part_161 : decode cX2_part 161 = .ok (.ldc 103, 2) := by decide +kernel
theorem dX2_part_163 : decode cX2_part 163 = .ok (.invokespecial 105, 3) := by decide +kernel
theorem dX2_part_166 : decode cX2_part 166 = .ok (.athrow, 1) := by decide +kernel
set_option maxRecDepth 20000 in
theorem ggX2_move_X2_checkSlot : GoodIn wsX2_move wsX2_checkSlot := goodIn_ca (goodIn_r _ [7, 8, 9] (by decide +kernel) (by decide +kernel)) (goodIn_sub (fun _ h => List.mem_cons_of_mem _ (List.mem_append_left _ (List.mem_append_left _ (List.mem_append_right _ h)))) (by decide +kernel))
set_option maxRecDepth 20000 in
theorem gX2_move_X2_checkSlot : GoodIn wsX2_move (va_wsS RX2 41 yX2_checkSlot wsX2_checkSlot) := goodIn_app (goodIn_of _ (by decide +kernel)) ggX2_move_X2_checkSlot
set_option maxRecDepth 20000 in
theorem ggX2_move_X1_isUnit : GoodIn wsX2_move wsX1_isUnit := goodIn_r _ [13] (by decide +kernel) (by decide +kernel)
set_option maxRecDepth 20000 in
theorem gX2_move_X1_isUnit : GoodIn wsX2_move (va_wsS RX2 108 yX1_isUnit wsX1_isUnit) := goodIn_app (goodIn_of _ (by decide +kernel)) ggX2_move_X1_isUnit
set_option maxRecDepth 20000 in
theorem ggX2_move_X2_checkArgument : GoodIn wsX2_move wsX2_checkArgument := goodIn_ca (goodIn_r _ [16, 17, 18] (by decide +kernel) (by decide +kernel)) (goodIn_sub (fun _ h => List.mem_cons_of_mem _ (List.mem_append_left _ (List.mem_append_right _ h))) (by decide +kernel))
set_option maxRecDepth 20000 in
theorem gX2_move_X2_checkArgument : GoodIn wsX2_move (va_wsS RX2 49 yX2_checkArgument wsX2_checkArgument) := goodIn_app (goodIn_of _ (by decide +kernel)) ggX2_move_X2_checkArgument
set_option maxRecDepth 20000 in
theorem ggX2_move_X2_isIn : GoodIn wsX2_move wsX2_isIn := goodIn_r _ [21] (by decide +kernel) (by decide +kernel)
set_option maxRecDepth 20000 in
theorem gX2_move_X2_isIn : GoodIn wsX2_move (va_wsS RX2 55 yX2_isIn wsX2_isIn) := goodIn_app (goodIn_of _ (by decide +kernel)) ggX2_move_X2_isIn
set_option maxRecDepth 20000 in
theorem ggX2_move_X1_moved : GoodIn wsX2_move wsX1_moved := goodIn_r _ [24, 25, 26, 27, 28, 12, 29, 30, 31, 32, 33, 34, 35, 36, 37, 38, 39, 40, 41, 42, 43, 44, 45, 46, 47, 48, 49, 50, 51, 52, 53, 54, 55, 56, 57, 58, 59, 60, 61, 62, 63, 64, 65, 66, 67, 68, 69, 70, 71, 72, 73, 74, 75, 76, 77, 78, 79, 80, 81, 82] (by decide +kernel) (by decide +kernel)
set_option maxRecDepth 20000 in
theorem gX2_move_X1_moved : GoodIn wsX2_move (va_wsS RX2 116 yX1_moved wsX1_moved) := goodIn_app (goodIn_of _ (by decide +kernel)) ggX2_move_X1_moved
set_option maxRecDepth 20000 in
theorem ggX2_move_X2_keepDate : GoodIn wsX2_move wsX2_keepDate := goodIn_ca (goodIn_ca (goodIn_r _ [86, 3, 87, 88, 12, 89, 90, 91, 92, 93, 6, 94, 95, 96, 97, 98, 99, 100, 101, 102, 103, 104, 105, 106] (by decide +kernel) (by decide +kernel)) (goodIn_sub (fun _ h => List.mem_cons_of_mem _ (List.mem_append_left _ (List.mem_append_left _ (List.mem_append_left _ (List.mem_append_right _ h))))) (by decide +kernel))) (goodIn_sub (fun _ h => List.mem_cons_of_mem _ (List.mem_append_right _ h)) (by decide +kernel))
set_option maxRecDepth 20000 in
theorem gX2_move_X2_keepDate : GoodIn wsX2_move (wsV RX2 73 RX2 yX2_keepDate wsX2_keepDate) := goodIn_app (goodIn_of _ (by decide +kernel)) ggX2_move_X2_keepDate
theorem dX2_move_0 : decode cX2_move 0 = .ok (.iload_n 1, 1) := by decide +kernel
theorem dX2_move_1 : decode cX2_move 1 = .ok (.bipush 6, 2) := by decide +kernel
theorem dX2_move_3 : decode cX2_move 3 = .ok (.invokestatic 41, 3) := by decide +kernel
theorem dX2_move_6 : decode cX2_move 6 = .ok (.iload 4, 2) := by decide +kernel
theorem dX2_move_8 : decode cX2_move 8 = .ok (.bipush 6, 2) := by decide +kernel
theorem dX2_move_10 : decode cX2_move 10 = .ok (.invokestatic 41, 3) := by decide +kernel
theorem dX2_move_13 : decode cX2_move 13 = .ok (.iload_n 2, 1) := by decide +kernel
theorem dX2_move_14 : decode cX2_move 14 = .ok (.invokestatic 108, 3) := by decide +kernel
theorem dX2_move_17 : decode cX2_move 17 = .ok (.invokestatic 49, 3) := by decide +kernel
theorem dX2_move_20 : decode cX2_move 20 = .ok (.iload_n 3, 1) := by decide +kernel
theorem dX2_move_21 : decode cX2_move 21 = .ok (.i2l, 1) := by decide +kernel
theorem dX2_move_22 : decode cX2_move 22 = .ok (.ldc2_w 112, 3) := by decide +kernel
theorem dX2_move_25 : decode cX2_move 25 = .ok (.ldc2_w 114, 3) := by decide +kernel
theorem dX2_move_28 : decode cX2_move 28 = .ok (.invokestatic 55, 3) := by decide +kernel
theorem dX2_move_31 : decode cX2_move 31 = .ok (.invokestatic 49, 3) := by decide +kernel
theorem dX2_move_34 : decode cX2_move 34 = .ok (.aload_n 0, 1) := by decide +kernel
theorem dX2_move_35 : decode cX2_move 35 = .ok (.iload 4, 2) := by decide +kernel
theorem dX2_move_37 : decode cX2_move 37 = .ok (.aload_n 0, 1) := by decide +kernel
theorem dX2_move_38 : decode cX2_move 38 = .ok (.getfield 9, 3) := by decide +kernel
theorem dX2_move_41 : decode cX2_move 41 = .ok (.iload_n 1, 1) := by decide +kernel
theorem dX2_move_42 : decode cX2_move 42 = .ok (.laload, 1) := by decide +kernel
theorem dX2_move_43 : decode cX2_move 43 = .ok (.iload_n 2, 1) := by decide +kernel
theorem dX2_move_44 : decode cX2_move 44 = .ok (.iload_n 3, 1) := by decide +kernel
theorem dX2_move_45 : decode cX2_move 45 = .ok (.i2l, 1) := by decide +kernel
theorem dX2_move_46 : decode cX2_move 46 = .ok (.invokestatic 116, 3) := by decide +kernel
theorem dX2_move_49 : decode cX2_move 49 = .ok (.invokevirtual 73, 3) := by decide +kernel
theorem dX2_move_52 : decode cX2_move 52 = .ok (.lreturn, 1) := by decide +kernel
set_option maxRecDepth 20000 in
theorem ggX2_with_X2_checkSlot : GoodIn wsX2_with wsX2_checkSlot := goodIn_ca (goodIn_r _ [8, 9, 10] (by decide +kernel) (by decide +kernel)) (goodIn_sub (fun _ h => List.mem_cons_of_mem _ (List.mem_append_left _ (List.mem_append_right _ h))) (by decide +kernel))
set_option maxRecDepth 20000 in
theorem gX2_with_X2_checkSlot : GoodIn wsX2_with (va_wsS RX2 41 yX2_checkSlot wsX2_checkSlot) := goodIn_app (goodIn_of _ (by decide +kernel)) ggX2_with_X2_checkSlot
set_option maxRecDepth 20000 in
theorem ggX2_with_X1_monthOfDay : GoodIn wsX2_with wsX1_monthOfDay := goodIn_r _ [14, 15, 16, 17, 18, 19, 13, 20, 21, 22, 23, 24, 25, 26, 27, 28, 29, 30, 31, 32, 33, 34, 35, 36, 37, 38, 39, 40, 41, 42] (by decide +kernel) (by decide +kernel)
set_option maxRecDepth 20000 in
theorem gX2_with_X1_monthOfDay : GoodIn wsX2_with (va_wsS RX2 80 yX1_monthOfDay wsX1_monthOfDay) := goodIn_app (goodIn_of _ (by decide +kernel)) ggX2_with_X1_monthOfDay
set_option maxRecDepth 20000 in
theorem ggX2_with_X1_yearOfMonth : GoodIn wsX2_with wsX1_yearOfMonth := goodIn_r _ [45, 15, 24, 25, 26, 27] (by decide +kernel) (by decide +kernel)
set_option maxRecDepth 20000 in
theorem gX2_with_X1_yearOfMonth : GoodIn wsX2_with (va_wsS RX2 120 yX1_yearOfMonth wsX1_yearOfMonth) := goodIn_app (goodIn_of _ (by decide +kernel)) ggX2_with_X1_yearOfMonth
set_option maxRecDepth 20000 in
theorem ggX2_with_X1_lengthOfMonth : GoodIn wsX2_with wsX1_lengthOfMonth := goodIn_r _ [48, 49, 50, 13, 51, 15, 52, 53, 26, 54, 55, 44, 45, 24, 25, 27, 37, 38, 39, 32, 34, 21] (by decide +kernel) (by decide +kernel)
set_option maxRecDepth 20000 in
theorem gX2_with_X1_lengthOfMonth : GoodIn wsX2_with (va_wsS RX2 65 yX1_lengthOfMonth wsX1_lengthOfMonth) := goodIn_app (goodIn_of _ (by decide +kernel)) ggX2_with_X1_lengthOfMonth
set_option maxRecDepth 20000 in
theorem ggX2_with_X2_isIn : GoodIn wsX2_with wsX2_isIn := goodIn_r _ [58] (by decide +kernel) (by decide +kernel)
set_option maxRecDepth 20000 in
theorem gX2_with_X2_isIn : GoodIn wsX2_with (va_wsS RX2 55 yX2_isIn wsX2_isIn) := goodIn_app (goodIn_of _ (by decide +kernel)) ggX2_with_X2_isIn
set_option maxRecDepth 20000 in
theorem ggX2_with_X2_checkArgument : GoodIn wsX2_with wsX2_checkArgument := goodIn_ca (goodIn_r _ [61, 1, 2] (by decide +kernel) (by decide +kernel)) (goodIn_sub (fun _ h => List.mem_cons_of_mem _ (List.mem_append_left _ (List.mem_append_left _ (List.mem_append_right _ h)))) (by decide +kernel))
set_option maxRecDepth 20000 in
theorem gX2_with_X2_checkArgument : GoodIn wsX2_with (va_wsS RX2 49 yX2_checkArgument wsX2_checkArgument) := goodIn_app (goodIn_of _ (by decide +kernel)) ggX2_with_X2_checkArgument
set_option maxRecDepth 20000 in
theorem ggX2_with_X1_firstOfMonth : GoodIn wsX2_with wsX1_firstOfMonth := goodIn_r _ [64, 65, 55, 44, 13, 45, 15, 24, 25, 26, 27, 49, 50, 51, 52, 53, 54, 37, 38, 39, 32, 34, 21, 28, 29, 30, 31, 33, 35, 36, 22] (by decide +kernel) (by decide +kernel)
set_option maxRecDepth 20000 in
theorem gX2_with_X1_firstOfMonth : GoodIn wsX2_with (va_wsS RX2 69 yX1_firstOfMonth wsX1_firstOfMonth) := goodIn_app (goodIn_of _ (by decide +kernel)) ggX2_with_X1_firstOfMonth
set_option maxRecDepth 20000 in
theorem ggX2_with_X2_keepDate : GoodIn wsX2_with wsX2_keepDate := goodIn_ca (goodIn_ca (goodIn_r _ [69, 3, 70, 71, 13, 72, 73, 74, 75, 76, 7, 77, 78, 79, 103, 104, 105, 106, 107, 108, 109, 110, 111, 112] (by decide +kernel) (by decide +kernel)) (goodIn_sub (fun _ h => List.mem_cons_of_mem _ (List.mem_append_left _ (List.mem_append_left _ (List.mem_append_left _ (List.mem_append_right _ h))))) (by decide +kernel))) (goodIn_sub (fun _ h => List.mem_cons_of_mem _ (List.mem_append_right _ h)) (by decide +kernel))
set_option maxRecDepth 20000 in
theorem gX2_with_X2_keepDate : GoodIn wsX2_with (wsV RX2 73 RX2 yX2_keepDate wsX2_keepDate) := goodIn_app (goodIn_of _ (by decide +kernel)) ggX2_with_X2_keepDate
set_option maxRecDepth 20000 in
theorem ggX2_with_X1_lengthOfYear : GoodIn wsX2_with wsX1_lengthOfYear := goodIn_r _ [82, 37, 38, 13, 39, 32, 34, 21] (by decide +kernel) (by decide +kernel)
set_option maxRecDepth 20000 in
theorem gX2_with_X1_lengthOfYear : GoodIn wsX2_with (va_wsS RX2 95 yX1_lengthOfYear wsX1_lengthOfYear) := goodIn_app (goodIn_of _ (by decide +kernel)) ggX2_with_X1_lengthOfYear
set_option maxRecDepth 20000 in
theorem ggX2_with_X1_firstOfYear : GoodIn wsX2_with wsX1_firstOfYear := goodIn_r _ [30, 31, 32, 33, 34, 35, 21, 36, 22, 24, 25, 26, 27] (by decide +kernel) (by decide +kernel)
set_option maxRecDepth 20000 in
theorem gX2_with_X1_firstOfYear : GoodIn wsX2_with (va_wsS RX2 89 yX1_firstOfYear wsX1_firstOfYear) := goodIn_app (goodIn_of _ (by decide +kernel)) ggX2_with_X1_firstOfYear
set_option maxRecDepth 20000 in
theorem ggX2_with_X1_monthInYear : GoodIn wsX2_with wsX1_monthInYear := goodIn_r _ [51, 15, 52, 53, 26, 54] (by decide +kernel) (by decide +kernel)
set_option maxRecDepth 20000 in
theorem gX2_with_X1_monthInYear : GoodIn wsX2_with (va_wsS RX2 83 yX1_monthInYear wsX1_monthInYear) := goodIn_app (goodIn_of _ (by decide +kernel)) ggX2_with_X1_monthInYear
set_option maxRecDepth 20000 in
theorem ggX2_with_X1_plusMonths : GoodIn wsX2_with wsX1_plusMonths := goodIn_r _ [87, 88, 12, 13, 14, 15, 16, 17, 18, 19, 20, 21, 22, 23, 24, 25, 26, 27, 28, 29, 30, 31, 32, 33, 34, 35, 36, 37, 38, 39, 40, 41, 42, 89, 63, 64, 65, 55, 44, 45, 49, 50, 51, 52, 53, 54, 90, 91, 92, 93, 94, 95, 96, 97, 47, 48] (by decide +kernel) (by decide +kernel)
set_option maxRecDepth 20000 in
theorem gX2_with_X1_plusMonths : GoodIn wsX2_with (va_wsS RX2 123 yX1_plusMonths wsX1_plusMonths) := goodIn_app (goodIn_of _ (by decide +kernel)) ggX2_with_X1_plusMonths
set_option maxRecDepth 20000 in
theorem ggX2_with_X2_isYear : GoodIn wsX2_with wsX2_isYear := goodIn_r _ [100, 101, 102, 56, 57, 7, 58] (by decide +kernel) (by decide +kernel)
set_option maxRecDepth 20000 in
theorem gX2_with_X2_isYear : GoodIn wsX2_with (va_wsS RX2 45 yX2_isYear wsX2_isYear) := goodIn_app (goodIn_of _ (by decide +kernel)) ggX2_with_X2_isYear
theorem dX2_with_0 : decode cX2_with 0 = .ok (.iload_n 1, 1) := by decide +kernel
theorem dX2_with_1 : decode cX2_with 1 = .ok (.bipush 6, 2) := by decide +kernel
theorem dX2_with_3 : decode cX2_with 3 = .ok (.invokestatic 41, 3) := by decide +kernel
theorem dX2_with_6 : decode cX2_with 6 = .ok (.iload 4, 2) := by decide +kernel
theorem dX2_with_8 : decode cX2_with 8 = .ok (.bipush 6, 2) := by decide +kernel
theorem dX2_with_10 : decode cX2_with 10 = .ok (.invokestatic 41, 3) := by decide +kernel
theorem dX2_with_13 : decode cX2_with 13 = .ok (.aload_n 0, 1) := by decide +kernel
theorem dX2_with_14 : decode cX2_with 14 = .ok (.getfield 9, 3) := by decide +kernel
theorem dX2_with_17 : decode cX2_with 17 = .ok (.iload_n 1, 1) := by decide +kernel
theorem dX2_with_18 : decode cX2_with 18 = .ok (.laload, 1) := by decide +kernel
theorem dX2_with_19 : decode cX2_with 19 = .ok (.lstore 5, 2) := by decide +kernel
theorem dX2_with_21 : decode cX2_with 21 = .ok (.lload 5, 2) := by decide +kernel
theorem dX2_with_23 : decode cX2_with 23 = .ok (.invokestatic 80, 3) := by decide +kernel
theorem dX2_with_26 : decode cX2_with 26 = .ok (.lstore 7, 2) := by decide +kernel
theorem dX2_with_28 : decode cX2_with 28 = .ok (.lload 7, 2) := by decide +kernel
theorem dX2_with_30 : decode cX2_with 30 = .ok (.invokestatic 120, 3) := by decide +kernel
theorem dX2_with_33 : decode cX2_with 33 = .ok (.lstore 9, 2) := by decide +kernel
theorem dX2_with_35 : decode cX2_with 35 = .ok (.iload_n 2, 1) := by decide +kernel
theorem dX2_with_36 : decode cX2_with 36 = .ok (.lookupswitch 169 #[(100, 44), (109, 108), (110, 76), (121, 140)], 44) := by decide +kernel
theorem dX2_with_80 : decode cX2_with 80 = .ok (.iload_n 3, 1) := by decide +kernel
theorem dX2_with_81 : decode cX2_with 81 = .ok (.i2l, 1) := by decide +kernel
theorem dX2_with_82 : decode cX2_with 82 = .ok (.lconst 1, 1) := by decide +kernel
theorem dX2_with_83 : decode cX2_with 83 = .ok (.lload 7, 2) := by decide +kernel
theorem dX2_with_85 : decode cX2_with 85 = .ok (.invokestatic 65, 3) := by decide +kernel
theorem dX2_with_88 : decode cX2_with 88 = .ok (.i2l, 1) := by decide +kernel
theorem dX2_with_89 : decode cX2_with 89 = .ok (.invokestatic 55, 3) := by decide +kernel
theorem dX2_with_92 : decode cX2_with 92 = .ok (.invokestatic 49, 3) := by decide +kernel
theorem dX2_with_95 : decode cX2_with 95 = .ok (.aload_n 0, 1) := by decide +kernel
theorem dX2_with_96 : decode cX2_with 96 = .ok (.iload 4, 2) := by decide +kernel
theorem dX2_with_98 : decode cX2_with 98 = .ok (.lload 7, 2) := by decide +kernel
theorem dX2_with_100 : decode cX2_with 100 = .ok (.invokestatic 69, 3) := by decide +kernel
theorem dX2_with_103 : decode cX2_with 103 = .ok (.iload_n 3, 1) := by decide +kernel
theorem dX2_with_104 : decode cX2_with 104 = .ok (.i2l, 1) := by decide +kernel
theorem dX2_with_105 : decode cX2_with 105 = .ok (.ladd, 1) := by decide +kernel
theorem dX2_with_106 : decode cX2_with 106 = .ok (.lconst 1, 1) := by decide +kernel
theorem dX2_with_107 : decode cX2_with 107 = .ok (.lsub, 1) := by decide +kernel
theorem dX2_with_108 : decode cX2_with 108 = .ok (.invokevirtual 73, 3) := by decide +kernel
theorem dX2_with_111 : decode cX2_with 111 = .ok (.lreturn, 1) := by decide +kernel
theorem dX2_with_112 : decode cX2_with 112 = .ok (.iload_n 3, 1) := by decide +kernel
theorem dX2_with_113 : decode cX2_with 113 = .ok (.i2l, 1) := by decide +kernel
theorem dX2_with_114 : decode cX2_with 114 = .ok (.lconst 1, 1) := by decide +kernel
theorem dX2_with_115 : decode cX2_with 115 = .ok (.lload 9, 2) := by decide +kernel
theorem dX2_with_117 : decode cX2_with 117 = .ok (.invokestatic 95, 3) := by decide +kernel
theorem dX2_with_120 : decode cX2_with 120 = .ok (.i2l, 1) := by decide +kernel
theorem dX2_with_121 : decode cX2_with 121 = .ok (.invokestatic 55, 3) := by decide +kernel
theorem dX2_with_124 : decode cX2_with 124 = .ok (.invokestatic 49, 3) := by decide +kernel
theorem dX2_with_127 : decode cX2_with 127 = .ok (.aload_n 0, 1) := by decide +kernel
theorem dX2_with_128 : decode cX2_with 128 = .ok (.iload 4, 2) := by decide +kernel
theorem dX2_with_130 : decode cX2_with 130 = .ok (.lload 9, 2) := by decide +kernel
theorem dX2_with_132 : decode cX2_with 132 = .ok (.invokestatic 89, 3) := by decide +kernel
theorem dX2_with_135 : decode cX2_with 135 = .ok (.iload_n 3, 1) := by decide +kernel
theorem dX2_with_136 : decode cX2_with 136 = .ok (.i2l, 1) := by decide +kernel
theorem dX2_with_137 : decode cX2_with 137 = .ok (.ladd, 1) := by decide +kernel
theorem dX2_with_138 : decode cX2_with 138 = .ok (.lconst 1, 1) := by decide +kernel
theorem dX2_with_139 : decode cX2_with 139 = .ok (.lsub, 1) := by decide +kernel
theorem dX2_with_140 : decode cX2_with 140 = .ok (.invokevirtual 73, 3) := by decide +kernel
theorem dX2_with_143 : decode cX2_with 143 = .ok (.lreturn, 1) := by decide +kernel
theorem dX2_with_144 : decode cX2_with 144 = .ok (.iload_n 3, 1) := by decide +kernel
theorem dX2_with_145 : decode cX2_with 145 = .ok (.i2l, 1) := by decide +kernel
theorem dX2_with_146 : decode cX2_with 146 = .ok (.lconst 1, 1) := by decide +kernel
theorem dX2_with_147 : decode cX2_with 147 = .ok (.ldc2_w 53, 3) := by decide +kernel
theorem dX2_with_150 : decode cX2_with 150 = .ok (.invokestatic 55, 3) := by decide +kernel
theorem dX2_with_153 : decode cX2_with 153 = .ok (.invokestatic 49, 3) := by decide +kernel
theorem dX2_with_156 : decode cX2_with 156 = .ok (.aload_n 0, 1) := by decide +kernel
theorem dX2_with_157 : decode cX2_with 157 = .ok (.iload 4, 2) := by decide +kernel
theorem dX2_with_159 : decode cX2_with 159 = .ok (.lload 5, 2) := by decide +kernel
theorem dX2_with_161 : decode cX2_with 161 = .ok (.iload_n 3, 1) := by decide +kernel
theorem dX2_with_162 : decode cX2_with 162 = .ok (.lload 7, 2) := by decide +kernel
theorem dX2_with_164 : decode cX2_with 164 = .ok (.invokestatic 83, 3) := by decide +kernel
theorem dX2_with_167 : decode cX2_with 167 = .ok (.isub, 1) := by decide +kernel
theorem dX2_with_168 : decode cX2_with 168 = .ok (.i2l, 1) := by decide +kernel
theorem dX2_with_169 : decode cX2_with 169 = .ok (.invokestatic 123, 3) := by decide +kernel
theorem dX2_with_172 : decode cX2_with 172 = .ok (.invokevirtual 73, 3) := by decide +kernel
theorem dX2_with_175 : decode cX2_with 175 = .ok (.lreturn, 1) := by decide +kernel
theorem dX2_with_176 : decode cX2_with 176 = .ok (.iload_n 3, 1) := by decide +kernel
theorem dX2_with_177 : decode cX2_with 177 = .ok (.i2l, 1) := by decide +kernel
theorem dX2_with_178 : decode cX2_with 178 = .ok (.invokestatic 45, 3) := by decide +kernel
theorem dX2_with_181 : decode cX2_with 181 = .ok (.invokestatic 49, 3) := by decide +kernel
theorem dX2_with_184 : decode cX2_with 184 = .ok (.aload_n 0, 1) := by decide +kernel
theorem dX2_with_185 : decode cX2_with 185 = .ok (.iload 4, 2) := by decide +kernel
theorem dX2_with_187 : decode cX2_with 187 = .ok (.lload 5, 2) := by decide +kernel
theorem dX2_with_189 : decode cX2_with 189 = .ok (.ldc2_w 53, 3) := by decide +kernel
theorem dX2_with_192 : decode cX2_with 192 = .ok (.iload_n 3, 1) := by decide +kernel
theorem dX2_with_193 : decode cX2_with 193 = .ok (.i2l, 1) := by decide +kernel
theorem dX2_with_194 : decode cX2_with 194 = .ok (.lload 9, 2) := by decide +kernel
theorem dX2_with_196 : decode cX2_with 196 = .ok (.lsub, 1) := by decide +kernel
theorem dX2_with_197 : decode cX2_with 197 = .ok (.lmul, 1) := by decide +kernel
theorem dX2_with_198 : decode cX2_with 198 = .ok (.invokestatic 123, 3) := by decide +kernel
theorem dX2_with_201 : decode cX2_with 201 = .ok (.invokevirtual 73, 3) := by decide +kernel
theorem dX2_with_204 : decode cX2_with 204 = .ok (.lreturn, 1) := by decide +kernel
theorem dX2_with_205 : decode cX2_with 205 = .ok (.new 101, 3) := by decide +kernel
theorem dX2_with_208 : decode cX2_with 208 = .ok (.dup, 1) := by decide +kernel
theorem dX2_with_209 : decode cX2_with 209 = .ok (.ldc 126, 2) := by decide +kernel
theorem dX2_with_211 : decode cX2_with 211 = .ok (.invokespecial 105, 3) := by decide +kernel
theorem dX2_with_214 : decode cX2_with 214 = .ok (.athrow, 1) := by decide +kernel
set_option maxRecDepth 20000 in
theorem ggX2_adjust_X2_checkSlot : GoodIn wsX2_adjust wsX2_checkSlot := goodIn_ca (goodIn_r _ [7, 8, 9] (by decide +kernel) (by decide +kernel)) (goodIn_sub (fun _ h => List.mem_cons_of_mem _ (List.mem_append_left _ (List.mem_append_right _ h))) (by decide +kernel))
set_option maxRecDepth 20000 in
theorem gX2_adjust_X2_checkSlot : GoodIn wsX2_adjust (va_wsS RX2 41 yX2_checkSlot wsX2_checkSlot) := goodIn_app (goodIn_of _ (by decide +kernel)) ggX2_adjust_X2_checkSlot
set_option maxRecDepth 20000 in
theorem ggX2_adjust_X1_monthOfDay : GoodIn wsX2_adjust wsX1_monthOfDay := goodIn_r _ [13, 14, 15, 16, 17, 18, 12, 19, 20, 21, 22, 23, 24, 25, 26, 27, 28, 29, 30, 31, 32, 33, 34, 35, 36, 37, 38, 39, 40, 41] (by decide +kernel) (by decide +kernel)
set_option maxRecDepth 20000 in
theorem gX2_adjust_X1_monthOfDay : GoodIn wsX2_adjust (va_wsS RX2 80 yX1_monthOfDay wsX1_monthOfDay) := goodIn_app (goodIn_of _ (by decide +kernel)) ggX2_adjust_X1_monthOfDay
set_option maxRecDepth 20000 in
theorem ggX2_adjust_X1_yearOfMonth : GoodIn wsX2_adjust wsX1_yearOfMonth := goodIn_r _ [44, 14, 23, 24, 25, 26] (by decide +kernel) (by decide +kernel)
set_option maxRecDepth 20000 in
theorem gX2_adjust_X1_yearOfMonth : GoodIn wsX2_adjust (va_wsS RX2 120 yX1_yearOfMonth wsX1_yearOfMonth) := goodIn_app (goodIn_of _ (by decide +kernel)) ggX2_adjust_X1_yearOfMonth
set_option maxRecDepth 20000 in
theorem ggX2_adjust_X1_firstOfMonth : GoodIn wsX2_adjust wsX1_firstOfMonth := goodIn_r _ [47, 48, 49, 43, 12, 44, 14, 23, 24, 25, 26, 50, 51, 52, 53, 54, 55, 36, 37, 38, 31, 33, 20, 27, 28, 29, 30, 32, 34, 35, 21] (by decide +kernel) (by decide +kernel)
set_option maxRecDepth 20000 in
theorem gX2_adjust_X1_firstOfMonth : GoodIn wsX2_adjust (va_wsS RX2 69 yX1_firstOfMonth wsX1_firstOfMonth) := goodIn_app (goodIn_of _ (by decide +kernel)) ggX2_adjust_X1_firstOfMonth
set_option maxRecDepth 20000 in
theorem ggX2_adjust_X2_keepDate : GoodIn wsX2_adjust wsX2_keepDate := goodIn_ca (goodIn_ca (goodIn_r _ [59, 3, 60, 61, 12, 62, 63, 64, 65, 66, 6, 67, 68, 69, 71, 72, 73, 74, 75, 76, 77, 78, 79, 80] (by decide +kernel) (by decide +kernel)) (goodIn_sub (fun _ h => List.mem_cons_of_mem _ (List.mem_append_left _ (List.mem_append_left _ (List.mem_append_left _ (List.mem_append_right _ h))))) (by decide +kernel))) (goodIn_sub (fun _ h => List.mem_cons_of_mem _ (List.mem_append_right _ h)) (by decide +kernel))
set_option maxRecDepth 20000 in
theorem gX2_adjust_X2_keepDate : GoodIn wsX2_adjust (wsV RX2 73 RX2 yX2_keepDate wsX2_keepDate) := goodIn_app (goodIn_of _ (by decide +kernel)) ggX2_adjust_X2_keepDate
set_option maxRecDepth 20000 in
theorem ggX2_adjust_X1_firstOfYear : GoodIn wsX2_adjust wsX1_firstOfYear := goodIn_r _ [29, 30, 31, 32, 33, 34, 20, 35, 21, 23, 24, 25, 26] (by decide +kernel) (by decide +kernel)
set_option maxRecDepth 20000 in
theorem gX2_adjust_X1_firstOfYear : GoodIn wsX2_adjust (va_wsS RX2 89 yX1_firstOfYear wsX1_firstOfYear) := goodIn_app (goodIn_of _ (by decide +kernel)) ggX2_adjust_X1_firstOfYear
theorem dX2_adjust_0 : decode cX2_adjust 0 = .ok (.iload_n 1, 1) := by decide +kernel
theorem dX2_adjust_1 : decode cX2_adjust 1 = .ok (.bipush 6, 2) := by decide +kernel
theorem dX2_adjust_3 : decode cX2_adjust 3 = .ok (.invokestatic 41, 3) := by decide +kernel
theorem dX2_adjust_6 : decode cX2_adjust 6 = .ok (.iload_n 3, 1) := by decide +kernel
theorem dX2_adjust_7 : decode cX2_adjust 7 = .ok (.bipush 6, 2) := by decide +kernel
theorem dX2_adjust_9 : decode cX2_adjust 9 = .ok (.invokestatic 41, 3) := by decide +kernel
theorem dX2_adjust_12 : decode cX2_adjust 12 = .ok (.aload_n 0, 1) := by decide +kernel
theorem dX2_adjust_13 : decode cX2_adjust 13 = .ok (.getfield 9, 3) := by decide +kernel
theorem dX2_adjust_16 : decode cX2_adjust 16 = .ok (.iload_n 1, 1) := by decide +kernel
theorem dX2_adjust_17 : decode cX2_adjust 17 = .ok (.laload, 1) := by decide +kernel
theorem dX2_adjust_18 : decode cX2_adjust 18 = .ok (.invokestatic 80, 3) := by decide +kernel
theorem dX2_adjust_21 : decode cX2_adjust 21 = .ok (.lstore 4, 2) := by decide +kernel
theorem dX2_adjust_23 : decode cX2_adjust 23 = .ok (.lload 4, 2) := by decide +kernel
theorem dX2_adjust_25 : decode cX2_adjust 25 = .ok (.invokestatic 120, 3) := by decide +kernel
theorem dX2_adjust_28 : decode cX2_adjust 28 = .ok (.lstore 6, 2) := by decide +kernel
theorem dX2_adjust_30 : decode cX2_adjust 30 = .ok (.iload_n 2, 1) := by decide +kernel
theorem dX2_adjust_31 : decode cX2_adjust 31 = .ok (.lookupswitch 135 #[(70, 96), (76, 107), (78, 122), (102, 57), (108, 68), (110, 83)], 57) := by decide +kernel
theorem dX2_adjust_88 : decode cX2_adjust 88 = .ok (.aload_n 0, 1) := by decide +kernel
theorem dX2_adjust_89 : decode cX2_adjust 89 = .ok (.iload_n 3, 1) := by decide +kernel
theorem dX2_adjust_90 : decode cX2_adjust 90 = .ok (.lload 4, 2) := by decide +kernel
theorem dX2_adjust_92 : decode cX2_adjust 92 = .ok (.invokestatic 69, 3) := by decide +kernel
theorem dX2_adjust_95 : decode cX2_adjust 95 = .ok (.invokevirtual 73, 3) := by decide +kernel
theorem dX2_adjust_98 : decode cX2_adjust 98 = .ok (.lreturn, 1) := by decide +kernel
theorem dX2_adjust_99 : decode cX2_adjust 99 = .ok (.aload_n 0, 1) := by decide +kernel
theorem dX2_adjust_100 : decode cX2_adjust 100 = .ok (.iload_n 3, 1) := by decide +kernel
theorem dX2_adjust_101 : decode cX2_adjust 101 = .ok (.lload 4, 2) := by decide +kernel
theorem dX2_adjust_103 : decode cX2_adjust 103 = .ok (.lconst 1, 1) := by decide +kernel
theorem dX2_adjust_104 : decode cX2_adjust 104 = .ok (.ladd, 1) := by decide +kernel
theorem dX2_adjust_105 : decode cX2_adjust 105 = .ok (.invokestatic 69, 3) := by decide +kernel
theorem dX2_adjust_108 : decode cX2_adjust 108 = .ok (.lconst 1, 1) := by decide +kernel
theorem dX2_adjust_109 : decode cX2_adjust 109 = .ok (.lsub, 1) := by decide +kernel
theorem dX2_adjust_110 : decode cX2_adjust 110 = .ok (.invokevirtual 73, 3) := by decide +kernel
theorem dX2_adjust_113 : decode cX2_adjust 113 = .ok (.lreturn, 1) := by decide +kernel
theorem dX2_adjust_114 : decode cX2_adjust 114 = .ok (.aload_n 0, 1) := by decide +kernel
theorem dX2_adjust_115 : decode cX2_adjust 115 = .ok (.iload_n 3, 1) := by decide +kernel
theorem dX2_adjust_116 : decode cX2_adjust 116 = .ok (.lload 4, 2) := by decide +kernel
theorem dX2_adjust_118 : decode cX2_adjust 118 = .ok (.lconst 1, 1) := by decide +kernel
theorem dX2_adjust_119 : decode cX2_adjust 119 = .ok (.ladd, 1) := by decide +kernel
theorem dX2_adjust_120 : decode cX2_adjust 120 = .ok (.invokestatic 69, 3) := by decide +kernel
theorem dX2_adjust_123 : decode cX2_adjust 123 = .ok (.invokevirtual 73, 3) := by decide +kernel
theorem dX2_adjust_126 : decode cX2_adjust 126 = .ok (.lreturn, 1) := by decide +kernel
theorem dX2_adjust_127 : decode cX2_adjust 127 = .ok (.aload_n 0, 1) := by decide +kernel
theorem dX2_adjust_128 : decode cX2_adjust 128 = .ok (.iload_n 3, 1) := by decide +kernel
theorem dX2_adjust_129 : decode cX2_adjust 129 = .ok (.lload 6, 2) := by decide +kernel
theorem dX2_adjust_131 : decode cX2_adjust 131 = .ok (.invokestatic 89, 3) := by decide +kernel
theorem dX2_adjust_134 : decode cX2_adjust 134 = .ok (.invokevirtual 73, 3) := by decide +kernel
theorem dX2_adjust_137 : decode cX2_adjust 137 = .ok (.lreturn, 1) := by decide +kernel
theorem dX2_adjust_138 : decode cX2_adjust 138 = .ok (.aload_n 0, 1) := by decide +kernel
theorem dX2_adjust_139 : decode cX2_adjust 139 = .ok (.iload_n 3, 1) := by decide +kernel
theorem dX2_adjust_140 : decode cX2_adjust 140 = .ok (.lload 6, 2) := by decide +kernel
theorem dX2_adjust_142 : decode cX2_adjust 142 = .ok (.lconst 1, 1) := by decide +kernel
theorem dX2_adjust_143 : decode cX2_adjust 143 = .ok (.ladd, 1) := by decide +kernel
theorem dX2_adjust_144 : decode cX2_adjust 144 = .ok (.invokestatic 89, 3) := by decide +kernel
theorem dX2_adjust_147 : decode cX2_adjust 147 = .ok (.lconst 1, 1) := by decide +kernel
theorem dX2_adjust_148 : decode cX2_adjust 148 = .ok (.lsub, 1) := by decide +kernel
theorem dX2_adjust_149 : decode cX2_adjust 149 = .ok (.invokevirtual 73, 3) := by decide +kernel
theorem dX2_adjust_152 : decode cX2_adjust 152 = .ok (.lreturn, 1) := by decide +kernel
theorem dX2_adjust_153 : decode cX2_adjust 153 = .ok (.aload_n 0, 1) := by decide +kernel
theorem dX2_adjust_154 : decode cX2_adjust 154 = .ok (.iload_n 3, 1) := by decide +kernel
theorem dX2_adjust_155 : decode cX2_adjust 155 = .ok (.lload 6, 2) := by decide +kernel
theorem dX2_adjust_157 : decode cX2_adjust 157 = .ok (.lconst 1, 1) := by decide +kernel
theorem dX2_adjust_158 : decode cX2_adjust 158 = .ok (.ladd, 1) := by decide +kernel
theorem dX2_adjust_159 : decode cX2_adjust 159 = .ok (.invokestatic 89, 3) := by decide +kernel
theorem dX2_adjust_162 : decode cX2_adjust 162 = .ok (.invokevirtual 73, 3) := by decide +kernel
theorem dX2_adjust_165 : decode cX2_adjust 165 = .ok (.lreturn, 1) := by decide +kernel
theorem dX2_adjust_166 : decode cX2_adjust 166 = .ok (.new 101, 3) := by decide +kernel
theorem dX2_adjust_169 : decode cX2_adjust 169 = .ok (.dup, 1) := by decide +kernel
theorem dX2_adjust_170 : decode cX2_adjust 170 = .ok (.ldc 128, 2) := by decide +kernel
theorem dX2_adjust_172 : decode cX2_adjust 172 = .ok (.invokespecial 105, 3) := by decide +kernel
theorem dX2_adjust_175 : decode cX2_adjust 175 = .ok (.athrow, 1) := by decide +kernel
set_option maxRecDepth 20000 in
theorem ggX2_weekday_X2_checkSlot : GoodIn wsX2_weekday wsX2_checkSlot := goodIn_ca (goodIn_r _ [8, 9, 10] (by decide +kernel) (by decide +kernel)) (goodIn_sub (fun _ h => List.mem_cons_of_mem _ (List.mem_append_left _ (List.mem_append_right _ h))) (by decide +kernel))
set_option maxRecDepth 20000 in
theorem gX2_weekday_X2_checkSlot : GoodIn wsX2_weekday (va_wsS RX2 41 yX2_checkSlot wsX2_checkSlot) := goodIn_app (goodIn_of _ (by decide +kernel)) ggX2_weekday_X2_checkSlot
set_option maxRecDepth 20000 in
theorem ggX2_weekday_X2_isIn : GoodIn wsX2_weekday wsX2_isIn := goodIn_r _ [13] (by decide +kernel) (by decide +kernel)
set_option maxRecDepth 20000 in
theorem gX2_weekday_X2_isIn : GoodIn wsX2_weekday (va_wsS RX2 55 yX2_isIn wsX2_isIn) := goodIn_app (goodIn_of _ (by decide +kernel)) ggX2_weekday_X2_isIn
set_option maxRecDepth 20000 in
theorem ggX2_weekday_X2_checkArgument : GoodIn wsX2_weekday wsX2_checkArgument := goodIn_ca (goodIn_r _ [16, 1, 2] (by decide +kernel) (by decide +kernel)) (goodIn_sub (fun _ h => List.mem_cons_of_mem _ (List.mem_append_left _ (List.mem_append_left _ (List.mem_append_right _ h)))) (by decide +kernel))
set_option maxRecDepth 20000 in
theorem gX2_weekday_X2_checkArgument : GoodIn wsX2_weekday (va_wsS RX2 49 yX2_checkArgument wsX2_checkArgument) := goodIn_app (goodIn_of _ (by decide +kernel)) ggX2_weekday_X2_checkArgument
set_option maxRecDepth 20000 in
theorem ggX2_weekday_X1_monthOfDay : GoodIn wsX2_weekday wsX1_monthOfDay := goodIn_r _ [20, 21, 22, 23, 24, 25, 19, 26, 27, 28, 29, 30, 31, 32, 33, 34, 35, 36, 37, 38, 39, 40, 41, 42, 43, 44, 45, 46, 47, 48] (by decide +kernel) (by decide +kernel)
set_option maxRecDepth 20000 in
theorem gX2_weekday_X1_monthOfDay : GoodIn wsX2_weekday (va_wsS RX2 80 yX1_monthOfDay wsX1_monthOfDay) := goodIn_app (goodIn_of _ (by decide +kernel)) ggX2_weekday_X1_monthOfDay
set_option maxRecDepth 20000 in
theorem ggX2_weekday_X1_weekdayFrom : GoodIn wsX2_weekday wsX1_weekdayFrom := goodIn_r _ [51, 52, 53, 19, 54, 37, 55, 56, 57, 32, 58, 59, 60, 61] (by decide +kernel) (by decide +kernel)
set_option maxRecDepth 20000 in
theorem gX2_weekday_X1_weekdayFrom : GoodIn wsX2_weekday (va_wsS RX2 132 yX1_weekdayFrom wsX1_weekdayFrom) := goodIn_app (goodIn_of _ (by decide +kernel)) ggX2_weekday_X1_weekdayFrom
set_option maxRecDepth 20000 in
theorem ggX2_weekday_X2_keepDate : GoodIn wsX2_weekday wsX2_keepDate := goodIn_ca (goodIn_ca (goodIn_r _ [65, 4, 66, 67, 19, 68, 69, 70, 71, 72, 7, 73, 74, 75, 89, 90, 91, 92, 93, 94, 95, 96, 97, 98] (by decide +kernel) (by decide +kernel)) (goodIn_sub (fun _ h => List.mem_cons_of_mem _ (List.mem_append_left _ (List.mem_append_left _ (List.mem_append_left _ (List.mem_append_right _ h))))) (by decide +kernel))) (goodIn_sub (fun _ h => List.mem_cons_of_mem _ (List.mem_append_right _ h)) (by decide +kernel))
set_option maxRecDepth 20000 in
theorem gX2_weekday_X2_keepDate : GoodIn wsX2_weekday (wsV RX2 73 RX2 yX2_keepDate wsX2_keepDate) := goodIn_app (goodIn_of _ (by decide +kernel)) ggX2_weekday_X2_keepDate
set_option maxRecDepth 20000 in
theorem ggX2_weekday_X1_weekdayUpTo : GoodIn wsX2_weekday wsX1_weekdayUpTo := goodIn_r _ [78, 52, 53, 19, 54, 37, 55, 56, 57, 32, 58, 59, 60, 61] (by decide +kernel) (by decide +kernel)
set_option maxRecDepth 20000 in
theorem gX2_weekday_X1_weekdayUpTo : GoodIn wsX2_weekday (va_wsS RX2 136 yX1_weekdayUpTo wsX1_weekdayUpTo) := goodIn_app (goodIn_of _ (by decide +kernel)) ggX2_weekday_X1_weekdayUpTo
set_option maxRecDepth 20000 in
theorem ggX2_weekday_X1_firstOfMonth : GoodIn wsX2_weekday wsX1_firstOfMonth := goodIn_r _ [81, 82, 83, 84, 19, 85, 21, 30, 31, 32, 33, 86, 87, 88, 56, 57, 58, 43, 44, 45, 38, 40, 27, 34, 35, 36, 37, 39, 41, 42, 28] (by decide +kernel) (by decide +kernel)
set_option maxRecDepth 20000 in
theorem gX2_weekday_X1_firstOfMonth : GoodIn wsX2_weekday (va_wsS RX2 69 yX1_firstOfMonth wsX1_firstOfMonth) := goodIn_app (goodIn_of _ (by decide +kernel)) ggX2_weekday_X1_firstOfMonth
theorem dX2_weekday_0 : decode cX2_weekday 0 = .ok (.iload_n 1, 1) := by decide +kernel
theorem dX2_weekday_1 : decode cX2_weekday 1 = .ok (.bipush 6, 2) := by decide +kernel
theorem dX2_weekday_3 : decode cX2_weekday 3 = .ok (.invokestatic 41, 3) := by decide +kernel
theorem dX2_weekday_6 : decode cX2_weekday 6 = .ok (.iload 4, 2) := by decide +kernel
theorem dX2_weekday_8 : decode cX2_weekday 8 = .ok (.bipush 6, 2) := by decide +kernel
theorem dX2_weekday_10 : decode cX2_weekday 10 = .ok (.invokestatic 41, 3) := by decide +kernel
theorem dX2_weekday_13 : decode cX2_weekday 13 = .ok (.iload_n 3, 1) := by decide +kernel
theorem dX2_weekday_14 : decode cX2_weekday 14 = .ok (.i2l, 1) := by decide +kernel
theorem dX2_weekday_15 : decode cX2_weekday 15 = .ok (.lconst 1, 1) := by decide +kernel
theorem dX2_weekday_16 : decode cX2_weekday 16 = .ok (.ldc2_w 130, 3) := by decide +kernel
theorem dX2_weekday_19 : decode cX2_weekday 19 = .ok (.invokestatic 55, 3) := by decide +kernel
theorem dX2_weekday_22 : decode cX2_weekday 22 = .ok (.invokestatic 49, 3) := by decide +kernel
theorem dX2_weekday_25 : decode cX2_weekday 25 = .ok (.aload_n 0, 1) := by decide +kernel
theorem dX2_weekday_26 : decode cX2_weekday 26 = .ok (.getfield 9, 3) := by decide +kernel
theorem dX2_weekday_29 : decode cX2_weekday 29 = .ok (.iload_n 1, 1) := by decide +kernel
theorem dX2_weekday_30 : decode cX2_weekday 30 = .ok (.laload, 1) := by decide +kernel
theorem dX2_weekday_31 : decode cX2_weekday 31 = .ok (.lstore 5, 2) := by decide +kernel
theorem dX2_weekday_33 : decode cX2_weekday 33 = .ok (.lload 5, 2) := by decide +kernel
theorem dX2_weekday_35 : decode cX2_weekday 35 = .ok (.invokestatic 80, 3) := by decide +kernel
theorem dX2_weekday_38 : decode cX2_weekday 38 = .ok (.lstore 7, 2) := by decide +kernel
theorem dX2_weekday_40 : decode cX2_weekday 40 = .ok (.iload_n 2, 1) := by decide +kernel
theorem dX2_weekday_41 : decode cX2_weekday 41 = .ok (.lookupswitch 151 #[(78, 89), (80, 102), (102, 115), (108, 131), (110, 59), (112, 74)], 59) := by decide +kernel
theorem dX2_weekday_100 : decode cX2_weekday 100 = .ok (.aload_n 0, 1) := by decide +kernel
theorem dX2_weekday_101 : decode cX2_weekday 101 = .ok (.iload 4, 2) := by decide +kernel
theorem dX2_weekday_103 : decode cX2_weekday 103 = .ok (.lload 5, 2) := by decide +kernel
theorem dX2_weekday_105 : decode cX2_weekday 105 = .ok (.lconst 1, 1) := by decide +kernel
theorem dX2_weekday_106 : decode cX2_weekday 106 = .ok (.ladd, 1) := by decide +kernel
theorem dX2_weekday_107 : decode cX2_weekday 107 = .ok (.iload_n 3, 1) := by decide +kernel
theorem dX2_weekday_108 : decode cX2_weekday 108 = .ok (.invokestatic 132, 3) := by decide +kernel
theorem dX2_weekday_111 : decode cX2_weekday 111 = .ok (.invokevirtual 73, 3) := by decide +kernel
theorem dX2_weekday_114 : decode cX2_weekday 114 = .ok (.lreturn, 1) := by decide +kernel
theorem dX2_weekday_115 : decode cX2_weekday 115 = .ok (.aload_n 0, 1) := by decide +kernel
theorem dX2_weekday_116 : decode cX2_weekday 116 = .ok (.iload 4, 2) := by decide +kernel
theorem dX2_weekday_118 : decode cX2_weekday 118 = .ok (.lload 5, 2) := by decide +kernel
theorem dX2_weekday_120 : decode cX2_weekday 120 = .ok (.lconst 1, 1) := by decide +kernel
theorem dX2_weekday_121 : decode cX2_weekday 121 = .ok (.lsub, 1) := by decide +kernel
theorem dX2_weekday_122 : decode cX2_weekday 122 = .ok (.iload_n 3, 1) := by decide +kernel
theorem dX2_weekday_123 : decode cX2_weekday 123 = .ok (.invokestatic 136, 3) := by decide +kernel
theorem dX2_weekday_126 : decode cX2_weekday 126 = .ok (.invokevirtual 73, 3) := by decide +kernel
theorem dX2_weekday_129 : decode cX2_weekday 129 = .ok (.lreturn, 1) := by decide +kernel
theorem dX2_weekday_130 : decode cX2_weekday 130 = .ok (.aload_n 0, 1) := by decide +kernel
theorem dX2_weekday_131 : decode cX2_weekday 131 = .ok (.iload 4, 2) := by decide +kernel
theorem dX2_weekday_133 : decode cX2_weekday 133 = .ok (.lload 5, 2) := by decide +kernel
theorem dX2_weekday_135 : decode cX2_weekday 135 = .ok (.iload_n 3, 1) := by decide +kernel
theorem dX2_weekday_136 : decode cX2_weekday 136 = .ok (.invokestatic 132, 3) := by decide +kernel
theorem dX2_weekday_139 : decode cX2_weekday 139 = .ok (.invokevirtual 73, 3) := by decide +kernel
theorem dX2_weekday_142 : decode cX2_weekday 142 = .ok (.lreturn, 1) := by decide +kernel
theorem dX2_weekday_143 : decode cX2_weekday 143 = .ok (.aload_n 0, 1) := by decide +kernel
theorem dX2_weekday_144 : decode cX2_weekday 144 = .ok (.iload 4, 2) := by decide +kernel
theorem dX2_weekday_146 : decode cX2_weekday 146 = .ok (.lload 5, 2) := by decide +kernel
theorem dX2_weekday_148 : decode cX2_weekday 148 = .ok (.iload_n 3, 1) := by decide +kernel
theorem dX2_weekday_149 : decode cX2_weekday 149 = .ok (.invokestatic 136, 3) := by decide +kernel
theorem dX2_weekday_152 : decode cX2_weekday 152 = .ok (.invokevirtual 73, 3) := by decide +kernel
theorem dX2_weekday_155 : decode cX2_weekday 155 = .ok (.lreturn, 1) := by decide +kernel
theorem dX2_weekday_156 : decode cX2_weekday 156 = .ok (.aload_n 0, 1) := by decide +kernel
theorem dX2_weekday_157 : decode cX2_weekday 157 = .ok (.iload 4, 2) := by decide +kernel
theorem dX2_weekday_159 : decode cX2_weekday 159 = .ok (.lload 7, 2) := by decide +kernel
theorem dX2_weekday_161 : decode cX2_weekday 161 = .ok (.invokestatic 69, 3) := by decide +kernel
theorem dX2_weekday_164 : decode cX2_weekday 164 = .ok (.iload_n 3, 1) := by decide +kernel
theorem dX2_weekday_165 : decode cX2_weekday 165 = .ok (.invokestatic 132, 3) := by decide +kernel
theorem dX2_weekday_168 : decode cX2_weekday 168 = .ok (.invokevirtual 73, 3) := by decide +kernel
theorem dX2_weekday_171 : decode cX2_weekday 171 = .ok (.lreturn, 1) := by decide +kernel
theorem dX2_weekday_172 : decode cX2_weekday 172 = .ok (.aload_n 0, 1) := by decide +kernel
theorem dX2_weekday_173 : decode cX2_weekday 173 = .ok (.iload 4, 2) := by decide +kernel
theorem dX2_weekday_175 : decode cX2_weekday 175 = .ok (.lload 7, 2) := by decide +kernel
theorem dX2_weekday_177 : decode cX2_weekday 177 = .ok (.lconst 1, 1) := by decide +kernel
theorem dX2_weekday_178 : decode cX2_weekday 178 = .ok (.ladd, 1) := by decide +kernel
theorem dX2_weekday_179 : decode cX2_weekday 179 = .ok (.invokestatic 69, 3) := by decide +kernel
theorem dX2_weekday_182 : decode cX2_weekday 182 = .ok (.lconst 1, 1) := by decide +kernel
theorem dX2_weekday_183 : decode cX2_weekday 183 = .ok (.lsub, 1) := by decide +kernel
theorem dX2_weekday_184 : decode cX2_weekday 184 = .ok (.iload_n 3, 1) := by decide +kernel
theorem dX2_weekday_185 : decode cX2_weekday 185 = .ok (.invokestatic 136, 3) := by decide +kernel
theorem dX2_weekday_188 : decode cX2_weekday 188 = .ok (.invokevirtual 73, 3) := by decide +kernel
theorem dX2_weekday_191 : decode cX2_weekday 191 = .ok (.lreturn, 1) := by decide +kernel
theorem dX2_weekday_192 : decode cX2_weekday 192 = .ok (.new 101, 3) := by decide +kernel
theorem dX2_weekday_195 : decode cX2_weekday 195 = .ok (.dup, 1) := by decide +kernel
theorem dX2_weekday_196 : decode cX2_weekday 196 = .ok (.ldc 139, 2) := by decide +kernel
theorem dX2_weekday_198 : decode cX2_weekday 198 = .ok (.invokespecial 105, 3) := by decide +kernel
theorem dX2_weekday_201 : decode cX2_weekday 201 = .ok (.athrow, 1) := by decide +kernel
set_option maxRecDepth 20000 in
theorem ggX2_inMonth_X2_checkSlot : GoodIn wsX2_inMonth wsX2_checkSlot := goodIn_ca (goodIn_r _ [8, 9, 10] (by decide +kernel) (by decide +kernel)) (goodIn_sub (fun _ h => List.mem_cons_of_mem _ (List.mem_append_left _ (List.mem_append_left _ (List.mem_append_right _ h)))) (by decide +kernel))
set_option maxRecDepth 20000 in
theorem gX2_inMonth_X2_checkSlot : GoodIn wsX2_inMonth (va_wsS RX2 41 yX2_checkSlot wsX2_checkSlot) := goodIn_app (goodIn_of _ (by decide +kernel)) ggX2_inMonth_X2_checkSlot
set_option maxRecDepth 20000 in
theorem ggX2_inMonth_X2_isIn : GoodIn wsX2_inMonth wsX2_isIn := goodIn_r _ [13] (by decide +kernel) (by decide +kernel)
set_option maxRecDepth 20000 in
theorem gX2_inMonth_X2_isIn : GoodIn wsX2_inMonth (va_wsS RX2 55 yX2_isIn wsX2_isIn) := goodIn_app (goodIn_of _ (by decide +kernel)) ggX2_inMonth_X2_isIn
set_option maxRecDepth 20000 in
theorem ggX2_inMonth_X2_checkArgument : GoodIn wsX2_inMonth wsX2_checkArgument := goodIn_ca (goodIn_r _ [16, 17, 18] (by decide +kernel) (by decide +kernel)) (goodIn_sub (fun _ h => List.mem_cons_of_mem _ (List.mem_append_left _ (List.mem_append_right _ h))) (by decide +kernel))
set_option maxRecDepth 20000 in
theorem gX2_inMonth_X2_checkArgument : GoodIn wsX2_inMonth (va_wsS RX2 49 yX2_checkArgument wsX2_checkArgument) := goodIn_app (goodIn_of _ (by decide +kernel)) ggX2_inMonth_X2_checkArgument
set_option maxRecDepth 20000 in
theorem ggX2_inMonth_X1_monthOfDay : GoodIn wsX2_inMonth wsX1_monthOfDay := goodIn_r _ [22, 23, 24, 25, 26, 27, 21, 28, 29, 30, 31, 32, 33, 34, 35, 36, 37, 38, 39, 40, 41, 42, 43, 44, 45, 46, 47, 48, 49, 50] (by decide +kernel) (by decide +kernel)
set_option maxRecDepth 20000 in
theorem gX2_inMonth_X1_monthOfDay : GoodIn wsX2_inMonth (va_wsS RX2 80 yX1_monthOfDay wsX1_monthOfDay) := goodIn_app (goodIn_of _ (by decide +kernel)) ggX2_inMonth_X1_monthOfDay
set_option maxRecDepth 20000 in
theorem ggX2_inMonth_X1_firstOfMonth : GoodIn wsX2_inMonth wsX1_firstOfMonth := goodIn_r _ [53, 54, 55, 56, 21, 57, 23, 32, 33, 34, 35, 58, 59, 60, 61, 62, 63, 45, 46, 47, 40, 42, 29, 36, 37, 38, 39, 41, 43, 44, 30] (by decide +kernel) (by decide +kernel)
set_option maxRecDepth 20000 in
theorem gX2_inMonth_X1_firstOfMonth : GoodIn wsX2_inMonth (va_wsS RX2 69 yX1_firstOfMonth wsX1_firstOfMonth) := goodIn_app (goodIn_of _ (by decide +kernel)) ggX2_inMonth_X1_firstOfMonth
set_option maxRecDepth 20000 in
theorem ggX2_inMonth_X1_weekdayUpTo : GoodIn wsX2_inMonth wsX1_weekdayUpTo := goodIn_r _ [66, 67, 68, 21, 69, 39, 70, 61, 62, 34, 63, 71, 72, 73] (by decide +kernel) (by decide +kernel)
set_option maxRecDepth 20000 in
theorem gX2_inMonth_X1_weekdayUpTo : GoodIn wsX2_inMonth (va_wsS RX2 136 yX1_weekdayUpTo wsX1_weekdayUpTo) := goodIn_app (goodIn_of _ (by decide +kernel)) ggX2_inMonth_X1_weekdayUpTo
set_option maxRecDepth 20000 in
theorem ggX2_inMonth_X2_keepDate : GoodIn wsX2_inMonth wsX2_keepDate := goodIn_ca (goodIn_ca (goodIn_r _ [77, 4, 78, 79, 21, 80, 81, 82, 83, 84, 7, 85, 86, 87, 91, 92, 93, 94, 95, 96, 97, 98, 99, 100] (by decide +kernel) (by decide +kernel)) (goodIn_sub (fun _ h => List.mem_cons_of_mem _ (List.mem_append_left _ (List.mem_append_left _ (List.mem_append_left _ (List.mem_append_right _ h))))) (by decide +kernel))) (goodIn_sub (fun _ h => List.mem_cons_of_mem _ (List.mem_append_right _ h)) (by decide +kernel))
set_option maxRecDepth 20000 in
theorem gX2_inMonth_X2_keepDate : GoodIn wsX2_inMonth (wsV RX2 73 RX2 yX2_keepDate wsX2_keepDate) := goodIn_app (goodIn_of _ (by decide +kernel)) ggX2_inMonth_X2_keepDate
set_option maxRecDepth 20000 in
theorem ggX2_inMonth_X1_weekdayFrom : GoodIn wsX2_inMonth wsX1_weekdayFrom := goodIn_r _ [90, 67, 68, 21, 69, 39, 70, 61, 62, 34, 63, 71, 72, 73] (by decide +kernel) (by decide +kernel)
set_option maxRecDepth 20000 in
theorem gX2_inMonth_X1_weekdayFrom : GoodIn wsX2_inMonth (va_wsS RX2 132 yX1_weekdayFrom wsX1_weekdayFrom) := goodIn_app (goodIn_of _ (by decide +kernel)) ggX2_inMonth_X1_weekdayFrom
theorem dX2_inMonth_0 : decode cX2_inMonth 0 = .ok (.iload_n 1, 1) := by decide +kernel
theorem dX2_inMonth_1 : decode cX2_inMonth 1 = .ok (.bipush 6, 2) := by decide +kernel
theorem dX2_inMonth_3 : decode cX2_inMonth 3 = .ok (.invokestatic 41, 3) := by decide +kernel
theorem dX2_inMonth_6 : decode cX2_inMonth 6 = .ok (.iload 4, 2) := by decide +kernel
theorem dX2_inMonth_8 : decode cX2_inMonth 8 = .ok (.bipush 6, 2) := by decide +kernel
theorem dX2_inMonth_10 : decode cX2_inMonth 10 = .ok (.invokestatic 41, 3) := by decide +kernel
theorem dX2_inMonth_13 : decode cX2_inMonth 13 = .ok (.iload_n 2, 1) := by decide +kernel
theorem dX2_inMonth_14 : decode cX2_inMonth 14 = .ok (.i2l, 1) := by decide +kernel
theorem dX2_inMonth_15 : decode cX2_inMonth 15 = .ok (.ldc2_w 141, 3) := by decide +kernel
theorem dX2_inMonth_18 : decode cX2_inMonth 18 = .ok (.ldc2_w 143, 3) := by decide +kernel
theorem dX2_inMonth_21 : decode cX2_inMonth 21 = .ok (.invokestatic 55, 3) := by decide +kernel
theorem dX2_inMonth_24 : decode cX2_inMonth 24 = .ok (.invokestatic 49, 3) := by decide +kernel
theorem dX2_inMonth_27 : decode cX2_inMonth 27 = .ok (.iload_n 3, 1) := by decide +kernel
theorem dX2_inMonth_28 : decode cX2_inMonth 28 = .ok (.i2l, 1) := by decide +kernel
theorem dX2_inMonth_29 : decode cX2_inMonth 29 = .ok (.lconst 1, 1) := by decide +kernel
theorem dX2_inMonth_30 : decode cX2_inMonth 30 = .ok (.ldc2_w 130, 3) := by decide +kernel
theorem dX2_inMonth_33 : decode cX2_inMonth 33 = .ok (.invokestatic 55, 3) := by decide +kernel
theorem dX2_inMonth_36 : decode cX2_inMonth 36 = .ok (.invokestatic 49, 3) := by decide +kernel
theorem dX2_inMonth_39 : decode cX2_inMonth 39 = .ok (.aload_n 0, 1) := by decide +kernel
theorem dX2_inMonth_40 : decode cX2_inMonth 40 = .ok (.getfield 9, 3) := by decide +kernel
theorem dX2_inMonth_43 : decode cX2_inMonth 43 = .ok (.iload_n 1, 1) := by decide +kernel
theorem dX2_inMonth_44 : decode cX2_inMonth 44 = .ok (.laload, 1) := by decide +kernel
theorem dX2_inMonth_45 : decode cX2_inMonth 45 = .ok (.invokestatic 80, 3) := by decide +kernel
theorem dX2_inMonth_48 : decode cX2_inMonth 48 = .ok (.lstore 5, 2) := by decide +kernel
theorem dX2_inMonth_50 : decode cX2_inMonth 50 = .ok (.iload_n 2, 1) := by decide +kernel
theorem dX2_inMonth_51 : decode cX2_inMonth 51 = .ok (.ifCond .ge 35, 3) := by decide +kernel
theorem dX2_inMonth_54 : decode cX2_inMonth 54 = .ok (.lload 5, 2) := by decide +kernel
theorem dX2_inMonth_56 : decode cX2_inMonth 56 = .ok (.lconst 1, 1) := by decide +kernel
theorem dX2_inMonth_57 : decode cX2_inMonth 57 = .ok (.ladd, 1) := by decide +kernel
theorem dX2_inMonth_58 : decode cX2_inMonth 58 = .ok (.invokestatic 69, 3) := by decide +kernel
theorem dX2_inMonth_61 : decode cX2_inMonth 61 = .ok (.lconst 1, 1) := by decide +kernel
theorem dX2_inMonth_62 : decode cX2_inMonth 62 = .ok (.lsub, 1) := by decide +kernel
theorem dX2_inMonth_63 : decode cX2_inMonth 63 = .ok (.iload_n 3, 1) := by decide +kernel
theorem dX2_inMonth_64 : decode cX2_inMonth 64 = .ok (.invokestatic 136, 3) := by decide +kernel
theorem dX2_inMonth_67 : decode cX2_inMonth 67 = .ok (.lstore 7, 2) := by decide +kernel
theorem dX2_inMonth_69 : decode cX2_inMonth 69 = .ok (.aload_n 0, 1) := by decide +kernel
theorem dX2_inMonth_70 : decode cX2_inMonth 70 = .ok (.iload 4, 2) := by decide +kernel
theorem dX2_inMonth_72 : decode cX2_inMonth 72 = .ok (.lload 7, 2) := by decide +kernel
theorem dX2_inMonth_74 : decode cX2_inMonth 74 = .ok (.bipush 7, 2) := by decide +kernel
theorem dX2_inMonth_76 : decode cX2_inMonth 76 = .ok (.iload_n 2, 1) := by decide +kernel
theorem dX2_inMonth_77 : decode cX2_inMonth 77 = .ok (.iconst 1, 1) := by decide +kernel
theorem dX2_inMonth_78 : decode cX2_inMonth 78 = .ok (.iadd, 1) := by decide +kernel
theorem dX2_inMonth_79 : decode cX2_inMonth 79 = .ok (.imul, 1) := by decide +kernel
theorem dX2_inMonth_80 : decode cX2_inMonth 80 = .ok (.i2l, 1) := by decide +kernel
theorem dX2_inMonth_81 : decode cX2_inMonth 81 = .ok (.ladd, 1) := by decide +kernel
theorem dX2_inMonth_82 : decode cX2_inMonth 82 = .ok (.invokevirtual 73, 3) := by decide +kernel
theorem dX2_inMonth_85 : decode cX2_inMonth 85 = .ok (.lreturn, 1) := by decide +kernel
theorem dX2_inMonth_86 : decode cX2_inMonth 86 = .ok (.aload_n 0, 1) := by decide +kernel
theorem dX2_inMonth_87 : decode cX2_inMonth 87 = .ok (.iload 4, 2) := by decide +kernel
theorem dX2_inMonth_89 : decode cX2_inMonth 89 = .ok (.lload 5, 2) := by decide +kernel
theorem dX2_inMonth_91 : decode cX2_inMonth 91 = .ok (.invokestatic 69, 3) := by decide +kernel
theorem dX2_inMonth_94 : decode cX2_inMonth 94 = .ok (.iload_n 3, 1) := by decide +kernel
theorem dX2_inMonth_95 : decode cX2_inMonth 95 = .ok (.invokestatic 132, 3) := by decide +kernel
theorem dX2_inMonth_98 : decode cX2_inMonth 98 = .ok (.bipush 7, 2) := by decide +kernel
theorem dX2_inMonth_100 : decode cX2_inMonth 100 = .ok (.iload_n 2, 1) := by decide +kernel
theorem dX2_inMonth_101 : decode cX2_inMonth 101 = .ok (.iconst 1, 1) := by decide +kernel
theorem dX2_inMonth_102 : decode cX2_inMonth 102 = .ok (.isub, 1) := by decide +kernel
theorem dX2_inMonth_103 : decode cX2_inMonth 103 = .ok (.imul, 1) := by decide +kernel
theorem dX2_inMonth_104 : decode cX2_inMonth 104 = .ok (.i2l, 1) := by decide +kernel
theorem dX2_inMonth_105 : decode cX2_inMonth 105 = .ok (.ladd, 1) := by decide +kernel
theorem dX2_inMonth_106 : decode cX2_inMonth 106 = .ok (.invokevirtual 73, 3) := by decide +kernel
theorem dX2_inMonth_109 : decode cX2_inMonth 109 = .ok (.lreturn, 1) := by decide +kernel
set_option maxRecDepth 20000 in
theorem ggX2_atYear_X2_checkSlot : GoodIn wsX2_atYear wsX2_checkSlot := goodIn_ca (goodIn_r _ [5, 6, 7] (by decide +kernel) (by decide +kernel)) (goodIn_sub (fun _ h => List.mem_cons_of_mem _ (List.mem_append_left _ (List.mem_append_left _ (List.mem_append_left _ (List.mem_append_right _ h))))) (by decide +kernel))
set_option maxRecDepth 20000 in
theorem gX2_atYear_X2_checkSlot : GoodIn wsX2_atYear (va_wsS RX2 41 yX2_checkSlot wsX2_checkSlot) := goodIn_app (goodIn_of _ (by decide +kernel)) ggX2_atYear_X2_checkSlot
set_option maxRecDepth 20000 in
theorem ggX2_atYear_X2_isIn : GoodIn wsX2_atYear wsX2_isIn := goodIn_r _ [10] (by decide +kernel) (by decide +kernel)
set_option maxRecDepth 20000 in
theorem gX2_atYear_X2_isIn : GoodIn wsX2_atYear (va_wsS RX2 55 yX2_isIn wsX2_isIn) := goodIn_app (goodIn_of _ (by decide +kernel)) ggX2_atYear_X2_isIn
set_option maxRecDepth 20000 in
theorem ggX2_atYear_X2_checkArgument : GoodIn wsX2_atYear wsX2_checkArgument := goodIn_ca (goodIn_r _ [13, 14, 15] (by decide +kernel) (by decide +kernel)) (goodIn_sub (fun _ h => List.mem_cons_of_mem _ (List.mem_append_left _ (List.mem_append_left _ (List.mem_append_right _ h)))) (by decide +kernel))
set_option maxRecDepth 20000 in
theorem gX2_atYear_X2_checkArgument : GoodIn wsX2_atYear (va_wsS RX2 49 yX2_checkArgument wsX2_checkArgument) := goodIn_app (goodIn_of _ (by decide +kernel)) ggX2_atYear_X2_checkArgument
set_option maxRecDepth 20000 in
theorem ggX2_atYear_X1_monthIndex : GoodIn wsX2_atYear wsX1_monthIndex := goodIn_r _ [19, 20] (by decide +kernel) (by decide +kernel)
set_option maxRecDepth 20000 in
theorem gX2_atYear_X1_monthIndex : GoodIn wsX2_atYear (va_wsS RX2 59 yX1_monthIndex wsX1_monthIndex) := goodIn_app (goodIn_of _ (by decide +kernel)) ggX2_atYear_X1_monthIndex
